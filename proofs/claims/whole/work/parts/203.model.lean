noncomputable def f12_term_c21 (A : SI → SI) : Nat → Int32 → SI → SI
  | 0, _, σ => σ
  | fu + 1, v1, σ => if v1 = (42 : Int32) then (let s1 := sp σ 123 3 ((σ 123 3) + (1 : Int32)); let s2 := (A s1); if v1 = (42 : Int32) then (let s5 := (f12_put s2 (4 : Int32) (0 : Int32)); if (s5 123 4) = (-1 : Int32) then (let r6 := (f12_look s5); (f12_term_c21 A fu r6.1 r6.2)) else (f12_term_c21 A fu (-1 : Int32) s5)) else (let s3 := (f12_put s2 (5 : Int32) (0 : Int32)); if (s3 123 4) = (-1 : Int32) then (let r4 := (f12_look s3); (f12_term_c21 A fu r4.1 r4.2)) else (f12_term_c21 A fu (-1 : Int32) s3))) else (if v1 = (47 : Int32) then (let s7 := sp σ 123 3 ((σ 123 3) + (1 : Int32)); let s8 := (A s7); if v1 = (42 : Int32) then (let s11 := (f12_put s8 (4 : Int32) (0 : Int32)); if (s11 123 4) = (-1 : Int32) then (let r12 := (f12_look s11); (f12_term_c21 A fu r12.1 r12.2)) else (f12_term_c21 A fu (-1 : Int32) s11)) else (let s9 := (f12_put s8 (5 : Int32) (0 : Int32)); if (s9 123 4) = (-1 : Int32) then (let r10 := (f12_look s9); (f12_term_c21 A fu r10.1 r10.2)) else (f12_term_c21 A fu (-1 : Int32) s9))) else σ)
noncomputable def o12_term_c21 (A : SI → SI) (oA : SI → Prop) : Nat → Int32 → SI → Prop
  | 0, _, _ => False
  | fu + 1, v1, σ => if v1 = (42 : Int32) then (let s1 := sp σ 123 3 ((σ 123 3) + (1 : Int32)); (oA s1) ∧ (let s2 := (A s1); if v1 = (42 : Int32) then ((o12_put s2 (4 : Int32) (0 : Int32)) ∧ (let s5 := (f12_put s2 (4 : Int32) (0 : Int32)); if (s5 123 4) = (-1 : Int32) then ((o12_look s5) ∧ (let r6 := (f12_look s5); (o12_term_c21 A oA fu r6.1 r6.2))) else (o12_term_c21 A oA fu (-1 : Int32) s5))) else ((o12_put s2 (5 : Int32) (0 : Int32)) ∧ (let s3 := (f12_put s2 (5 : Int32) (0 : Int32)); if (s3 123 4) = (-1 : Int32) then ((o12_look s3) ∧ (let r4 := (f12_look s3); (o12_term_c21 A oA fu r4.1 r4.2))) else (o12_term_c21 A oA fu (-1 : Int32) s3))))) else (if v1 = (47 : Int32) then (let s7 := sp σ 123 3 ((σ 123 3) + (1 : Int32)); (oA s7) ∧ (let s8 := (A s7); if v1 = (42 : Int32) then ((o12_put s8 (4 : Int32) (0 : Int32)) ∧ (let s11 := (f12_put s8 (4 : Int32) (0 : Int32)); if (s11 123 4) = (-1 : Int32) then ((o12_look s11) ∧ (let r12 := (f12_look s11); (o12_term_c21 A oA fu r12.1 r12.2))) else (o12_term_c21 A oA fu (-1 : Int32) s11))) else ((o12_put s8 (5 : Int32) (0 : Int32)) ∧ (let s9 := (f12_put s8 (5 : Int32) (0 : Int32)); if (s9 123 4) = (-1 : Int32) then ((o12_look s9) ∧ (let r10 := (f12_look s9); (o12_term_c21 A oA fu r10.1 r10.2))) else (o12_term_c21 A oA fu (-1 : Int32) s9))))) else True)
noncomputable def f12_term (A : SI → SI) (σ : SI) : SI := let s0 := (A σ); if (s0 123 4) = (-1 : Int32) then (let r13 := (f12_look s0); (f12_term_c21 A (fu1 ((Int32.toInt (r13.2 123 2) - Int32.toInt (r13.2 123 3)).toNat + 1)) r13.1 r13.2)) else (f12_term_c21 A (fu1 ((Int32.toInt (s0 123 2) - Int32.toInt (s0 123 3)).toNat + 1)) (-1 : Int32) s0)
noncomputable def o12_term (A : SI → SI) (oA : SI → Prop) (σ : SI) : Prop := (oA σ) ∧ (let s0 := (A σ); if (s0 123 4) = (-1 : Int32) then ((o12_look s0) ∧ (let r13 := (f12_look s0); (o12_term_c21 A oA (fu1 ((Int32.toInt (r13.2 123 2) - Int32.toInt (r13.2 123 3)).toNat + 1)) r13.1 r13.2))) else (o12_term_c21 A oA (fu1 ((Int32.toInt (s0 123 2) - Int32.toInt (s0 123 3)).toNat + 1)) (-1 : Int32) s0))
theorem w_f12_term_c21 {A : SI → SI} (hAf : ∀ (σ : SI)  (b : Nat), b ≠ 123 → b ≠ 125 → b ≠ 126 → b ≠ 127 → (A σ ) b = σ b) (a : Nat) (h0 : a ≠ 123) (h1 : a ≠ 125) (h2 : a ≠ 126) (h3 : a ≠ 127) : ∀ (fu : Nat) (v1 : Int32) (σ : SI), (f12_term_c21 A fu v1 σ) a = σ a := by
  intro fu
  induction fu with
  | zero => intro v1 σ; exact rfl
  | succ fu ih =>
    intro v1 σ
    unfold f12_term_c21
    exact (fr_ite (fr_ite (fr_ite ((ih _ _).trans ((w_f12_look _ a h0).trans ((w_f12_put _ _ _ a h1 h2 h3).trans ((hAf _ a h0 h1 h2 h3).trans (sp_n h0))))) ((ih _ _).trans ((w_f12_put _ _ _ a h1 h2 h3).trans ((hAf _ a h0 h1 h2 h3).trans (sp_n h0))))) (fr_ite ((ih _ _).trans ((w_f12_look _ a h0).trans ((w_f12_put _ _ _ a h1 h2 h3).trans ((hAf _ a h0 h1 h2 h3).trans (sp_n h0))))) ((ih _ _).trans ((w_f12_put _ _ _ a h1 h2 h3).trans ((hAf _ a h0 h1 h2 h3).trans (sp_n h0)))))) (fr_ite (fr_ite (fr_ite ((ih _ _).trans ((w_f12_look _ a h0).trans ((w_f12_put _ _ _ a h1 h2 h3).trans ((hAf _ a h0 h1 h2 h3).trans (sp_n h0))))) ((ih _ _).trans ((w_f12_put _ _ _ a h1 h2 h3).trans ((hAf _ a h0 h1 h2 h3).trans (sp_n h0))))) (fr_ite ((ih _ _).trans ((w_f12_look _ a h0).trans ((w_f12_put _ _ _ a h1 h2 h3).trans ((hAf _ a h0 h1 h2 h3).trans (sp_n h0))))) ((ih _ _).trans ((w_f12_put _ _ _ a h1 h2 h3).trans ((hAf _ a h0 h1 h2 h3).trans (sp_n h0)))))) rfl))
theorem w_f12_term {A : SI → SI} (hAf : ∀ (σ : SI)  (b : Nat), b ≠ 123 → b ≠ 125 → b ≠ 126 → b ≠ 127 → (A σ ) b = σ b) (σ : SI) (a : Nat) (h0 : a ≠ 123) (h1 : a ≠ 125) (h2 : a ≠ 126) (h3 : a ≠ 127) : (f12_term A σ) a = σ a := by
  unfold f12_term
  exact (fr_ite ((w_f12_term_c21 hAf a h0 h1 h2 h3 _ _ _).trans ((w_f12_look _ a h0).trans (hAf _ a h0 h1 h2 h3))) ((w_f12_term_c21 hAf a h0 h1 h2 h3 _ _ _).trans (hAf _ a h0 h1 h2 h3)))
set_option maxHeartbeats 4000000 in
set_option maxRecDepth 100000 in
theorem c12_term_c21 {l : Launch} {p : Program} {e : Env} {s : State} {m : MethodId} {args : Array Value} {below : List Frame} {meth : Method} {c : Code} {G : GT} (X : CX p s m args meth c cX12_term RX12 2 none G) {A : SI → SI} {oA : SI → Prop} {D : Nat} (hA : ∀ (σ : SI) (τ : SL) , oA σ  → Mc l yX12_atom cX12_atom 2 none (20 + 3 * D + 1) G [.ref (G.2.1 123)] σ τ (Qv G (Ev (A σ ) τ))) {E : SI} (τ : SL) : ∀ (fu : Nat) (v1 : Int32) (σ : SI) (H : Heap) (locs : List Loc) (ls : Array Slot), IX G s H locs σ τ → lv_has ls 2 [(0, .ref (G.2.1 123)), (1, .int v1)] → (o12_term_c21 A oA fu v1 σ) → E = (f12_term_c21 A fu v1 σ) → W p l e (rmN (20 + 3 * D + 2)) s m args below meth c H locs 0 0 (MQ below ((Qv G (Ev E τ)) s.heap.size) args s 0 0 (AW G s.heap.size)) (F0 m 21 ls []) := by
  intro fu
  induction fu with
  | zero =>
    intro v1 σ H locs ls I hl  ho hE
    unfold o12_term_c21 at ho
    exact ho.elim
  | succ fu ih =>
    intro v1 σ H locs ls I hl  ho hE
    unfold o12_term_c21 at ho
    refine lv_iload_n X.1 X.2.1 dX12_term_21 rfl (lv_at hl 1 rfl) ?_
    refine lv_bipush (v := 42) X.1 X.2.1 dX12_term_22 (by decide) ?_
    refine lv_icmp_eq (tgt := 33) X.1 X.2.1 dX12_term_24 (by decide) (fun c_2 => ?_) (fun c_2 => ?_)
    · skip
      have hE := ite_t hE c_2
      have ho := ite_tP ho c_2
      refine lv_aload_n X.1 X.2.1 dX12_term_33 rfl (lv_at hl 0 rfl) ?_
      refine lv_dup X.1 X.2.1 dX12_term_34 rfl ?_
      refine g12_3 X I (k := 123) (by decide) rfl lf_X12_115 dX12_term_35 ?_
      refine lv_iconst (v := 1) X.1 X.2.1 dX12_term_38 (by decide) ?_
      refine lv_iadd X.1 X.2.1 dX12_term_39 ?_
      refine p12_3 X I (k := 123) (by decide) rfl lf_X12_115 dX12_term_40 (fun H locs I => ?_)
      refine lv_aload_n X.1 X.2.1 dX12_term_43 rfl (lv_at hl 0 rfl) ?_
      have ho2 := ho.1
      have ho := ho.2
      refine r_ev I (r_runV X I pk_X12_atom (hA _ _ ho2) lm_X12_162 (by decide) (cl_12 rfl) rfl rfl rfl hl.1 rfl (Nat.le_of_ble_eq_true rfl) dX12_term_44 (hr_le (by omega) (by decide)) ⟨Nat.le_refl 0, Nat.le_refl 0⟩) (fun H locs I => ?_)
      refine lv_aload_n X.1 X.2.1 dX12_term_47 rfl (lv_at hl 0 rfl) ?_
      refine lv_iload_n X.1 X.2.1 dX12_term_48 rfl (lv_at hl 1 rfl) ?_
      refine lv_bipush (v := 42) X.1 X.2.1 dX12_term_49 (by decide) ?_
      refine lv_icmp_ne (tgt := 58) X.1 X.2.1 dX12_term_51 (by decide) (fun c_3 => ?_) (fun c_3 => ?_)
      · skip
        have hE := ite_f hE c_3
        have ho := ite_fP ho c_3
        refine lv_iconst (v := 5) X.1 X.2.1 dX12_term_58 (by decide) ?_
        refine lv_iconst (v := 0) X.1 X.2.1 dX12_term_59 (by decide) ?_
        have ho3 := ho.1
        have ho := ho.2
        refine r_ev I (r_runV X I pk_X12_put (c12_put l G _ _ _ _ ho3) lm_X12_144 (by decide) (cl_12 rfl) rfl rfl rfl hl.1 rfl (Nat.le_of_ble_eq_true rfl) dX12_term_60 (hr_le (by omega) (by decide)) ⟨Nat.le_refl 0, Nat.le_refl 0⟩) (fun H locs I => ?_)
        refine lv_aload_n X.1 X.2.1 dX12_term_63 rfl (lv_at hl 0 rfl) ?_
        refine g12_4 X I (k := 123) (by decide) rfl lf_X12_122 dX12_term_64 ?_
        refine lv_iconst (v := (-1)) X.1 X.2.1 dX12_term_67 (by decide) ?_
        refine lv_icmp_ne (tgt := 78) X.1 X.2.1 dX12_term_68 (by decide) (fun c_4 => ?_) (fun c_4 => ?_)
        · skip
          have hE := ite_f hE c_4
          have ho := ite_fP ho c_4
          refine lv_iconst (v := (-1)) X.1 X.2.1 dX12_term_78 (by decide) ?_
          refine lv_istore_n (lv' := [(1, .int _), (0, .ref _)]) X.1 X.2.1 dX12_term_79 rfl hl (by decide) rfl (fun ls hl => ?_)
          refine lv_goto (tgt := 21) X.1 X.2.1 dX12_term_80 (by decide) ?_
          exact ih _ _ _ _ _ I (lv_sub hl [1, 0] rfl) ho (hE.trans (rfl))
        · skip
          have hE := ite_t hE c_4
          have ho := ite_tP ho c_4
          refine lv_aload_n X.1 X.2.1 dX12_term_71 rfl (lv_at hl 0 rfl) ?_
          have ho4 := ho.1
          have ho := ho.2
          refine r_ei I (r_runV X I pk_X12_look (c12_look l G _ _ ho4) lm_X12_134 (by decide) (cl_12 rfl) rfl rfl rfl hl.1 rfl (Nat.le_of_ble_eq_true rfl) dX12_term_72 (hr_le (by omega) (by decide)) ⟨Nat.le_refl 0, Nat.le_refl 0⟩) (fun H locs I => ?_)
          refine lv_goto (tgt := 79) X.1 X.2.1 dX12_term_75 (by decide) ?_
          refine lv_istore_n (lv' := [(1, .int _), (0, .ref _)]) X.1 X.2.1 dX12_term_79 rfl hl (by decide) rfl (fun ls hl => ?_)
          refine lv_goto (tgt := 21) X.1 X.2.1 dX12_term_80 (by decide) ?_
          exact ih _ _ _ _ _ I (lv_sub hl [1, 0] rfl) ho (hE.trans (rfl))
      · skip
        have hE := ite_t hE c_3
        have ho := ite_tP ho c_3
        refine lv_iconst (v := 4) X.1 X.2.1 dX12_term_54 (by decide) ?_
        refine lv_goto (tgt := 59) X.1 X.2.1 dX12_term_55 (by decide) ?_
        refine lv_iconst (v := 0) X.1 X.2.1 dX12_term_59 (by decide) ?_
        have ho5 := ho.1
        have ho := ho.2
        refine r_ev I (r_runV X I pk_X12_put (c12_put l G _ _ _ _ ho5) lm_X12_144 (by decide) (cl_12 rfl) rfl rfl rfl hl.1 rfl (Nat.le_of_ble_eq_true rfl) dX12_term_60 (hr_le (by omega) (by decide)) ⟨Nat.le_refl 0, Nat.le_refl 0⟩) (fun H locs I => ?_)
        refine lv_aload_n X.1 X.2.1 dX12_term_63 rfl (lv_at hl 0 rfl) ?_
        refine g12_4 X I (k := 123) (by decide) rfl lf_X12_122 dX12_term_64 ?_
        refine lv_iconst (v := (-1)) X.1 X.2.1 dX12_term_67 (by decide) ?_
        refine lv_icmp_ne (tgt := 78) X.1 X.2.1 dX12_term_68 (by decide) (fun c_5 => ?_) (fun c_5 => ?_)
        · skip
          have hE := ite_f hE c_5
          have ho := ite_fP ho c_5
          refine lv_iconst (v := (-1)) X.1 X.2.1 dX12_term_78 (by decide) ?_
          refine lv_istore_n (lv' := [(1, .int _), (0, .ref _)]) X.1 X.2.1 dX12_term_79 rfl hl (by decide) rfl (fun ls hl => ?_)
          refine lv_goto (tgt := 21) X.1 X.2.1 dX12_term_80 (by decide) ?_
          exact ih _ _ _ _ _ I (lv_sub hl [1, 0] rfl) ho (hE.trans (rfl))
        · skip
          have hE := ite_t hE c_5
          have ho := ite_tP ho c_5
          refine lv_aload_n X.1 X.2.1 dX12_term_71 rfl (lv_at hl 0 rfl) ?_
          have ho6 := ho.1
          have ho := ho.2
          refine r_ei I (r_runV X I pk_X12_look (c12_look l G _ _ ho6) lm_X12_134 (by decide) (cl_12 rfl) rfl rfl rfl hl.1 rfl (Nat.le_of_ble_eq_true rfl) dX12_term_72 (hr_le (by omega) (by decide)) ⟨Nat.le_refl 0, Nat.le_refl 0⟩) (fun H locs I => ?_)
          refine lv_goto (tgt := 79) X.1 X.2.1 dX12_term_75 (by decide) ?_
          refine lv_istore_n (lv' := [(1, .int _), (0, .ref _)]) X.1 X.2.1 dX12_term_79 rfl hl (by decide) rfl (fun ls hl => ?_)
          refine lv_goto (tgt := 21) X.1 X.2.1 dX12_term_80 (by decide) ?_
          exact ih _ _ _ _ _ I (lv_sub hl [1, 0] rfl) ho (hE.trans (rfl))
    · skip
      have hE := ite_f hE c_2
      have ho := ite_fP ho c_2
      refine lv_iload_n X.1 X.2.1 dX12_term_27 rfl (lv_at hl 1 rfl) ?_
      refine lv_bipush (v := 47) X.1 X.2.1 dX12_term_28 (by decide) ?_
      refine lv_icmp_ne (tgt := 83) X.1 X.2.1 dX12_term_30 (by decide) (fun c_6 => ?_) (fun c_6 => ?_)
      · skip
        have hE := ite_f hE c_6
        have ho := ite_fP ho c_6
        have h9 := hE
        exact r_vret X I (e_v h9.symm rfl) dX12_term_83
      · skip
        have hE := ite_t hE c_6
        have ho := ite_tP ho c_6
        refine lv_aload_n X.1 X.2.1 dX12_term_33 rfl (lv_at hl 0 rfl) ?_
        refine lv_dup X.1 X.2.1 dX12_term_34 rfl ?_
        refine g12_3 X I (k := 123) (by decide) rfl lf_X12_115 dX12_term_35 ?_
        refine lv_iconst (v := 1) X.1 X.2.1 dX12_term_38 (by decide) ?_
        refine lv_iadd X.1 X.2.1 dX12_term_39 ?_
        refine p12_3 X I (k := 123) (by decide) rfl lf_X12_115 dX12_term_40 (fun H locs I => ?_)
        refine lv_aload_n X.1 X.2.1 dX12_term_43 rfl (lv_at hl 0 rfl) ?_
        have ho7 := ho.1
        have ho := ho.2
        refine r_ev I (r_runV X I pk_X12_atom (hA _ _ ho7) lm_X12_162 (by decide) (cl_12 rfl) rfl rfl rfl hl.1 rfl (Nat.le_of_ble_eq_true rfl) dX12_term_44 (hr_le (by omega) (by decide)) ⟨Nat.le_refl 0, Nat.le_refl 0⟩) (fun H locs I => ?_)
        refine lv_aload_n X.1 X.2.1 dX12_term_47 rfl (lv_at hl 0 rfl) ?_
        refine lv_iload_n X.1 X.2.1 dX12_term_48 rfl (lv_at hl 1 rfl) ?_
        refine lv_bipush (v := 42) X.1 X.2.1 dX12_term_49 (by decide) ?_
        refine lv_icmp_ne (tgt := 58) X.1 X.2.1 dX12_term_51 (by decide) (fun c_7 => ?_) (fun c_7 => ?_)
        · skip
          have hE := ite_f hE c_7
          have ho := ite_fP ho c_7
          refine lv_iconst (v := 5) X.1 X.2.1 dX12_term_58 (by decide) ?_
          refine lv_iconst (v := 0) X.1 X.2.1 dX12_term_59 (by decide) ?_
          have ho8 := ho.1
          have ho := ho.2
          refine r_ev I (r_runV X I pk_X12_put (c12_put l G _ _ _ _ ho8) lm_X12_144 (by decide) (cl_12 rfl) rfl rfl rfl hl.1 rfl (Nat.le_of_ble_eq_true rfl) dX12_term_60 (hr_le (by omega) (by decide)) ⟨Nat.le_refl 0, Nat.le_refl 0⟩) (fun H locs I => ?_)
          refine lv_aload_n X.1 X.2.1 dX12_term_63 rfl (lv_at hl 0 rfl) ?_
          refine g12_4 X I (k := 123) (by decide) rfl lf_X12_122 dX12_term_64 ?_
          refine lv_iconst (v := (-1)) X.1 X.2.1 dX12_term_67 (by decide) ?_
          refine lv_icmp_ne (tgt := 78) X.1 X.2.1 dX12_term_68 (by decide) (fun c_8 => ?_) (fun c_8 => ?_)
          · skip
            have hE := ite_f hE c_8
            have ho := ite_fP ho c_8
            refine lv_iconst (v := (-1)) X.1 X.2.1 dX12_term_78 (by decide) ?_
            refine lv_istore_n (lv' := [(1, .int _), (0, .ref _)]) X.1 X.2.1 dX12_term_79 rfl hl (by decide) rfl (fun ls hl => ?_)
            refine lv_goto (tgt := 21) X.1 X.2.1 dX12_term_80 (by decide) ?_
            exact ih _ _ _ _ _ I (lv_sub hl [1, 0] rfl) ho (hE.trans (rfl))
          · skip
            have hE := ite_t hE c_8
            have ho := ite_tP ho c_8
            refine lv_aload_n X.1 X.2.1 dX12_term_71 rfl (lv_at hl 0 rfl) ?_
            have ho9 := ho.1
            have ho := ho.2
            refine r_ei I (r_runV X I pk_X12_look (c12_look l G _ _ ho9) lm_X12_134 (by decide) (cl_12 rfl) rfl rfl rfl hl.1 rfl (Nat.le_of_ble_eq_true rfl) dX12_term_72 (hr_le (by omega) (by decide)) ⟨Nat.le_refl 0, Nat.le_refl 0⟩) (fun H locs I => ?_)
            refine lv_goto (tgt := 79) X.1 X.2.1 dX12_term_75 (by decide) ?_
            refine lv_istore_n (lv' := [(1, .int _), (0, .ref _)]) X.1 X.2.1 dX12_term_79 rfl hl (by decide) rfl (fun ls hl => ?_)
            refine lv_goto (tgt := 21) X.1 X.2.1 dX12_term_80 (by decide) ?_
            exact ih _ _ _ _ _ I (lv_sub hl [1, 0] rfl) ho (hE.trans (rfl))
        · skip
          have hE := ite_t hE c_7
          have ho := ite_tP ho c_7
          refine lv_iconst (v := 4) X.1 X.2.1 dX12_term_54 (by decide) ?_
          refine lv_goto (tgt := 59) X.1 X.2.1 dX12_term_55 (by decide) ?_
          refine lv_iconst (v := 0) X.1 X.2.1 dX12_term_59 (by decide) ?_
          have ho10 := ho.1
          have ho := ho.2
          refine r_ev I (r_runV X I pk_X12_put (c12_put l G _ _ _ _ ho10) lm_X12_144 (by decide) (cl_12 rfl) rfl rfl rfl hl.1 rfl (Nat.le_of_ble_eq_true rfl) dX12_term_60 (hr_le (by omega) (by decide)) ⟨Nat.le_refl 0, Nat.le_refl 0⟩) (fun H locs I => ?_)
          refine lv_aload_n X.1 X.2.1 dX12_term_63 rfl (lv_at hl 0 rfl) ?_
          refine g12_4 X I (k := 123) (by decide) rfl lf_X12_122 dX12_term_64 ?_
          refine lv_iconst (v := (-1)) X.1 X.2.1 dX12_term_67 (by decide) ?_
          refine lv_icmp_ne (tgt := 78) X.1 X.2.1 dX12_term_68 (by decide) (fun c_9 => ?_) (fun c_9 => ?_)
          · skip
            have hE := ite_f hE c_9
            have ho := ite_fP ho c_9
            refine lv_iconst (v := (-1)) X.1 X.2.1 dX12_term_78 (by decide) ?_
            refine lv_istore_n (lv' := [(1, .int _), (0, .ref _)]) X.1 X.2.1 dX12_term_79 rfl hl (by decide) rfl (fun ls hl => ?_)
            refine lv_goto (tgt := 21) X.1 X.2.1 dX12_term_80 (by decide) ?_
            exact ih _ _ _ _ _ I (lv_sub hl [1, 0] rfl) ho (hE.trans (rfl))
          · skip
            have hE := ite_t hE c_9
            have ho := ite_tP ho c_9
            refine lv_aload_n X.1 X.2.1 dX12_term_71 rfl (lv_at hl 0 rfl) ?_
            have ho11 := ho.1
            have ho := ho.2
            refine r_ei I (r_runV X I pk_X12_look (c12_look l G _ _ ho11) lm_X12_134 (by decide) (cl_12 rfl) rfl rfl rfl hl.1 rfl (Nat.le_of_ble_eq_true rfl) dX12_term_72 (hr_le (by omega) (by decide)) ⟨Nat.le_refl 0, Nat.le_refl 0⟩) (fun H locs I => ?_)
            refine lv_goto (tgt := 79) X.1 X.2.1 dX12_term_75 (by decide) ?_
            refine lv_istore_n (lv' := [(1, .int _), (0, .ref _)]) X.1 X.2.1 dX12_term_79 rfl hl (by decide) rfl (fun ls hl => ?_)
            refine lv_goto (tgt := 21) X.1 X.2.1 dX12_term_80 (by decide) ?_
            exact ih _ _ _ _ _ I (lv_sub hl [1, 0] rfl) ho (hE.trans (rfl))
set_option maxHeartbeats 4000000 in
set_option maxRecDepth 100000 in
theorem c12_term (l : Launch) (G : GT) {A : SI → SI} {oA : SI → Prop} {D : Nat} (hA : ∀ (σ : SI) (τ : SL) , oA σ  → Mc l yX12_atom cX12_atom 2 none (20 + 3 * D + 1) G [.ref (G.2.1 123)] σ τ (Qv G (Ev (A σ ) τ))) (σ : SI) (τ : SL) (ho : o12_term A oA σ) : Mc l yX12_term cX12_term 2 none (20 + 3 * D + 2) G [.ref (G.2.1 123)] σ τ (Qv G (Ev (f12_term A σ) τ)) := by
  refine m_start (by decide +kernel) (Nat.le_of_ble_eq_true rfl) rfl (fun p e s m args below meth c ls X I hl => ?_)
  have hl : lv_has ls 2 [(0, .ref (G.2.1 123))] := hl
  obtain ⟨E, hE⟩ : ∃ E, E = (f12_term A σ) := ⟨_, rfl⟩
  rw [← hE]
  unfold o12_term at ho
  refine lv_aload_n X.1 X.2.1 dX12_term_0 rfl (lv_at hl 0 rfl) ?_
  have ho1 := ho.1
  have ho := ho.2
  refine r_ev I (r_runV X I pk_X12_atom (hA _ _ ho1) lm_X12_162 (by decide) (cl_12 rfl) rfl rfl rfl hl.1 rfl (Nat.le_of_ble_eq_true rfl) dX12_term_1 (hr_le (by omega) (by decide)) ⟨Nat.le_refl 0, Nat.le_refl 0⟩) (fun H locs I => ?_)
  refine lv_aload_n X.1 X.2.1 dX12_term_4 rfl (lv_at hl 0 rfl) ?_
  refine g12_4 X I (k := 123) (by decide) rfl lf_X12_122 dX12_term_5 ?_
  refine lv_iconst (v := (-1)) X.1 X.2.1 dX12_term_8 (by decide) ?_
  refine lv_icmp_ne (tgt := 19) X.1 X.2.1 dX12_term_9 (by decide) (fun c_1 => ?_) (fun c_1 => ?_)
  · skip
    have hE := ite_f hE c_1
    have ho := ite_fP ho c_1
    refine lv_iconst (v := (-1)) X.1 X.2.1 dX12_term_19 (by decide) ?_
    refine lv_istore_n (lv' := [(1, .int _), (0, .ref _)]) X.1 X.2.1 dX12_term_20 rfl hl (by decide) rfl (fun ls hl => ?_)
    exact c12_term_c21 X hA _  _ _ _ _ _ _ I (lv_sub hl [1, 0] rfl) ho (hE.trans (rfl))
  · skip
    have hE := ite_t hE c_1
    have ho := ite_tP ho c_1
    refine lv_aload_n X.1 X.2.1 dX12_term_12 rfl (lv_at hl 0 rfl) ?_
    have ho12 := ho.1
    have ho := ho.2
    refine r_ei I (r_runV X I pk_X12_look (c12_look l G _ _ ho12) lm_X12_134 (by decide) (cl_12 rfl) rfl rfl rfl hl.1 rfl (Nat.le_of_ble_eq_true rfl) dX12_term_13 (hr_le (by omega) (by decide)) ⟨Nat.le_refl 0, Nat.le_refl 0⟩) (fun H locs I => ?_)
    refine lv_goto (tgt := 20) X.1 X.2.1 dX12_term_16 (by decide) ?_
    refine lv_istore_n (lv' := [(1, .int _), (0, .ref _)]) X.1 X.2.1 dX12_term_20 rfl hl (by decide) rfl (fun ls hl => ?_)
    exact c12_term_c21 X hA _  _ _ _ _ _ _ I (lv_sub hl [1, 0] rfl) ho (hE.trans (rfl))
noncomputable def f12_sum_c21 (A : SI → SI) : Nat → Int32 → SI → SI
  | 0, _, σ => σ
  | fu + 1, v1, σ => if v1 = (43 : Int32) then (let s1 := sp σ 123 3 ((σ 123 3) + (1 : Int32)); let s2 := (A s1); if v1 = (43 : Int32) then (let s5 := (f12_put s2 (2 : Int32) (0 : Int32)); if (s5 123 4) = (-1 : Int32) then (let r6 := (f12_look s5); (f12_sum_c21 A fu r6.1 r6.2)) else (f12_sum_c21 A fu (-1 : Int32) s5)) else (let s3 := (f12_put s2 (3 : Int32) (0 : Int32)); if (s3 123 4) = (-1 : Int32) then (let r4 := (f12_look s3); (f12_sum_c21 A fu r4.1 r4.2)) else (f12_sum_c21 A fu (-1 : Int32) s3))) else (if v1 = (45 : Int32) then (let s7 := sp σ 123 3 ((σ 123 3) + (1 : Int32)); let s8 := (A s7); if v1 = (43 : Int32) then (let s11 := (f12_put s8 (2 : Int32) (0 : Int32)); if (s11 123 4) = (-1 : Int32) then (let r12 := (f12_look s11); (f12_sum_c21 A fu r12.1 r12.2)) else (f12_sum_c21 A fu (-1 : Int32) s11)) else (let s9 := (f12_put s8 (3 : Int32) (0 : Int32)); if (s9 123 4) = (-1 : Int32) then (let r10 := (f12_look s9); (f12_sum_c21 A fu r10.1 r10.2)) else (f12_sum_c21 A fu (-1 : Int32) s9))) else σ)
noncomputable def o12_sum_c21 (A : SI → SI) (oA : SI → Prop) : Nat → Int32 → SI → Prop
  | 0, _, _ => False
  | fu + 1, v1, σ => if v1 = (43 : Int32) then (let s1 := sp σ 123 3 ((σ 123 3) + (1 : Int32)); (oA s1) ∧ (let s2 := (A s1); if v1 = (43 : Int32) then ((o12_put s2 (2 : Int32) (0 : Int32)) ∧ (let s5 := (f12_put s2 (2 : Int32) (0 : Int32)); if (s5 123 4) = (-1 : Int32) then ((o12_look s5) ∧ (let r6 := (f12_look s5); (o12_sum_c21 A oA fu r6.1 r6.2))) else (o12_sum_c21 A oA fu (-1 : Int32) s5))) else ((o12_put s2 (3 : Int32) (0 : Int32)) ∧ (let s3 := (f12_put s2 (3 : Int32) (0 : Int32)); if (s3 123 4) = (-1 : Int32) then ((o12_look s3) ∧ (let r4 := (f12_look s3); (o12_sum_c21 A oA fu r4.1 r4.2))) else (o12_sum_c21 A oA fu (-1 : Int32) s3))))) else (if v1 = (45 : Int32) then (let s7 := sp σ 123 3 ((σ 123 3) + (1 : Int32)); (oA s7) ∧ (let s8 := (A s7); if v1 = (43 : Int32) then ((o12_put s8 (2 : Int32) (0 : Int32)) ∧ (let s11 := (f12_put s8 (2 : Int32) (0 : Int32)); if (s11 123 4) = (-1 : Int32) then ((o12_look s11) ∧ (let r12 := (f12_look s11); (o12_sum_c21 A oA fu r12.1 r12.2))) else (o12_sum_c21 A oA fu (-1 : Int32) s11))) else ((o12_put s8 (3 : Int32) (0 : Int32)) ∧ (let s9 := (f12_put s8 (3 : Int32) (0 : Int32)); if (s9 123 4) = (-1 : Int32) then ((o12_look s9) ∧ (let r10 := (f12_look s9); (o12_sum_c21 A oA fu r10.1 r10.2))) else (o12_sum_c21 A oA fu (-1 : Int32) s9))))) else True)
noncomputable def f12_sum (A : SI → SI) (σ : SI) : SI := let s0 := (A σ); if (s0 123 4) = (-1 : Int32) then (let r13 := (f12_look s0); (f12_sum_c21 A (fu1 ((Int32.toInt (r13.2 123 2) - Int32.toInt (r13.2 123 3)).toNat + 1)) r13.1 r13.2)) else (f12_sum_c21 A (fu1 ((Int32.toInt (s0 123 2) - Int32.toInt (s0 123 3)).toNat + 1)) (-1 : Int32) s0)
noncomputable def o12_sum (A : SI → SI) (oA : SI → Prop) (σ : SI) : Prop := (oA σ) ∧ (let s0 := (A σ); if (s0 123 4) = (-1 : Int32) then ((o12_look s0) ∧ (let r13 := (f12_look s0); (o12_sum_c21 A oA (fu1 ((Int32.toInt (r13.2 123 2) - Int32.toInt (r13.2 123 3)).toNat + 1)) r13.1 r13.2))) else (o12_sum_c21 A oA (fu1 ((Int32.toInt (s0 123 2) - Int32.toInt (s0 123 3)).toNat + 1)) (-1 : Int32) s0))
theorem w_f12_sum_c21 {A : SI → SI} (hAf : ∀ (σ : SI)  (b : Nat), b ≠ 123 → b ≠ 125 → b ≠ 126 → b ≠ 127 → (A σ ) b = σ b) (a : Nat) (h0 : a ≠ 123) (h1 : a ≠ 125) (h2 : a ≠ 126) (h3 : a ≠ 127) : ∀ (fu : Nat) (v1 : Int32) (σ : SI), (f12_sum_c21 A fu v1 σ) a = σ a := by
  intro fu
  induction fu with
  | zero => intro v1 σ; exact rfl
  | succ fu ih =>
    intro v1 σ
    unfold f12_sum_c21
    exact (fr_ite (fr_ite (fr_ite ((ih _ _).trans ((w_f12_look _ a h0).trans ((w_f12_put _ _ _ a h1 h2 h3).trans ((hAf _ a h0 h1 h2 h3).trans (sp_n h0))))) ((ih _ _).trans ((w_f12_put _ _ _ a h1 h2 h3).trans ((hAf _ a h0 h1 h2 h3).trans (sp_n h0))))) (fr_ite ((ih _ _).trans ((w_f12_look _ a h0).trans ((w_f12_put _ _ _ a h1 h2 h3).trans ((hAf _ a h0 h1 h2 h3).trans (sp_n h0))))) ((ih _ _).trans ((w_f12_put _ _ _ a h1 h2 h3).trans ((hAf _ a h0 h1 h2 h3).trans (sp_n h0)))))) (fr_ite (fr_ite (fr_ite ((ih _ _).trans ((w_f12_look _ a h0).trans ((w_f12_put _ _ _ a h1 h2 h3).trans ((hAf _ a h0 h1 h2 h3).trans (sp_n h0))))) ((ih _ _).trans ((w_f12_put _ _ _ a h1 h2 h3).trans ((hAf _ a h0 h1 h2 h3).trans (sp_n h0))))) (fr_ite ((ih _ _).trans ((w_f12_look _ a h0).trans ((w_f12_put _ _ _ a h1 h2 h3).trans ((hAf _ a h0 h1 h2 h3).trans (sp_n h0))))) ((ih _ _).trans ((w_f12_put _ _ _ a h1 h2 h3).trans ((hAf _ a h0 h1 h2 h3).trans (sp_n h0)))))) rfl))
theorem w_f12_sum {A : SI → SI} (hAf : ∀ (σ : SI)  (b : Nat), b ≠ 123 → b ≠ 125 → b ≠ 126 → b ≠ 127 → (A σ ) b = σ b) (σ : SI) (a : Nat) (h0 : a ≠ 123) (h1 : a ≠ 125) (h2 : a ≠ 126) (h3 : a ≠ 127) : (f12_sum A σ) a = σ a := by
  unfold f12_sum
  exact (fr_ite ((w_f12_sum_c21 hAf a h0 h1 h2 h3 _ _ _).trans ((w_f12_look _ a h0).trans (hAf _ a h0 h1 h2 h3))) ((w_f12_sum_c21 hAf a h0 h1 h2 h3 _ _ _).trans (hAf _ a h0 h1 h2 h3)))
set_option maxHeartbeats 4000000 in
set_option maxRecDepth 100000 in
theorem c12_sum_c21 {l : Launch} {p : Program} {e : Env} {s : State} {m : MethodId} {args : Array Value} {below : List Frame} {meth : Method} {c : Code} {G : GT} (X : CX p s m args meth c cX12_sum RX12 2 none G) {A : SI → SI} {oA : SI → Prop} {D : Nat} (hA : ∀ (σ : SI) (τ : SL) , oA σ  → Mc l yX12_term cX12_term 2 none (20 + 3 * D + 2) G [.ref (G.2.1 123)] σ τ (Qv G (Ev (A σ ) τ))) {E : SI} (τ : SL) : ∀ (fu : Nat) (v1 : Int32) (σ : SI) (H : Heap) (locs : List Loc) (ls : Array Slot), IX G s H locs σ τ → lv_has ls 2 [(0, .ref (G.2.1 123)), (1, .int v1)] → (o12_sum_c21 A oA fu v1 σ) → E = (f12_sum_c21 A fu v1 σ) → W p l e (rmN (20 + 3 * D + 3)) s m args below meth c H locs 0 0 (MQ below ((Qv G (Ev E τ)) s.heap.size) args s 0 0 (AW G s.heap.size)) (F0 m 21 ls []) := by
  intro fu
  induction fu with
  | zero =>
    intro v1 σ H locs ls I hl  ho hE
    unfold o12_sum_c21 at ho
    exact ho.elim
  | succ fu ih =>
    intro v1 σ H locs ls I hl  ho hE
    unfold o12_sum_c21 at ho
    refine lv_iload_n X.1 X.2.1 dX12_sum_21 rfl (lv_at hl 1 rfl) ?_
    refine lv_bipush (v := 43) X.1 X.2.1 dX12_sum_22 (by decide) ?_
    refine lv_icmp_eq (tgt := 33) X.1 X.2.1 dX12_sum_24 (by decide) (fun c_2 => ?_) (fun c_2 => ?_)
    · skip
      have hE := ite_t hE c_2
      have ho := ite_tP ho c_2
      refine lv_aload_n X.1 X.2.1 dX12_sum_33 rfl (lv_at hl 0 rfl) ?_
      refine lv_dup X.1 X.2.1 dX12_sum_34 rfl ?_
      refine g12_3 X I (k := 123) (by decide) rfl lf_X12_115 dX12_sum_35 ?_
      refine lv_iconst (v := 1) X.1 X.2.1 dX12_sum_38 (by decide) ?_
      refine lv_iadd X.1 X.2.1 dX12_sum_39 ?_
      refine p12_3 X I (k := 123) (by decide) rfl lf_X12_115 dX12_sum_40 (fun H locs I => ?_)
      refine lv_aload_n X.1 X.2.1 dX12_sum_43 rfl (lv_at hl 0 rfl) ?_
      have ho2 := ho.1
      have ho := ho.2
      refine r_ev I (r_runV X I pk_X12_term (hA _ _ ho2) lm_X12_165 (by decide) (cl_12 rfl) rfl rfl rfl hl.1 rfl (Nat.le_of_ble_eq_true rfl) dX12_sum_44 (hr_le (by omega) (by decide)) ⟨Nat.le_refl 0, Nat.le_refl 0⟩) (fun H locs I => ?_)
      refine lv_aload_n X.1 X.2.1 dX12_sum_47 rfl (lv_at hl 0 rfl) ?_
      refine lv_iload_n X.1 X.2.1 dX12_sum_48 rfl (lv_at hl 1 rfl) ?_
      refine lv_bipush (v := 43) X.1 X.2.1 dX12_sum_49 (by decide) ?_
      refine lv_icmp_ne (tgt := 58) X.1 X.2.1 dX12_sum_51 (by decide) (fun c_3 => ?_) (fun c_3 => ?_)
      · skip
        have hE := ite_f hE c_3
        have ho := ite_fP ho c_3
        refine lv_iconst (v := 3) X.1 X.2.1 dX12_sum_58 (by decide) ?_
        refine lv_iconst (v := 0) X.1 X.2.1 dX12_sum_59 (by decide) ?_
        have ho3 := ho.1
        have ho := ho.2
        refine r_ev I (r_runV X I pk_X12_put (c12_put l G _ _ _ _ ho3) lm_X12_144 (by decide) (cl_12 rfl) rfl rfl rfl hl.1 rfl (Nat.le_of_ble_eq_true rfl) dX12_sum_60 (hr_le (by omega) (by decide)) ⟨Nat.le_refl 0, Nat.le_refl 0⟩) (fun H locs I => ?_)
        refine lv_aload_n X.1 X.2.1 dX12_sum_63 rfl (lv_at hl 0 rfl) ?_
        refine g12_4 X I (k := 123) (by decide) rfl lf_X12_122 dX12_sum_64 ?_
        refine lv_iconst (v := (-1)) X.1 X.2.1 dX12_sum_67 (by decide) ?_
        refine lv_icmp_ne (tgt := 78) X.1 X.2.1 dX12_sum_68 (by decide) (fun c_4 => ?_) (fun c_4 => ?_)
        · skip
          have hE := ite_f hE c_4
          have ho := ite_fP ho c_4
          refine lv_iconst (v := (-1)) X.1 X.2.1 dX12_sum_78 (by decide) ?_
          refine lv_istore_n (lv' := [(1, .int _), (0, .ref _)]) X.1 X.2.1 dX12_sum_79 rfl hl (by decide) rfl (fun ls hl => ?_)
          refine lv_goto (tgt := 21) X.1 X.2.1 dX12_sum_80 (by decide) ?_
          exact ih _ _ _ _ _ I (lv_sub hl [1, 0] rfl) ho (hE.trans (rfl))
        · skip
          have hE := ite_t hE c_4
          have ho := ite_tP ho c_4
          refine lv_aload_n X.1 X.2.1 dX12_sum_71 rfl (lv_at hl 0 rfl) ?_
          have ho4 := ho.1
          have ho := ho.2
          refine r_ei I (r_runV X I pk_X12_look (c12_look l G _ _ ho4) lm_X12_134 (by decide) (cl_12 rfl) rfl rfl rfl hl.1 rfl (Nat.le_of_ble_eq_true rfl) dX12_sum_72 (hr_le (by omega) (by decide)) ⟨Nat.le_refl 0, Nat.le_refl 0⟩) (fun H locs I => ?_)
          refine lv_goto (tgt := 79) X.1 X.2.1 dX12_sum_75 (by decide) ?_
          refine lv_istore_n (lv' := [(1, .int _), (0, .ref _)]) X.1 X.2.1 dX12_sum_79 rfl hl (by decide) rfl (fun ls hl => ?_)
          refine lv_goto (tgt := 21) X.1 X.2.1 dX12_sum_80 (by decide) ?_
          exact ih _ _ _ _ _ I (lv_sub hl [1, 0] rfl) ho (hE.trans (rfl))
      · skip
        have hE := ite_t hE c_3
        have ho := ite_tP ho c_3
        refine lv_iconst (v := 2) X.1 X.2.1 dX12_sum_54 (by decide) ?_
        refine lv_goto (tgt := 59) X.1 X.2.1 dX12_sum_55 (by decide) ?_
        refine lv_iconst (v := 0) X.1 X.2.1 dX12_sum_59 (by decide) ?_
        have ho5 := ho.1
        have ho := ho.2
        refine r_ev I (r_runV X I pk_X12_put (c12_put l G _ _ _ _ ho5) lm_X12_144 (by decide) (cl_12 rfl) rfl rfl rfl hl.1 rfl (Nat.le_of_ble_eq_true rfl) dX12_sum_60 (hr_le (by omega) (by decide)) ⟨Nat.le_refl 0, Nat.le_refl 0⟩) (fun H locs I => ?_)
        refine lv_aload_n X.1 X.2.1 dX12_sum_63 rfl (lv_at hl 0 rfl) ?_
        refine g12_4 X I (k := 123) (by decide) rfl lf_X12_122 dX12_sum_64 ?_
        refine lv_iconst (v := (-1)) X.1 X.2.1 dX12_sum_67 (by decide) ?_
        refine lv_icmp_ne (tgt := 78) X.1 X.2.1 dX12_sum_68 (by decide) (fun c_5 => ?_) (fun c_5 => ?_)
        · skip
          have hE := ite_f hE c_5
          have ho := ite_fP ho c_5
          refine lv_iconst (v := (-1)) X.1 X.2.1 dX12_sum_78 (by decide) ?_
          refine lv_istore_n (lv' := [(1, .int _), (0, .ref _)]) X.1 X.2.1 dX12_sum_79 rfl hl (by decide) rfl (fun ls hl => ?_)
          refine lv_goto (tgt := 21) X.1 X.2.1 dX12_sum_80 (by decide) ?_
          exact ih _ _ _ _ _ I (lv_sub hl [1, 0] rfl) ho (hE.trans (rfl))
        · skip
          have hE := ite_t hE c_5
          have ho := ite_tP ho c_5
          refine lv_aload_n X.1 X.2.1 dX12_sum_71 rfl (lv_at hl 0 rfl) ?_
          have ho6 := ho.1
          have ho := ho.2
          refine r_ei I (r_runV X I pk_X12_look (c12_look l G _ _ ho6) lm_X12_134 (by decide) (cl_12 rfl) rfl rfl rfl hl.1 rfl (Nat.le_of_ble_eq_true rfl) dX12_sum_72 (hr_le (by omega) (by decide)) ⟨Nat.le_refl 0, Nat.le_refl 0⟩) (fun H locs I => ?_)
          refine lv_goto (tgt := 79) X.1 X.2.1 dX12_sum_75 (by decide) ?_
          refine lv_istore_n (lv' := [(1, .int _), (0, .ref _)]) X.1 X.2.1 dX12_sum_79 rfl hl (by decide) rfl (fun ls hl => ?_)
          refine lv_goto (tgt := 21) X.1 X.2.1 dX12_sum_80 (by decide) ?_
          exact ih _ _ _ _ _ I (lv_sub hl [1, 0] rfl) ho (hE.trans (rfl))
    · skip
      have hE := ite_f hE c_2
      have ho := ite_fP ho c_2
      refine lv_iload_n X.1 X.2.1 dX12_sum_27 rfl (lv_at hl 1 rfl) ?_
      refine lv_bipush (v := 45) X.1 X.2.1 dX12_sum_28 (by decide) ?_
      refine lv_icmp_ne (tgt := 83) X.1 X.2.1 dX12_sum_30 (by decide) (fun c_6 => ?_) (fun c_6 => ?_)
      · skip
        have hE := ite_f hE c_6
        have ho := ite_fP ho c_6
        have h9 := hE
        exact r_vret X I (e_v h9.symm rfl) dX12_sum_83
      · skip
        have hE := ite_t hE c_6
        have ho := ite_tP ho c_6
        refine lv_aload_n X.1 X.2.1 dX12_sum_33 rfl (lv_at hl 0 rfl) ?_
        refine lv_dup X.1 X.2.1 dX12_sum_34 rfl ?_
        refine g12_3 X I (k := 123) (by decide) rfl lf_X12_115 dX12_sum_35 ?_
        refine lv_iconst (v := 1) X.1 X.2.1 dX12_sum_38 (by decide) ?_
        refine lv_iadd X.1 X.2.1 dX12_sum_39 ?_
        refine p12_3 X I (k := 123) (by decide) rfl lf_X12_115 dX12_sum_40 (fun H locs I => ?_)
        refine lv_aload_n X.1 X.2.1 dX12_sum_43 rfl (lv_at hl 0 rfl) ?_
        have ho7 := ho.1
        have ho := ho.2
        refine r_ev I (r_runV X I pk_X12_term (hA _ _ ho7) lm_X12_165 (by decide) (cl_12 rfl) rfl rfl rfl hl.1 rfl (Nat.le_of_ble_eq_true rfl) dX12_sum_44 (hr_le (by omega) (by decide)) ⟨Nat.le_refl 0, Nat.le_refl 0⟩) (fun H locs I => ?_)
        refine lv_aload_n X.1 X.2.1 dX12_sum_47 rfl (lv_at hl 0 rfl) ?_
        refine lv_iload_n X.1 X.2.1 dX12_sum_48 rfl (lv_at hl 1 rfl) ?_
        refine lv_bipush (v := 43) X.1 X.2.1 dX12_sum_49 (by decide) ?_
        refine lv_icmp_ne (tgt := 58) X.1 X.2.1 dX12_sum_51 (by decide) (fun c_7 => ?_) (fun c_7 => ?_)
        · skip
          have hE := ite_f hE c_7
          have ho := ite_fP ho c_7
          refine lv_iconst (v := 3) X.1 X.2.1 dX12_sum_58 (by decide) ?_
          refine lv_iconst (v := 0) X.1 X.2.1 dX12_sum_59 (by decide) ?_
          have ho8 := ho.1
          have ho := ho.2
          refine r_ev I (r_runV X I pk_X12_put (c12_put l G _ _ _ _ ho8) lm_X12_144 (by decide) (cl_12 rfl) rfl rfl rfl hl.1 rfl (Nat.le_of_ble_eq_true rfl) dX12_sum_60 (hr_le (by omega) (by decide)) ⟨Nat.le_refl 0, Nat.le_refl 0⟩) (fun H locs I => ?_)
          refine lv_aload_n X.1 X.2.1 dX12_sum_63 rfl (lv_at hl 0 rfl) ?_
          refine g12_4 X I (k := 123) (by decide) rfl lf_X12_122 dX12_sum_64 ?_
          refine lv_iconst (v := (-1)) X.1 X.2.1 dX12_sum_67 (by decide) ?_
          refine lv_icmp_ne (tgt := 78) X.1 X.2.1 dX12_sum_68 (by decide) (fun c_8 => ?_) (fun c_8 => ?_)
          · skip
            have hE := ite_f hE c_8
            have ho := ite_fP ho c_8
            refine lv_iconst (v := (-1)) X.1 X.2.1 dX12_sum_78 (by decide) ?_
            refine lv_istore_n (lv' := [(1, .int _), (0, .ref _)]) X.1 X.2.1 dX12_sum_79 rfl hl (by decide) rfl (fun ls hl => ?_)
            refine lv_goto (tgt := 21) X.1 X.2.1 dX12_sum_80 (by decide) ?_
            exact ih _ _ _ _ _ I (lv_sub hl [1, 0] rfl) ho (hE.trans (rfl))
          · skip
            have hE := ite_t hE c_8
            have ho := ite_tP ho c_8
            refine lv_aload_n X.1 X.2.1 dX12_sum_71 rfl (lv_at hl 0 rfl) ?_
            have ho9 := ho.1
            have ho := ho.2
            refine r_ei I (r_runV X I pk_X12_look (c12_look l G _ _ ho9) lm_X12_134 (by decide) (cl_12 rfl) rfl rfl rfl hl.1 rfl (Nat.le_of_ble_eq_true rfl) dX12_sum_72 (hr_le (by omega) (by decide)) ⟨Nat.le_refl 0, Nat.le_refl 0⟩) (fun H locs I => ?_)
            refine lv_goto (tgt := 79) X.1 X.2.1 dX12_sum_75 (by decide) ?_
            refine lv_istore_n (lv' := [(1, .int _), (0, .ref _)]) X.1 X.2.1 dX12_sum_79 rfl hl (by decide) rfl (fun ls hl => ?_)
            refine lv_goto (tgt := 21) X.1 X.2.1 dX12_sum_80 (by decide) ?_
            exact ih _ _ _ _ _ I (lv_sub hl [1, 0] rfl) ho (hE.trans (rfl))
        · skip
          have hE := ite_t hE c_7
          have ho := ite_tP ho c_7
          refine lv_iconst (v := 2) X.1 X.2.1 dX12_sum_54 (by decide) ?_
          refine lv_goto (tgt := 59) X.1 X.2.1 dX12_sum_55 (by decide) ?_
          refine lv_iconst (v := 0) X.1 X.2.1 dX12_sum_59 (by decide) ?_
          have ho10 := ho.1
          have ho := ho.2
          refine r_ev I (r_runV X I pk_X12_put (c12_put l G _ _ _ _ ho10) lm_X12_144 (by decide) (cl_12 rfl) rfl rfl rfl hl.1 rfl (Nat.le_of_ble_eq_true rfl) dX12_sum_60 (hr_le (by omega) (by decide)) ⟨Nat.le_refl 0, Nat.le_refl 0⟩) (fun H locs I => ?_)
          refine lv_aload_n X.1 X.2.1 dX12_sum_63 rfl (lv_at hl 0 rfl) ?_
          refine g12_4 X I (k := 123) (by decide) rfl lf_X12_122 dX12_sum_64 ?_
          refine lv_iconst (v := (-1)) X.1 X.2.1 dX12_sum_67 (by decide) ?_
          refine lv_icmp_ne (tgt := 78) X.1 X.2.1 dX12_sum_68 (by decide) (fun c_9 => ?_) (fun c_9 => ?_)
          · skip
            have hE := ite_f hE c_9
            have ho := ite_fP ho c_9
            refine lv_iconst (v := (-1)) X.1 X.2.1 dX12_sum_78 (by decide) ?_
            refine lv_istore_n (lv' := [(1, .int _), (0, .ref _)]) X.1 X.2.1 dX12_sum_79 rfl hl (by decide) rfl (fun ls hl => ?_)
            refine lv_goto (tgt := 21) X.1 X.2.1 dX12_sum_80 (by decide) ?_
            exact ih _ _ _ _ _ I (lv_sub hl [1, 0] rfl) ho (hE.trans (rfl))
          · skip
            have hE := ite_t hE c_9
            have ho := ite_tP ho c_9
            refine lv_aload_n X.1 X.2.1 dX12_sum_71 rfl (lv_at hl 0 rfl) ?_
            have ho11 := ho.1
            have ho := ho.2
            refine r_ei I (r_runV X I pk_X12_look (c12_look l G _ _ ho11) lm_X12_134 (by decide) (cl_12 rfl) rfl rfl rfl hl.1 rfl (Nat.le_of_ble_eq_true rfl) dX12_sum_72 (hr_le (by omega) (by decide)) ⟨Nat.le_refl 0, Nat.le_refl 0⟩) (fun H locs I => ?_)
            refine lv_goto (tgt := 79) X.1 X.2.1 dX12_sum_75 (by decide) ?_
            refine lv_istore_n (lv' := [(1, .int _), (0, .ref _)]) X.1 X.2.1 dX12_sum_79 rfl hl (by decide) rfl (fun ls hl => ?_)
            refine lv_goto (tgt := 21) X.1 X.2.1 dX12_sum_80 (by decide) ?_
            exact ih _ _ _ _ _ I (lv_sub hl [1, 0] rfl) ho (hE.trans (rfl))
set_option maxHeartbeats 4000000 in
set_option maxRecDepth 100000 in
theorem c12_sum (l : Launch) (G : GT) {A : SI → SI} {oA : SI → Prop} {D : Nat} (hA : ∀ (σ : SI) (τ : SL) , oA σ  → Mc l yX12_term cX12_term 2 none (20 + 3 * D + 2) G [.ref (G.2.1 123)] σ τ (Qv G (Ev (A σ ) τ))) (σ : SI) (τ : SL) (ho : o12_sum A oA σ) : Mc l yX12_sum cX12_sum 2 none (20 + 3 * D + 3) G [.ref (G.2.1 123)] σ τ (Qv G (Ev (f12_sum A σ) τ)) := by
  refine m_start (by decide +kernel) (Nat.le_of_ble_eq_true rfl) rfl (fun p e s m args below meth c ls X I hl => ?_)
  have hl : lv_has ls 2 [(0, .ref (G.2.1 123))] := hl
  obtain ⟨E, hE⟩ : ∃ E, E = (f12_sum A σ) := ⟨_, rfl⟩
  rw [← hE]
  unfold o12_sum at ho
  refine lv_aload_n X.1 X.2.1 dX12_sum_0 rfl (lv_at hl 0 rfl) ?_
  have ho1 := ho.1
  have ho := ho.2
  refine r_ev I (r_runV X I pk_X12_term (hA _ _ ho1) lm_X12_165 (by decide) (cl_12 rfl) rfl rfl rfl hl.1 rfl (Nat.le_of_ble_eq_true rfl) dX12_sum_1 (hr_le (by omega) (by decide)) ⟨Nat.le_refl 0, Nat.le_refl 0⟩) (fun H locs I => ?_)
  refine lv_aload_n X.1 X.2.1 dX12_sum_4 rfl (lv_at hl 0 rfl) ?_
  refine g12_4 X I (k := 123) (by decide) rfl lf_X12_122 dX12_sum_5 ?_
  refine lv_iconst (v := (-1)) X.1 X.2.1 dX12_sum_8 (by decide) ?_
  refine lv_icmp_ne (tgt := 19) X.1 X.2.1 dX12_sum_9 (by decide) (fun c_1 => ?_) (fun c_1 => ?_)
  · skip
    have hE := ite_f hE c_1
    have ho := ite_fP ho c_1
    refine lv_iconst (v := (-1)) X.1 X.2.1 dX12_sum_19 (by decide) ?_
    refine lv_istore_n (lv' := [(1, .int _), (0, .ref _)]) X.1 X.2.1 dX12_sum_20 rfl hl (by decide) rfl (fun ls hl => ?_)
    exact c12_sum_c21 X hA _  _ _ _ _ _ _ I (lv_sub hl [1, 0] rfl) ho (hE.trans (rfl))
  · skip
    have hE := ite_t hE c_1
    have ho := ite_tP ho c_1
    refine lv_aload_n X.1 X.2.1 dX12_sum_12 rfl (lv_at hl 0 rfl) ?_
    have ho12 := ho.1
    have ho := ho.2
    refine r_ei I (r_runV X I pk_X12_look (c12_look l G _ _ ho12) lm_X12_134 (by decide) (cl_12 rfl) rfl rfl rfl hl.1 rfl (Nat.le_of_ble_eq_true rfl) dX12_sum_13 (hr_le (by omega) (by decide)) ⟨Nat.le_refl 0, Nat.le_refl 0⟩) (fun H locs I => ?_)
    refine lv_goto (tgt := 20) X.1 X.2.1 dX12_sum_16 (by decide) ?_
    refine lv_istore_n (lv' := [(1, .int _), (0, .ref _)]) X.1 X.2.1 dX12_sum_20 rfl hl (by decide) rfl (fun ls hl => ?_)
    exact c12_sum_c21 X hA _  _ _ _ _ _ _ I (lv_sub hl [1, 0] rfl) ho (hE.trans (rfl))
noncomputable def fmSumD : Nat → SI → SI
  | 0 => fun σ => σ
  | D + 1 => fun σ => f12_sum (f12_term (f12_atom (fmSumD D))) σ
noncomputable def omSumD : Nat → SI → Prop
  | 0 => fun _ => False
  | D + 1 => fun σ => o12_sum (f12_term (f12_atom (fmSumD D))) (o12_term (f12_atom (fmSumD D)) (o12_atom (fmSumD D) (omSumD D))) σ
theorem w_fmSumD : ∀ (D : Nat) (σ : SI) (b : Nat), b ≠ 123 → b ≠ 125 → b ≠ 126 → b ≠ 127 → fmSumD D σ b = σ b
  | 0, _, _, _, _, _, _ => rfl
  | D + 1, σ, b, h0, h1, h2, h3 => w_f12_sum (fun σ b h0 h1 h2 h3 => w_f12_term (fun σ b h0 h1 h2 h3 => w_f12_atom (fun σ b h0 h1 h2 h3 => w_fmSumD D σ b h0 h1 h2 h3) σ b h0 h1 h2 h3) σ b h0 h1 h2 h3) σ b h0 h1 h2 h3
theorem cmSumD (l : Launch) (G : GT) : ∀ (D : Nat) (σ : SI) (τ : SL), omSumD D σ → Mc l yX12_sum cX12_sum 2 none (20 + 3 * D) G [.ref (G.2.1 123)] σ τ (Qv G (Ev (fmSumD D σ) τ))
  | 0, _, _, h => h.elim
  | D + 1, σ, τ, h => c12_sum l G (fun σ τ h => c12_term l G (fun σ τ h => c12_atom l G (fun σ τ h => cmSumD l G D σ τ h) σ τ h) σ τ h) σ τ h
noncomputable def f12_sumR (σ : SI) : SI := fmSumD (blk 8) σ
noncomputable def o12_sumR (σ : SI) : Prop := omSumD (blk 8) σ
theorem w_f12_sumR (σ : SI) (b : Nat) (h0 : b ≠ 123) (h1 : b ≠ 125) (h2 : b ≠ 126) (h3 : b ≠ 127) : f12_sumR σ b = σ b := w_fmSumD _ σ b h0 h1 h2 h3
theorem c12_sumR (l : Launch) (G : GT) (σ : SI) (τ : SL) (h : o12_sumR σ) : Mc l yX12_sum cX12_sum 2 none 44 G [.ref (G.2.1 123)] σ τ (Qv G (Ev (f12_sumR σ) τ)) := by
  unfold o12_sumR at h
  unfold f12_sumR
  rw [blk_eq] at h ⊢
  exact cmSumD l G 8 σ τ h
