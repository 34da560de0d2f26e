/-! between the two sides, in the law's loop -/
theorem br_1 {g : Nat} {σ σ1 : SI} (I : INV g σ σ) (F : ∀ a, 123 ≤ a → σ1 a = σ a) : INV g σ σ1 :=
  INV_k I (KC_rf σ) ⟨fun a x => F a (by omega), fun j _ => by rw [F 123 (by decide)]⟩ (Nat.le_refl g)
theorem br_2 {g : Nat} {σ1 σ2 : SI} (I : INV g σ1 σ2) (F : ∀ a, a < 123 → σ2 a = σ1 a) : INV g σ2 σ2 :=
  INV_k I ⟨fun a x => F a (by omega), by rw [F 0 (by decide)], by rw [F 1 (by decide)], by rw [F 13 (by decide)], by rw [F 13 (by decide)]⟩ (KM_rf σ2) (Nat.le_refl g)
theorem hg_sh {g : Nat} {σ : SI} (I : INV g σ σ) (x : Int32) (h : f8_isHouse 10 σ x = true) : Int32.toInt (f0_grievanceOf 24 σ x) < 2147483647 := by
  obtain ⟨H, B, LL, hd, T, -, D⟩ := INV_pick I
  rcases hse_or T x with ⟨k, hk, rfl, -, -⟩ | ⟨h0, -, -⟩
  · rw [gr_c T D hk]
    have := (D.1 k hk).2.2
    omega
  · rw [h0] at h; cases h
set_option maxHeartbeats 4000000 in
set_option maxRecDepth 100000 in
theorem c11_shorterH (l : Launch) (G : GT) (σ : SI) (τ : SL) (x1 : Int32) (x2 : Int32) (hg : (f8_isHouse 10 σ x1) = true → Int32.toInt (f0_grievanceOf 24 σ x1) < 2147483647) : Mc l yX11_shorter cX11_shorter 5 (some .int) 5 G [.ref (G.2.1 0), .int x1, .int x2] σ τ (Qi G (Ei (f11_shorter σ x1 x2).1 (f11_shorter σ x1 x2).2 τ)) := by
  refine m_start (by decide +kernel) (Nat.le_of_ble_eq_true rfl) rfl (fun p e s m args below meth c ls X I hl => ?_)
  have hl : lv_has ls 5 [(0, .ref (G.2.1 0)), (1, .int x1), (2, .int x2)] := hl
  obtain ⟨E, hE⟩ : ∃ E, E = (f11_shorter σ x1 x2) := ⟨_, rfl⟩
  rw [← hE]
  refine lv_aload_n X.1 X.2.1 dX11_shorter_0 rfl (lv_at hl 0 rfl) ?_
  refine g11_3 X I (k := 0) (by decide) rfl lf_X11_35 dX11_shorter_1 ?_
  refine lv_iload_n X.1 X.2.1 dX11_shorter_4 rfl (lv_at hl 1 rfl) ?_
  refine r_ei I (r_runV X I pk_X8_isHouse (c8_isHouse l G (k := 10) ⟨by decide, rfl, rfl, rfl⟩ _ _ _) lm_X11_169 (by decide) (cl_8 rfl) rfl rfl rfl hl.1 rfl (Nat.le_of_ble_eq_true rfl) dX11_shorter_5 ⟨Nat.le_of_ble_eq_true rfl, Nat.le_of_ble_eq_true rfl⟩ ⟨Nat.le_refl 0, Nat.le_refl 0⟩) (fun H locs I => ?_)
  refine lv_if_eq (tgt := 21) X.1 X.2.1 dX11_shorter_8 (by decide) (fun c_1 => ?_) (fun c_1 => ?_)
  · skip
    have hE := ite_f hE (b2i_n c_1)
    refine lv_iconst (v := (-1)) X.1 X.2.1 dX11_shorter_21 (by decide) ?_
    have h9 := hE
    exact r_iret X I (e_i (pr_fst h9) (pr_snd h9) rfl) dX11_shorter_22
  · skip
    have hE := ite_t hE (b2i_y c_1)
    refine lv_iload_n X.1 X.2.1 dX11_shorter_11 rfl (lv_at hl 2 rfl) ?_
    refine lv_if_lt (tgt := 21) X.1 X.2.1 dX11_shorter_12 (by decide) (fun c_2 => ?_) (fun c_2 => ?_)
    · skip
      have hE := ite_t hE c_2
      refine lv_iconst (v := (-1)) X.1 X.2.1 dX11_shorter_21 (by decide) ?_
      have h9 := hE
      exact r_iret X I (e_i (pr_fst h9) (pr_snd h9) rfl) dX11_shorter_22
    · skip
      have hE := ite_f hE c_2
      refine lv_iload_n X.1 X.2.1 dX11_shorter_15 rfl (lv_at hl 2 rfl) ?_
      refine lv_bipush (v := 60) X.1 X.2.1 dX11_shorter_16 (by decide) ?_
      refine lv_icmp_le (tgt := 23) X.1 X.2.1 dX11_shorter_18 (by decide) (fun c_3 => ?_) (fun c_3 => ?_)
      · skip
        have hE := ite_t hE c_3
        refine lv_aload_n X.1 X.2.1 dX11_shorter_23 rfl (lv_at hl 0 rfl) ?_
        refine g11_5 X I (k := 0) (by decide) rfl lf_X11_49 dX11_shorter_24 ?_
        refine lv_iload_n X.1 X.2.1 dX11_shorter_27 rfl (lv_at hl 1 rfl) ?_
        refine r_ei I (r_runV X I pk_X0_grievanceOf (c0_grievanceOf l G (k := 24) ⟨by decide, rfl, rfl⟩ _ _ _) lm_X11_182 (by decide) (cl_0 rfl) rfl rfl rfl hl.1 rfl (Nat.le_of_ble_eq_true rfl) dX11_shorter_28 ⟨Nat.le_of_ble_eq_true rfl, Nat.le_of_ble_eq_true rfl⟩ ⟨Nat.le_refl 0, Nat.le_refl 0⟩) (fun H locs I => ?_)
        refine lv_istore_n (lv' := [(3, .int _), (0, .ref _), (1, .int _), (2, .int _)]) X.1 X.2.1 dX11_shorter_31 rfl hl (by decide) rfl (fun ls hl => ?_)
        refine lv_iconst (v := 0) X.1 X.2.1 dX11_shorter_32 (by decide) ?_
        refine lv_istore (lv' := [(4, .int _), (3, .int _), (0, .ref _), (1, .int _), (2, .int _)]) X.1 X.2.1 dX11_shorter_33 hl (by decide) rfl (fun ls hl => ?_)
        exact c11_shorter_c35 X _ _ _ _ _ _ _ _ _ _ I (lv_sub hl [2, 3, 4, 1, 0] rfl) (hg (b2i_y c_1)) (fu1_lt _) (hE.trans (rfl))
      · skip
        have hE := ite_f hE c_3
        refine lv_iconst (v := (-1)) X.1 X.2.1 dX11_shorter_21 (by decide) ?_
        have h9 := hE
        exact r_iret X I (e_i (pr_fst h9) (pr_snd h9) rfl) dX11_shorter_22
def sx (xs : Nat → Int32) (x4 k : Int32) : Int32 := xs (x4 + k).toNatClampNeg
abbrev LB (G : GT) (b : Nat) (x4 : Int32) : List (Nat × Value) := [(4, .int x4), (3, .ref (G.2.1 153)), (2, .ref (G.2.1 123)), (1, .ref (G.2.1 0)), (0, .ref b)]
abbrev LX (p : Program) (s : State) (m : MethodId) (b L : Nat) (xs : Nat → Int32) (meth : Method) (c : Code) (G : GT) : Prop := CX p s m #[Value.ref b] meth c cL_law RL 7 (some .boolean) G ∧ va_X b L xs s s.heap ∧ b < s.heap.size ∧ ¬ AW G s.heap.size b
abbrev LV (x4 : Int32) (L : Nat) : Prop := vp_in (x4 + 1) L ∧ vp_in (x4 + 2) L ∧ vp_in (x4 + 3) L ∧ vp_in (x4 + 4) L ∧ vp_in (x4 + 5) L
theorem l_arg {p : Program} {l : Launch} {e : Env} {s : State} {m : MethodId} {below : List Frame} {meth : Method} {c : Code} {H : Heap} {locs : List Loc} {cells slots : Nat} {Q : State → Prop} {pc : Nat} {ls : Array Slot} {rest : List Value} {G : GT} {σ : SI} {τ : SL} {b L : Nat} {xs : Nat → Int32} {x4 : Int32} (X : LX p s m b L xs meth c G) (I : IX G s H locs σ τ) (hl : lv_has ls 7 (LB G b x4)) {n : Int} {k : Int32} (hn : Int32.ofInt n = k) (hin : vp_in (x4 + k) L) (d0 : decode cL_law pc = .ok (.aload_n 0, 1)) (d1 : decode cL_law (pc + 1) = .ok (.iload 4, 2)) (d2 : decode cL_law (pc + 1 + 2) = .ok (.iconst n, 1)) (d3 : decode cL_law (pc + 1 + 2 + 1) = .ok (.iadd, 1)) (d4 : decode cL_law (pc + 1 + 2 + 1 + 1) = .ok (.iaload, 1))
    (kk : W p l e room_1 s m #[Value.ref b] below meth c H locs cells slots Q (F0 m (pc + 6) ls (.int (sx xs x4 k) :: rest))) : W p l e room_1 s m #[Value.ref b] below meth c H locs cells slots Q (F0 m pc ls rest) := by
  obtain ⟨X, hX, hbl, hbA⟩ := X
  refine lv_aload_n X.1 X.2.1 d0 rfl (lv_at hl 4 rfl) ?_
  refine lv_iload X.1 X.2.1 d1 (lv_at hl 0 rfl) ?_
  refine lv_iconst X.1 X.2.1 d2 hn ?_
  refine lv_iadd X.1 X.2.1 d3 ?_
  exact va_sld X.1 X.2.1 hX hbl hbA I.2 hin d4 kk
