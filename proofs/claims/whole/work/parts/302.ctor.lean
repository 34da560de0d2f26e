set_option maxHeartbeats 4000000 in
set_option maxRecDepth 100000 in
theorem k1_init (l : Launch) (G : GT) (k : Nat) (hk : isLaw k) : Kc l yX1_init cX1_init 1 { frames := 2, cells := 1, slots := 240, locals := 128 } 1 240 G k [] 1 [.null, .int 0] [k + 1] (fun _ _ => 0) (fun _ => 0) := by
  refine k_start (by decide +kernel) (fun _ => Nat.le_of_ble_eq_true rfl) rfl rfl (fun p e s m args below meth c ls A hAe hL X I hl hO => ?_)
  have hl : lv_has ls 1 [(0, .ref (G.2.1 k))] := hl
  have a0 : G.2.1 (k + 1) = s.heap.size := hL 0 _ rfl
  refine lv_aload_n X.1 X.2.1 dX1_init_0 rfl (lv_at hl 0 rfl) ?_
  refine n_oi X lm_X1_3 hl.1 (Nat.le_of_ble_eq_true rfl) (Nat.le_of_ble_eq_true rfl) dX1_init_1 ?_
  refine lv_aload_n X.1 X.2.1 dX1_init_4 rfl (lv_at hl 0 rfl) ?_
  refine lv_sipush (v := 240) X.1 X.2.1 dX1_init_5 (by decide) ?_
  refine n_newa X I lt_int (N := 240) (a := G.2.1 (k + 1)) (by decide) rfl (by decide) (Nat.le_of_ble_eq_true rfl) (Nat.le_of_ble_eq_true rfl) a0 dX1_init_8 (fun H z I => ?_)
  refine n_putF X I inX1 tyX1 tyX1_ok nmX1 0 rfl rfl 0 (by decide) lf_X1_9 rfl rfl (ty := .array .int) rfl rfl rfl (Nat.le_of_ble_eq_true rfl) dX1_init_10 (fun H2 locs z2 I => ?_)
  have e : nW G [k, k + 1] (fun _ _ => 0) (fun _ => 0) = [(G.2.1 k, .inr (1, [.ref (G.2.1 (k + 1)), .int 0])), (G.2.1 (k + 1), .inl (G.2.2.1 0, 240, .inl (fun _ => 0)))] := by
    unfold nW
    simp only [List.map, cl_1 hk.2.1, cl_arr (n := 240) hk.2.2]
  have hP : va_P G.1 vwCl (nW G [k, k + 1] (fun _ _ => 0) (fun _ => 0)) H2 := by rw [e]; exact I.1
  exact W.vret X.1 X.2.1 X.2.2.1 (fun t ht hW => ⟨⟨(), rfl, trivial, by rw [ht]; exact hP, by rw [ht, z2, z, a0]; rfl⟩, I.2.2.1.F ht⟩) I.2.2.1.2.2 dX1_init_13 X.2.2.2.2.2.2.1
