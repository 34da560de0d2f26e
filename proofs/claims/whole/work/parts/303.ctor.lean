set_option maxHeartbeats 4000000 in
set_option maxRecDepth 100000 in
theorem k0_init (l : Launch) (G : GT) (k : Nat) (h0 : kd k = 0) (h1 : kd (k + 1) = 107) : Kc l yX0_init cX0_init 1 { frames := 2, cells := 1, slots := 7, locals := 128 } 1 7 G k [] 0 [.null, .int 0, .int 0, .int 0, .int 0, .int 0, .int 0, .int 0, .int 0] [(k + 1)] (sp (fun _ _ => 0) k 4 (-1)) (fun _ => 0) := by
  refine k_start (by decide +kernel) (fun _ => Nat.le_of_ble_eq_true rfl) rfl rfl (fun p e s m args below meth c ls A hAe hL X I hl hO => ?_)
  have hl : lv_has ls 1 [(0, .ref (G.2.1 k))] := hl
  have a0 : G.2.1 (k + 1) = s.heap.size + 0 := hL 0 _ rfl
  refine lv_aload_n X.1 X.2.1 dX0_init_0 rfl (lv_at hl 0 rfl) ?_
  refine n_oi X lm_X0_3 hl.1 (Nat.le_of_ble_eq_true rfl) (Nat.le_of_ble_eq_true rfl) dX0_init_1 ?_
  refine lv_aload_n X.1 X.2.1 dX0_init_4 rfl (lv_at hl 0 rfl) ?_
  refine lv_bipush (v := 7) X.1 X.2.1 dX0_init_5 (by decide) ?_
  refine n_newa X I lt_int (N := 7) (a := G.2.1 (k + 1)) (by decide) rfl (by decide) (Nat.le_of_ble_eq_true rfl) (Nat.le_of_ble_eq_true rfl) (by have h := a0; omega) dX0_init_7 (fun H0 z0 I => ?_)
  refine n_putF X I inX0 tyX0 tyX0_ok nmX0 0 rfl rfl 0 (by decide) lf_X0_9 rfl rfl (ty := .array .int) rfl rfl rfl (Nat.le_of_ble_eq_true rfl) dX0_init_9 (fun H1 locs z1 I => ?_)
  refine lv_aload_n X.1 X.2.1 dX0_init_12 rfl (lv_at hl 0 rfl) ?_
  refine lv_iconst (v := (-1)) X.1 X.2.1 dX0_init_13 (by decide) ?_
  refine n_put X I inX0 tyX0 tyX0_ok nmX0 0 rfl rfl 4 (by decide) lf_X0_15 rfl (ty := .int) rfl rfl rfl (Nat.le_of_ble_eq_true rfl) dX0_init_14 (fun H2 locs z2 I => ?_)
  have e : nW G [k, (k + 1)] (sp (fun _ _ => 0) k 4 (-1)) (fun _ => 0) = [(G.2.1 k, .inr (0, [.ref (G.2.1 (k + 1)), .int 0, .int 0, .int 0, .int (-1), .int 0, .int 0, .int 0, .int 0])), (G.2.1 (k + 1), .inl (G.2.2.1 0, 7, .inl (fun _ => 0)))] := by
    unfold nW
    simp only [List.map, cl_0 h0, cl_arr (n := 7) h1]
    simp [sp, su, upd]
  have hP : va_P G.1 vwCl (nW G [k, (k + 1)] (sp (fun _ _ => 0) k 4 (-1)) (fun _ => 0)) H2 := by rw [e]; exact I.1
  exact W.vret X.1 X.2.1 X.2.2.1 (fun t ht hW => ⟨⟨(), rfl, trivial, by rw [ht]; exact hP, by rw [ht]; simp only [List.length]; omega⟩, I.2.2.1.F ht⟩) I.2.2.1.2.2 dX0_init_17 X.2.2.2.2.2.2.1
set_option maxHeartbeats 4000000 in
set_option maxRecDepth 100000 in
theorem k6_init (l : Launch) (G : GT) (k : Nat) (h0 : kd k = 6) (h1 : kd (k + 1) = 107) (h2 : kd (k + 2) = 107) : Kc l yX6_init cX6_init 1 { frames := 2, cells := 2, slots := 14, locals := 128 } 2 14 G k [] 6 [.null, .null, .int 0] [(k + 1), (k + 2)] (fun _ _ => 0) (fun _ => 0) := by
  refine k_start (by decide +kernel) (fun _ => Nat.le_of_ble_eq_true rfl) rfl rfl (fun p e s m args below meth c ls A hAe hL X I hl hO => ?_)
  have hl : lv_has ls 1 [(0, .ref (G.2.1 k))] := hl
  have a0 : G.2.1 (k + 1) = s.heap.size + 0 := hL 0 _ rfl
  have a1 : G.2.1 (k + 2) = s.heap.size + 1 := hL 1 _ rfl
  refine lv_aload_n X.1 X.2.1 dX6_init_0 rfl (lv_at hl 0 rfl) ?_
  refine n_oi X lm_X6_3 hl.1 (Nat.le_of_ble_eq_true rfl) (Nat.le_of_ble_eq_true rfl) dX6_init_1 ?_
  refine lv_aload_n X.1 X.2.1 dX6_init_4 rfl (lv_at hl 0 rfl) ?_
  refine lv_bipush (v := 7) X.1 X.2.1 dX6_init_5 (by decide) ?_
  refine n_newa X I lt_int (N := 7) (a := G.2.1 (k + 1)) (by decide) rfl (by decide) (Nat.le_of_ble_eq_true rfl) (Nat.le_of_ble_eq_true rfl) (by have h := a0; omega) dX6_init_7 (fun H0 z0 I => ?_)
  refine n_putF X I inX6 tyX6 tyX6_ok nmX6 0 rfl rfl 0 (by decide) lf_X6_9 rfl rfl (ty := .array .int) rfl rfl rfl (Nat.le_of_ble_eq_true rfl) dX6_init_9 (fun H1 locs z1 I => ?_)
  refine lv_aload_n X.1 X.2.1 dX6_init_12 rfl (lv_at hl 0 rfl) ?_
  refine lv_bipush (v := 7) X.1 X.2.1 dX6_init_13 (by decide) ?_
  refine n_newa X I lt_int (N := 7) (a := G.2.1 (k + 2)) (by decide) rfl (by decide) (Nat.le_of_ble_eq_true rfl) (Nat.le_of_ble_eq_true rfl) (by have h := a1; have w0 := z0; have w1 := z1; have b0 := a0; omega) dX6_init_15 (fun H2 z2 I => ?_)
  refine n_putF X I inX6 tyX6 tyX6_ok nmX6 0 rfl rfl 1 (by decide) lf_X6_15 rfl rfl (ty := .array .int) rfl rfl rfl (Nat.le_of_ble_eq_true rfl) dX6_init_17 (fun H3 locs z3 I => ?_)
  have e : nW G [k, (k + 1), (k + 2)] (fun _ _ => 0) (fun _ => 0) = [(G.2.1 k, .inr (6, [.ref (G.2.1 (k + 1)), .ref (G.2.1 (k + 2)), .int 0])), (G.2.1 (k + 1), .inl (G.2.2.1 0, 7, .inl (fun _ => 0))), (G.2.1 (k + 2), .inl (G.2.2.1 0, 7, .inl (fun _ => 0)))] := by
    unfold nW
    simp only [List.map, cl_6 h0, cl_arr (n := 7) h1, cl_arr (n := 7) h2]
  have hP : va_P G.1 vwCl (nW G [k, (k + 1), (k + 2)] (fun _ _ => 0) (fun _ => 0)) H3 := by rw [e]; exact I.1
  exact W.vret X.1 X.2.1 X.2.2.1 (fun t ht hW => ⟨⟨(), rfl, trivial, by rw [ht]; exact hP, by rw [ht]; simp only [List.length]; omega⟩, I.2.2.1.F ht⟩) I.2.2.1.2.2 dX6_init_20 X.2.2.2.2.2.2.1
set_option maxHeartbeats 4000000 in
set_option maxRecDepth 100000 in
theorem k7_init (l : Launch) (G : GT) (k : Nat) (h0 : kd k = 7) (h1 : kd (k + 1) = 340) : Kc l yX7_init cX7_init 1 { frames := 2, cells := 1, slots := 240, locals := 128 } 1 240 G k [] 7 [.null, .int 0, .int 0, .int 0] [(k + 1)] (sp (fun _ _ => 0) k 3 (-1)) (fun _ => 0) := by
  refine k_start (by decide +kernel) (fun _ => Nat.le_of_ble_eq_true rfl) rfl rfl (fun p e s m args below meth c ls A hAe hL X I hl hO => ?_)
  have hl : lv_has ls 1 [(0, .ref (G.2.1 k))] := hl
  have a0 : G.2.1 (k + 1) = s.heap.size + 0 := hL 0 _ rfl
  refine lv_aload_n X.1 X.2.1 dX7_init_0 rfl (lv_at hl 0 rfl) ?_
  refine n_oi X lm_X7_3 hl.1 (Nat.le_of_ble_eq_true rfl) (Nat.le_of_ble_eq_true rfl) dX7_init_1 ?_
  refine lv_aload_n X.1 X.2.1 dX7_init_4 rfl (lv_at hl 0 rfl) ?_
  refine lv_sipush (v := 240) X.1 X.2.1 dX7_init_5 (by decide) ?_
  refine n_newa X I lt_int (N := 240) (a := G.2.1 (k + 1)) (by decide) rfl (by decide) (Nat.le_of_ble_eq_true rfl) (Nat.le_of_ble_eq_true rfl) (by have h := a0; omega) dX7_init_8 (fun H0 z0 I => ?_)
  refine n_putF X I inX7 tyX7 tyX7_ok nmX7 0 rfl rfl 0 (by decide) lf_X7_9 rfl rfl (ty := .array .int) rfl rfl rfl (Nat.le_of_ble_eq_true rfl) dX7_init_10 (fun H1 locs z1 I => ?_)
  refine lv_aload_n X.1 X.2.1 dX7_init_13 rfl (lv_at hl 0 rfl) ?_
  refine lv_iconst (v := (-1)) X.1 X.2.1 dX7_init_14 (by decide) ?_
  refine n_put X I inX7 tyX7 tyX7_ok nmX7 0 rfl rfl 3 (by decide) lf_X7_15 rfl (ty := .int) rfl rfl rfl (Nat.le_of_ble_eq_true rfl) dX7_init_15 (fun H2 locs z2 I => ?_)
  have e : nW G [k, (k + 1)] (sp (fun _ _ => 0) k 3 (-1)) (fun _ => 0) = [(G.2.1 k, .inr (7, [.ref (G.2.1 (k + 1)), .int 0, .int 0, .int (-1)])), (G.2.1 (k + 1), .inl (G.2.2.1 0, 240, .inl (fun _ => 0)))] := by
    unfold nW
    simp only [List.map, cl_7 h0, cl_arr (n := 240) h1]
    simp [sp, su, upd]
  have hP : va_P G.1 vwCl (nW G [k, (k + 1)] (sp (fun _ _ => 0) k 3 (-1)) (fun _ => 0)) H2 := by rw [e]; exact I.1
  exact W.vret X.1 X.2.1 X.2.2.1 (fun t ht hW => ⟨⟨(), rfl, trivial, by rw [ht]; exact hP, by rw [ht]; simp only [List.length]; omega⟩, I.2.2.1.F ht⟩) I.2.2.1.2.2 dX7_init_18 X.2.2.2.2.2.2.1
set_option maxHeartbeats 4000000 in
set_option maxRecDepth 100000 in
theorem k8_init (l : Launch) (G : GT) (k : Nat) (h0 : kd k = 8) (h1 : kd (k + 1) = 136) (h2 : kd (k + 2) = 103) : Kc l yX8_init cX8_init 1 { frames := 2, cells := 2, slots := 39, locals := 128 } 2 39 G k [] 8 [.null, .null] [(k + 1), (k + 2)] (fun _ _ => 0) (fun _ => 0) := by
  refine k_start (by decide +kernel) (fun _ => Nat.le_of_ble_eq_true rfl) rfl rfl (fun p e s m args below meth c ls A hAe hL X I hl hO => ?_)
  have hl : lv_has ls 1 [(0, .ref (G.2.1 k))] := hl
  have a0 : G.2.1 (k + 1) = s.heap.size + 0 := hL 0 _ rfl
  have a1 : G.2.1 (k + 2) = s.heap.size + 1 := hL 1 _ rfl
  refine lv_aload_n X.1 X.2.1 dX8_init_0 rfl (lv_at hl 0 rfl) ?_
  refine n_oi X lm_X8_3 hl.1 (Nat.le_of_ble_eq_true rfl) (Nat.le_of_ble_eq_true rfl) dX8_init_1 ?_
  refine lv_aload_n X.1 X.2.1 dX8_init_4 rfl (lv_at hl 0 rfl) ?_
  refine lv_bipush (v := 36) X.1 X.2.1 dX8_init_5 (by decide) ?_
  refine n_newa X I lt_int (N := 36) (a := G.2.1 (k + 1)) (by decide) rfl (by decide) (Nat.le_of_ble_eq_true rfl) (Nat.le_of_ble_eq_true rfl) (by have h := a0; omega) dX8_init_7 (fun H0 z0 I => ?_)
  refine n_putF X I inX8 tyX8 tyX8_ok nmX8 0 rfl rfl 0 (by decide) lf_X8_9 rfl rfl (ty := .array .int) rfl rfl rfl (Nat.le_of_ble_eq_true rfl) dX8_init_9 (fun H1 locs z1 I => ?_)
  refine lv_aload_n X.1 X.2.1 dX8_init_12 rfl (lv_at hl 0 rfl) ?_
  refine lv_iconst (v := 3) X.1 X.2.1 dX8_init_13 (by decide) ?_
  refine n_newa X I lt_int (N := 3) (a := G.2.1 (k + 2)) (by decide) rfl (by decide) (Nat.le_of_ble_eq_true rfl) (Nat.le_of_ble_eq_true rfl) (by have h := a1; have w0 := z0; have w1 := z1; have b0 := a0; omega) dX8_init_14 (fun H2 z2 I => ?_)
  refine n_putF X I inX8 tyX8 tyX8_ok nmX8 0 rfl rfl 1 (by decide) lf_X8_15 rfl rfl (ty := .array .int) rfl rfl rfl (Nat.le_of_ble_eq_true rfl) dX8_init_16 (fun H3 locs z3 I => ?_)
  have e : nW G [k, (k + 1), (k + 2)] (fun _ _ => 0) (fun _ => 0) = [(G.2.1 k, .inr (8, [.ref (G.2.1 (k + 1)), .ref (G.2.1 (k + 2))])), (G.2.1 (k + 1), .inl (G.2.2.1 0, 36, .inl (fun _ => 0))), (G.2.1 (k + 2), .inl (G.2.2.1 0, 3, .inl (fun _ => 0)))] := by
    unfold nW
    simp only [List.map, cl_8 h0, cl_arr (n := 36) h1, cl_arr (n := 3) h2]
  have hP : va_P G.1 vwCl (nW G [k, (k + 1), (k + 2)] (fun _ _ => 0) (fun _ => 0)) H3 := by rw [e]; exact I.1
  exact W.vret X.1 X.2.1 X.2.2.1 (fun t ht hW => ⟨⟨(), rfl, trivial, by rw [ht]; exact hP, by rw [ht]; simp only [List.length]; omega⟩, I.2.2.1.F ht⟩) I.2.2.1.2.2 dX8_init_19 X.2.2.2.2.2.2.1
set_option maxHeartbeats 4000000 in
set_option maxRecDepth 100000 in
theorem k10_init (l : Launch) (G : GT) (k : Nat) (h0 : kd k = 10) (h1 : kd (k + 1) = 130) (h2 : kd (k + 2) = 130) : Kc l yX10_init cX10_init 1 { frames := 2, cells := 2, slots := 60, locals := 128 } 2 60 G k [] 10 [.null, .null, .int 0, .int 0] [(k + 1), (k + 2)] (fun _ _ => 0) (fun _ => 0) := by
  refine k_start (by decide +kernel) (fun _ => Nat.le_of_ble_eq_true rfl) rfl rfl (fun p e s m args below meth c ls A hAe hL X I hl hO => ?_)
  have hl : lv_has ls 1 [(0, .ref (G.2.1 k))] := hl
  have a0 : G.2.1 (k + 1) = s.heap.size + 0 := hL 0 _ rfl
  have a1 : G.2.1 (k + 2) = s.heap.size + 1 := hL 1 _ rfl
  refine lv_aload_n X.1 X.2.1 dX10_init_0 rfl (lv_at hl 0 rfl) ?_
  refine n_oi X lm_X10_3 hl.1 (Nat.le_of_ble_eq_true rfl) (Nat.le_of_ble_eq_true rfl) dX10_init_1 ?_
  refine lv_aload_n X.1 X.2.1 dX10_init_4 rfl (lv_at hl 0 rfl) ?_
  refine lv_bipush (v := 30) X.1 X.2.1 dX10_init_5 (by decide) ?_
  refine n_newa X I lt_int (N := 30) (a := G.2.1 (k + 1)) (by decide) rfl (by decide) (Nat.le_of_ble_eq_true rfl) (Nat.le_of_ble_eq_true rfl) (by have h := a0; omega) dX10_init_7 (fun H0 z0 I => ?_)
  refine n_putF X I inX10 tyX10 tyX10_ok nmX10 0 rfl rfl 0 (by decide) lf_X10_11 rfl rfl (ty := .array .int) rfl rfl rfl (Nat.le_of_ble_eq_true rfl) dX10_init_9 (fun H1 locs z1 I => ?_)
  refine lv_aload_n X.1 X.2.1 dX10_init_12 rfl (lv_at hl 0 rfl) ?_
  refine lv_bipush (v := 30) X.1 X.2.1 dX10_init_13 (by decide) ?_
  refine n_newa X I lt_int (N := 30) (a := G.2.1 (k + 2)) (by decide) rfl (by decide) (Nat.le_of_ble_eq_true rfl) (Nat.le_of_ble_eq_true rfl) (by have h := a1; have w0 := z0; have w1 := z1; have b0 := a0; omega) dX10_init_15 (fun H2 z2 I => ?_)
  refine n_putF X I inX10 tyX10 tyX10_ok nmX10 0 rfl rfl 1 (by decide) lf_X10_15 rfl rfl (ty := .array .int) rfl rfl rfl (Nat.le_of_ble_eq_true rfl) dX10_init_17 (fun H3 locs z3 I => ?_)
  have e : nW G [k, (k + 1), (k + 2)] (fun _ _ => 0) (fun _ => 0) = [(G.2.1 k, .inr (10, [.ref (G.2.1 (k + 1)), .ref (G.2.1 (k + 2)), .int 0, .int 0])), (G.2.1 (k + 1), .inl (G.2.2.1 0, 30, .inl (fun _ => 0))), (G.2.1 (k + 2), .inl (G.2.2.1 0, 30, .inl (fun _ => 0)))] := by
    unfold nW
    simp only [List.map, cl_10 h0, cl_arr (n := 30) h1, cl_arr (n := 30) h2]
  have hP : va_P G.1 vwCl (nW G [k, (k + 1), (k + 2)] (fun _ _ => 0) (fun _ => 0)) H3 := by rw [e]; exact I.1
  exact W.vret X.1 X.2.1 X.2.2.1 (fun t ht hW => ⟨⟨(), rfl, trivial, by rw [ht]; exact hP, by rw [ht]; simp only [List.length]; omega⟩, I.2.2.1.F ht⟩) I.2.2.1.2.2 dX10_init_20 X.2.2.2.2.2.2.1
