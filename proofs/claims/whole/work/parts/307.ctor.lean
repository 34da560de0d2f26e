def LL11 : List Nat := [1, 2, 3, 4, 5, 6, 7, 8, 9, 10, 11, 12, 13, 14, 16, 17, 18, 19, 20, 21, 22, 23, 15, 24, 25, 26, 27, 43, 44, 45, 46, 47, 48, 49, 50, 51, 52, 53, 54, 55, 56, 57, 58, 59, 60, 61, 62, 63, 64, 65, 66, 67, 68, 69, 70, 71, 72, 73, 74, 75, 76, 77, 78, 79, 80, 81, 82, 83, 84, 85, 86, 87, 88, 89, 90, 91, 92, 93, 94, 95, 96, 97, 98, 99, 100, 101, 102, 103, 104, 105, 106, 107, 108, 109, 110, 111, 112, 113, 114, 115, 116, 117, 118, 119, 120, 121, 122, 28, 29, 30, 31, 32, 33, 34, 35, 36, 37, 38, 39, 40, 41, 42]
set_option maxHeartbeats 4000000 in
set_option maxRecDepth 100000 in
theorem q11_init (l : Launch) (G : GT) : Kc l yX11_init cX11_init 1 { frames := 4, cells := 122, slots := 3286, locals := 384 } 122 3286 G 0 [] 11 [.null, .null, .null, .null, .null, .null, .null, .null, .null, .null, .null, .null, .null, .null, .int 0, .long 0] [1, 2, 3, 4, 5, 6, 7, 8, 9, 10, 11, 12, 13, 14, 16, 17, 18, 19, 20, 21, 22, 23, 15, 24, 25, 26, 27, 43, 44, 45, 46, 47, 48, 49, 50, 51, 52, 53, 54, 55, 56, 57, 58, 59, 60, 61, 62, 63, 64, 65, 66, 67, 68, 69, 70, 71, 72, 73, 74, 75, 76, 77, 78, 79, 80, 81, 82, 83, 84, 85, 86, 87, 88, 89, 90, 91, 92, 93, 94, 95, 96, 97, 98, 99, 100, 101, 102, 103, 104, 105, 106, 107, 108, 109, 110, 111, 112, 113, 114, 115, 116, 117, 118, 119, 120, 121, 122, 28, 29, 30, 31, 32, 33, 34, 35, 36, 37, 38, 39, 40, 41, 42] sI t0 := by
  refine k_start (by decide +kernel) (fun _ => Nat.le_of_ble_eq_true rfl) rfl rfl (fun p e s m args below meth c ls A hAe hL X I hl hO => ?_)
  have hl : lv_has ls 1 [(0, .ref (G.2.1 0))] := hl
  have z : s.heap.size = s.heap.size + 0 := rfl
  obtain ⟨f0, e0⟩ : ∃ f : List Value, f = [.null, .null, .null, .null, .null, .null, .null, .null, .null, .null, .null, .null, .null, .null, .int 0, .long 0] := ⟨_, rfl⟩
  have l0 : f0.length = 16 := by rw [e0]; rfl
  replace I : IN G A s s.heap [] ((G.2.1 0, .inr (11, f0)) :: nW G [] sI t0) := by rw [e0]; exact I
  refine lv_aload_n X.1 X.2.1 dX11_init_0 rfl (lv_at hl 0 rfl) ?_
  refine n_oi X lm_X11_3 hl.1 (Nat.le_of_ble_eq_true rfl) (Nat.le_of_ble_eq_true rfl) dX11_init_1 ?_
  refine lv_aload_n X.1 X.2.1 dX11_init_4 rfl (lv_at hl 0 rfl) ?_
  refine n_obj X (a := G.2.1 1) I inX7 tyX7 tyX7_ok lk_X11_9 la_X7 ln_X7 (ci := 7) rfl (fs := [.null, .int 0, .int 0, .int 0]) (fun j hj => by rcases (show j = 0 ∨ j = 1 ∨ j = 2 ∨ j = 3 by omega) with rfl | rfl | rfl | rfl <;> rfl) (Nat.le_of_ble_eq_true rfl) (Nat.le_of_ble_eq_true rfl) ((hL 0 _ rfl).trans z.symm) dX11_init_5 (fun H z1 I => ?_)
  replace z : H.size = s.heap.size + 1 := by rw [z1, hL 0 _ rfl]
  clear z1
  refine lv_dup X.1 X.2.1 dX11_init_8 rfl ?_
  refine n_call X hO (ws0 := _ :: nW G [] sI t0) I (q7_init l G 1 rfl rfl) (fun i q h => (hL (1 + i) q (lsub (L := LL11) (M := [2]) 1 (by decide) i q h)).trans (by rw [z]; omega)) pk_X7_init li_X7_init rfl lm_X11_11 rfl hl.1 rfl (Nat.le_of_ble_eq_true rfl) dX11_init_9 ⟨Nat.le_of_ble_eq_true rfl, Nat.le_of_ble_eq_true rfl⟩ ⟨rfl, rfl⟩ ⟨Nat.le_of_ble_eq_true rfl, Nat.le_of_ble_eq_true rfl⟩ (fun H1 locs1 z1 I => ?_)
  replace I := IN_cg (show (_ :: nW G _ sI t0) ++ nW G _ sI t0 = _ :: nW G ([] ++ [1, 2]) sI t0 from by rw [← nW_app]; rfl) I
  replace z : H1.size = s.heap.size + 2 := by rw [z1, z]; rfl
  clear z1
  refine s_putF X I inX11 tyX11 tyX11_ok nmX11 rfl l0 0 (by decide) lf_X11_12 rfl rfl (ty := .object "SaintCarried$Tape") rfl rfl rfl dX11_init_12 (fun H1 locs f1 z1 e1 l1 I => ?_)
  replace z := z1.trans z
  clear z1
  replace e1 : f1 = [.ref (G.2.1 1), .null, .null, .null, .null, .null, .null, .null, .null, .null, .null, .null, .null, .null, .int 0, .long 0] := by rw [e1, e0]; rfl
  refine lv_aload_n X.1 X.2.1 dX11_init_15 rfl (lv_at hl 0 rfl) ?_
  refine n_obj X (a := G.2.1 3) I inX9 tyX9 tyX9_ok lk_X11_16 la_X9 ln_X9 (ci := 9) rfl (fs := [.null, .null]) (fun j hj => by rcases (show j = 0 ∨ j = 1 by omega) with rfl | rfl <;> rfl) (Nat.le_of_ble_eq_true rfl) (Nat.le_of_ble_eq_true rfl) ((hL 2 _ rfl).trans z.symm) dX11_init_16 (fun H z1 I => ?_)
  replace z : H.size = s.heap.size + 3 := by rw [z1, hL 2 _ rfl]
  clear z1
  refine lv_dup X.1 X.2.1 dX11_init_19 rfl ?_
  refine lv_aload_n X.1 X.2.1 dX11_init_20 rfl (lv_at hl 0 rfl) ?_
  refine n_get X I 0 rfl rfl inX11 0 (by decide) lf_X11_12 (v := .ref (G.2.1 1)) (by rw [e1]; rfl) dX11_init_21 ?_
  refine n_call X hO (ws0 := _ :: nW G ([] ++ [1, 2]) sI t0) I (q9_init l G) (fun i q h => (hL (3 + i) q (lsub (L := LL11) (M := [4, 5, 6]) 3 (by decide) i q h)).trans (by rw [z]; omega)) pk_X9_init li_X9_init rfl lm_X11_18 rfl hl.1 rfl (Nat.le_of_ble_eq_true rfl) dX11_init_24 ⟨Nat.le_of_ble_eq_true rfl, Nat.le_of_ble_eq_true rfl⟩ ⟨rfl, rfl⟩ ⟨Nat.le_of_ble_eq_true rfl, Nat.le_of_ble_eq_true rfl⟩ (fun H1 locs1 z1 I => ?_)
  replace I := IN_cg (show (_ :: nW G _ sI t0) ++ nW G _ sI t0 = _ :: nW G (([] ++ [1, 2]) ++ [3, 4, 5, 6]) sI t0 from by rw [← nW_app]; rfl) I
  replace z : H1.size = s.heap.size + 6 := by rw [z1, z]; rfl
  clear z1
  refine s_putF X I inX11 tyX11 tyX11_ok nmX11 rfl l1 1 (by decide) lf_X11_21 rfl rfl (ty := .object "SaintCarried$TownReader") rfl rfl rfl dX11_init_27 (fun H1 locs f2 z1 e2 l2 I => ?_)
  replace z := z1.trans z
  clear z1
  replace e2 : f2 = [.ref (G.2.1 1), .ref (G.2.1 3), .null, .null, .null, .null, .null, .null, .null, .null, .null, .null, .null, .null, .int 0, .long 0] := by rw [e2, e1]; rfl
  refine lv_aload_n X.1 X.2.1 dX11_init_30 rfl (lv_at hl 0 rfl) ?_
  refine n_obj X (a := G.2.1 7) I inX3 tyX3 tyX3_ok lk_X11_25 la_X3 ln_X3 (ci := 3) rfl (fs := [.null, .null]) (fun j hj => by rcases (show j = 0 ∨ j = 1 by omega) with rfl | rfl <;> rfl) (Nat.le_of_ble_eq_true rfl) (Nat.le_of_ble_eq_true rfl) ((hL 6 _ rfl).trans z.symm) dX11_init_31 (fun H z1 I => ?_)
  replace z : H.size = s.heap.size + 7 := by rw [z1, hL 6 _ rfl]
  clear z1
  refine lv_dup X.1 X.2.1 dX11_init_34 rfl ?_
  refine lv_aload_n X.1 X.2.1 dX11_init_35 rfl (lv_at hl 0 rfl) ?_
  refine n_get X I 0 rfl rfl inX11 0 (by decide) lf_X11_12 (v := .ref (G.2.1 1)) (by rw [e2]; rfl) dX11_init_36 ?_
  refine n_call X hO (ws0 := _ :: nW G (([] ++ [1, 2]) ++ [3, 4, 5, 6]) sI t0) I (q3_init l G) (fun i q h => (hL (7 + i) q (lsub (L := LL11) (M := [8, 9]) 7 (by decide) i q h)).trans (by rw [z]; omega)) pk_X3_init li_X3_init rfl lm_X11_27 rfl hl.1 rfl (Nat.le_of_ble_eq_true rfl) dX11_init_39 ⟨Nat.le_of_ble_eq_true rfl, Nat.le_of_ble_eq_true rfl⟩ ⟨rfl, rfl⟩ ⟨Nat.le_of_ble_eq_true rfl, Nat.le_of_ble_eq_true rfl⟩ (fun H1 locs1 z1 I => ?_)
  replace I := IN_cg (show (_ :: nW G _ sI t0) ++ nW G _ sI t0 = _ :: nW G ((([] ++ [1, 2]) ++ [3, 4, 5, 6]) ++ [7, 8, 9]) sI t0 from by rw [← nW_app]; rfl) I
  replace z : H1.size = s.heap.size + 9 := by rw [z1, z]; rfl
  clear z1
  refine s_putF X I inX11 tyX11 tyX11_ok nmX11 rfl l2 2 (by decide) lf_X11_28 rfl rfl (ty := .object "SaintCarried$LawReader") rfl rfl rfl dX11_init_42 (fun H1 locs f3 z1 e3 l3 I => ?_)
  replace z := z1.trans z
  clear z1
  replace e3 : f3 = [.ref (G.2.1 1), .ref (G.2.1 3), .ref (G.2.1 7), .null, .null, .null, .null, .null, .null, .null, .null, .null, .null, .null, .int 0, .long 0] := by rw [e3, e2]; rfl
  refine lv_aload_n X.1 X.2.1 dX11_init_45 rfl (lv_at hl 0 rfl) ?_
  refine n_obj X (a := G.2.1 10) I inX8 tyX8 tyX8_ok lk_X11_32 la_X8 ln_X8 (ci := 8) rfl (fs := [.null, .null]) (fun j hj => by rcases (show j = 0 ∨ j = 1 by omega) with rfl | rfl <;> rfl) (Nat.le_of_ble_eq_true rfl) (Nat.le_of_ble_eq_true rfl) ((hL 9 _ rfl).trans z.symm) dX11_init_46 (fun H z1 I => ?_)
  replace z : H.size = s.heap.size + 10 := by rw [z1, hL 9 _ rfl]
  clear z1
  refine lv_dup X.1 X.2.1 dX11_init_49 rfl ?_
  refine n_call X hO (ws0 := _ :: nW G ((([] ++ [1, 2]) ++ [3, 4, 5, 6]) ++ [7, 8, 9]) sI t0) I (q8_init l G 10 rfl rfl rfl) (fun i q h => (hL (10 + i) q (lsub (L := LL11) (M := [11, 12]) 10 (by decide) i q h)).trans (by rw [z]; omega)) pk_X8_init li_X8_init rfl lm_X11_34 rfl hl.1 rfl (Nat.le_of_ble_eq_true rfl) dX11_init_50 ⟨Nat.le_of_ble_eq_true rfl, Nat.le_of_ble_eq_true rfl⟩ ⟨rfl, rfl⟩ ⟨Nat.le_of_ble_eq_true rfl, Nat.le_of_ble_eq_true rfl⟩ (fun H1 locs1 z1 I => ?_)
  replace I := IN_cg (show (_ :: nW G _ sI t0) ++ nW G _ sI t0 = _ :: nW G (((([] ++ [1, 2]) ++ [3, 4, 5, 6]) ++ [7, 8, 9]) ++ [10, 11, 12]) sI t0 from by rw [← nW_app]; rfl) I
  replace z : H1.size = s.heap.size + 12 := by rw [z1, z]; rfl
  clear z1
  refine s_putF X I inX11 tyX11 tyX11_ok nmX11 rfl l3 3 (by decide) lf_X11_35 rfl rfl (ty := .object "SaintCarried$Town") rfl rfl rfl dX11_init_53 (fun H1 locs f4 z1 e4 l4 I => ?_)
  replace z := z1.trans z
  clear z1
  replace e4 : f4 = [.ref (G.2.1 1), .ref (G.2.1 3), .ref (G.2.1 7), .ref (G.2.1 10), .null, .null, .null, .null, .null, .null, .null, .null, .null, .null, .int 0, .long 0] := by rw [e4, e3]; rfl
  refine lv_aload_n X.1 X.2.1 dX11_init_56 rfl (lv_at hl 0 rfl) ?_
  refine n_obj X (a := G.2.1 13) I inX2 tyX2 tyX2_ok lk_X11_39 la_X2 ln_X2 (ci := 2) rfl (fs := [.null, .null, .int 0, .int 0, .int 0, .int 0, .int 0, .int 0, .int 0, .int 0, .int 0]) (fun j hj => by rcases (show j = 0 ∨ j = 1 ∨ j = 2 ∨ j = 3 ∨ j = 4 ∨ j = 5 ∨ j = 6 ∨ j = 7 ∨ j = 8 ∨ j = 9 ∨ j = 10 by omega) with rfl | rfl | rfl | rfl | rfl | rfl | rfl | rfl | rfl | rfl | rfl <;> rfl) (Nat.le_of_ble_eq_true rfl) (Nat.le_of_ble_eq_true rfl) ((hL 12 _ rfl).trans z.symm) dX11_init_57 (fun H z1 I => ?_)
  replace z : H.size = s.heap.size + 13 := by rw [z1, hL 12 _ rfl]
  clear z1
  refine lv_dup X.1 X.2.1 dX11_init_60 rfl ?_
  refine n_call X hO (ws0 := _ :: nW G (((([] ++ [1, 2]) ++ [3, 4, 5, 6]) ++ [7, 8, 9]) ++ [10, 11, 12]) sI t0) I (q2_init l G) (fun i q h => (hL (13 + i) q (lsub (L := LL11) (M := [14, 16, 17, 18, 19, 20, 21, 22, 23, 15]) 13 (by decide) i q h)).trans (by rw [z]; omega)) pk_X2_init li_X2_init rfl lm_X11_41 rfl hl.1 rfl (Nat.le_of_ble_eq_true rfl) dX11_init_61 ⟨Nat.le_of_ble_eq_true rfl, Nat.le_of_ble_eq_true rfl⟩ ⟨rfl, rfl⟩ ⟨Nat.le_of_ble_eq_true rfl, Nat.le_of_ble_eq_true rfl⟩ (fun H1 locs1 z1 I => ?_)
  replace I := IN_cg (show (_ :: nW G _ sI t0) ++ nW G _ sI t0 = _ :: nW G ((((([] ++ [1, 2]) ++ [3, 4, 5, 6]) ++ [7, 8, 9]) ++ [10, 11, 12]) ++ [13, 14, 16, 17, 18, 19, 20, 21, 22, 23, 15]) sI t0 from by rw [← nW_app]; rfl) I
  replace z : H1.size = s.heap.size + 23 := by rw [z1, z]; rfl
  clear z1
  refine s_putF X I inX11 tyX11 tyX11_ok nmX11 rfl l4 4 (by decide) lf_X11_42 rfl rfl (ty := .object "SaintCarried$LawBook") rfl rfl rfl dX11_init_64 (fun H1 locs f5 z1 e5 l5 I => ?_)
  replace z := z1.trans z
  clear z1
  replace e5 : f5 = [.ref (G.2.1 1), .ref (G.2.1 3), .ref (G.2.1 7), .ref (G.2.1 10), .ref (G.2.1 13), .null, .null, .null, .null, .null, .null, .null, .null, .null, .int 0, .long 0] := by rw [e5, e4]; rfl
  refine lv_aload_n X.1 X.2.1 dX11_init_67 rfl (lv_at hl 0 rfl) ?_
  refine n_obj X (a := G.2.1 24) I inX0 tyX0 tyX0_ok lk_X11_46 la_X0 ln_X0 (ci := 0) rfl (fs := [.null, .int 0, .int 0, .int 0, .int 0, .int 0, .int 0, .int 0, .int 0]) (fun j hj => by rcases (show j = 0 ∨ j = 1 ∨ j = 2 ∨ j = 3 ∨ j = 4 ∨ j = 5 ∨ j = 6 ∨ j = 7 ∨ j = 8 by omega) with rfl | rfl | rfl | rfl | rfl | rfl | rfl | rfl | rfl <;> rfl) (Nat.le_of_ble_eq_true rfl) (Nat.le_of_ble_eq_true rfl) ((hL 23 _ rfl).trans z.symm) dX11_init_68 (fun H z1 I => ?_)
  replace z : H.size = s.heap.size + 24 := by rw [z1, hL 23 _ rfl]
  clear z1
  refine lv_dup X.1 X.2.1 dX11_init_71 rfl ?_
  refine n_call X hO (ws0 := _ :: nW G ((((([] ++ [1, 2]) ++ [3, 4, 5, 6]) ++ [7, 8, 9]) ++ [10, 11, 12]) ++ [13, 14, 16, 17, 18, 19, 20, 21, 22, 23, 15]) sI t0) I (q0_init l G 24 rfl rfl) (fun i q h => (hL (24 + i) q (lsub (L := LL11) (M := [25]) 24 (by decide) i q h)).trans (by rw [z]; omega)) pk_X0_init li_X0_init rfl lm_X11_48 rfl hl.1 rfl (Nat.le_of_ble_eq_true rfl) dX11_init_72 ⟨Nat.le_of_ble_eq_true rfl, Nat.le_of_ble_eq_true rfl⟩ ⟨rfl, rfl⟩ ⟨Nat.le_of_ble_eq_true rfl, Nat.le_of_ble_eq_true rfl⟩ (fun H1 locs1 z1 I => ?_)
  replace I := IN_cg (show (_ :: nW G _ sI t0) ++ nW G _ sI t0 = _ :: nW G (((((([] ++ [1, 2]) ++ [3, 4, 5, 6]) ++ [7, 8, 9]) ++ [10, 11, 12]) ++ [13, 14, 16, 17, 18, 19, 20, 21, 22, 23, 15]) ++ [24, 25]) sI t0 from by rw [← nW_app]; rfl) I
  replace z : H1.size = s.heap.size + 25 := by rw [z1, z]; rfl
  clear z1
  refine s_putF X I inX11 tyX11 tyX11_ok nmX11 rfl l5 5 (by decide) lf_X11_49 rfl rfl (ty := .object "SaintCarried$Day") rfl rfl rfl dX11_init_75 (fun H1 locs f6 z1 e6 l6 I => ?_)
  replace z := z1.trans z
  clear z1
  replace e6 : f6 = [.ref (G.2.1 1), .ref (G.2.1 3), .ref (G.2.1 7), .ref (G.2.1 10), .ref (G.2.1 13), .ref (G.2.1 24), .null, .null, .null, .null, .null, .null, .null, .null, .int 0, .long 0] := by rw [e6, e5]; rfl
  refine lv_aload_n X.1 X.2.1 dX11_init_78 rfl (lv_at hl 0 rfl) ?_
  refine n_obj X (a := G.2.1 26) I inX5 tyX5 tyX5_ok lk_X11_53 la_X5 ln_X5 (ci := 5) rfl (fs := [.null, .null, .null, .null, .int 0, .int 0, .int 0]) (fun j hj => by rcases (show j = 0 ∨ j = 1 ∨ j = 2 ∨ j = 3 ∨ j = 4 ∨ j = 5 ∨ j = 6 by omega) with rfl | rfl | rfl | rfl | rfl | rfl | rfl <;> rfl) (Nat.le_of_ble_eq_true rfl) (Nat.le_of_ble_eq_true rfl) ((hL 25 _ rfl).trans z.symm) dX11_init_79 (fun H z1 I => ?_)
  replace z : H.size = s.heap.size + 26 := by rw [z1, hL 25 _ rfl]
  clear z1
  refine lv_dup X.1 X.2.1 dX11_init_82 rfl ?_
  refine n_call X hO (ws0 := _ :: nW G (((((([] ++ [1, 2]) ++ [3, 4, 5, 6]) ++ [7, 8, 9]) ++ [10, 11, 12]) ++ [13, 14, 16, 17, 18, 19, 20, 21, 22, 23, 15]) ++ [24, 25]) sI t0) I (q5_init l G) (fun i q h => (hL (26 + i) q (lsub (L := LL11) (M := [27, 43, 44, 45, 46, 47, 48, 49, 50, 51, 52, 53, 54, 55, 56, 57, 58, 59, 60, 61, 62, 63, 64, 65, 66, 67, 68, 69, 70, 71, 72, 73, 74, 75, 76, 77, 78, 79, 80, 81, 82, 83, 84, 85, 86, 87, 88, 89, 90, 91, 92, 93, 94, 95, 96, 97, 98, 99, 100, 101, 102, 103, 104, 105, 106, 107, 108, 109, 110, 111, 112, 113, 114, 115, 116, 117, 118, 119, 120, 121, 122, 28, 29, 30, 31]) 26 (by decide) i q h)).trans (by rw [z]; omega)) pk_X5_init li_X5_init rfl lm_X11_55 rfl hl.1 rfl (Nat.le_of_ble_eq_true rfl) dX11_init_83 ⟨Nat.le_of_ble_eq_true rfl, Nat.le_of_ble_eq_true rfl⟩ ⟨rfl, rfl⟩ ⟨Nat.le_of_ble_eq_true rfl, Nat.le_of_ble_eq_true rfl⟩ (fun H1 locs1 z1 I => ?_)
  replace I := IN_cg (show (_ :: nW G _ sI t0) ++ nW G _ sI t0 = _ :: nW G ((((((([] ++ [1, 2]) ++ [3, 4, 5, 6]) ++ [7, 8, 9]) ++ [10, 11, 12]) ++ [13, 14, 16, 17, 18, 19, 20, 21, 22, 23, 15]) ++ [24, 25]) ++ [26, 27, 43, 44, 45, 46, 47, 48, 49, 50, 51, 52, 53, 54, 55, 56, 57, 58, 59, 60, 61, 62, 63, 64, 65, 66, 67, 68, 69, 70, 71, 72, 73, 74, 75, 76, 77, 78, 79, 80, 81, 82, 83, 84, 85, 86, 87, 88, 89, 90, 91, 92, 93, 94, 95, 96, 97, 98, 99, 100, 101, 102, 103, 104, 105, 106, 107, 108, 109, 110, 111, 112, 113, 114, 115, 116, 117, 118, 119, 120, 121, 122, 28, 29, 30, 31]) sI t0 from by rw [← nW_app]; rfl) I
  replace z : H1.size = s.heap.size + 111 := by rw [z1, z]; rfl
  clear z1
  refine s_putF X I inX11 tyX11 tyX11_ok nmX11 rfl l6 6 (by decide) lf_X11_56 rfl rfl (ty := .object "SaintCarried$Past") rfl rfl rfl dX11_init_86 (fun H1 locs f7 z1 e7 l7 I => ?_)
  replace z := z1.trans z
  clear z1
  replace e7 : f7 = [.ref (G.2.1 1), .ref (G.2.1 3), .ref (G.2.1 7), .ref (G.2.1 10), .ref (G.2.1 13), .ref (G.2.1 24), .ref (G.2.1 26), .null, .null, .null, .null, .null, .null, .null, .int 0, .long 0] := by rw [e7, e6]; rfl
  refine lv_aload_n X.1 X.2.1 dX11_init_89 rfl (lv_at hl 0 rfl) ?_
  refine n_obj X (a := G.2.1 32) I inX4 tyX4 tyX4_ok lk_X11_60 la_X4 ln_X4 (ci := 4) rfl (fs := [.null, .null, .null, .int 0, .int 0, .int 0, .int 0, .int 0, .int 0, .int 0, .int 0, .int 0, .int 0]) (fun j hj => by rcases (show j = 0 ∨ j = 1 ∨ j = 2 ∨ j = 3 ∨ j = 4 ∨ j = 5 ∨ j = 6 ∨ j = 7 ∨ j = 8 ∨ j = 9 ∨ j = 10 ∨ j = 11 ∨ j = 12 by omega) with rfl | rfl | rfl | rfl | rfl | rfl | rfl | rfl | rfl | rfl | rfl | rfl | rfl <;> rfl) (Nat.le_of_ble_eq_true rfl) (Nat.le_of_ble_eq_true rfl) ((hL 111 _ rfl).trans z.symm) dX11_init_90 (fun H z1 I => ?_)
  replace z : H.size = s.heap.size + 112 := by rw [z1, hL 111 _ rfl]
  clear z1
  refine lv_dup X.1 X.2.1 dX11_init_93 rfl ?_
  refine lv_aload_n X.1 X.2.1 dX11_init_94 rfl (lv_at hl 0 rfl) ?_
  refine n_get X I 0 rfl rfl inX11 3 (by decide) lf_X11_35 (v := .ref (G.2.1 10)) (by rw [e7]; rfl) dX11_init_95 ?_
  refine lv_aload_n X.1 X.2.1 dX11_init_98 rfl (lv_at hl 0 rfl) ?_
  refine n_get X I 0 rfl rfl inX11 4 (by decide) lf_X11_42 (v := .ref (G.2.1 13)) (by rw [e7]; rfl) dX11_init_99 ?_
  refine lv_aload_n X.1 X.2.1 dX11_init_102 rfl (lv_at hl 0 rfl) ?_
  refine n_get X I 0 rfl rfl inX11 5 (by decide) lf_X11_49 (v := .ref (G.2.1 24)) (by rw [e7]; rfl) dX11_init_103 ?_
  refine n_call X hO (ws0 := _ :: nW G ((((((([] ++ [1, 2]) ++ [3, 4, 5, 6]) ++ [7, 8, 9]) ++ [10, 11, 12]) ++ [13, 14, 16, 17, 18, 19, 20, 21, 22, 23, 15]) ++ [24, 25]) ++ [26, 27, 43, 44, 45, 46, 47, 48, 49, 50, 51, 52, 53, 54, 55, 56, 57, 58, 59, 60, 61, 62, 63, 64, 65, 66, 67, 68, 69, 70, 71, 72, 73, 74, 75, 76, 77, 78, 79, 80, 81, 82, 83, 84, 85, 86, 87, 88, 89, 90, 91, 92, 93, 94, 95, 96, 97, 98, 99, 100, 101, 102, 103, 104, 105, 106, 107, 108, 109, 110, 111, 112, 113, 114, 115, 116, 117, 118, 119, 120, 121, 122, 28, 29, 30, 31]) sI t0) I (q4_init l G) (fun i q h => (hL (112 + i) q (lsub (L := LL11) (M := []) 112 (by decide) i q h)).trans (by rw [z]; omega)) pk_X4_init li_X4_init rfl lm_X11_62 rfl hl.1 rfl (Nat.le_of_ble_eq_true rfl) dX11_init_106 ⟨Nat.le_of_ble_eq_true rfl, Nat.le_of_ble_eq_true rfl⟩ ⟨rfl, rfl⟩ ⟨Nat.le_of_ble_eq_true rfl, Nat.le_of_ble_eq_true rfl⟩ (fun H1 locs1 z1 I => ?_)
  replace I := IN_cg (show (_ :: nW G _ sI t0) ++ nW G _ sI t0 = _ :: nW G (((((((([] ++ [1, 2]) ++ [3, 4, 5, 6]) ++ [7, 8, 9]) ++ [10, 11, 12]) ++ [13, 14, 16, 17, 18, 19, 20, 21, 22, 23, 15]) ++ [24, 25]) ++ [26, 27, 43, 44, 45, 46, 47, 48, 49, 50, 51, 52, 53, 54, 55, 56, 57, 58, 59, 60, 61, 62, 63, 64, 65, 66, 67, 68, 69, 70, 71, 72, 73, 74, 75, 76, 77, 78, 79, 80, 81, 82, 83, 84, 85, 86, 87, 88, 89, 90, 91, 92, 93, 94, 95, 96, 97, 98, 99, 100, 101, 102, 103, 104, 105, 106, 107, 108, 109, 110, 111, 112, 113, 114, 115, 116, 117, 118, 119, 120, 121, 122, 28, 29, 30, 31]) ++ [32]) sI t0 from by rw [← nW_app]; rfl) I
  replace z : H1.size = s.heap.size + 112 := by rw [z1, z]; rfl
  clear z1
  refine s_putF X I inX11 tyX11 tyX11_ok nmX11 rfl l7 7 (by decide) lf_X11_65 rfl rfl (ty := .object "SaintCarried$Litter") rfl rfl rfl dX11_init_109 (fun H1 locs f8 z1 e8 l8 I => ?_)
  replace z := z1.trans z
  clear z1
  replace e8 : f8 = [.ref (G.2.1 1), .ref (G.2.1 3), .ref (G.2.1 7), .ref (G.2.1 10), .ref (G.2.1 13), .ref (G.2.1 24), .ref (G.2.1 26), .ref (G.2.1 32), .null, .null, .null, .null, .null, .null, .int 0, .long 0] := by rw [e8, e7]; rfl
  refine lv_aload_n X.1 X.2.1 dX11_init_112 rfl (lv_at hl 0 rfl) ?_
  refine n_obj X (a := G.2.1 33) I inX10 tyX10 tyX10_ok lk_X11_69 la_X10 ln_X10 (ci := 10) rfl (fs := [.null, .null, .int 0, .int 0]) (fun j hj => by rcases (show j = 0 ∨ j = 1 ∨ j = 2 ∨ j = 3 by omega) with rfl | rfl | rfl | rfl <;> rfl) (Nat.le_of_ble_eq_true rfl) (Nat.le_of_ble_eq_true rfl) ((hL 112 _ rfl).trans z.symm) dX11_init_113 (fun H z1 I => ?_)
  replace z : H.size = s.heap.size + 113 := by rw [z1, hL 112 _ rfl]
  clear z1
  refine lv_dup X.1 X.2.1 dX11_init_116 rfl ?_
  refine n_call X hO (ws0 := _ :: nW G (((((((([] ++ [1, 2]) ++ [3, 4, 5, 6]) ++ [7, 8, 9]) ++ [10, 11, 12]) ++ [13, 14, 16, 17, 18, 19, 20, 21, 22, 23, 15]) ++ [24, 25]) ++ [26, 27, 43, 44, 45, 46, 47, 48, 49, 50, 51, 52, 53, 54, 55, 56, 57, 58, 59, 60, 61, 62, 63, 64, 65, 66, 67, 68, 69, 70, 71, 72, 73, 74, 75, 76, 77, 78, 79, 80, 81, 82, 83, 84, 85, 86, 87, 88, 89, 90, 91, 92, 93, 94, 95, 96, 97, 98, 99, 100, 101, 102, 103, 104, 105, 106, 107, 108, 109, 110, 111, 112, 113, 114, 115, 116, 117, 118, 119, 120, 121, 122, 28, 29, 30, 31]) ++ [32]) sI t0) I (q10_init l G 33 rfl rfl rfl) (fun i q h => (hL (113 + i) q (lsub (L := LL11) (M := [34, 35]) 113 (by decide) i q h)).trans (by rw [z]; omega)) pk_X10_init li_X10_init rfl lm_X11_71 rfl hl.1 rfl (Nat.le_of_ble_eq_true rfl) dX11_init_117 ⟨Nat.le_of_ble_eq_true rfl, Nat.le_of_ble_eq_true rfl⟩ ⟨rfl, rfl⟩ ⟨Nat.le_of_ble_eq_true rfl, Nat.le_of_ble_eq_true rfl⟩ (fun H1 locs1 z1 I => ?_)
  replace I := IN_cg (show (_ :: nW G _ sI t0) ++ nW G _ sI t0 = _ :: nW G ((((((((([] ++ [1, 2]) ++ [3, 4, 5, 6]) ++ [7, 8, 9]) ++ [10, 11, 12]) ++ [13, 14, 16, 17, 18, 19, 20, 21, 22, 23, 15]) ++ [24, 25]) ++ [26, 27, 43, 44, 45, 46, 47, 48, 49, 50, 51, 52, 53, 54, 55, 56, 57, 58, 59, 60, 61, 62, 63, 64, 65, 66, 67, 68, 69, 70, 71, 72, 73, 74, 75, 76, 77, 78, 79, 80, 81, 82, 83, 84, 85, 86, 87, 88, 89, 90, 91, 92, 93, 94, 95, 96, 97, 98, 99, 100, 101, 102, 103, 104, 105, 106, 107, 108, 109, 110, 111, 112, 113, 114, 115, 116, 117, 118, 119, 120, 121, 122, 28, 29, 30, 31]) ++ [32]) ++ [33, 34, 35]) sI t0 from by rw [← nW_app]; rfl) I
  replace z : H1.size = s.heap.size + 115 := by rw [z1, z]; rfl
  clear z1
  refine s_putF X I inX11 tyX11 tyX11_ok nmX11 rfl l8 8 (by decide) lf_X11_72 rfl rfl (ty := .object "SaintCarried$Witness") rfl rfl rfl dX11_init_120 (fun H1 locs f9 z1 e9 l9 I => ?_)
  replace z := z1.trans z
  clear z1
  replace e9 : f9 = [.ref (G.2.1 1), .ref (G.2.1 3), .ref (G.2.1 7), .ref (G.2.1 10), .ref (G.2.1 13), .ref (G.2.1 24), .ref (G.2.1 26), .ref (G.2.1 32), .ref (G.2.1 33), .null, .null, .null, .null, .null, .int 0, .long 0] := by rw [e9, e8]; rfl
  refine lv_aload_n X.1 X.2.1 dX11_init_123 rfl (lv_at hl 0 rfl) ?_
  refine n_obj X (a := G.2.1 36) I inX6 tyX6 tyX6_ok lk_X11_76 la_X6 ln_X6 (ci := 6) rfl (fs := [.null, .null, .int 0]) (fun j hj => by rcases (show j = 0 ∨ j = 1 ∨ j = 2 by omega) with rfl | rfl | rfl <;> rfl) (Nat.le_of_ble_eq_true rfl) (Nat.le_of_ble_eq_true rfl) ((hL 115 _ rfl).trans z.symm) dX11_init_124 (fun H z1 I => ?_)
  replace z : H.size = s.heap.size + 116 := by rw [z1, hL 115 _ rfl]
  clear z1
  refine lv_dup X.1 X.2.1 dX11_init_127 rfl ?_
  refine n_call X hO (ws0 := _ :: nW G ((((((((([] ++ [1, 2]) ++ [3, 4, 5, 6]) ++ [7, 8, 9]) ++ [10, 11, 12]) ++ [13, 14, 16, 17, 18, 19, 20, 21, 22, 23, 15]) ++ [24, 25]) ++ [26, 27, 43, 44, 45, 46, 47, 48, 49, 50, 51, 52, 53, 54, 55, 56, 57, 58, 59, 60, 61, 62, 63, 64, 65, 66, 67, 68, 69, 70, 71, 72, 73, 74, 75, 76, 77, 78, 79, 80, 81, 82, 83, 84, 85, 86, 87, 88, 89, 90, 91, 92, 93, 94, 95, 96, 97, 98, 99, 100, 101, 102, 103, 104, 105, 106, 107, 108, 109, 110, 111, 112, 113, 114, 115, 116, 117, 118, 119, 120, 121, 122, 28, 29, 30, 31]) ++ [32]) ++ [33, 34, 35]) sI t0) I (q6_init l G 36 rfl rfl rfl) (fun i q h => (hL (116 + i) q (lsub (L := LL11) (M := [37, 38]) 116 (by decide) i q h)).trans (by rw [z]; omega)) pk_X6_init li_X6_init rfl lm_X11_78 rfl hl.1 rfl (Nat.le_of_ble_eq_true rfl) dX11_init_128 ⟨Nat.le_of_ble_eq_true rfl, Nat.le_of_ble_eq_true rfl⟩ ⟨rfl, rfl⟩ ⟨Nat.le_of_ble_eq_true rfl, Nat.le_of_ble_eq_true rfl⟩ (fun H1 locs1 z1 I => ?_)
  replace I := IN_cg (show (_ :: nW G _ sI t0) ++ nW G _ sI t0 = _ :: nW G (((((((((([] ++ [1, 2]) ++ [3, 4, 5, 6]) ++ [7, 8, 9]) ++ [10, 11, 12]) ++ [13, 14, 16, 17, 18, 19, 20, 21, 22, 23, 15]) ++ [24, 25]) ++ [26, 27, 43, 44, 45, 46, 47, 48, 49, 50, 51, 52, 53, 54, 55, 56, 57, 58, 59, 60, 61, 62, 63, 64, 65, 66, 67, 68, 69, 70, 71, 72, 73, 74, 75, 76, 77, 78, 79, 80, 81, 82, 83, 84, 85, 86, 87, 88, 89, 90, 91, 92, 93, 94, 95, 96, 97, 98, 99, 100, 101, 102, 103, 104, 105, 106, 107, 108, 109, 110, 111, 112, 113, 114, 115, 116, 117, 118, 119, 120, 121, 122, 28, 29, 30, 31]) ++ [32]) ++ [33, 34, 35]) ++ [36, 37, 38]) sI t0 from by rw [← nW_app]; rfl) I
  replace z : H1.size = s.heap.size + 118 := by rw [z1, z]; rfl
  clear z1
  refine s_putF X I inX11 tyX11 tyX11_ok nmX11 rfl l9 9 (by decide) lf_X11_79 rfl rfl (ty := .object "SaintCarried$Row") rfl rfl rfl dX11_init_131 (fun H1 locs f10 z1 e10 l10 I => ?_)
  replace z := z1.trans z
  clear z1
  replace e10 : f10 = [.ref (G.2.1 1), .ref (G.2.1 3), .ref (G.2.1 7), .ref (G.2.1 10), .ref (G.2.1 13), .ref (G.2.1 24), .ref (G.2.1 26), .ref (G.2.1 32), .ref (G.2.1 33), .ref (G.2.1 36), .null, .null, .null, .null, .int 0, .long 0] := by rw [e10, e9]; rfl
  refine lv_aload_n X.1 X.2.1 dX11_init_134 rfl (lv_at hl 0 rfl) ?_
  refine lv_iconst (v := 5) X.1 X.2.1 dX11_init_135 (by decide) ?_
  refine s_newa X I (k := 39) rfl (hL 118 _ rfl) z (by decide) rfl (by decide) (Nat.le_of_ble_eq_true rfl) (Nat.le_of_ble_eq_true rfl) dX11_init_136 (fun H z I => ?_)
  refine s_putF X I inX11 tyX11 tyX11_ok nmX11 rfl l10 10 (by decide) lf_X11_83 rfl rfl (ty := .array .int) rfl rfl rfl dX11_init_138 (fun H1 locs f11 z1 e11 l11 I => ?_)
  replace z := z1.trans z
  clear z1
  replace e11 : f11 = [.ref (G.2.1 1), .ref (G.2.1 3), .ref (G.2.1 7), .ref (G.2.1 10), .ref (G.2.1 13), .ref (G.2.1 24), .ref (G.2.1 26), .ref (G.2.1 32), .ref (G.2.1 33), .ref (G.2.1 36), .ref (G.2.1 39), .null, .null, .null, .int 0, .long 0] := by rw [e11, e10]; rfl
  refine lv_aload_n X.1 X.2.1 dX11_init_141 rfl (lv_at hl 0 rfl) ?_
  refine lv_bipush (v := 61) X.1 X.2.1 dX11_init_142 (by decide) ?_
  refine s_newa X I (k := 40) rfl (hL 119 _ rfl) z (by decide) rfl (by decide) (Nat.le_of_ble_eq_true rfl) (Nat.le_of_ble_eq_true rfl) dX11_init_144 (fun H z I => ?_)
  refine s_putF X I inX11 tyX11 tyX11_ok nmX11 rfl l11 11 (by decide) lf_X11_87 rfl rfl (ty := .array .int) rfl rfl rfl dX11_init_146 (fun H1 locs f12 z1 e12 l12 I => ?_)
  replace z := z1.trans z
  clear z1
  replace e12 : f12 = [.ref (G.2.1 1), .ref (G.2.1 3), .ref (G.2.1 7), .ref (G.2.1 10), .ref (G.2.1 13), .ref (G.2.1 24), .ref (G.2.1 26), .ref (G.2.1 32), .ref (G.2.1 33), .ref (G.2.1 36), .ref (G.2.1 39), .ref (G.2.1 40), .null, .null, .int 0, .long 0] := by rw [e12, e11]; rfl
  refine lv_aload_n X.1 X.2.1 dX11_init_149 rfl (lv_at hl 0 rfl) ?_
  refine lv_bipush (v := 10) X.1 X.2.1 dX11_init_150 (by decide) ?_
  refine s_newa X I (k := 41) rfl (hL 120 _ rfl) z (by decide) rfl (by decide) (Nat.le_of_ble_eq_true rfl) (Nat.le_of_ble_eq_true rfl) dX11_init_152 (fun H z I => ?_)
  refine s_putF X I inX11 tyX11 tyX11_ok nmX11 rfl l12 12 (by decide) lf_X11_90 rfl rfl (ty := .array .int) rfl rfl rfl dX11_init_154 (fun H1 locs f13 z1 e13 l13 I => ?_)
  replace z := z1.trans z
  clear z1
  replace e13 : f13 = [.ref (G.2.1 1), .ref (G.2.1 3), .ref (G.2.1 7), .ref (G.2.1 10), .ref (G.2.1 13), .ref (G.2.1 24), .ref (G.2.1 26), .ref (G.2.1 32), .ref (G.2.1 33), .ref (G.2.1 36), .ref (G.2.1 39), .ref (G.2.1 40), .ref (G.2.1 41), .null, .int 0, .long 0] := by rw [e13, e12]; rfl
  refine lv_aload_n X.1 X.2.1 dX11_init_157 rfl (lv_at hl 0 rfl) ?_
  refine lv_bipush (v := 10) X.1 X.2.1 dX11_init_158 (by decide) ?_
  refine s_newa X I (k := 42) rfl (hL 121 _ rfl) z (by decide) rfl (by decide) (Nat.le_of_ble_eq_true rfl) (Nat.le_of_ble_eq_true rfl) dX11_init_160 (fun H z I => ?_)
  refine s_putF X I inX11 tyX11 tyX11_ok nmX11 rfl l13 13 (by decide) lf_X11_93 rfl rfl (ty := .array .int) rfl rfl rfl dX11_init_162 (fun H1 locs f14 z1 e14 l14 I => ?_)
  replace z := z1.trans z
  clear z1
  replace e14 : f14 = [.ref (G.2.1 1), .ref (G.2.1 3), .ref (G.2.1 7), .ref (G.2.1 10), .ref (G.2.1 13), .ref (G.2.1 24), .ref (G.2.1 26), .ref (G.2.1 32), .ref (G.2.1 33), .ref (G.2.1 36), .ref (G.2.1 39), .ref (G.2.1 40), .ref (G.2.1 41), .ref (G.2.1 42), .int 0, .long 0] := by rw [e14, e13]; rfl
  refine lv_aload_n X.1 X.2.1 dX11_init_165 rfl (lv_at hl 0 rfl) ?_
  refine lv_bipush (v := 7) X.1 X.2.1 dX11_init_166 (by decide) ?_
  refine s_put X I inX11 tyX11 tyX11_ok nmX11 rfl l14 14 (by decide) lf_X11_96 rfl (ty := .int) rfl rfl rfl dX11_init_168 (fun H1 locs f15 z1 e15 l15 I => ?_)
  replace z := z1.trans z
  clear z1
  replace e15 : f15 = [.ref (G.2.1 1), .ref (G.2.1 3), .ref (G.2.1 7), .ref (G.2.1 10), .ref (G.2.1 13), .ref (G.2.1 24), .ref (G.2.1 26), .ref (G.2.1 32), .ref (G.2.1 33), .ref (G.2.1 36), .ref (G.2.1 39), .ref (G.2.1 40), .ref (G.2.1 41), .ref (G.2.1 42), .int 7, .long 0] := by rw [e15, e14]; rfl
  rw [e15] at I
  have hP : va_P G.1 vwCl (nW G (0 :: [1, 2, 3, 4, 5, 6, 7, 8, 9, 10, 11, 12, 13, 14, 16, 17, 18, 19, 20, 21, 22, 23, 15, 24, 25, 26, 27, 43, 44, 45, 46, 47, 48, 49, 50, 51, 52, 53, 54, 55, 56, 57, 58, 59, 60, 61, 62, 63, 64, 65, 66, 67, 68, 69, 70, 71, 72, 73, 74, 75, 76, 77, 78, 79, 80, 81, 82, 83, 84, 85, 86, 87, 88, 89, 90, 91, 92, 93, 94, 95, 96, 97, 98, 99, 100, 101, 102, 103, 104, 105, 106, 107, 108, 109, 110, 111, 112, 113, 114, 115, 116, 117, 118, 119, 120, 121, 122, 28, 29, 30, 31, 32, 33, 34, 35, 36, 37, 38, 39, 40, 41, 42]) sI t0) _ := (IN_cg (show _ = nW G (0 :: [1, 2, 3, 4, 5, 6, 7, 8, 9, 10, 11, 12, 13, 14, 16, 17, 18, 19, 20, 21, 22, 23, 15, 24, 25, 26, 27, 43, 44, 45, 46, 47, 48, 49, 50, 51, 52, 53, 54, 55, 56, 57, 58, 59, 60, 61, 62, 63, 64, 65, 66, 67, 68, 69, 70, 71, 72, 73, 74, 75, 76, 77, 78, 79, 80, 81, 82, 83, 84, 85, 86, 87, 88, 89, 90, 91, 92, 93, 94, 95, 96, 97, 98, 99, 100, 101, 102, 103, 104, 105, 106, 107, 108, 109, 110, 111, 112, 113, 114, 115, 116, 117, 118, 119, 120, 121, 122, 28, 29, 30, 31, 32, 33, 34, 35, 36, 37, 38, 39, 40, 41, 42]) sI t0 from congrArg (fun q => ((G.2.1 0, q) : Nat × va_E) :: nW G [1, 2, 3, 4, 5, 6, 7, 8, 9, 10, 11, 12, 13, 14, 16, 17, 18, 19, 20, 21, 22, 23, 15, 24, 25, 26, 27, 43, 44, 45, 46, 47, 48, 49, 50, 51, 52, 53, 54, 55, 56, 57, 58, 59, 60, 61, 62, 63, 64, 65, 66, 67, 68, 69, 70, 71, 72, 73, 74, 75, 76, 77, 78, 79, 80, 81, 82, 83, 84, 85, 86, 87, 88, 89, 90, 91, 92, 93, 94, 95, 96, 97, 98, 99, 100, 101, 102, 103, 104, 105, 106, 107, 108, 109, 110, 111, 112, 113, 114, 115, 116, 117, 118, 119, 120, 121, 122, 28, 29, 30, 31, 32, 33, 34, 35, 36, 37, 38, 39, 40, 41, 42] sI t0) (cl_11 (k := 0) rfl).symm) I).1
  exact W.vret X.1 X.2.1 X.2.2.1 (fun t ht hW => ⟨⟨(), rfl, trivial, by rw [ht]; exact hP, by rw [ht, z]; rfl⟩, I.2.2.1.F ht⟩) I.2.2.1.2.2 dX11_init_171 X.2.2.2.2.2.2.1
