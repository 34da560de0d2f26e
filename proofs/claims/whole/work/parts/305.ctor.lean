theorem lsub {L M : List Nat} (b : Nat) (hM : (L.drop b).take M.length = M) (i : Nat) (q : Nat) (h : M[i]? = some q) : L[b + i]? = some q := by
  rw [← hM, List.getElem?_take] at h
  split at h
  · rw [List.getElem?_drop] at h; exact h
  · cases h
theorem sI_c7 {k : Nat} (h : kd k = 7) : sp (fun _ _ => 0) k 3 (-1) k = sI k := by
  funext j
  rw [sp_s]
  unfold upd sI
  simp only [h]
  by_cases hj : j = 3 <;> simp [hj]
theorem sI_c0 {k : Nat} (h : kd k = 0) : sp (fun _ _ => 0) k 4 (-1) k = sI k := by
  funext j
  rw [sp_s]
  unfold upd sI
  simp only [h]
  by_cases hj : j = 4 <;> simp [hj]
theorem q0_init (l : Launch) (G : GT) (k : Nat) (h0 : kd k = 0) (h1 : kd (k + 1) = 107) : Kc l yX0_init cX0_init 1 { frames := 2, cells := 1, slots := 7, locals := 128 } 1 7 G k [] 0 [.null, .int 0, .int 0, .int 0, .int 0, .int 0, .int 0, .int 0, .int 0] [(k + 1)] sI t0 :=
  Kc_cg (fun x hx => by
    rcases List.mem_cons.mp hx with h | h
    · rw [h]; exact sI_c0 h0
    · rw [List.mem_singleton.mp h, sp_n (by omega), sI_z (by omega) (by omega) (by omega) (by omega) (by omega)]) (k0_init l G k h0 h1)
theorem q7_init (l : Launch) (G : GT) (k : Nat) (h0 : kd k = 7) (h1 : kd (k + 1) = 340) : Kc l yX7_init cX7_init 1 { frames := 2, cells := 1, slots := 240, locals := 128 } 1 240 G k [] 7 [.null, .int 0, .int 0, .int 0] [(k + 1)] sI t0 :=
  Kc_cg (fun x hx => by
    rcases List.mem_cons.mp hx with h | h
    · rw [h]; exact sI_c7 h0
    · rw [List.mem_singleton.mp h, sp_n (by omega), sI_z (by omega) (by omega) (by omega) (by omega) (by omega)]) (k7_init l G k h0 h1)
theorem q1_init (l : Launch) (G : GT) (k : Nat) (hk : isLaw k) : Kc l yX1_init cX1_init 1 { frames := 2, cells := 1, slots := 240, locals := 128 } 1 240 G k [] 1 [.null, .int 0] [k + 1] sI t0 :=
  Kc_cg (fun x hx => by
    have h0 := hk.2.1
    have h1 := hk.2.2
    rcases List.mem_cons.mp hx with h | h
    · rw [h, sI_z (by omega) (by omega) (by omega) (by omega) (by omega)]
    · rw [List.mem_singleton.mp h, sI_z (by omega) (by omega) (by omega) (by omega) (by omega)]) (k1_init l G k hk)
theorem q6_init (l : Launch) (G : GT) (k : Nat) (h0 : kd k = 6) (h1 : kd (k + 1) = 107) (h2 : kd (k + 2) = 107) : Kc l yX6_init cX6_init 1 { frames := 2, cells := 2, slots := 14, locals := 128 } 2 14 G k [] 6 [.null, .null, .int 0] [(k + 1), (k + 2)] sI t0 :=
  Kc_cg (fun x hx => by
    rcases List.mem_cons.mp hx with h | h
    · rw [h, sI_z (by omega) (by omega) (by omega) (by omega) (by omega)]
    · rcases List.mem_cons.mp h with h | h
      · rw [h, sI_z (by omega) (by omega) (by omega) (by omega) (by omega)]
      · rw [List.mem_singleton.mp h, sI_z (by omega) (by omega) (by omega) (by omega) (by omega)]) (k6_init l G k h0 h1 h2)
theorem q8_init (l : Launch) (G : GT) (k : Nat) (h0 : kd k = 8) (h1 : kd (k + 1) = 136) (h2 : kd (k + 2) = 103) : Kc l yX8_init cX8_init 1 { frames := 2, cells := 2, slots := 39, locals := 128 } 2 39 G k [] 8 [.null, .null] [(k + 1), (k + 2)] sI t0 :=
  Kc_cg (fun x hx => by
    rcases List.mem_cons.mp hx with h | h
    · rw [h, sI_z (by omega) (by omega) (by omega) (by omega) (by omega)]
    · rcases List.mem_cons.mp h with h | h
      · rw [h, sI_z (by omega) (by omega) (by omega) (by omega) (by omega)]
      · rw [List.mem_singleton.mp h, sI_z (by omega) (by omega) (by omega) (by omega) (by omega)]) (k8_init l G k h0 h1 h2)
theorem q10_init (l : Launch) (G : GT) (k : Nat) (h0 : kd k = 10) (h1 : kd (k + 1) = 130) (h2 : kd (k + 2) = 130) : Kc l yX10_init cX10_init 1 { frames := 2, cells := 2, slots := 60, locals := 128 } 2 60 G k [] 10 [.null, .null, .int 0, .int 0] [(k + 1), (k + 2)] sI t0 :=
  Kc_cg (fun x hx => by
    rcases List.mem_cons.mp hx with h | h
    · rw [h, sI_z (by omega) (by omega) (by omega) (by omega) (by omega)]
    · rcases List.mem_cons.mp h with h | h
      · rw [h, sI_z (by omega) (by omega) (by omega) (by omega) (by omega)]
      · rw [List.mem_singleton.mp h, sI_z (by omega) (by omega) (by omega) (by omega) (by omega)]) (k10_init l G k h0 h1 h2)
def LL12 : List Nat := [124, 125, 126, 127, 128, 129, 130, 131, 132, 133, 134, 135, 136, 137, 138, 139, 140, 141, 142, 143, 144, 145, 146, 147, 148, 149, 150, 151, 152]
set_option maxHeartbeats 4000000 in
set_option maxRecDepth 100000 in
theorem q12_init (l : Launch) (G : GT) : Kc l yX12_init cX12_init 1 { frames := 2, cells := 29, slots := 18677, locals := 128 } 29 18677 G 123 [] 12 [.int 0, .null, .int 0, .int 0, .int 0, .int 0, .null, .null, .null, .null, .null, .null, .null, .int 0, .int 0, .null, .null, .null, .null, .null, .int 0, .int 0, .null, .null, .null, .int 0, .int 0, .null, .null, .int 0, .int 0, .null, .int 0, .long 0, .null, .int 0, .int 0, .int 0, .int 0, .null, .null, .null, .null, .int 0, .null, .null, .null, .null, .int 0, .null, .int 0] [124, 125, 126, 127, 128, 129, 130, 131, 132, 133, 134, 135, 136, 137, 138, 139, 140, 141, 142, 143, 144, 145, 146, 147, 148, 149, 150, 151, 152] sI t0 := by
  refine k_start (by decide +kernel) (fun _ => Nat.le_of_ble_eq_true rfl) rfl rfl (fun p e s m args below meth c ls A hAe hL X I hl hO => ?_)
  have hl : lv_has ls 1 [(0, .ref (G.2.1 123))] := hl
  have z : s.heap.size = s.heap.size + 0 := rfl
  obtain ⟨f0, e0⟩ : ∃ f : List Value, f = [.int 0, .null, .int 0, .int 0, .int 0, .int 0, .null, .null, .null, .null, .null, .null, .null, .int 0, .int 0, .null, .null, .null, .null, .null, .int 0, .int 0, .null, .null, .null, .int 0, .int 0, .null, .null, .int 0, .int 0, .null, .int 0, .long 0, .null, .int 0, .int 0, .int 0, .int 0, .null, .null, .null, .null, .int 0, .null, .null, .null, .null, .int 0, .null, .int 0] := ⟨_, rfl⟩
  have l0 : f0.length = 51 := by rw [e0]; rfl
  replace I : IN G A s s.heap [] ((G.2.1 123, .inr (12, f0)) :: nW G [] sI t0) := by rw [e0]; exact I
  refine lv_aload_n X.1 X.2.1 dX12_init_0 rfl (lv_at hl 0 rfl) ?_
  refine n_oi X lm_X12_3 hl.1 (Nat.le_of_ble_eq_true rfl) (Nat.le_of_ble_eq_true rfl) dX12_init_1 ?_
  refine lv_aload_n X.1 X.2.1 dX12_init_4 rfl (lv_at hl 0 rfl) ?_
  refine lv_sipush (v := 240) X.1 X.2.1 dX12_init_5 (by decide) ?_
  refine s_newa X I (k := 124) rfl (hL 0 _ rfl) z (by decide) rfl (by decide) (Nat.le_of_ble_eq_true rfl) (Nat.le_of_ble_eq_true rfl) dX12_init_8 (fun H z I => ?_)
  refine s_putF X I inX12 tyX12 tyX12_ok nmX12 rfl l0 1 (by decide) lf_X12_9 rfl rfl (ty := .array .int) rfl rfl rfl dX12_init_10 (fun H1 locs f1 z1 e1 l1 I => ?_)
  replace z := z1.trans z
  clear z1
  replace e1 : f1 = [.int 0, .ref (G.2.1 124), .int 0, .int 0, .int 0, .int 0, .null, .null, .null, .null, .null, .null, .null, .int 0, .int 0, .null, .null, .null, .null, .null, .int 0, .int 0, .null, .null, .null, .int 0, .int 0, .null, .null, .int 0, .int 0, .null, .int 0, .long 0, .null, .int 0, .int 0, .int 0, .int 0, .null, .null, .null, .null, .int 0, .null, .null, .null, .null, .int 0, .null, .int 0] := by rw [e1, e0]; rfl
  refine lv_aload_n X.1 X.2.1 dX12_init_13 rfl (lv_at hl 0 rfl) ?_
  refine lv_sipush (v := 2600) X.1 X.2.1 dX12_init_14 (by decide) ?_
  refine s_newa X I (k := 125) rfl (hL 1 _ rfl) z (by decide) rfl (by decide) (Nat.le_of_ble_eq_true rfl) (Nat.le_of_ble_eq_true rfl) dX12_init_17 (fun H z I => ?_)
  refine s_putF X I inX12 tyX12 tyX12_ok nmX12 rfl l1 6 (by decide) lf_X12_13 rfl rfl (ty := .array .int) rfl rfl rfl dX12_init_19 (fun H1 locs f2 z1 e2 l2 I => ?_)
  replace z := z1.trans z
  clear z1
  replace e2 : f2 = [.int 0, .ref (G.2.1 124), .int 0, .int 0, .int 0, .int 0, .ref (G.2.1 125), .null, .null, .null, .null, .null, .null, .int 0, .int 0, .null, .null, .null, .null, .null, .int 0, .int 0, .null, .null, .null, .int 0, .int 0, .null, .null, .int 0, .int 0, .null, .int 0, .long 0, .null, .int 0, .int 0, .int 0, .int 0, .null, .null, .null, .null, .int 0, .null, .null, .null, .null, .int 0, .null, .int 0] := by rw [e2, e1]; rfl
  refine lv_aload_n X.1 X.2.1 dX12_init_22 rfl (lv_at hl 0 rfl) ?_
  refine lv_sipush (v := 2600) X.1 X.2.1 dX12_init_23 (by decide) ?_
  refine s_newa X I (k := 126) rfl (hL 2 _ rfl) z (by decide) rfl (by decide) (Nat.le_of_ble_eq_true rfl) (Nat.le_of_ble_eq_true rfl) dX12_init_26 (fun H z I => ?_)
  refine s_putF X I inX12 tyX12 tyX12_ok nmX12 rfl l2 7 (by decide) lf_X12_16 rfl rfl (ty := .array .int) rfl rfl rfl dX12_init_28 (fun H1 locs f3 z1 e3 l3 I => ?_)
  replace z := z1.trans z
  clear z1
  replace e3 : f3 = [.int 0, .ref (G.2.1 124), .int 0, .int 0, .int 0, .int 0, .ref (G.2.1 125), .ref (G.2.1 126), .null, .null, .null, .null, .null, .int 0, .int 0, .null, .null, .null, .null, .null, .int 0, .int 0, .null, .null, .null, .int 0, .int 0, .null, .null, .int 0, .int 0, .null, .int 0, .long 0, .null, .int 0, .int 0, .int 0, .int 0, .null, .null, .null, .null, .int 0, .null, .null, .null, .null, .int 0, .null, .int 0] := by rw [e3, e2]; rfl
  refine lv_aload_n X.1 X.2.1 dX12_init_31 rfl (lv_at hl 0 rfl) ?_
  refine lv_iconst (v := 5) X.1 X.2.1 dX12_init_32 (by decide) ?_
  refine s_newa X I (k := 127) rfl (hL 3 _ rfl) z (by decide) rfl (by decide) (Nat.le_of_ble_eq_true rfl) (Nat.le_of_ble_eq_true rfl) dX12_init_33 (fun H z I => ?_)
  refine s_putF X I inX12 tyX12 tyX12_ok nmX12 rfl l3 8 (by decide) lf_X12_19 rfl rfl (ty := .array .int) rfl rfl rfl dX12_init_35 (fun H1 locs f4 z1 e4 l4 I => ?_)
  replace z := z1.trans z
  clear z1
  replace e4 : f4 = [.int 0, .ref (G.2.1 124), .int 0, .int 0, .int 0, .int 0, .ref (G.2.1 125), .ref (G.2.1 126), .ref (G.2.1 127), .null, .null, .null, .null, .int 0, .int 0, .null, .null, .null, .null, .null, .int 0, .int 0, .null, .null, .null, .int 0, .int 0, .null, .null, .int 0, .int 0, .null, .int 0, .long 0, .null, .int 0, .int 0, .int 0, .int 0, .null, .null, .null, .null, .int 0, .null, .null, .null, .null, .int 0, .null, .int 0] := by rw [e4, e3]; rfl
  refine lv_aload_n X.1 X.2.1 dX12_init_38 rfl (lv_at hl 0 rfl) ?_
  refine lv_iconst (v := 5) X.1 X.2.1 dX12_init_39 (by decide) ?_
  refine s_newa X I (k := 128) rfl (hL 4 _ rfl) z (by decide) rfl (by decide) (Nat.le_of_ble_eq_true rfl) (Nat.le_of_ble_eq_true rfl) dX12_init_40 (fun H z I => ?_)
  refine s_putF X I inX12 tyX12 tyX12_ok nmX12 rfl l4 9 (by decide) lf_X12_22 rfl rfl (ty := .array .int) rfl rfl rfl dX12_init_42 (fun H1 locs f5 z1 e5 l5 I => ?_)
  replace z := z1.trans z
  clear z1
  replace e5 : f5 = [.int 0, .ref (G.2.1 124), .int 0, .int 0, .int 0, .int 0, .ref (G.2.1 125), .ref (G.2.1 126), .ref (G.2.1 127), .ref (G.2.1 128), .null, .null, .null, .int 0, .int 0, .null, .null, .null, .null, .null, .int 0, .int 0, .null, .null, .null, .int 0, .int 0, .null, .null, .int 0, .int 0, .null, .int 0, .long 0, .null, .int 0, .int 0, .int 0, .int 0, .null, .null, .null, .null, .int 0, .null, .null, .null, .null, .int 0, .null, .int 0] := by rw [e5, e4]; rfl
  refine lv_aload_n X.1 X.2.1 dX12_init_45 rfl (lv_at hl 0 rfl) ?_
  refine lv_sipush (v := 700) X.1 X.2.1 dX12_init_46 (by decide) ?_
  refine s_newa X I (k := 129) rfl (hL 5 _ rfl) z (by decide) rfl (by decide) (Nat.le_of_ble_eq_true rfl) (Nat.le_of_ble_eq_true rfl) dX12_init_49 (fun H z I => ?_)
  refine s_putF X I inX12 tyX12 tyX12_ok nmX12 rfl l5 10 (by decide) lf_X12_25 rfl rfl (ty := .array .int) rfl rfl rfl dX12_init_51 (fun H1 locs f6 z1 e6 l6 I => ?_)
  replace z := z1.trans z
  clear z1
  replace e6 : f6 = [.int 0, .ref (G.2.1 124), .int 0, .int 0, .int 0, .int 0, .ref (G.2.1 125), .ref (G.2.1 126), .ref (G.2.1 127), .ref (G.2.1 128), .ref (G.2.1 129), .null, .null, .int 0, .int 0, .null, .null, .null, .null, .null, .int 0, .int 0, .null, .null, .null, .int 0, .int 0, .null, .null, .int 0, .int 0, .null, .int 0, .long 0, .null, .int 0, .int 0, .int 0, .int 0, .null, .null, .null, .null, .int 0, .null, .null, .null, .null, .int 0, .null, .int 0] := by rw [e6, e5]; rfl
  refine lv_aload_n X.1 X.2.1 dX12_init_54 rfl (lv_at hl 0 rfl) ?_
  refine lv_sipush (v := 700) X.1 X.2.1 dX12_init_55 (by decide) ?_
  refine s_newa X I (k := 130) rfl (hL 6 _ rfl) z (by decide) rfl (by decide) (Nat.le_of_ble_eq_true rfl) (Nat.le_of_ble_eq_true rfl) dX12_init_58 (fun H z I => ?_)
  refine s_putF X I inX12 tyX12 tyX12_ok nmX12 rfl l6 11 (by decide) lf_X12_28 rfl rfl (ty := .array .int) rfl rfl rfl dX12_init_60 (fun H1 locs f7 z1 e7 l7 I => ?_)
  replace z := z1.trans z
  clear z1
  replace e7 : f7 = [.int 0, .ref (G.2.1 124), .int 0, .int 0, .int 0, .int 0, .ref (G.2.1 125), .ref (G.2.1 126), .ref (G.2.1 127), .ref (G.2.1 128), .ref (G.2.1 129), .ref (G.2.1 130), .null, .int 0, .int 0, .null, .null, .null, .null, .null, .int 0, .int 0, .null, .null, .null, .int 0, .int 0, .null, .null, .int 0, .int 0, .null, .int 0, .long 0, .null, .int 0, .int 0, .int 0, .int 0, .null, .null, .null, .null, .int 0, .null, .null, .null, .null, .int 0, .null, .int 0] := by rw [e7, e6]; rfl
  refine lv_aload_n X.1 X.2.1 dX12_init_63 rfl (lv_at hl 0 rfl) ?_
  refine lv_sipush (v := 700) X.1 X.2.1 dX12_init_64 (by decide) ?_
  refine s_newa X I (k := 131) rfl (hL 7 _ rfl) z (by decide) rfl (by decide) (Nat.le_of_ble_eq_true rfl) (Nat.le_of_ble_eq_true rfl) dX12_init_67 (fun H z I => ?_)
  refine s_putF X I inX12 tyX12 tyX12_ok nmX12 rfl l7 12 (by decide) lf_X12_31 rfl rfl (ty := .array .int) rfl rfl rfl dX12_init_69 (fun H1 locs f8 z1 e8 l8 I => ?_)
  replace z := z1.trans z
  clear z1
  replace e8 : f8 = [.int 0, .ref (G.2.1 124), .int 0, .int 0, .int 0, .int 0, .ref (G.2.1 125), .ref (G.2.1 126), .ref (G.2.1 127), .ref (G.2.1 128), .ref (G.2.1 129), .ref (G.2.1 130), .ref (G.2.1 131), .int 0, .int 0, .null, .null, .null, .null, .null, .int 0, .int 0, .null, .null, .null, .int 0, .int 0, .null, .null, .int 0, .int 0, .null, .int 0, .long 0, .null, .int 0, .int 0, .int 0, .int 0, .null, .null, .null, .null, .int 0, .null, .null, .null, .null, .int 0, .null, .int 0] := by rw [e8, e7]; rfl
  refine lv_aload_n X.1 X.2.1 dX12_init_72 rfl (lv_at hl 0 rfl) ?_
  refine lv_bipush (v := 6) X.1 X.2.1 dX12_init_73 (by decide) ?_
  refine s_newa X I (k := 132) rfl (hL 8 _ rfl) z (by decide) rfl (by decide) (Nat.le_of_ble_eq_true rfl) (Nat.le_of_ble_eq_true rfl) dX12_init_75 (fun H z I => ?_)
  refine s_putF X I inX12 tyX12 tyX12_ok nmX12 rfl l8 15 (by decide) lf_X12_34 rfl rfl (ty := .array .int) rfl rfl rfl dX12_init_77 (fun H1 locs f9 z1 e9 l9 I => ?_)
  replace z := z1.trans z
  clear z1
  replace e9 : f9 = [.int 0, .ref (G.2.1 124), .int 0, .int 0, .int 0, .int 0, .ref (G.2.1 125), .ref (G.2.1 126), .ref (G.2.1 127), .ref (G.2.1 128), .ref (G.2.1 129), .ref (G.2.1 130), .ref (G.2.1 131), .int 0, .int 0, .ref (G.2.1 132), .null, .null, .null, .null, .int 0, .int 0, .null, .null, .null, .int 0, .int 0, .null, .null, .int 0, .int 0, .null, .int 0, .long 0, .null, .int 0, .int 0, .int 0, .int 0, .null, .null, .null, .null, .int 0, .null, .null, .null, .null, .int 0, .null, .int 0] := by rw [e9, e8]; rfl
  refine lv_aload_n X.1 X.2.1 dX12_init_80 rfl (lv_at hl 0 rfl) ?_
  refine lv_bipush (v := 80) X.1 X.2.1 dX12_init_81 (by decide) ?_
  refine s_newa X I (k := 133) rfl (hL 9 _ rfl) z (by decide) rfl (by decide) (Nat.le_of_ble_eq_true rfl) (Nat.le_of_ble_eq_true rfl) dX12_init_83 (fun H z I => ?_)
  refine s_putF X I inX12 tyX12 tyX12_ok nmX12 rfl l9 16 (by decide) lf_X12_37 rfl rfl (ty := .array .int) rfl rfl rfl dX12_init_85 (fun H1 locs f10 z1 e10 l10 I => ?_)
  replace z := z1.trans z
  clear z1
  replace e10 : f10 = [.int 0, .ref (G.2.1 124), .int 0, .int 0, .int 0, .int 0, .ref (G.2.1 125), .ref (G.2.1 126), .ref (G.2.1 127), .ref (G.2.1 128), .ref (G.2.1 129), .ref (G.2.1 130), .ref (G.2.1 131), .int 0, .int 0, .ref (G.2.1 132), .ref (G.2.1 133), .null, .null, .null, .int 0, .int 0, .null, .null, .null, .int 0, .int 0, .null, .null, .int 0, .int 0, .null, .int 0, .long 0, .null, .int 0, .int 0, .int 0, .int 0, .null, .null, .null, .null, .int 0, .null, .null, .null, .null, .int 0, .null, .int 0] := by rw [e10, e9]; rfl
  refine lv_aload_n X.1 X.2.1 dX12_init_88 rfl (lv_at hl 0 rfl) ?_
  refine lv_iconst (v := 3) X.1 X.2.1 dX12_init_89 (by decide) ?_
  refine s_newa X I (k := 134) rfl (hL 10 _ rfl) z (by decide) rfl (by decide) (Nat.le_of_ble_eq_true rfl) (Nat.le_of_ble_eq_true rfl) dX12_init_90 (fun H z I => ?_)
  refine s_putF X I inX12 tyX12 tyX12_ok nmX12 rfl l10 17 (by decide) lf_X12_40 rfl rfl (ty := .array .int) rfl rfl rfl dX12_init_92 (fun H1 locs f11 z1 e11 l11 I => ?_)
  replace z := z1.trans z
  clear z1
  replace e11 : f11 = [.int 0, .ref (G.2.1 124), .int 0, .int 0, .int 0, .int 0, .ref (G.2.1 125), .ref (G.2.1 126), .ref (G.2.1 127), .ref (G.2.1 128), .ref (G.2.1 129), .ref (G.2.1 130), .ref (G.2.1 131), .int 0, .int 0, .ref (G.2.1 132), .ref (G.2.1 133), .ref (G.2.1 134), .null, .null, .int 0, .int 0, .null, .null, .null, .int 0, .int 0, .null, .null, .int 0, .int 0, .null, .int 0, .long 0, .null, .int 0, .int 0, .int 0, .int 0, .null, .null, .null, .null, .int 0, .null, .null, .null, .null, .int 0, .null, .int 0] := by rw [e11, e10]; rfl
  refine lv_aload_n X.1 X.2.1 dX12_init_95 rfl (lv_at hl 0 rfl) ?_
  refine lv_bipush (v := 28) X.1 X.2.1 dX12_init_96 (by decide) ?_
  refine s_newa X I (k := 135) rfl (hL 11 _ rfl) z (by decide) rfl (by decide) (Nat.le_of_ble_eq_true rfl) (Nat.le_of_ble_eq_true rfl) dX12_init_98 (fun H z I => ?_)
  refine s_putF X I inX12 tyX12 tyX12_ok nmX12 rfl l11 18 (by decide) lf_X12_43 rfl rfl (ty := .array .int) rfl rfl rfl dX12_init_100 (fun H1 locs f12 z1 e12 l12 I => ?_)
  replace z := z1.trans z
  clear z1
  replace e12 : f12 = [.int 0, .ref (G.2.1 124), .int 0, .int 0, .int 0, .int 0, .ref (G.2.1 125), .ref (G.2.1 126), .ref (G.2.1 127), .ref (G.2.1 128), .ref (G.2.1 129), .ref (G.2.1 130), .ref (G.2.1 131), .int 0, .int 0, .ref (G.2.1 132), .ref (G.2.1 133), .ref (G.2.1 134), .ref (G.2.1 135), .null, .int 0, .int 0, .null, .null, .null, .int 0, .int 0, .null, .null, .int 0, .int 0, .null, .int 0, .long 0, .null, .int 0, .int 0, .int 0, .int 0, .null, .null, .null, .null, .int 0, .null, .null, .null, .null, .int 0, .null, .int 0] := by rw [e12, e11]; rfl
  refine lv_aload_n X.1 X.2.1 dX12_init_103 rfl (lv_at hl 0 rfl) ?_
  refine lv_iconst (v := 5) X.1 X.2.1 dX12_init_104 (by decide) ?_
  refine s_newa X I (k := 136) rfl (hL 12 _ rfl) z (by decide) rfl (by decide) (Nat.le_of_ble_eq_true rfl) (Nat.le_of_ble_eq_true rfl) dX12_init_105 (fun H z I => ?_)
  refine s_putF X I inX12 tyX12 tyX12_ok nmX12 rfl l12 19 (by decide) lf_X12_46 rfl rfl (ty := .array .int) rfl rfl rfl dX12_init_107 (fun H1 locs f13 z1 e13 l13 I => ?_)
  replace z := z1.trans z
  clear z1
  replace e13 : f13 = [.int 0, .ref (G.2.1 124), .int 0, .int 0, .int 0, .int 0, .ref (G.2.1 125), .ref (G.2.1 126), .ref (G.2.1 127), .ref (G.2.1 128), .ref (G.2.1 129), .ref (G.2.1 130), .ref (G.2.1 131), .int 0, .int 0, .ref (G.2.1 132), .ref (G.2.1 133), .ref (G.2.1 134), .ref (G.2.1 135), .ref (G.2.1 136), .int 0, .int 0, .null, .null, .null, .int 0, .int 0, .null, .null, .int 0, .int 0, .null, .int 0, .long 0, .null, .int 0, .int 0, .int 0, .int 0, .null, .null, .null, .null, .int 0, .null, .null, .null, .null, .int 0, .null, .int 0] := by rw [e13, e12]; rfl
  refine lv_aload_n X.1 X.2.1 dX12_init_110 rfl (lv_at hl 0 rfl) ?_
  refine lv_iconst (v := 3) X.1 X.2.1 dX12_init_111 (by decide) ?_
  refine s_newa X I (k := 137) rfl (hL 13 _ rfl) z (by decide) rfl (by decide) (Nat.le_of_ble_eq_true rfl) (Nat.le_of_ble_eq_true rfl) dX12_init_112 (fun H z I => ?_)
  refine s_putF X I inX12 tyX12 tyX12_ok nmX12 rfl l13 22 (by decide) lf_X12_49 rfl rfl (ty := .array .int) rfl rfl rfl dX12_init_114 (fun H1 locs f14 z1 e14 l14 I => ?_)
  replace z := z1.trans z
  clear z1
  replace e14 : f14 = [.int 0, .ref (G.2.1 124), .int 0, .int 0, .int 0, .int 0, .ref (G.2.1 125), .ref (G.2.1 126), .ref (G.2.1 127), .ref (G.2.1 128), .ref (G.2.1 129), .ref (G.2.1 130), .ref (G.2.1 131), .int 0, .int 0, .ref (G.2.1 132), .ref (G.2.1 133), .ref (G.2.1 134), .ref (G.2.1 135), .ref (G.2.1 136), .int 0, .int 0, .ref (G.2.1 137), .null, .null, .int 0, .int 0, .null, .null, .int 0, .int 0, .null, .int 0, .long 0, .null, .int 0, .int 0, .int 0, .int 0, .null, .null, .null, .null, .int 0, .null, .null, .null, .null, .int 0, .null, .int 0] := by rw [e14, e13]; rfl
  refine lv_aload_n X.1 X.2.1 dX12_init_117 rfl (lv_at hl 0 rfl) ?_
  refine lv_bipush (v := 28) X.1 X.2.1 dX12_init_118 (by decide) ?_
  refine s_newa X I (k := 138) rfl (hL 14 _ rfl) z (by decide) rfl (by decide) (Nat.le_of_ble_eq_true rfl) (Nat.le_of_ble_eq_true rfl) dX12_init_120 (fun H z I => ?_)
  refine s_putF X I inX12 tyX12 tyX12_ok nmX12 rfl l14 23 (by decide) lf_X12_52 rfl rfl (ty := .array .int) rfl rfl rfl dX12_init_122 (fun H1 locs f15 z1 e15 l15 I => ?_)
  replace z := z1.trans z
  clear z1
  replace e15 : f15 = [.int 0, .ref (G.2.1 124), .int 0, .int 0, .int 0, .int 0, .ref (G.2.1 125), .ref (G.2.1 126), .ref (G.2.1 127), .ref (G.2.1 128), .ref (G.2.1 129), .ref (G.2.1 130), .ref (G.2.1 131), .int 0, .int 0, .ref (G.2.1 132), .ref (G.2.1 133), .ref (G.2.1 134), .ref (G.2.1 135), .ref (G.2.1 136), .int 0, .int 0, .ref (G.2.1 137), .ref (G.2.1 138), .null, .int 0, .int 0, .null, .null, .int 0, .int 0, .null, .int 0, .long 0, .null, .int 0, .int 0, .int 0, .int 0, .null, .null, .null, .null, .int 0, .null, .null, .null, .null, .int 0, .null, .int 0] := by rw [e15, e14]; rfl
  refine lv_aload_n X.1 X.2.1 dX12_init_125 rfl (lv_at hl 0 rfl) ?_
  refine lv_iconst (v := 5) X.1 X.2.1 dX12_init_126 (by decide) ?_
  refine s_newa X I (k := 139) rfl (hL 15 _ rfl) z (by decide) rfl (by decide) (Nat.le_of_ble_eq_true rfl) (Nat.le_of_ble_eq_true rfl) dX12_init_127 (fun H z I => ?_)
  refine s_putF X I inX12 tyX12 tyX12_ok nmX12 rfl l15 24 (by decide) lf_X12_55 rfl rfl (ty := .array .int) rfl rfl rfl dX12_init_129 (fun H1 locs f16 z1 e16 l16 I => ?_)
  replace z := z1.trans z
  clear z1
  replace e16 : f16 = [.int 0, .ref (G.2.1 124), .int 0, .int 0, .int 0, .int 0, .ref (G.2.1 125), .ref (G.2.1 126), .ref (G.2.1 127), .ref (G.2.1 128), .ref (G.2.1 129), .ref (G.2.1 130), .ref (G.2.1 131), .int 0, .int 0, .ref (G.2.1 132), .ref (G.2.1 133), .ref (G.2.1 134), .ref (G.2.1 135), .ref (G.2.1 136), .int 0, .int 0, .ref (G.2.1 137), .ref (G.2.1 138), .ref (G.2.1 139), .int 0, .int 0, .null, .null, .int 0, .int 0, .null, .int 0, .long 0, .null, .int 0, .int 0, .int 0, .int 0, .null, .null, .null, .null, .int 0, .null, .null, .null, .null, .int 0, .null, .int 0] := by rw [e16, e15]; rfl
  refine lv_aload_n X.1 X.2.1 dX12_init_132 rfl (lv_at hl 0 rfl) ?_
  refine lv_sipush (v := 255) X.1 X.2.1 dX12_init_133 (by decide) ?_
  refine s_newa X I (k := 140) rfl (hL 16 _ rfl) z (by decide) rfl (by decide) (Nat.le_of_ble_eq_true rfl) (Nat.le_of_ble_eq_true rfl) dX12_init_136 (fun H z I => ?_)
  refine s_putF X I inX12 tyX12 tyX12_ok nmX12 rfl l16 27 (by decide) lf_X12_58 rfl rfl (ty := .array .int) rfl rfl rfl dX12_init_138 (fun H1 locs f17 z1 e17 l17 I => ?_)
  replace z := z1.trans z
  clear z1
  replace e17 : f17 = [.int 0, .ref (G.2.1 124), .int 0, .int 0, .int 0, .int 0, .ref (G.2.1 125), .ref (G.2.1 126), .ref (G.2.1 127), .ref (G.2.1 128), .ref (G.2.1 129), .ref (G.2.1 130), .ref (G.2.1 131), .int 0, .int 0, .ref (G.2.1 132), .ref (G.2.1 133), .ref (G.2.1 134), .ref (G.2.1 135), .ref (G.2.1 136), .int 0, .int 0, .ref (G.2.1 137), .ref (G.2.1 138), .ref (G.2.1 139), .int 0, .int 0, .ref (G.2.1 140), .null, .int 0, .int 0, .null, .int 0, .long 0, .null, .int 0, .int 0, .int 0, .int 0, .null, .null, .null, .null, .int 0, .null, .null, .null, .null, .int 0, .null, .int 0] := by rw [e17, e16]; rfl
  refine lv_aload_n X.1 X.2.1 dX12_init_141 rfl (lv_at hl 0 rfl) ?_
  refine lv_iconst (v := 5) X.1 X.2.1 dX12_init_142 (by decide) ?_
  refine s_newa X I (k := 141) rfl (hL 17 _ rfl) z (by decide) rfl (by decide) (Nat.le_of_ble_eq_true rfl) (Nat.le_of_ble_eq_true rfl) dX12_init_143 (fun H z I => ?_)
  refine s_putF X I inX12 tyX12 tyX12_ok nmX12 rfl l17 28 (by decide) lf_X12_61 rfl rfl (ty := .array .int) rfl rfl rfl dX12_init_145 (fun H1 locs f18 z1 e18 l18 I => ?_)
  replace z := z1.trans z
  clear z1
  replace e18 : f18 = [.int 0, .ref (G.2.1 124), .int 0, .int 0, .int 0, .int 0, .ref (G.2.1 125), .ref (G.2.1 126), .ref (G.2.1 127), .ref (G.2.1 128), .ref (G.2.1 129), .ref (G.2.1 130), .ref (G.2.1 131), .int 0, .int 0, .ref (G.2.1 132), .ref (G.2.1 133), .ref (G.2.1 134), .ref (G.2.1 135), .ref (G.2.1 136), .int 0, .int 0, .ref (G.2.1 137), .ref (G.2.1 138), .ref (G.2.1 139), .int 0, .int 0, .ref (G.2.1 140), .ref (G.2.1 141), .int 0, .int 0, .null, .int 0, .long 0, .null, .int 0, .int 0, .int 0, .int 0, .null, .null, .null, .null, .int 0, .null, .null, .null, .null, .int 0, .null, .int 0] := by rw [e18, e17]; rfl
  refine lv_aload_n X.1 X.2.1 dX12_init_148 rfl (lv_at hl 0 rfl) ?_
  refine lv_iconst (v := (-1)) X.1 X.2.1 dX12_init_149 (by decide) ?_
  refine s_put X I inX12 tyX12 tyX12_ok nmX12 rfl l18 29 (by decide) lf_X12_64 rfl (ty := .int) rfl rfl rfl dX12_init_150 (fun H1 locs f19 z1 e19 l19 I => ?_)
  replace z := z1.trans z
  clear z1
  replace e19 : f19 = [.int 0, .ref (G.2.1 124), .int 0, .int 0, .int 0, .int 0, .ref (G.2.1 125), .ref (G.2.1 126), .ref (G.2.1 127), .ref (G.2.1 128), .ref (G.2.1 129), .ref (G.2.1 130), .ref (G.2.1 131), .int 0, .int 0, .ref (G.2.1 132), .ref (G.2.1 133), .ref (G.2.1 134), .ref (G.2.1 135), .ref (G.2.1 136), .int 0, .int 0, .ref (G.2.1 137), .ref (G.2.1 138), .ref (G.2.1 139), .int 0, .int 0, .ref (G.2.1 140), .ref (G.2.1 141), .int (-1), .int 0, .null, .int 0, .long 0, .null, .int 0, .int 0, .int 0, .int 0, .null, .null, .null, .null, .int 0, .null, .null, .null, .null, .int 0, .null, .int 0] := by rw [e19, e18]; rfl
  refine lv_aload_n X.1 X.2.1 dX12_init_153 rfl (lv_at hl 0 rfl) ?_
  refine lv_bipush (v := 7) X.1 X.2.1 dX12_init_154 (by decide) ?_
  refine s_put X I inX12 tyX12 tyX12_ok nmX12 rfl l19 30 (by decide) lf_X12_68 rfl (ty := .int) rfl rfl rfl dX12_init_156 (fun H1 locs f20 z1 e20 l20 I => ?_)
  replace z := z1.trans z
  clear z1
  replace e20 : f20 = [.int 0, .ref (G.2.1 124), .int 0, .int 0, .int 0, .int 0, .ref (G.2.1 125), .ref (G.2.1 126), .ref (G.2.1 127), .ref (G.2.1 128), .ref (G.2.1 129), .ref (G.2.1 130), .ref (G.2.1 131), .int 0, .int 0, .ref (G.2.1 132), .ref (G.2.1 133), .ref (G.2.1 134), .ref (G.2.1 135), .ref (G.2.1 136), .int 0, .int 0, .ref (G.2.1 137), .ref (G.2.1 138), .ref (G.2.1 139), .int 0, .int 0, .ref (G.2.1 140), .ref (G.2.1 141), .int (-1), .int 7, .null, .int 0, .long 0, .null, .int 0, .int 0, .int 0, .int 0, .null, .null, .null, .null, .int 0, .null, .null, .null, .null, .int 0, .null, .int 0] := by rw [e20, e19]; rfl
  refine lv_aload_n X.1 X.2.1 dX12_init_159 rfl (lv_at hl 0 rfl) ?_
  refine lv_sipush (v := 10200) X.1 X.2.1 dX12_init_160 (by decide) ?_
  refine s_newa X I (k := 142) rfl (hL 18 _ rfl) z (by decide) rfl (by decide) (Nat.le_of_ble_eq_true rfl) (Nat.le_of_ble_eq_true rfl) dX12_init_163 (fun H z I => ?_)
  refine s_putF X I inX12 tyX12 tyX12_ok nmX12 rfl l20 31 (by decide) lf_X12_71 rfl rfl (ty := .array .int) rfl rfl rfl dX12_init_165 (fun H1 locs f21 z1 e21 l21 I => ?_)
  replace z := z1.trans z
  clear z1
  replace e21 : f21 = [.int 0, .ref (G.2.1 124), .int 0, .int 0, .int 0, .int 0, .ref (G.2.1 125), .ref (G.2.1 126), .ref (G.2.1 127), .ref (G.2.1 128), .ref (G.2.1 129), .ref (G.2.1 130), .ref (G.2.1 131), .int 0, .int 0, .ref (G.2.1 132), .ref (G.2.1 133), .ref (G.2.1 134), .ref (G.2.1 135), .ref (G.2.1 136), .int 0, .int 0, .ref (G.2.1 137), .ref (G.2.1 138), .ref (G.2.1 139), .int 0, .int 0, .ref (G.2.1 140), .ref (G.2.1 141), .int (-1), .int 7, .ref (G.2.1 142), .int 0, .long 0, .null, .int 0, .int 0, .int 0, .int 0, .null, .null, .null, .null, .int 0, .null, .null, .null, .null, .int 0, .null, .int 0] := by rw [e21, e20]; rfl
  refine lv_aload_n X.1 X.2.1 dX12_init_168 rfl (lv_at hl 0 rfl) ?_
  refine lv_bipush (v := 126) X.1 X.2.1 dX12_init_169 (by decide) ?_
  refine s_newa X I (k := 143) rfl (hL 19 _ rfl) z (by decide) rfl (by decide) (Nat.le_of_ble_eq_true rfl) (Nat.le_of_ble_eq_true rfl) dX12_init_171 (fun H z I => ?_)
  refine s_putF X I inX12 tyX12 tyX12_ok nmX12 rfl l21 34 (by decide) lf_X12_74 rfl rfl (ty := .array .int) rfl rfl rfl dX12_init_173 (fun H1 locs f22 z1 e22 l22 I => ?_)
  replace z := z1.trans z
  clear z1
  replace e22 : f22 = [.int 0, .ref (G.2.1 124), .int 0, .int 0, .int 0, .int 0, .ref (G.2.1 125), .ref (G.2.1 126), .ref (G.2.1 127), .ref (G.2.1 128), .ref (G.2.1 129), .ref (G.2.1 130), .ref (G.2.1 131), .int 0, .int 0, .ref (G.2.1 132), .ref (G.2.1 133), .ref (G.2.1 134), .ref (G.2.1 135), .ref (G.2.1 136), .int 0, .int 0, .ref (G.2.1 137), .ref (G.2.1 138), .ref (G.2.1 139), .int 0, .int 0, .ref (G.2.1 140), .ref (G.2.1 141), .int (-1), .int 7, .ref (G.2.1 142), .int 0, .long 0, .ref (G.2.1 143), .int 0, .int 0, .int 0, .int 0, .null, .null, .null, .null, .int 0, .null, .null, .null, .null, .int 0, .null, .int 0] := by rw [e22, e21]; rfl
  refine lv_aload_n X.1 X.2.1 dX12_init_176 rfl (lv_at hl 0 rfl) ?_
  refine lv_bipush (v := 7) X.1 X.2.1 dX12_init_177 (by decide) ?_
  refine s_newa X I (k := 144) rfl (hL 20 _ rfl) z (by decide) rfl (by decide) (Nat.le_of_ble_eq_true rfl) (Nat.le_of_ble_eq_true rfl) dX12_init_179 (fun H z I => ?_)
  refine s_putF X I inX12 tyX12 tyX12_ok nmX12 rfl l22 39 (by decide) lf_X12_77 rfl rfl (ty := .array .int) rfl rfl rfl dX12_init_181 (fun H1 locs f23 z1 e23 l23 I => ?_)
  replace z := z1.trans z
  clear z1
  replace e23 : f23 = [.int 0, .ref (G.2.1 124), .int 0, .int 0, .int 0, .int 0, .ref (G.2.1 125), .ref (G.2.1 126), .ref (G.2.1 127), .ref (G.2.1 128), .ref (G.2.1 129), .ref (G.2.1 130), .ref (G.2.1 131), .int 0, .int 0, .ref (G.2.1 132), .ref (G.2.1 133), .ref (G.2.1 134), .ref (G.2.1 135), .ref (G.2.1 136), .int 0, .int 0, .ref (G.2.1 137), .ref (G.2.1 138), .ref (G.2.1 139), .int 0, .int 0, .ref (G.2.1 140), .ref (G.2.1 141), .int (-1), .int 7, .ref (G.2.1 142), .int 0, .long 0, .ref (G.2.1 143), .int 0, .int 0, .int 0, .int 0, .ref (G.2.1 144), .null, .null, .null, .int 0, .null, .null, .null, .null, .int 0, .null, .int 0] := by rw [e23, e22]; rfl
  refine lv_aload_n X.1 X.2.1 dX12_init_184 rfl (lv_at hl 0 rfl) ?_
  refine lv_bipush (v := 10) X.1 X.2.1 dX12_init_185 (by decide) ?_
  refine s_newa X I (k := 145) rfl (hL 21 _ rfl) z (by decide) rfl (by decide) (Nat.le_of_ble_eq_true rfl) (Nat.le_of_ble_eq_true rfl) dX12_init_187 (fun H z I => ?_)
  refine s_putF X I inX12 tyX12 tyX12_ok nmX12 rfl l23 40 (by decide) lf_X12_80 rfl rfl (ty := .array .int) rfl rfl rfl dX12_init_189 (fun H1 locs f24 z1 e24 l24 I => ?_)
  replace z := z1.trans z
  clear z1
  replace e24 : f24 = [.int 0, .ref (G.2.1 124), .int 0, .int 0, .int 0, .int 0, .ref (G.2.1 125), .ref (G.2.1 126), .ref (G.2.1 127), .ref (G.2.1 128), .ref (G.2.1 129), .ref (G.2.1 130), .ref (G.2.1 131), .int 0, .int 0, .ref (G.2.1 132), .ref (G.2.1 133), .ref (G.2.1 134), .ref (G.2.1 135), .ref (G.2.1 136), .int 0, .int 0, .ref (G.2.1 137), .ref (G.2.1 138), .ref (G.2.1 139), .int 0, .int 0, .ref (G.2.1 140), .ref (G.2.1 141), .int (-1), .int 7, .ref (G.2.1 142), .int 0, .long 0, .ref (G.2.1 143), .int 0, .int 0, .int 0, .int 0, .ref (G.2.1 144), .ref (G.2.1 145), .null, .null, .int 0, .null, .null, .null, .null, .int 0, .null, .int 0] := by rw [e24, e23]; rfl
  refine lv_aload_n X.1 X.2.1 dX12_init_192 rfl (lv_at hl 0 rfl) ?_
  refine lv_bipush (v := 10) X.1 X.2.1 dX12_init_193 (by decide) ?_
  refine s_newa X I (k := 146) rfl (hL 22 _ rfl) z (by decide) rfl (by decide) (Nat.le_of_ble_eq_true rfl) (Nat.le_of_ble_eq_true rfl) dX12_init_195 (fun H z I => ?_)
  refine s_putF X I inX12 tyX12 tyX12_ok nmX12 rfl l24 41 (by decide) lf_X12_83 rfl rfl (ty := .array .int) rfl rfl rfl dX12_init_197 (fun H1 locs f25 z1 e25 l25 I => ?_)
  replace z := z1.trans z
  clear z1
  replace e25 : f25 = [.int 0, .ref (G.2.1 124), .int 0, .int 0, .int 0, .int 0, .ref (G.2.1 125), .ref (G.2.1 126), .ref (G.2.1 127), .ref (G.2.1 128), .ref (G.2.1 129), .ref (G.2.1 130), .ref (G.2.1 131), .int 0, .int 0, .ref (G.2.1 132), .ref (G.2.1 133), .ref (G.2.1 134), .ref (G.2.1 135), .ref (G.2.1 136), .int 0, .int 0, .ref (G.2.1 137), .ref (G.2.1 138), .ref (G.2.1 139), .int 0, .int 0, .ref (G.2.1 140), .ref (G.2.1 141), .int (-1), .int 7, .ref (G.2.1 142), .int 0, .long 0, .ref (G.2.1 143), .int 0, .int 0, .int 0, .int 0, .ref (G.2.1 144), .ref (G.2.1 145), .ref (G.2.1 146), .null, .int 0, .null, .null, .null, .null, .int 0, .null, .int 0] := by rw [e25, e24]; rfl
  refine lv_aload_n X.1 X.2.1 dX12_init_200 rfl (lv_at hl 0 rfl) ?_
  refine lv_bipush (v := 10) X.1 X.2.1 dX12_init_201 (by decide) ?_
  refine s_newa X I (k := 147) rfl (hL 23 _ rfl) z (by decide) rfl (by decide) (Nat.le_of_ble_eq_true rfl) (Nat.le_of_ble_eq_true rfl) dX12_init_203 (fun H z I => ?_)
  refine s_putF X I inX12 tyX12 tyX12_ok nmX12 rfl l25 42 (by decide) lf_X12_86 rfl rfl (ty := .array .int) rfl rfl rfl dX12_init_205 (fun H1 locs f26 z1 e26 l26 I => ?_)
  replace z := z1.trans z
  clear z1
  replace e26 : f26 = [.int 0, .ref (G.2.1 124), .int 0, .int 0, .int 0, .int 0, .ref (G.2.1 125), .ref (G.2.1 126), .ref (G.2.1 127), .ref (G.2.1 128), .ref (G.2.1 129), .ref (G.2.1 130), .ref (G.2.1 131), .int 0, .int 0, .ref (G.2.1 132), .ref (G.2.1 133), .ref (G.2.1 134), .ref (G.2.1 135), .ref (G.2.1 136), .int 0, .int 0, .ref (G.2.1 137), .ref (G.2.1 138), .ref (G.2.1 139), .int 0, .int 0, .ref (G.2.1 140), .ref (G.2.1 141), .int (-1), .int 7, .ref (G.2.1 142), .int 0, .long 0, .ref (G.2.1 143), .int 0, .int 0, .int 0, .int 0, .ref (G.2.1 144), .ref (G.2.1 145), .ref (G.2.1 146), .ref (G.2.1 147), .int 0, .null, .null, .null, .null, .int 0, .null, .int 0] := by rw [e26, e25]; rfl
  refine lv_aload_n X.1 X.2.1 dX12_init_208 rfl (lv_at hl 0 rfl) ?_
  refine lv_bipush (v := 61) X.1 X.2.1 dX12_init_209 (by decide) ?_
  refine s_newa X I (k := 148) rfl (hL 24 _ rfl) z (by decide) rfl (by decide) (Nat.le_of_ble_eq_true rfl) (Nat.le_of_ble_eq_true rfl) dX12_init_211 (fun H z I => ?_)
  refine s_putF X I inX12 tyX12 tyX12_ok nmX12 rfl l26 44 (by decide) lf_X12_89 rfl rfl (ty := .array .int) rfl rfl rfl dX12_init_213 (fun H1 locs f27 z1 e27 l27 I => ?_)
  replace z := z1.trans z
  clear z1
  replace e27 : f27 = [.int 0, .ref (G.2.1 124), .int 0, .int 0, .int 0, .int 0, .ref (G.2.1 125), .ref (G.2.1 126), .ref (G.2.1 127), .ref (G.2.1 128), .ref (G.2.1 129), .ref (G.2.1 130), .ref (G.2.1 131), .int 0, .int 0, .ref (G.2.1 132), .ref (G.2.1 133), .ref (G.2.1 134), .ref (G.2.1 135), .ref (G.2.1 136), .int 0, .int 0, .ref (G.2.1 137), .ref (G.2.1 138), .ref (G.2.1 139), .int 0, .int 0, .ref (G.2.1 140), .ref (G.2.1 141), .int (-1), .int 7, .ref (G.2.1 142), .int 0, .long 0, .ref (G.2.1 143), .int 0, .int 0, .int 0, .int 0, .ref (G.2.1 144), .ref (G.2.1 145), .ref (G.2.1 146), .ref (G.2.1 147), .int 0, .ref (G.2.1 148), .null, .null, .null, .int 0, .null, .int 0] := by rw [e27, e26]; rfl
  refine lv_aload_n X.1 X.2.1 dX12_init_216 rfl (lv_at hl 0 rfl) ?_
  refine lv_bipush (v := 10) X.1 X.2.1 dX12_init_217 (by decide) ?_
  refine s_newa X I (k := 149) rfl (hL 25 _ rfl) z (by decide) rfl (by decide) (Nat.le_of_ble_eq_true rfl) (Nat.le_of_ble_eq_true rfl) dX12_init_219 (fun H z I => ?_)
  refine s_putF X I inX12 tyX12 tyX12_ok nmX12 rfl l27 45 (by decide) lf_X12_92 rfl rfl (ty := .array .int) rfl rfl rfl dX12_init_221 (fun H1 locs f28 z1 e28 l28 I => ?_)
  replace z := z1.trans z
  clear z1
  replace e28 : f28 = [.int 0, .ref (G.2.1 124), .int 0, .int 0, .int 0, .int 0, .ref (G.2.1 125), .ref (G.2.1 126), .ref (G.2.1 127), .ref (G.2.1 128), .ref (G.2.1 129), .ref (G.2.1 130), .ref (G.2.1 131), .int 0, .int 0, .ref (G.2.1 132), .ref (G.2.1 133), .ref (G.2.1 134), .ref (G.2.1 135), .ref (G.2.1 136), .int 0, .int 0, .ref (G.2.1 137), .ref (G.2.1 138), .ref (G.2.1 139), .int 0, .int 0, .ref (G.2.1 140), .ref (G.2.1 141), .int (-1), .int 7, .ref (G.2.1 142), .int 0, .long 0, .ref (G.2.1 143), .int 0, .int 0, .int 0, .int 0, .ref (G.2.1 144), .ref (G.2.1 145), .ref (G.2.1 146), .ref (G.2.1 147), .int 0, .ref (G.2.1 148), .ref (G.2.1 149), .null, .null, .int 0, .null, .int 0] := by rw [e28, e27]; rfl
  refine lv_aload_n X.1 X.2.1 dX12_init_224 rfl (lv_at hl 0 rfl) ?_
  refine lv_bipush (v := 10) X.1 X.2.1 dX12_init_225 (by decide) ?_
  refine s_newa X I (k := 150) rfl (hL 26 _ rfl) z (by decide) rfl (by decide) (Nat.le_of_ble_eq_true rfl) (Nat.le_of_ble_eq_true rfl) dX12_init_227 (fun H z I => ?_)
  refine s_putF X I inX12 tyX12 tyX12_ok nmX12 rfl l28 46 (by decide) lf_X12_95 rfl rfl (ty := .array .int) rfl rfl rfl dX12_init_229 (fun H1 locs f29 z1 e29 l29 I => ?_)
  replace z := z1.trans z
  clear z1
  replace e29 : f29 = [.int 0, .ref (G.2.1 124), .int 0, .int 0, .int 0, .int 0, .ref (G.2.1 125), .ref (G.2.1 126), .ref (G.2.1 127), .ref (G.2.1 128), .ref (G.2.1 129), .ref (G.2.1 130), .ref (G.2.1 131), .int 0, .int 0, .ref (G.2.1 132), .ref (G.2.1 133), .ref (G.2.1 134), .ref (G.2.1 135), .ref (G.2.1 136), .int 0, .int 0, .ref (G.2.1 137), .ref (G.2.1 138), .ref (G.2.1 139), .int 0, .int 0, .ref (G.2.1 140), .ref (G.2.1 141), .int (-1), .int 7, .ref (G.2.1 142), .int 0, .long 0, .ref (G.2.1 143), .int 0, .int 0, .int 0, .int 0, .ref (G.2.1 144), .ref (G.2.1 145), .ref (G.2.1 146), .ref (G.2.1 147), .int 0, .ref (G.2.1 148), .ref (G.2.1 149), .ref (G.2.1 150), .null, .int 0, .null, .int 0] := by rw [e29, e28]; rfl
  refine lv_aload_n X.1 X.2.1 dX12_init_232 rfl (lv_at hl 0 rfl) ?_
  refine lv_bipush (v := 10) X.1 X.2.1 dX12_init_233 (by decide) ?_
  refine s_newz X I (k := 151) rfl (hL 27 _ rfl) z (by decide) rfl (Nat.le_of_ble_eq_true rfl) (Nat.le_of_ble_eq_true rfl) dX12_init_235 (fun H z I => ?_)
  refine s_putF X I inX12 tyX12 tyX12_ok nmX12 rfl l29 47 (by decide) lf_X12_98 rfl rfl (ty := .array .boolean) rfl rfl rfl dX12_init_237 (fun H1 locs f30 z1 e30 l30 I => ?_)
  replace z := z1.trans z
  clear z1
  replace e30 : f30 = [.int 0, .ref (G.2.1 124), .int 0, .int 0, .int 0, .int 0, .ref (G.2.1 125), .ref (G.2.1 126), .ref (G.2.1 127), .ref (G.2.1 128), .ref (G.2.1 129), .ref (G.2.1 130), .ref (G.2.1 131), .int 0, .int 0, .ref (G.2.1 132), .ref (G.2.1 133), .ref (G.2.1 134), .ref (G.2.1 135), .ref (G.2.1 136), .int 0, .int 0, .ref (G.2.1 137), .ref (G.2.1 138), .ref (G.2.1 139), .int 0, .int 0, .ref (G.2.1 140), .ref (G.2.1 141), .int (-1), .int 7, .ref (G.2.1 142), .int 0, .long 0, .ref (G.2.1 143), .int 0, .int 0, .int 0, .int 0, .ref (G.2.1 144), .ref (G.2.1 145), .ref (G.2.1 146), .ref (G.2.1 147), .int 0, .ref (G.2.1 148), .ref (G.2.1 149), .ref (G.2.1 150), .ref (G.2.1 151), .int 0, .null, .int 0] := by rw [e30, e29]; rfl
  refine lv_aload_n X.1 X.2.1 dX12_init_240 rfl (lv_at hl 0 rfl) ?_
  refine lv_sipush (v := 255) X.1 X.2.1 dX12_init_241 (by decide) ?_
  refine s_newa X I (k := 152) rfl (hL 28 _ rfl) z (by decide) rfl (by decide) (Nat.le_of_ble_eq_true rfl) (Nat.le_of_ble_eq_true rfl) dX12_init_244 (fun H z I => ?_)
  refine s_putF X I inX12 tyX12 tyX12_ok nmX12 rfl l30 49 (by decide) lf_X12_102 rfl rfl (ty := .array .int) rfl rfl rfl dX12_init_246 (fun H1 locs f31 z1 e31 l31 I => ?_)
  replace z := z1.trans z
  clear z1
  replace e31 : f31 = [.int 0, .ref (G.2.1 124), .int 0, .int 0, .int 0, .int 0, .ref (G.2.1 125), .ref (G.2.1 126), .ref (G.2.1 127), .ref (G.2.1 128), .ref (G.2.1 129), .ref (G.2.1 130), .ref (G.2.1 131), .int 0, .int 0, .ref (G.2.1 132), .ref (G.2.1 133), .ref (G.2.1 134), .ref (G.2.1 135), .ref (G.2.1 136), .int 0, .int 0, .ref (G.2.1 137), .ref (G.2.1 138), .ref (G.2.1 139), .int 0, .int 0, .ref (G.2.1 140), .ref (G.2.1 141), .int (-1), .int 7, .ref (G.2.1 142), .int 0, .long 0, .ref (G.2.1 143), .int 0, .int 0, .int 0, .int 0, .ref (G.2.1 144), .ref (G.2.1 145), .ref (G.2.1 146), .ref (G.2.1 147), .int 0, .ref (G.2.1 148), .ref (G.2.1 149), .ref (G.2.1 150), .ref (G.2.1 151), .int 0, .ref (G.2.1 152), .int 0] := by rw [e31, e30]; rfl
  rw [e31] at I
  have hP : va_P G.1 vwCl (nW G (123 :: [124, 125, 126, 127, 128, 129, 130, 131, 132, 133, 134, 135, 136, 137, 138, 139, 140, 141, 142, 143, 144, 145, 146, 147, 148, 149, 150, 151, 152]) sI t0) _ := (IN_cg (show _ = nW G (123 :: [124, 125, 126, 127, 128, 129, 130, 131, 132, 133, 134, 135, 136, 137, 138, 139, 140, 141, 142, 143, 144, 145, 146, 147, 148, 149, 150, 151, 152]) sI t0 from congrArg (fun q => ((G.2.1 123, q) : Nat × va_E) :: nW G [124, 125, 126, 127, 128, 129, 130, 131, 132, 133, 134, 135, 136, 137, 138, 139, 140, 141, 142, 143, 144, 145, 146, 147, 148, 149, 150, 151, 152] sI t0) (cl_12 (k := 123) rfl).symm) I).1
  exact W.vret X.1 X.2.1 X.2.2.1 (fun t ht hW => ⟨⟨(), rfl, trivial, by rw [ht]; exact hP, by rw [ht, z]; rfl⟩, I.2.2.1.F ht⟩) I.2.2.1.2.2 dX12_init_249 X.2.2.2.2.2.2.1
def LL3 : List Nat := [8, 9]
set_option maxHeartbeats 4000000 in
set_option maxRecDepth 100000 in
theorem q3_init (l : Launch) (G : GT) : Kc l yX3_init cX3_init 2 { frames := 3, cells := 2, slots := 242, locals := 256 } 2 242 G 7 [.ref (G.2.1 1)] 3 [.null, .null] [8, 9] sI t0 := by
  refine k_start (by decide +kernel) (fun _ => Nat.le_of_ble_eq_true rfl) rfl rfl (fun p e s m args below meth c ls A hAe hL X I hl hO => ?_)
  have hl : lv_has ls 2 [(0, .ref (G.2.1 7)), (1, .ref (G.2.1 1))] := hl
  have z : s.heap.size = s.heap.size + 0 := rfl
  obtain ⟨f0, e0⟩ : ∃ f : List Value, f = [.null, .null] := ⟨_, rfl⟩
  have l0 : f0.length = 2 := by rw [e0]; rfl
  replace I : IN G A s s.heap [] ((G.2.1 7, .inr (3, f0)) :: nW G [] sI t0) := by rw [e0]; exact I
  refine lv_aload_n X.1 X.2.1 dX3_init_0 rfl (lv_at hl 0 rfl) ?_
  refine n_oi X lm_X3_3 hl.1 (Nat.le_of_ble_eq_true rfl) (Nat.le_of_ble_eq_true rfl) dX3_init_1 ?_
  refine lv_aload_n X.1 X.2.1 dX3_init_4 rfl (lv_at hl 0 rfl) ?_
  refine lv_aload_n X.1 X.2.1 dX3_init_5 rfl (lv_at hl 1 rfl) ?_
  refine s_putF X I inX3 tyX3 tyX3_ok nmX3 rfl l0 0 (by decide) lf_X3_9 rfl rfl (ty := .object "SaintCarried$Tape") rfl rfl rfl dX3_init_6 (fun H1 locs f1 z1 e1 l1 I => ?_)
  replace z := z1.trans z
  clear z1
  replace e1 : f1 = [.ref (G.2.1 1), .null] := by rw [e1, e0]; rfl
  refine lv_aload_n X.1 X.2.1 dX3_init_9 rfl (lv_at hl 0 rfl) ?_
  refine n_obj X (a := G.2.1 8) I inX1 tyX1 tyX1_ok lk_X3_15 la_X1 ln_X1 (ci := 1) rfl (fs := [.null, .int 0]) (fun j hj => by rcases (show j = 0 ∨ j = 1 by omega) with rfl | rfl <;> rfl) (Nat.le_of_ble_eq_true rfl) (Nat.le_of_ble_eq_true rfl) ((hL 0 _ rfl).trans z.symm) dX3_init_10 (fun H z1 I => ?_)
  replace z : H.size = s.heap.size + 1 := by rw [z1, hL 0 _ rfl]
  clear z1
  refine lv_dup X.1 X.2.1 dX3_init_13 rfl ?_
  refine n_call X hO (ws0 := _ :: nW G [] sI t0) I (q1_init l G 8 ⟨by decide, rfl, rfl⟩) (fun i q h => (hL (1 + i) q (lsub (L := LL3) (M := [9]) 1 (by decide) i q h)).trans (by rw [z]; omega)) pk_X1_init li_X1_init rfl lm_X3_17 rfl hl.1 rfl (Nat.le_of_ble_eq_true rfl) dX3_init_14 ⟨Nat.le_of_ble_eq_true rfl, Nat.le_of_ble_eq_true rfl⟩ ⟨rfl, rfl⟩ ⟨Nat.le_of_ble_eq_true rfl, Nat.le_of_ble_eq_true rfl⟩ (fun H1 locs1 z1 I => ?_)
  replace I := IN_cg (show (_ :: nW G _ sI t0) ++ nW G _ sI t0 = _ :: nW G ([] ++ [8, 9]) sI t0 from by rw [← nW_app]; rfl) I
  replace z : H1.size = s.heap.size + 2 := by rw [z1, z]; rfl
  clear z1
  refine s_putF X I inX3 tyX3 tyX3_ok nmX3 rfl l1 1 (by decide) lf_X3_18 rfl rfl (ty := .object "SaintCarried$Law") rfl rfl rfl dX3_init_17 (fun H1 locs f2 z1 e2 l2 I => ?_)
  replace z := z1.trans z
  clear z1
  replace e2 : f2 = [.ref (G.2.1 1), .ref (G.2.1 8)] := by rw [e2, e1]; rfl
  rw [e2] at I
  have hP : va_P G.1 vwCl (nW G (7 :: [8, 9]) sI t0) _ := (IN_cg (show _ = nW G (7 :: [8, 9]) sI t0 from congrArg (fun q => ((G.2.1 7, q) : Nat × va_E) :: nW G [8, 9] sI t0) (cl_3 (k := 7) rfl).symm) I).1
  exact W.vret X.1 X.2.1 X.2.2.1 (fun t ht hW => ⟨⟨(), rfl, trivial, by rw [ht]; exact hP, by rw [ht, z]; rfl⟩, I.2.2.1.F ht⟩) I.2.2.1.2.2 dX3_init_20 X.2.2.2.2.2.2.1
def LL9 : List Nat := [4, 5, 6]
set_option maxHeartbeats 4000000 in
set_option maxRecDepth 100000 in
theorem q9_init (l : Launch) (G : GT) : Kc l yX9_init cX9_init 2 { frames := 3, cells := 3, slots := 41, locals := 256 } 3 41 G 3 [.ref (G.2.1 1)] 9 [.null, .null] [4, 5, 6] sI t0 := by
  refine k_start (by decide +kernel) (fun _ => Nat.le_of_ble_eq_true rfl) rfl rfl (fun p e s m args below meth c ls A hAe hL X I hl hO => ?_)
  have hl : lv_has ls 2 [(0, .ref (G.2.1 3)), (1, .ref (G.2.1 1))] := hl
  have z : s.heap.size = s.heap.size + 0 := rfl
  obtain ⟨f0, e0⟩ : ∃ f : List Value, f = [.null, .null] := ⟨_, rfl⟩
  have l0 : f0.length = 2 := by rw [e0]; rfl
  replace I : IN G A s s.heap [] ((G.2.1 3, .inr (9, f0)) :: nW G [] sI t0) := by rw [e0]; exact I
  refine lv_aload_n X.1 X.2.1 dX9_init_0 rfl (lv_at hl 0 rfl) ?_
  refine n_oi X lm_X9_3 hl.1 (Nat.le_of_ble_eq_true rfl) (Nat.le_of_ble_eq_true rfl) dX9_init_1 ?_
  refine lv_aload_n X.1 X.2.1 dX9_init_4 rfl (lv_at hl 0 rfl) ?_
  refine lv_aload_n X.1 X.2.1 dX9_init_5 rfl (lv_at hl 1 rfl) ?_
  refine s_putF X I inX9 tyX9 tyX9_ok nmX9 rfl l0 0 (by decide) lf_X9_9 rfl rfl (ty := .object "SaintCarried$Tape") rfl rfl rfl dX9_init_6 (fun H1 locs f1 z1 e1 l1 I => ?_)
  replace z := z1.trans z
  clear z1
  replace e1 : f1 = [.ref (G.2.1 1), .null] := by rw [e1, e0]; rfl
  refine lv_aload_n X.1 X.2.1 dX9_init_9 rfl (lv_at hl 0 rfl) ?_
  refine n_obj X (a := G.2.1 4) I inX8 tyX8 tyX8_ok lk_X9_15 la_X8 ln_X8 (ci := 8) rfl (fs := [.null, .null]) (fun j hj => by rcases (show j = 0 ∨ j = 1 by omega) with rfl | rfl <;> rfl) (Nat.le_of_ble_eq_true rfl) (Nat.le_of_ble_eq_true rfl) ((hL 0 _ rfl).trans z.symm) dX9_init_10 (fun H z1 I => ?_)
  replace z : H.size = s.heap.size + 1 := by rw [z1, hL 0 _ rfl]
  clear z1
  refine lv_dup X.1 X.2.1 dX9_init_13 rfl ?_
  refine n_call X hO (ws0 := _ :: nW G [] sI t0) I (q8_init l G 4 rfl rfl rfl) (fun i q h => (hL (1 + i) q (lsub (L := LL9) (M := [5, 6]) 1 (by decide) i q h)).trans (by rw [z]; omega)) pk_X8_init li_X8_init rfl lm_X9_17 rfl hl.1 rfl (Nat.le_of_ble_eq_true rfl) dX9_init_14 ⟨Nat.le_of_ble_eq_true rfl, Nat.le_of_ble_eq_true rfl⟩ ⟨rfl, rfl⟩ ⟨Nat.le_of_ble_eq_true rfl, Nat.le_of_ble_eq_true rfl⟩ (fun H1 locs1 z1 I => ?_)
  replace I := IN_cg (show (_ :: nW G _ sI t0) ++ nW G _ sI t0 = _ :: nW G ([] ++ [4, 5, 6]) sI t0 from by rw [← nW_app]; rfl) I
  replace z : H1.size = s.heap.size + 3 := by rw [z1, z]; rfl
  clear z1
  refine s_putF X I inX9 tyX9 tyX9_ok nmX9 rfl l1 1 (by decide) lf_X9_18 rfl rfl (ty := .object "SaintCarried$Town") rfl rfl rfl dX9_init_17 (fun H1 locs f2 z1 e2 l2 I => ?_)
  replace z := z1.trans z
  clear z1
  replace e2 : f2 = [.ref (G.2.1 1), .ref (G.2.1 4)] := by rw [e2, e1]; rfl
  rw [e2] at I
  have hP : va_P G.1 vwCl (nW G (3 :: [4, 5, 6]) sI t0) _ := (IN_cg (show _ = nW G (3 :: [4, 5, 6]) sI t0 from congrArg (fun q => ((G.2.1 3, q) : Nat × va_E) :: nW G [4, 5, 6] sI t0) (cl_9 (k := 3) rfl).symm) I).1
  exact W.vret X.1 X.2.1 X.2.2.1 (fun t ht hW => ⟨⟨(), rfl, trivial, by rw [ht]; exact hP, by rw [ht, z]; rfl⟩, I.2.2.1.F ht⟩) I.2.2.1.2.2 dX9_init_20 X.2.2.2.2.2.2.1
def LL4 : List Nat := []
set_option maxHeartbeats 4000000 in
set_option maxRecDepth 100000 in
theorem q4_init (l : Launch) (G : GT) : Kc l yX4_init cX4_init 4 { frames := 2, cells := 0, slots := 0, locals := 128 } 0 0 G 32 [.ref (G.2.1 10), .ref (G.2.1 13), .ref (G.2.1 24)] 4 [.null, .null, .null, .int 0, .int 0, .int 0, .int 0, .int 0, .int 0, .int 0, .int 0, .int 0, .int 0] [] sI t0 := by
  refine k_start (by decide +kernel) (fun _ => Nat.le_of_ble_eq_true rfl) rfl rfl (fun p e s m args below meth c ls A hAe hL X I hl hO => ?_)
  have hl : lv_has ls 4 [(0, .ref (G.2.1 32)), (1, .ref (G.2.1 10)), (2, .ref (G.2.1 13)), (3, .ref (G.2.1 24))] := hl
  have z : s.heap.size = s.heap.size + 0 := rfl
  obtain ⟨f0, e0⟩ : ∃ f : List Value, f = [.null, .null, .null, .int 0, .int 0, .int 0, .int 0, .int 0, .int 0, .int 0, .int 0, .int 0, .int 0] := ⟨_, rfl⟩
  have l0 : f0.length = 13 := by rw [e0]; rfl
  replace I : IN G A s s.heap [] ((G.2.1 32, .inr (4, f0)) :: nW G [] sI t0) := by rw [e0]; exact I
  refine lv_aload_n X.1 X.2.1 dX4_init_0 rfl (lv_at hl 0 rfl) ?_
  refine n_oi X lm_X4_3 hl.1 (Nat.le_of_ble_eq_true rfl) (Nat.le_of_ble_eq_true rfl) dX4_init_1 ?_
  refine lv_aload_n X.1 X.2.1 dX4_init_4 rfl (lv_at hl 0 rfl) ?_
  refine lv_aload_n X.1 X.2.1 dX4_init_5 rfl (lv_at hl 1 rfl) ?_
  refine s_putF X I inX4 tyX4 tyX4_ok nmX4 rfl l0 0 (by decide) lf_X4_9 rfl rfl (ty := .object "SaintCarried$Town") rfl rfl rfl dX4_init_6 (fun H1 locs f1 z1 e1 l1 I => ?_)
  replace z := z1.trans z
  clear z1
  replace e1 : f1 = [.ref (G.2.1 10), .null, .null, .int 0, .int 0, .int 0, .int 0, .int 0, .int 0, .int 0, .int 0, .int 0, .int 0] := by rw [e1, e0]; rfl
  refine lv_aload_n X.1 X.2.1 dX4_init_9 rfl (lv_at hl 0 rfl) ?_
  refine lv_aload_n X.1 X.2.1 dX4_init_10 rfl (lv_at hl 2 rfl) ?_
  refine s_putF X I inX4 tyX4 tyX4_ok nmX4 rfl l1 1 (by decide) lf_X4_15 rfl rfl (ty := .object "SaintCarried$LawBook") rfl rfl rfl dX4_init_11 (fun H1 locs f2 z1 e2 l2 I => ?_)
  replace z := z1.trans z
  clear z1
  replace e2 : f2 = [.ref (G.2.1 10), .ref (G.2.1 13), .null, .int 0, .int 0, .int 0, .int 0, .int 0, .int 0, .int 0, .int 0, .int 0, .int 0] := by rw [e2, e1]; rfl
  refine lv_aload_n X.1 X.2.1 dX4_init_14 rfl (lv_at hl 0 rfl) ?_
  refine lv_aload_n X.1 X.2.1 dX4_init_15 rfl (lv_at hl 3 rfl) ?_
  refine s_putF X I inX4 tyX4 tyX4_ok nmX4 rfl l2 2 (by decide) lf_X4_19 rfl rfl (ty := .object "SaintCarried$Day") rfl rfl rfl dX4_init_16 (fun H1 locs f3 z1 e3 l3 I => ?_)
  replace z := z1.trans z
  clear z1
  replace e3 : f3 = [.ref (G.2.1 10), .ref (G.2.1 13), .ref (G.2.1 24), .int 0, .int 0, .int 0, .int 0, .int 0, .int 0, .int 0, .int 0, .int 0, .int 0] := by rw [e3, e2]; rfl
  rw [e3] at I
  have hP : va_P G.1 vwCl (nW G (32 :: []) sI t0) _ := (IN_cg (show _ = nW G (32 :: []) sI t0 from congrArg (fun q => ((G.2.1 32, q) : Nat × va_E) :: nW G [] sI t0) (cl_4 (k := 32) rfl).symm) I).1
  exact W.vret X.1 X.2.1 X.2.2.1 (fun t ht hW => ⟨⟨(), rfl, trivial, by rw [ht]; exact hP, by rw [ht, z]; rfl⟩, I.2.2.1.F ht⟩) I.2.2.1.2.2 dX4_init_19 X.2.2.2.2.2.2.1
