abbrev L11 : List Nat := [1, 2, 3, 4, 5, 6, 7, 8, 9, 10, 11, 12, 13, 14, 16, 17, 18, 19, 20, 21, 22, 23, 15, 24, 25, 26, 27, 43, 44, 45, 46, 47, 48, 49, 50, 51, 52, 53, 54, 55, 56, 57, 58, 59, 60, 61, 62, 63, 64, 65, 66, 67, 68, 69, 70, 71, 72, 73, 74, 75, 76, 77, 78, 79, 80, 81, 82, 83, 84, 85, 86, 87, 88, 89, 90, 91, 92, 93, 94, 95, 96, 97, 98, 99, 100, 101, 102, 103, 104, 105, 106, 107, 108, 109, 110, 111, 112, 113, 114, 115, 116, 117, 118, 119, 120, 121, 122, 28, 29, 30, 31, 32, 33, 34, 35, 36, 37, 38, 39, 40, 41, 42]
abbrev L12 : List Nat := [124, 125, 126, 127, 128, 129, 130, 131, 132, 133, 134, 135, 136, 137, 138, 139, 140, 141, 142, 143, 144, 145, 146, 147, 148, 149, 150, 151, 152]
def LWb : List Nat := (0 :: L11) ++ (123 :: L12) ++ [153]
theorem LW_at : ∀ k : Fin 154, LWb[posW k.val]? = some k.val := by decide +kernel
theorem L11_at : ∀ i : Fin 122, ∀ q : Fin 154, L11[i.val]? = some q.val → posW q.val = i.val + 1 := by decide +kernel
theorem L11_lt : ∀ q ∈ L11, q < 154 := by decide +kernel
theorem L12_lt : ∀ q ∈ L12, q < 154 := by decide +kernel
theorem L12_at : ∀ i : Fin 29, ∀ q : Fin 154, L12[i.val]? = some q.val → posW q.val = i.val + 124 := by decide +kernel
theorem ad_11 {i q : Nat} (h : L11[i]? = some q) : posW q = i + 1 := by
  have hi : i < 122 := (List.getElem?_eq_some_iff.mp h).1
  have hq : q < 154 := L11_lt q (List.mem_of_getElem? h)
  exact L11_at ⟨i, hi⟩ ⟨q, hq⟩ h
theorem ad_12 {i q : Nat} (h : L12[i]? = some q) : posW q = i + 124 := by
  have hi : i < 29 := (List.getElem?_eq_some_iff.mp h).1
  have hq : q < 154 := L12_lt q (List.mem_of_getElem? h)
  exact L12_at ⟨i, hi⟩ ⟨q, hq⟩ h
theorem df_11 : ∀ j, j < 16 → defaultValue (tyX11 j) = vp_V [.null, .null, .null, .null, .null, .null, .null, .null, .null, .null, .null, .null, .null, .null, .int 0, .long 0] j := fun j hj => match j, hj with
  | 0, _ => rfl
  | 1, _ => rfl
  | 2, _ => rfl
  | 3, _ => rfl
  | 4, _ => rfl
  | 5, _ => rfl
  | 6, _ => rfl
  | 7, _ => rfl
  | 8, _ => rfl
  | 9, _ => rfl
  | 10, _ => rfl
  | 11, _ => rfl
  | 12, _ => rfl
  | 13, _ => rfl
  | 14, _ => rfl
  | 15, _ => rfl
  | j + 16, h => absurd h (by omega)
theorem df_12 : ∀ j, j < 51 → defaultValue (tyX12 j) = vp_V [.int 0, .null, .int 0, .int 0, .int 0, .int 0, .null, .null, .null, .null, .null, .null, .null, .int 0, .int 0, .null, .null, .null, .null, .null, .int 0, .int 0, .null, .null, .null, .int 0, .int 0, .null, .null, .int 0, .int 0, .null, .int 0, .long 0, .null, .int 0, .int 0, .int 0, .int 0, .null, .null, .null, .null, .int 0, .null, .null, .null, .null, .int 0, .null, .int 0] j := fun j hj => match j, hj with
  | 0, _ => rfl
  | 1, _ => rfl
  | 2, _ => rfl
  | 3, _ => rfl
  | 4, _ => rfl
  | 5, _ => rfl
  | 6, _ => rfl
  | 7, _ => rfl
  | 8, _ => rfl
  | 9, _ => rfl
  | 10, _ => rfl
  | 11, _ => rfl
  | 12, _ => rfl
  | 13, _ => rfl
  | 14, _ => rfl
  | 15, _ => rfl
  | 16, _ => rfl
  | 17, _ => rfl
  | 18, _ => rfl
  | 19, _ => rfl
  | 20, _ => rfl
  | 21, _ => rfl
  | 22, _ => rfl
  | 23, _ => rfl
  | 24, _ => rfl
  | 25, _ => rfl
  | 26, _ => rfl
  | 27, _ => rfl
  | 28, _ => rfl
  | 29, _ => rfl
  | 30, _ => rfl
  | 31, _ => rfl
  | 32, _ => rfl
  | 33, _ => rfl
  | 34, _ => rfl
  | 35, _ => rfl
  | 36, _ => rfl
  | 37, _ => rfl
  | 38, _ => rfl
  | 39, _ => rfl
  | 40, _ => rfl
  | 41, _ => rfl
  | 42, _ => rfl
  | 43, _ => rfl
  | 44, _ => rfl
  | 45, _ => rfl
  | 46, _ => rfl
  | 47, _ => rfl
  | 48, _ => rfl
  | 49, _ => rfl
  | 50, _ => rfl
  | j + 51, h => absurd h (by omega)
theorem w0_world {base : Nat} {D : va_G} {cA : Nat → ClassId} {st : Nat → Nat} {H : Heap} (h : va_P D vwCl (nW (GW base D cA st) LWb sI t0) H) : va_P D vwCl (wW (GW base D cA st) sI t0) H := by
  intro k q hq
  obtain ⟨hk, rfl⟩ := wW_get hq
  refine h (posW k) _ ?_
  unfold nW
  rw [List.getElem?_map, LW_at ⟨k, hk⟩]
  rfl
set_option maxHeartbeats 4000000 in
set_option maxRecDepth 100000 in
/-- from the entry to the head of the loop -/
theorem w0_pre {p : Program} {l : Launch} {e : Env} {s : State} {m : MethodId} {below : List Frame} {meth : Method} {c : Code} {b : Nat} {D : va_G} {cA : Nat → ClassId} {st : Nat → Nat} {Q : State → Prop} (X : LNk p s m #[Value.ref b] c cL_law RL 7 (GW s.heap.size D cA st) (AW (GW s.heap.size D cA st) s.heap.size)) (hO : AO2 s) {ls : Array Slot} (hl : lv_has ls 7 [(0, .ref b)])
    (kk : ∀ (H : Heap) (locs : List Loc) (ls : Array Slot), IX (GW s.heap.size D cA st) s H locs sI t0 → lv_has ls 7 [(4, .int 0), (3, .ref ((GW s.heap.size D cA st).2.1 153)), (2, .ref ((GW s.heap.size D cA st).2.1 123)), (1, .ref ((GW s.heap.size D cA st).2.1 0)), (0, .ref b)] → W p l e room_1 s m #[Value.ref b] below meth c H locs 160 25000 Q (F0 m 23 ls [])) : W p l e room_1 s m #[Value.ref b] below meth c s.heap [] 0 0 Q (F0 m 0 ls []) := by
  obtain ⟨G, hG⟩ : ∃ G, G = GW s.heap.size D cA st := ⟨_, rfl⟩
  have hadr : ∀ k, G.2.1 k = s.heap.size + posW k := fun k => by rw [hG]
  have I : IN G (AW G s.heap.size) s s.heap [] [] := ⟨fun k q h => by simp at h, ⟨fun i j p q h => by simp at h, fun k q h => by simp at h⟩, va_S.rf, fun q h => Or.inr h⟩
  rw [← hG] at X kk
  have z0 : s.heap.size = s.heap.size := rfl
  have a0 : G.2.1 0 = s.heap.size := hadr 0
  refine l_obj X (a := G.2.1 0) I inX11 tyX11 tyX11_ok lk_L_8 la_X11 ln_X11 (ci := 11) rfl (fs := [.null, .null, .null, .null, .null, .null, .null, .null, .null, .null, .null, .null, .null, .null, .int 0, .long 0]) df_11 (Nat.le_of_ble_eq_true rfl) (Nat.le_of_ble_eq_true rfl) a0 dL_law_0 (fun H1 z1 I => ?_)
  refine lv_dup X.1 X.2.1 dL_law_3 rfl ?_
  refine l_call X hO (ws0 := []) I (q11_init l G) (fun i q h => by rw [hadr, ad_11 h, z1, a0]; omega) pk_X11_init li_X11_init rfl lm_L_15 rfl hl.1 rfl (Nat.le_of_ble_eq_true rfl) dL_law_4 ⟨Nat.le_of_ble_eq_true rfl, Nat.le_of_ble_eq_true rfl⟩ ⟨rfl, rfl⟩ ⟨Nat.le_of_ble_eq_true rfl, Nat.le_of_ble_eq_true rfl⟩ (fun H2 locs2 z2 I => ?_)
  have z2 : H2.size = H1.size + 122 := z2
  refine lv_astore_n (lv' := [(1, .ref (G.2.1 0)), (0, .ref b)]) X.1 X.2.1 dL_law_7 rfl hl (by decide) rfl (fun ls hl => ?_)
  have a1 : G.2.1 123 = H2.size := by rw [hadr, z2, z1, a0, show posW 123 = 123 from rfl]
  refine l_obj X (a := G.2.1 123) I inX12 tyX12 tyX12_ok lk_L_16 la_X12 ln_X12 (ci := 12) rfl (fs := [.int 0, .null, .int 0, .int 0, .int 0, .int 0, .null, .null, .null, .null, .null, .null, .null, .int 0, .int 0, .null, .null, .null, .null, .null, .int 0, .int 0, .null, .null, .null, .int 0, .int 0, .null, .null, .int 0, .int 0, .null, .int 0, .long 0, .null, .int 0, .int 0, .int 0, .int 0, .null, .null, .null, .null, .int 0, .null, .null, .null, .null, .int 0, .null, .int 0]) df_12 (Nat.le_of_ble_eq_true rfl) (Nat.le_of_ble_eq_true rfl) a1 dL_law_8 (fun H3 z3 I => ?_)
  refine lv_dup X.1 X.2.1 dL_law_11 rfl ?_
  refine l_call X hO (ws0 := [] ++ nW G (0 :: L11) sI t0) I (q12_init l G) (fun i q h => by rw [hadr, ad_12 h, z3, a1, z2, z1, a0]; omega) pk_X12_init li_X12_init rfl lm_L_18 rfl hl.1 rfl (Nat.le_of_ble_eq_true rfl) dL_law_12 ⟨Nat.le_of_ble_eq_true rfl, Nat.le_of_ble_eq_true rfl⟩ ⟨rfl, rfl⟩ ⟨Nat.le_of_ble_eq_true rfl, Nat.le_of_ble_eq_true rfl⟩ (fun H4 locs4 z4 I => ?_)
  have z4 : H4.size = H3.size + 29 := z4
  refine lv_astore_n (lv' := [(2, .ref (G.2.1 123)), (1, .ref (G.2.1 0)), (0, .ref b)]) X.1 X.2.1 dL_law_15 rfl hl (by decide) rfl (fun ls hl => ?_)
  refine lv_iconst (v := 1) X.1 X.2.1 dL_law_16 (by decide) ?_
  have a2 : G.2.1 153 = H4.size := by rw [hadr, z4, z3, a1, z2, z1, a0, show posW 153 = 153 from rfl]
  refine l_newl X (a := G.2.1 153) (N := 1) I lt_long (by decide) (by decide) (by decide) (Nat.le_of_ble_eq_true rfl) (Nat.le_of_ble_eq_true rfl) a2 dL_law_17 (fun H5 z5 I => ?_)
  refine lv_astore_n (lv' := [(3, .ref (G.2.1 153)), (2, .ref (G.2.1 123)), (1, .ref (G.2.1 0)), (0, .ref b)]) X.1 X.2.1 dL_law_19 rfl hl (by decide) rfl (fun ls hl => ?_)
  refine lv_iconst (v := 0) X.1 X.2.1 dL_law_20 (by decide) ?_
  refine lv_istore (lv' := [(4, .int 0), (3, .ref (G.2.1 153)), (2, .ref (G.2.1 123)), (1, .ref (G.2.1 0)), (0, .ref b)]) X.1 X.2.1 dL_law_21 hl (by decide) rfl (fun ls hl => ?_)
  refine W.widen (k := 160) (n := 25000) (Nat.le_of_ble_eq_true rfl) (Nat.le_of_ble_eq_true rfl) ?_
  refine kk H5 locs4 ls ⟨?_, I.2.2.1⟩ hl
  subst hG
  refine w0_world ?_
  have hP := I.1
  have e : (GW s.heap.size D cA st).2.1 153 = (GW s.heap.size D cA st).2.1 153 := rfl
  unfold LWb
  rw [← nW_app, ← nW_app]
  exact hP
