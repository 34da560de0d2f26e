def Lb (b n : Nat) : List Nat := (List.range (2 * n)).map (fun i => b + i)
theorem Lb_s (b n : Nat) : Lb b (n + 1) = Lb b n ++ [b + 2 * n, b + 2 * n + 1] := by
  unfold Lb
  rw [show 2 * (n + 1) = 2 * n + 1 + 1 by omega, List.range_succ, List.range_succ]
  simp [Nat.add_assoc]
def fN (G : GT) (b N n : Nat) : Nat → Option Nat := fun i => if n ≤ i ∧ i < N then none else some (G.2.1 (b + 2 * i))
theorem fN_0 (G : GT) (b N : Nat) : ∀ j, j < N → fN G b N 0 j = none := fun j hj => if_pos ⟨Nat.zero_le j, hj⟩
theorem fN_last {G : GT} (b N n : Nat) (h : n = N := by rfl) : fN G b N n = fun i => some (G.2.1 (b + 2 * i)) := by
  funext i
  exact if_neg (by omega)
theorem fN_up (G : GT) {b N n : Nat} (h : n < N) : va_up (fN G b N n) n (some (G.2.1 (b + 2 * n))) = fN G b N (n + 1) := by
  funext i
  unfold va_up fN
  by_cases e : i = n
  · rw [if_pos e, e, if_neg (by omega)]
  · rw [if_neg e]
    by_cases q : n ≤ i ∧ i < N
    · rw [if_pos q, if_pos (by omega)]
    · rw [if_neg q, if_neg (by omega)]
theorem Lb_at {G : GT} {x y : Nat × va_E} {b : Nat} (n : Nat) : (x :: y :: nW G (Lb b (n + 1)) sI t0)[2 + 2 * n]? = some (G.2.1 (b + 2 * n), clW G (b + 2 * n) (sI (b + 2 * n)) (t0 (b + 2 * n))) := by
  rw [show 2 + 2 * n = 2 * n + 1 + 1 by omega, List.getElem?_cons_succ, List.getElem?_cons_succ]
  unfold nW Lb
  rw [List.getElem?_map, List.getElem?_map, List.getElem?_range (by omega)]
  rfl
theorem w_cs {p : Program} {l : Launch} {e : Env} {R : Room} {s : State} {m : MethodId} {args : Array Value} {below : List Frame} {meth : Method} {c : Code} {H : Heap} {locs : List Loc} {c1 s1 c2 s2 : Nat} {Q : State → Prop} {g : JFrame} (h1 : c1 = c2) (h2 : s1 = s2) (h : W p l e R s m args below meth c H locs c1 s1 Q g) : W p l e R s m args below meth c H locs c2 s2 Q g := by
  rw [← h1, ← h2]; exact h
def LL2 : List Nat := [14, 16, 17, 18, 19, 20, 21, 22, 23, 15]
def LLy2 : Bool := (List.range 4).all (fun n => LL2[1 + 2 * n]? == some (16 + 2 * n) && LL2[1 + 2 * n + 1]? == some (16 + 2 * n + 1))
theorem LLx2 (n : Nat) (h : n < 4) : LL2[1 + 2 * n]? = some (16 + 2 * n) ∧ LL2[1 + 2 * n + 1]? = some (16 + 2 * n + 1) := by
  have h0 : LLy2 = true := by decide +kernel
  have := List.all_eq_true.mp h0 n (List.mem_range.mpr h)
  simpa using this
set_option maxHeartbeats 4000000 in
set_option maxRecDepth 100000 in
theorem q2_loop {p : Program} {l : Launch} {e : Env} {s : State} {m : MethodId} {args : Array Value} {below : List Frame} {meth : Method} {c : Code} {Q : State → Prop} {G : GT} {A : Nat → Prop} (X : CNk p s m args meth c cX2_init RX2 2 G A) (hO : AO2 s) (hL : ∀ i q, LL2[i]? = some q → G.2.1 q = s.heap.size + i)
    (kk : ∀ (H : Heap) (locs : List Loc) (ls : Array Slot), H.size = s.heap.size + 9 → IN G A s H locs ((G.2.1 13, .inr (2, [.ref (G.2.1 14), .null, .int 0, .int 0, .int 0, .int 0, .int 0, .int 0, .int 0, .int 0, .int 0])) :: nW G (14 :: Lb 16 4) sI t0) → lv_has ls 2 [(0, .ref (G.2.1 13)), (1, .int (nI 4))] → W p l e { frames := 3, cells := 10, slots := 1004, locals := 256 } s m args below meth c H locs 9 972 Q (F0 m 38 ls [])) :
    ∀ (d n : Nat), n + d = 4 → ∀ (H : Heap) (locs : List Loc) (ls : Array Slot), H.size = s.heap.size + (1 + 2 * n) → IN G A s H locs ((G.2.1 13, .inr (2, [.ref (G.2.1 14), .null, .int 0, .int 0, .int 0, .int 0, .int 0, .int 0, .int 0, .int 0, .int 0])) :: (G.2.1 14, .inl (G.2.2.1 4, 4, .inr (.inr (.inr (.inr (fN G 16 4 n)))))) :: nW G (Lb 16 n) sI t0) → lv_has ls 2 [(0, .ref (G.2.1 13)), (1, .int (nI n))] → W p l e { frames := 3, cells := 10, slots := 1004, locals := 256 } s m args below meth c H locs (1 + 2 * n) (4 + 242 * n) Q (F0 m 14 ls []) := by
  intro d
  induction d with
  | zero =>
    intro n hn H locs ls z I hl
    obtain rfl : n = 4 := by omega
    refine lv_iload_n X.1 X.2.1 dX2_init_14 rfl (lv_at hl 1 rfl) ?_
    refine lv_iconst (v := 4) X.1 X.2.1 dX2_init_15 (by decide) ?_
    refine lv_icmp_ge (tgt := 38) X.1 X.2.1 dX2_init_16 (by decide) (fun c1 => ?_) (fun c1 => ?_)
    · refine kk H locs ls z (IN_cg ?_ I) hl
      have e : (fN G 16 4 4) = fun i => some (G.2.1 (16 + 2 * i)) := fN_last _ _ _
      show _ :: (G.2.1 14, .inl (G.2.2.1 4, 4, .inr (.inr (.inr (.inr (fN G 16 4 4)))))) :: nW G (Lb 16 4) sI t0 = (G.2.1 13, .inr (2, [.ref (G.2.1 14), .null, .int 0, .int 0, .int 0, .int 0, .int 0, .int 0, .int 0, .int 0, .int 0])) :: (G.2.1 14, clW G 14 (sI 14) (t0 14)) :: nW G (Lb 16 4) sI t0
      rw [e, cl_21 (k := 14) rfl]
    · exact absurd (show (4 : Int32) ≤ nI 4 from by decide) c1
  | succ d ih =>
    intro n hn H locs ls z I hl
    have hn4 : n < 4 := by omega
    refine lv_iload_n X.1 X.2.1 dX2_init_14 rfl (lv_at hl 1 rfl) ?_
    refine lv_iconst (v := 4) X.1 X.2.1 dX2_init_15 (by decide) ?_
    refine lv_icmp_ge (tgt := 38) X.1 X.2.1 dX2_init_16 (by decide) (fun c1 => absurd c1 (nI_ge (a := n) (b := 4) hn4 (by decide))) (fun _ => ?_)
    refine lv_aload_n X.1 X.2.1 dX2_init_19 rfl (lv_at hl 0 rfl) ?_
    refine n_get X I 0 rfl rfl inX2 0 (by decide) lf_X2_11 (v := .ref (G.2.1 14)) rfl dX2_init_20 ?_
    refine lv_iload_n X.1 X.2.1 dX2_init_23 rfl (lv_at hl 1 rfl) ?_
    have a1 : G.2.1 (16 + 2 * n) = s.heap.size + (1 + 2 * n) := hL _ _ (LLx2 n hn4).1
    have a2 : G.2.1 (16 + 2 * n + 1) = s.heap.size + (1 + 2 * n + 1) := hL _ _ (LLx2 n hn4).2
    refine n_obj X (a := G.2.1 (16 + 2 * n)) I inX1 tyX1 tyX1_ok lk_X2_9 la_X1 ln_X1 (ci := 1) rfl (fs := [.null, .int 0]) (fun j hj => by rcases (show j = 0 ∨ j = 1 by omega) with rfl | rfl <;> rfl) (by show _ ≤ 10; omega) (by show _ ≤ 1004; omega) (a1.trans z.symm) dX2_init_24 (fun H1 z1 I => ?_)
    refine lv_dup X.1 X.2.1 dX2_init_27 rfl ?_
    refine n_call X hO (ws0 := _ :: _ :: nW G (Lb 16 n) sI t0) I (q1_init l G (16 + 2 * n) (law_all n hn4)) (fun i q h => ?_) pk_X1_init li_X1_init rfl lm_X2_17 rfl hl.1 rfl (Nat.le_of_ble_eq_true rfl) dX2_init_28 ⟨Nat.le_of_ble_eq_true rfl, Nat.le_of_ble_eq_true rfl⟩ ⟨rfl, rfl⟩ ⟨by show _ ≤ 10; omega, by show _ ≤ 1004; omega⟩ (fun H2 locs2 z2 I => ?_)
    · have hi : i < 1 := (List.getElem?_eq_some_iff.mp h).1
      rw [show i = 0 by omega] at h ⊢
      cases h
      rw [z1, a2, a1]; omega
    replace I := IN_cg (show (_ :: _ :: nW G (Lb 16 n) sI t0) ++ nW G [16 + 2 * n, 16 + 2 * n + 1] sI t0 = _ :: _ :: nW G (Lb 16 (n + 1)) sI t0 from by rw [Lb_s, ← nW_app]; rfl) I
    replace z : H2.size = s.heap.size + (1 + 2 * (n + 1)) := by rw [z2, z1, a1]; show _ + 1 = _; omega
    refine n_astq X I 1 4 (2 + 2 * n) 1 rfl rfl (v := G.2.1 (16 + 2 * n)) (vs := _) ((Lb_at n).trans (congrArg (fun q => some (G.2.1 (16 + 2 * n), q)) (cl_1 ((law_all n hn4).2.1)))) rfl (vp_in_nI hn4 (by decide)) dX2_init_31 (fun H3 locs3 z3 I => ?_)
    refine lv_iinc (v := nI (n + 1)) (lv' := [(1, .int (nI (n + 1))), (0, .ref (G.2.1 13))]) X.1 X.2.1 dX2_init_32 hl (k := 1) rfl (by rw [nI_succ]; rfl) (by decide) rfl (fun ls hl => ?_)
    refine lv_goto (tgt := 14) X.1 X.2.1 dX2_init_35 (by decide) ?_
    refine w_cs (by omega) (by omega) (ih (n + 1) (by omega) H3 _ ls (z3.trans z) (IN_cg ?_ I) (lv_sub hl [1, 0] rfl))
    rw [nI_clamp (by omega), fN_up G hn4]
    rfl
set_option maxHeartbeats 4000000 in
set_option maxRecDepth 100000 in
theorem q2_init (l : Launch) (G : GT) : Kc l yX2_init cX2_init 2 { frames := 3, cells := 10, slots := 1004, locals := 256 } 10 1004 G 13 [] 2 [.null, .null, .int 0, .int 0, .int 0, .int 0, .int 0, .int 0, .int 0, .int 0, .int 0] [14, 16, 17, 18, 19, 20, 21, 22, 23, 15] sI t0 := by
  refine k_start (by decide +kernel) (fun _ => Nat.le_of_ble_eq_true rfl) rfl rfl (fun p e s m args below meth c ls A hAe hL X I hl hO => ?_)
  have hl : lv_has ls 2 [(0, .ref (G.2.1 13))] := hl
  have z : s.heap.size = s.heap.size + 0 := rfl
  obtain ⟨f0, e0⟩ : ∃ f : List Value, f = [.null, .null, .int 0, .int 0, .int 0, .int 0, .int 0, .int 0, .int 0, .int 0, .int 0] := ⟨_, rfl⟩
  have l0 : f0.length = 11 := by rw [e0]; rfl
  replace I : IN G A s s.heap [] ((G.2.1 13, .inr (2, f0)) :: nW G [] sI t0) := by rw [e0]; exact I
  refine lv_aload_n X.1 X.2.1 dX2_init_0 rfl (lv_at hl 0 rfl) ?_
  refine n_oi X lm_X2_3 hl.1 (Nat.le_of_ble_eq_true rfl) (Nat.le_of_ble_eq_true rfl) dX2_init_1 ?_
  refine lv_aload_n X.1 X.2.1 dX2_init_4 rfl (lv_at hl 0 rfl) ?_
  refine lv_iconst (v := 4) X.1 X.2.1 dX2_init_5 (by decide) ?_
  refine n_newq X I (t0 := 4) lk_X2_9 hO.2 rfl (N := 4) (a := G.2.1 14) (by decide) rfl (by decide) (Nat.le_of_ble_eq_true rfl) (Nat.le_of_ble_eq_true rfl) ((hL 0 _ rfl).trans z.symm) (fN G 16 4 0) (fN_0 _ _ _) dX2_init_6 (fun H z1 I => ?_)
  replace z : H.size = s.heap.size + 1 := by rw [z1, hL 0 _ rfl]
  refine s_putF X I inX2 tyX2 tyX2_ok nmX2 rfl l0 0 (by decide) lf_X2_11 rfl rfl (ty := .array (.object "SaintCarried$Law")) rfl rfl rfl dX2_init_9 (fun H locs f1 z1 e1 l1 I => ?_)
  replace z := z1.trans z
  replace e1 : f1 = [.ref (G.2.1 14), .null, .int 0, .int 0, .int 0, .int 0, .int 0, .int 0, .int 0, .int 0, .int 0] := by rw [e1, e0]; rfl
  rw [e1] at I
  refine lv_iconst (v := 0) X.1 X.2.1 dX2_init_12 (by decide) ?_
  refine lv_istore_n (lv' := [(1, .int 0), (0, .ref (G.2.1 13))]) X.1 X.2.1 dX2_init_13 rfl hl (by decide) rfl (fun ls hl => ?_)
  refine w_cs (by rfl) (by rfl) (q2_loop X hO hL (fun H locs ls z I hl => ?_) 4 0 rfl H locs ls z I (by rw [nI_0]; exact lv_sub hl [1, 0] rfl))
  clear e1 l1 f1
  obtain ⟨f1, e1⟩ : ∃ f : List Value, f = [.ref (G.2.1 14), .null, .int 0, .int 0, .int 0, .int 0, .int 0, .int 0, .int 0, .int 0, .int 0] := ⟨_, rfl⟩
  have l1 : f1.length = 11 := by rw [e1]; rfl
  replace I := IN_cg (show (G.2.1 13, .inr (2, [.ref (G.2.1 14), .null, .int 0, .int 0, .int 0, .int 0, .int 0, .int 0, .int 0, .int 0, .int 0])) :: nW G (14 :: Lb 16 4) sI t0 = (G.2.1 13, .inr (2, f1)) :: nW G [14, 16, 17, 18, 19, 20, 21, 22, 23] sI t0 from by rw [e1]; rfl) I
  refine lv_aload_n X.1 X.2.1 dX2_init_38 rfl (lv_at hl 0 rfl) ?_
  refine lv_bipush (v := 32) X.1 X.2.1 dX2_init_39 (by decide) ?_
  refine s_newa X I (k := 15) rfl (hL 9 _ rfl) z (by decide) rfl (by decide) (Nat.le_of_ble_eq_true rfl) (Nat.le_of_ble_eq_true rfl) dX2_init_41 (fun H z I => ?_)
  refine s_putF X I inX2 tyX2 tyX2_ok nmX2 rfl l1 1 (by decide) lf_X2_18 rfl rfl (ty := .array .int) rfl rfl rfl dX2_init_43 (fun H1 locs f2 z1 e2 l2 I => ?_)
  replace z := z1.trans z
  clear z1
  replace e2 : f2 = [.ref (G.2.1 14), .ref (G.2.1 15), .int 0, .int 0, .int 0, .int 0, .int 0, .int 0, .int 0, .int 0, .int 0] := by rw [e2, e1]; rfl
  refine lv_aload_n X.1 X.2.1 dX2_init_46 rfl (lv_at hl 0 rfl) ?_
  refine lv_iconst (v := (-1)) X.1 X.2.1 dX2_init_47 (by decide) ?_
  refine s_put X I inX2 tyX2 tyX2_ok nmX2 rfl l2 3 (by decide) lf_X2_22 rfl (ty := .int) rfl rfl rfl dX2_init_48 (fun H1 locs f3 z1 e3 l3 I => ?_)
  replace z := z1.trans z
  clear z1
  replace e3 : f3 = [.ref (G.2.1 14), .ref (G.2.1 15), .int 0, .int (-1), .int 0, .int 0, .int 0, .int 0, .int 0, .int 0, .int 0] := by rw [e3, e2]; rfl
  rw [e3] at I
  have hP : va_P G.1 vwCl (nW G (13 :: [14, 16, 17, 18, 19, 20, 21, 22, 23, 15]) sI t0) _ := (IN_cg (show _ = nW G (13 :: [14, 16, 17, 18, 19, 20, 21, 22, 23, 15]) sI t0 from congrArg (fun q => ((G.2.1 13, q) : Nat × va_E) :: nW G [14, 16, 17, 18, 19, 20, 21, 22, 23, 15] sI t0) (cl_2 (k := 13) rfl).symm) I).1
  exact W.vret X.1 X.2.1 X.2.2.1 (fun t ht hW => ⟨⟨(), rfl, trivial, by rw [ht]; exact hP, by rw [ht, z]; rfl⟩, I.2.2.1.F ht⟩) I.2.2.1.2.2 dX2_init_51 X.2.2.2.2.2.2.1
def LL5 : List Nat := [27, 43, 44, 45, 46, 47, 48, 49, 50, 51, 52, 53, 54, 55, 56, 57, 58, 59, 60, 61, 62, 63, 64, 65, 66, 67, 68, 69, 70, 71, 72, 73, 74, 75, 76, 77, 78, 79, 80, 81, 82, 83, 84, 85, 86, 87, 88, 89, 90, 91, 92, 93, 94, 95, 96, 97, 98, 99, 100, 101, 102, 103, 104, 105, 106, 107, 108, 109, 110, 111, 112, 113, 114, 115, 116, 117, 118, 119, 120, 121, 122, 28, 29, 30, 31]
def LLy5 : Bool := (List.range 40).all (fun n => LL5[1 + 2 * n]? == some (43 + 2 * n) && LL5[1 + 2 * n + 1]? == some (43 + 2 * n + 1))
theorem LLx5 (n : Nat) (h : n < 40) : LL5[1 + 2 * n]? = some (43 + 2 * n) ∧ LL5[1 + 2 * n + 1]? = some (43 + 2 * n + 1) := by
  have h0 : LLy5 = true := by decide +kernel
  have := List.all_eq_true.mp h0 n (List.mem_range.mpr h)
  simpa using this
set_option maxHeartbeats 4000000 in
set_option maxRecDepth 100000 in
theorem q5_loop {p : Program} {l : Launch} {e : Env} {s : State} {m : MethodId} {args : Array Value} {below : List Frame} {meth : Method} {c : Code} {Q : State → Prop} {G : GT} {A : Nat → Prop} (X : CNk p s m args meth c cX5_init RX5 2 G A) (hO : AO2 s) (hL : ∀ i q, LL5[i]? = some q → G.2.1 q = s.heap.size + i)
    (kk : ∀ (H : Heap) (locs : List Loc) (ls : Array Slot), H.size = s.heap.size + 81 → IN G A s H locs ((G.2.1 26, .inr (5, [.ref (G.2.1 27), .null, .null, .null, .int 0, .int 0, .int 0])) :: nW G (27 :: Lb 43 40) sI t0) → lv_has ls 2 [(0, .ref (G.2.1 26)), (1, .int (nI 40))] → W p l e { frames := 3, cells := 85, slots := 1496, locals := 256 } s m args below meth c H locs 81 680 Q (F0 m 40 ls [])) :
    ∀ (d n : Nat), n + d = 40 → ∀ (H : Heap) (locs : List Loc) (ls : Array Slot), H.size = s.heap.size + (1 + 2 * n) → IN G A s H locs ((G.2.1 26, .inr (5, [.ref (G.2.1 27), .null, .null, .null, .int 0, .int 0, .int 0])) :: (G.2.1 27, .inl (G.2.2.1 3, 40, .inr (.inr (.inr (.inr (fN G 43 40 n)))))) :: nW G (Lb 43 n) sI t0) → lv_has ls 2 [(0, .ref (G.2.1 26)), (1, .int (nI n))] → W p l e { frames := 3, cells := 85, slots := 1496, locals := 256 } s m args below meth c H locs (1 + 2 * n) (40 + 16 * n) Q (F0 m 15 ls []) := by
  intro d
  induction d with
  | zero =>
    intro n hn H locs ls z I hl
    obtain rfl : n = 40 := by omega
    refine lv_iload_n X.1 X.2.1 dX5_init_15 rfl (lv_at hl 1 rfl) ?_
    refine lv_bipush (v := 40) X.1 X.2.1 dX5_init_16 (by decide) ?_
    refine lv_icmp_ge (tgt := 40) X.1 X.2.1 dX5_init_18 (by decide) (fun c1 => ?_) (fun c1 => ?_)
    · refine kk H locs ls z (IN_cg ?_ I) hl
      have e : (fN G 43 40 40) = fun i => some (G.2.1 (43 + 2 * i)) := fN_last _ _ _
      show _ :: (G.2.1 27, .inl (G.2.2.1 3, 40, .inr (.inr (.inr (.inr (fN G 43 40 40)))))) :: nW G (Lb 43 40) sI t0 = (G.2.1 26, .inr (5, [.ref (G.2.1 27), .null, .null, .null, .int 0, .int 0, .int 0])) :: (G.2.1 27, clW G 27 (sI 27) (t0 27)) :: nW G (Lb 43 40) sI t0
      rw [e, cl_20 (k := 27) rfl]
    · exact absurd (show (40 : Int32) ≤ nI 40 from by decide) c1
  | succ d ih =>
    intro n hn H locs ls z I hl
    have hn4 : n < 40 := by omega
    refine lv_iload_n X.1 X.2.1 dX5_init_15 rfl (lv_at hl 1 rfl) ?_
    refine lv_bipush (v := 40) X.1 X.2.1 dX5_init_16 (by decide) ?_
    refine lv_icmp_ge (tgt := 40) X.1 X.2.1 dX5_init_18 (by decide) (fun c1 => absurd c1 (nI_ge (a := n) (b := 40) hn4 (by decide))) (fun _ => ?_)
    refine lv_aload_n X.1 X.2.1 dX5_init_21 rfl (lv_at hl 0 rfl) ?_
    refine n_get X I 0 rfl rfl inX5 0 (by decide) lf_X5_11 (v := .ref (G.2.1 27)) rfl dX5_init_22 ?_
    refine lv_iload_n X.1 X.2.1 dX5_init_25 rfl (lv_at hl 1 rfl) ?_
    have a1 : G.2.1 (43 + 2 * n) = s.heap.size + (1 + 2 * n) := hL _ _ (LLx5 n hn4).1
    have a2 : G.2.1 (43 + 2 * n + 1) = s.heap.size + (1 + 2 * n + 1) := hL _ _ (LLx5 n hn4).2
    refine n_obj X (a := G.2.1 (43 + 2 * n)) I inX0 tyX0 tyX0_ok lk_X5_9 la_X0 ln_X0 (ci := 0) rfl (fs := [.null, .int 0, .int 0, .int 0, .int 0, .int 0, .int 0, .int 0, .int 0]) (fun j hj => by rcases (show j = 0 ∨ j = 1 ∨ j = 2 ∨ j = 3 ∨ j = 4 ∨ j = 5 ∨ j = 6 ∨ j = 7 ∨ j = 8 by omega) with rfl | rfl | rfl | rfl | rfl | rfl | rfl | rfl | rfl <;> rfl) (by show _ ≤ 85; omega) (by show _ ≤ 1496; omega) (a1.trans z.symm) dX5_init_26 (fun H1 z1 I => ?_)
    refine lv_dup X.1 X.2.1 dX5_init_29 rfl ?_
    refine n_call X hO (ws0 := _ :: _ :: nW G (Lb 43 n) sI t0) I (q0_init l G (43 + 2 * n) (day_all n hn4).2.1 (day_all n hn4).2.2) (fun i q h => ?_) pk_X0_init li_X0_init rfl lm_X5_17 rfl hl.1 rfl (Nat.le_of_ble_eq_true rfl) dX5_init_30 ⟨Nat.le_of_ble_eq_true rfl, Nat.le_of_ble_eq_true rfl⟩ ⟨rfl, rfl⟩ ⟨by show _ ≤ 85; omega, by show _ ≤ 1496; omega⟩ (fun H2 locs2 z2 I => ?_)
    · have hi : i < 1 := (List.getElem?_eq_some_iff.mp h).1
      rw [show i = 0 by omega] at h ⊢
      cases h
      rw [z1, a2, a1]; omega
    replace I := IN_cg (show (_ :: _ :: nW G (Lb 43 n) sI t0) ++ nW G [43 + 2 * n, 43 + 2 * n + 1] sI t0 = _ :: _ :: nW G (Lb 43 (n + 1)) sI t0 from by rw [Lb_s, ← nW_app]; rfl) I
    replace z : H2.size = s.heap.size + (1 + 2 * (n + 1)) := by rw [z2, z1, a1]; show _ + 1 = _; omega
    refine n_astq X I 1 3 (2 + 2 * n) 0 rfl rfl (v := G.2.1 (43 + 2 * n)) (vs := _) ((Lb_at n).trans (congrArg (fun q => some (G.2.1 (43 + 2 * n), q)) (cl_0 ((day_all n hn4).2.1)))) rfl (vp_in_nI hn4 (by decide)) dX5_init_33 (fun H3 locs3 z3 I => ?_)
    refine lv_iinc (v := nI (n + 1)) (lv' := [(1, .int (nI (n + 1))), (0, .ref (G.2.1 26))]) X.1 X.2.1 dX5_init_34 hl (k := 1) rfl (by rw [nI_succ]; rfl) (by decide) rfl (fun ls hl => ?_)
    refine lv_goto (tgt := 15) X.1 X.2.1 dX5_init_37 (by decide) ?_
    refine w_cs (by omega) (by omega) (ih (n + 1) (by omega) H3 _ ls (z3.trans z) (IN_cg ?_ I) (lv_sub hl [1, 0] rfl))
    rw [nI_clamp (by omega), fN_up G hn4]
    rfl
set_option maxHeartbeats 4000000 in
set_option maxRecDepth 100000 in
theorem q5_init (l : Launch) (G : GT) : Kc l yX5_init cX5_init 2 { frames := 3, cells := 85, slots := 1496, locals := 256 } 85 1496 G 26 [] 5 [.null, .null, .null, .null, .int 0, .int 0, .int 0] [27, 43, 44, 45, 46, 47, 48, 49, 50, 51, 52, 53, 54, 55, 56, 57, 58, 59, 60, 61, 62, 63, 64, 65, 66, 67, 68, 69, 70, 71, 72, 73, 74, 75, 76, 77, 78, 79, 80, 81, 82, 83, 84, 85, 86, 87, 88, 89, 90, 91, 92, 93, 94, 95, 96, 97, 98, 99, 100, 101, 102, 103, 104, 105, 106, 107, 108, 109, 110, 111, 112, 113, 114, 115, 116, 117, 118, 119, 120, 121, 122, 28, 29, 30, 31] sI t0 := by
  refine k_start (by decide +kernel) (fun _ => Nat.le_of_ble_eq_true rfl) rfl rfl (fun p e s m args below meth c ls A hAe hL X I hl hO => ?_)
  have hl : lv_has ls 2 [(0, .ref (G.2.1 26))] := hl
  have z : s.heap.size = s.heap.size + 0 := rfl
  obtain ⟨f0, e0⟩ : ∃ f : List Value, f = [.null, .null, .null, .null, .int 0, .int 0, .int 0] := ⟨_, rfl⟩
  have l0 : f0.length = 7 := by rw [e0]; rfl
  replace I : IN G A s s.heap [] ((G.2.1 26, .inr (5, f0)) :: nW G [] sI t0) := by rw [e0]; exact I
  refine lv_aload_n X.1 X.2.1 dX5_init_0 rfl (lv_at hl 0 rfl) ?_
  refine n_oi X lm_X5_3 hl.1 (Nat.le_of_ble_eq_true rfl) (Nat.le_of_ble_eq_true rfl) dX5_init_1 ?_
  refine lv_aload_n X.1 X.2.1 dX5_init_4 rfl (lv_at hl 0 rfl) ?_
  refine lv_bipush (v := 40) X.1 X.2.1 dX5_init_5 (by decide) ?_
  refine n_newq X I (t0 := 3) lk_X5_9 hO.1 rfl (N := 40) (a := G.2.1 27) (by decide) rfl (by decide) (Nat.le_of_ble_eq_true rfl) (Nat.le_of_ble_eq_true rfl) ((hL 0 _ rfl).trans z.symm) (fN G 43 40 0) (fN_0 _ _ _) dX5_init_7 (fun H z1 I => ?_)
  replace z : H.size = s.heap.size + 1 := by rw [z1, hL 0 _ rfl]
  refine s_putF X I inX5 tyX5 tyX5_ok nmX5 rfl l0 0 (by decide) lf_X5_11 rfl rfl (ty := .array (.object "SaintCarried$Day")) rfl rfl rfl dX5_init_10 (fun H locs f1 z1 e1 l1 I => ?_)
  replace z := z1.trans z
  replace e1 : f1 = [.ref (G.2.1 27), .null, .null, .null, .int 0, .int 0, .int 0] := by rw [e1, e0]; rfl
  rw [e1] at I
  refine lv_iconst (v := 0) X.1 X.2.1 dX5_init_13 (by decide) ?_
  refine lv_istore_n (lv' := [(1, .int 0), (0, .ref (G.2.1 26))]) X.1 X.2.1 dX5_init_14 rfl hl (by decide) rfl (fun ls hl => ?_)
  refine w_cs (by rfl) (by rfl) (q5_loop X hO hL (fun H locs ls z I hl => ?_) 40 0 rfl H locs ls z I (by rw [nI_0]; exact lv_sub hl [1, 0] rfl))
  clear e1 l1 f1
  obtain ⟨f1, e1⟩ : ∃ f : List Value, f = [.ref (G.2.1 27), .null, .null, .null, .int 0, .int 0, .int 0] := ⟨_, rfl⟩
  have l1 : f1.length = 7 := by rw [e1]; rfl
  replace I := IN_cg (show (G.2.1 26, .inr (5, [.ref (G.2.1 27), .null, .null, .null, .int 0, .int 0, .int 0])) :: nW G (27 :: Lb 43 40) sI t0 = (G.2.1 26, .inr (5, f1)) :: nW G [27, 43, 44, 45, 46, 47, 48, 49, 50, 51, 52, 53, 54, 55, 56, 57, 58, 59, 60, 61, 62, 63, 64, 65, 66, 67, 68, 69, 70, 71, 72, 73, 74, 75, 76, 77, 78, 79, 80, 81, 82, 83, 84, 85, 86, 87, 88, 89, 90, 91, 92, 93, 94, 95, 96, 97, 98, 99, 100, 101, 102, 103, 104, 105, 106, 107, 108, 109, 110, 111, 112, 113, 114, 115, 116, 117, 118, 119, 120, 121, 122] sI t0 from by rw [e1]; rfl) I
  refine lv_aload_n X.1 X.2.1 dX5_init_40 rfl (lv_at hl 0 rfl) ?_
  refine lv_sipush (v := 400) X.1 X.2.1 dX5_init_41 (by decide) ?_
  refine s_newa X I (k := 28) rfl (hL 81 _ rfl) z (by decide) rfl (by decide) (Nat.le_of_ble_eq_true rfl) (Nat.le_of_ble_eq_true rfl) dX5_init_44 (fun H z I => ?_)
  refine s_putF X I inX5 tyX5 tyX5_ok nmX5 rfl l1 1 (by decide) lf_X5_18 rfl rfl (ty := .array .int) rfl rfl rfl dX5_init_46 (fun H1 locs f2 z1 e2 l2 I => ?_)
  replace z := z1.trans z
  clear z1
  replace e2 : f2 = [.ref (G.2.1 27), .ref (G.2.1 28), .null, .null, .int 0, .int 0, .int 0] := by rw [e2, e1]; rfl
  refine lv_aload_n X.1 X.2.1 dX5_init_49 rfl (lv_at hl 0 rfl) ?_
  refine n_obj X (a := G.2.1 29) I inX0 tyX0 tyX0_ok lk_X5_9 la_X0 ln_X0 (ci := 0) rfl (fs := [.null, .int 0, .int 0, .int 0, .int 0, .int 0, .int 0, .int 0, .int 0]) (fun j hj => by rcases (show j = 0 ∨ j = 1 ∨ j = 2 ∨ j = 3 ∨ j = 4 ∨ j = 5 ∨ j = 6 ∨ j = 7 ∨ j = 8 by omega) with rfl | rfl | rfl | rfl | rfl | rfl | rfl | rfl | rfl <;> rfl) (Nat.le_of_ble_eq_true rfl) (Nat.le_of_ble_eq_true rfl) ((hL 82 _ rfl).trans z.symm) dX5_init_50 (fun H z1 I => ?_)
  replace z : H.size = s.heap.size + 83 := by rw [z1, hL 82 _ rfl]
  clear z1
  refine lv_dup X.1 X.2.1 dX5_init_53 rfl ?_
  refine n_call X hO (ws0 := _ :: nW G ([27, 43, 44, 45, 46, 47, 48, 49, 50, 51, 52, 53, 54, 55, 56, 57, 58, 59, 60, 61, 62, 63, 64, 65, 66, 67, 68, 69, 70, 71, 72, 73, 74, 75, 76, 77, 78, 79, 80, 81, 82, 83, 84, 85, 86, 87, 88, 89, 90, 91, 92, 93, 94, 95, 96, 97, 98, 99, 100, 101, 102, 103, 104, 105, 106, 107, 108, 109, 110, 111, 112, 113, 114, 115, 116, 117, 118, 119, 120, 121, 122] ++ [28]) sI t0) I (q0_init l G 29 rfl rfl) (fun i q h => (hL (83 + i) q (lsub (L := LL5) (M := [30]) 83 (by decide) i q h)).trans (by rw [z]; omega)) pk_X0_init li_X0_init rfl lm_X5_17 rfl hl.1 rfl (Nat.le_of_ble_eq_true rfl) dX5_init_54 ⟨Nat.le_of_ble_eq_true rfl, Nat.le_of_ble_eq_true rfl⟩ ⟨rfl, rfl⟩ ⟨Nat.le_of_ble_eq_true rfl, Nat.le_of_ble_eq_true rfl⟩ (fun H1 locs1 z1 I => ?_)
  replace I := IN_cg (show (_ :: nW G _ sI t0) ++ nW G _ sI t0 = _ :: nW G (([27, 43, 44, 45, 46, 47, 48, 49, 50, 51, 52, 53, 54, 55, 56, 57, 58, 59, 60, 61, 62, 63, 64, 65, 66, 67, 68, 69, 70, 71, 72, 73, 74, 75, 76, 77, 78, 79, 80, 81, 82, 83, 84, 85, 86, 87, 88, 89, 90, 91, 92, 93, 94, 95, 96, 97, 98, 99, 100, 101, 102, 103, 104, 105, 106, 107, 108, 109, 110, 111, 112, 113, 114, 115, 116, 117, 118, 119, 120, 121, 122] ++ [28]) ++ [29, 30]) sI t0 from by rw [← nW_app]; rfl) I
  replace z : H1.size = s.heap.size + 84 := by rw [z1, z]; rfl
  clear z1
  refine s_putF X I inX5 tyX5 tyX5_ok nmX5 rfl l2 2 (by decide) lf_X5_22 rfl rfl (ty := .object "SaintCarried$Day") rfl rfl rfl dX5_init_57 (fun H1 locs f3 z1 e3 l3 I => ?_)
  replace z := z1.trans z
  clear z1
  replace e3 : f3 = [.ref (G.2.1 27), .ref (G.2.1 28), .ref (G.2.1 29), .null, .int 0, .int 0, .int 0] := by rw [e3, e2]; rfl
  refine lv_aload_n X.1 X.2.1 dX5_init_60 rfl (lv_at hl 0 rfl) ?_
  refine lv_sipush (v := 400) X.1 X.2.1 dX5_init_61 (by decide) ?_
  refine s_newa X I (k := 31) rfl (hL 84 _ rfl) z (by decide) rfl (by decide) (Nat.le_of_ble_eq_true rfl) (Nat.le_of_ble_eq_true rfl) dX5_init_64 (fun H z I => ?_)
  refine s_putF X I inX5 tyX5 tyX5_ok nmX5 rfl l3 3 (by decide) lf_X5_26 rfl rfl (ty := .array .int) rfl rfl rfl dX5_init_66 (fun H1 locs f4 z1 e4 l4 I => ?_)
  replace z := z1.trans z
  clear z1
  replace e4 : f4 = [.ref (G.2.1 27), .ref (G.2.1 28), .ref (G.2.1 29), .ref (G.2.1 31), .int 0, .int 0, .int 0] := by rw [e4, e3]; rfl
  rw [e4] at I
  have hP : va_P G.1 vwCl (nW G (26 :: [27, 43, 44, 45, 46, 47, 48, 49, 50, 51, 52, 53, 54, 55, 56, 57, 58, 59, 60, 61, 62, 63, 64, 65, 66, 67, 68, 69, 70, 71, 72, 73, 74, 75, 76, 77, 78, 79, 80, 81, 82, 83, 84, 85, 86, 87, 88, 89, 90, 91, 92, 93, 94, 95, 96, 97, 98, 99, 100, 101, 102, 103, 104, 105, 106, 107, 108, 109, 110, 111, 112, 113, 114, 115, 116, 117, 118, 119, 120, 121, 122, 28, 29, 30, 31]) sI t0) _ := (IN_cg (show _ = nW G (26 :: [27, 43, 44, 45, 46, 47, 48, 49, 50, 51, 52, 53, 54, 55, 56, 57, 58, 59, 60, 61, 62, 63, 64, 65, 66, 67, 68, 69, 70, 71, 72, 73, 74, 75, 76, 77, 78, 79, 80, 81, 82, 83, 84, 85, 86, 87, 88, 89, 90, 91, 92, 93, 94, 95, 96, 97, 98, 99, 100, 101, 102, 103, 104, 105, 106, 107, 108, 109, 110, 111, 112, 113, 114, 115, 116, 117, 118, 119, 120, 121, 122, 28, 29, 30, 31]) sI t0 from congrArg (fun q => ((G.2.1 26, q) : Nat × va_E) :: nW G [27, 43, 44, 45, 46, 47, 48, 49, 50, 51, 52, 53, 54, 55, 56, 57, 58, 59, 60, 61, 62, 63, 64, 65, 66, 67, 68, 69, 70, 71, 72, 73, 74, 75, 76, 77, 78, 79, 80, 81, 82, 83, 84, 85, 86, 87, 88, 89, 90, 91, 92, 93, 94, 95, 96, 97, 98, 99, 100, 101, 102, 103, 104, 105, 106, 107, 108, 109, 110, 111, 112, 113, 114, 115, 116, 117, 118, 119, 120, 121, 122, 28, 29, 30, 31] sI t0) (cl_5 (k := 26) rfl).symm) I).1
  exact W.vret X.1 X.2.1 X.2.2.1 (fun t ht hW => ⟨⟨(), rfl, trivial, by rw [ht]; exact hP, by rw [ht, z]; rfl⟩, I.2.2.1.F ht⟩) I.2.2.1.2.2 dX5_init_69 X.2.2.2.2.2.2.1
