theorem lgc (x : Int64) : lg_cmp x x = 0 := by
  unfold lg_cmp
  rw [if_neg (fun h => Int64.lt_irrefl h), if_pos rfl]
theorem r_lald {p : Program} {l : Launch} {e : Env} {R : Room} {s : State} {m : MethodId} {args : Array Value} {below : List Frame} {meth : Method} {c : Code} {H : Heap} {locs : List Loc} {cells slots : Nat} {Q : State → Prop} {pc : Nat} {ls : Array Slot} {rest : List Value} {G : GT} {σ : SI} {τ : SL} {cc : ByteArray} {own : String} {nL : Nat} {ret : Option FieldType} (X : CX p s m args meth c cc own nL ret G) (I : IX G s H locs σ τ) {k : Nat} (hk : k < NW) (h : kd k = 22) (hdg : decode cc pc = .ok (.laload, 1))
    (kk : W p l e R s m args below meth c H locs cells slots Q (F0 m (pc + 1) ls (.long (τ k) :: rest))) : W p l e R s m args below meth c H locs cells slots Q (F0 m pc ls (.int 0 :: .ref (G.2.1 k) :: rest)) := by
  obtain ⟨hx, hb, hr, hts, hown, hml, hlk, hD, hK, -⟩ := X
  exact va_lald (D := G.1) (cl := vwCl) (tys := tyW G) (ws := wW G σ τ) (f := fun _ => τ k) hx hb hK I.1 k 2 (n := 1) (by rw [wW_at hk, cl_22 h]) rfl (show vp_in (nI 0) 1 from vp_in_nI (by decide) (by decide)) hdg kk
set_option maxHeartbeats 4000000 in
set_option maxRecDepth 100000 in
theorem lc_house {p : Program} {l : Launch} {e : Env} {s : State} {m : MethodId} {below : List Frame} {meth : Method} {c : Code} {H : Heap} {locs : List Loc} {cells slots : Nat} {Q : State → Prop} {ls : Array Slot} {G : GT} {σ : SI} {τ : SL} {b L : Nat} {xs : Nat → Int32} {x4 : Int32} {g : Nat} (hl0 : l.stackTraces = false) (hH : HX (AW G s.heap.size) s s.heap) (X : LX p s m b L xs meth c G) (J : INV g σ σ) (hg : g + 61 < 2 ^ 31) (I : IX G s H locs σ τ) (hl : lv_has ls 7 (LB G b x4)) (hV : LV x4 L) (hcs : cells + 1 ≤ 601024 ∧ slots + 6 ≤ 7293034)
    (kk : ∀ (H1 : Heap) (locs1 : List Loc) (σ1 : SI) (τ1 : SL) (ls1 : Array Slot), lv_has ls1 7 (LB G b x4) → IX G s H1 locs1 σ1 τ1 → INV (g + 60) σ1 σ1 → W p l e room_1 s m #[Value.ref b] below meth c H1 locs1 (cells + 1) (slots + 6) Q (F0 m 1581 ls1 [])) : W p l e room_1 s m #[Value.ref b] below meth c H locs cells slots Q (F0 m 397 ls []) := by
  have hts := X.1.2.2.2.1
  have hD := X.1.2.2.2.2.2.2.2.1
  have hK := X.1.2.2.2.2.2.2.2.2
  obtain ⟨v, m1, e1, ho, J1, F1, hc⟩ := t_house J (sx xs x4 1) (sx xs x4 2)
  refine lv_aload_n X.1.1 X.1.2.1 dL_law_397 rfl (lv_at hl 3 rfl) ?_
  refine l_arg (n := 1) (k := 1) X I hl (by decide) hV.1 dL_law_398 dL_law_399 dL_law_401 dL_law_402 dL_law_403 ?_
  refine l_arg (n := 2) (k := 2) X I hl (by decide) hV.2.1 dL_law_404 dL_law_405 dL_law_407 dL_law_408 dL_law_409 ?_
  refine lv_aload_n X.1.1 X.1.2.1 dL_law_410 rfl (lv_at hl 1 rfl) ?_
  have hd2 : (parseMethodDescriptor yL_house.desc).map (fun d => d.parameters.length) = some 4 := by decide +kernel
  have cw : vx_CSW room_1 s #[Value.ref b] RL 42 yL_house cL_house 5 (some .int) [(0, 10, 13, 13)] (Cond.codeWith yL_house cL_house 5 (some .int) [(0, 10, 13, 13)] :: ALL) { frames := 10, cells := 1, slots := 6, locals := 640 } 1 6 4 :=
    ⟨⟨rfl, rfl, Nat.le_of_ble_eq_true rfl, Nat.le_of_ble_eq_true rfl, pay_in hts (good_cons lc_L_house), List.mem_cons_self⟩, hts _ lc_L_house, hts _ ln_L, ⟨by decide +kernel, by decide +kernel⟩, fun sig h => by rw [h] at hd2; exact (Option.some.inj hd2).symm, hts _ lm_L_42, hts _ ls_L_house⟩
  have hr := vx_runSW (l := l) (p := p) (e := e) (below := below) (meth := meth) (locs := locs) (cells := cells) (slots := slots) (g := F0 m 411 ls [.ref (G.2.1 153), .int (sx xs x4 2), .int (sx xs x4 1), .ref (G.2.1 0)]) (As := [.ref (G.2.1 0), .int (sx xs x4 1), .int (sx xs x4 2), .ref (G.2.1 153)]) (rest := []) ⟨X.1.1, X.1.2.1, X.1.2.2.2.2.2.1, X.1.2.2.2.2.1, hts⟩ (l_house l hl0 G σ τ (sx xs x4 1) (sx xs x4 2) H.size) cw ⟨PH_blind G _ σ τ _, fun U hU hW' => ⟨rfl, ⟨by rw [hU], by rw [hU]; exact I.1, hD, by rw [hU]; exact KZ_go hK I.2 hW'⟩, by rw [hU]; exact HX_go hH I.2 hW' (fun q h => AW_mono I.2.1 q h)⟩⟩ rfl rfl hl.1 rfl (lv_room (Nat.le_of_ble_eq_true rfl)) dL_law_411 hcs
  refine va_calli hr I.2 (fun q _ h => AW_mono I.2.1 q h) (AW_mono I.2.1) (fun r u t H1 locs1 ht hvm hp hB hz hk hS => ?_)
  have I1 : IX G s H1 locs1 u.1 u.2 := ⟨by rw [← ht]; exact hB, hS⟩
  obtain ⟨a, τ1⟩ := u
  have hp2 : a = σ ∧ ((Hok σ (sx xs x4 1) (sx xs x4 2) ∧ r = 0 ∧ τ1 153 = (hv σ (sx xs x4 1) (sx xs x4 2)).toInt64) ∨ (¬ Hok σ (sx xs x4 1) (sx xs x4 2) ∧ r = 1)) := by
    rcases hp with ⟨h1, h2, h3, h4⟩ | ⟨h1, h2, h3, h4⟩
    · exact ⟨h3, Or.inl ⟨h1, h2, by rw [show τ1 = _ from h4, sl_s]⟩⟩
    · exact ⟨h3, Or.inr ⟨h1, h2⟩⟩
  clear hp
  obtain ⟨rfl, hp⟩ := hp2
  have I : IX G s H1 locs1 a τ1 := I1
  refine lv_istore (lv' := (5, .int r) :: LB G b x4) X.1.1 X.1.2.1 dL_law_414 hl (by decide) rfl (fun ls hl => ?_)
  have hl0 : lv_has ls 7 (LB G b x4) := lv_sub hl [1, 2, 3, 4, 5] rfl
  refine lv_aload_n X.1.1 X.1.2.1 dL_law_416 rfl (lv_at hl 3 rfl) ?_
  refine l_arg (n := 1) (k := 1) X I (hl0) (by decide) hV.1 dL_law_417 dL_law_418 dL_law_420 dL_law_421 dL_law_422 ?_
  refine l_arg (n := 2) (k := 2) X I (hl0) (by decide) hV.2.1 dL_law_423 dL_law_424 dL_law_426 dL_law_427 dL_law_428 ?_
  refine r_ei I (r_runV X.1 I pk_X12_house (c12_house l G a τ1 (sx xs x4 1) (sx xs x4 2) ho) lm_L_47 (by decide) (cl_12 rfl) rfl rfl rfl hl.1 rfl (Nat.le_of_ble_eq_true rfl) dL_law_429 ⟨Nat.le_of_ble_eq_true rfl, Nat.le_of_ble_eq_true rfl⟩ hcs) (fun H locs I => ?_)
  rw [e1] at I ⊢
  have I : IX G s H locs m1 τ1 := I
  refine lv_istore (lv' := (6, .int v) :: (5, .int r) :: LB G b x4) X.1.1 X.1.2.1 dL_law_432 hl (by decide) rfl (fun ls hl => ?_)
  refine lv_aload_n X.1.1 X.1.2.1 dL_law_434 rfl (lv_at hl 4 rfl) ?_
  refine r_ei I (r_runV X.1 I pk_X12_thrown (c12_thrown l G m1 τ1) lm_L_48 (by decide) (cl_12 rfl) rfl rfl rfl hl.1 rfl (Nat.le_of_ble_eq_true rfl) dL_law_435 ⟨Nat.le_of_ble_eq_true rfl, Nat.le_of_ble_eq_true rfl⟩ hcs) (fun H locs I => ?_)
  refine lv_iload X.1.1 X.1.2.1 dL_law_438 (lv_at hl 1 rfl) ?_
  have et : f12_thrown m1 = r := by
    show m1 123 0 = r
    rcases hc with ⟨h1, h2, h3⟩ | ⟨h1, h2⟩
    · rcases hp with ⟨-, h4, -⟩ | ⟨h4, -⟩
      · rw [h2, h4]
      · exact absurd h1 h4
    · rcases hp with ⟨h4, -, -⟩ | ⟨-, h4⟩
      · exact absurd h4 h1
      · rw [h2, h4]
  have J2 := INV_up (G' := g + 60) (br_2 J1 (fun a ha => F1 a (by omega))) (by omega)
  have fin : W p l e room_1 s m #[Value.ref b] below meth c H locs (cells + 1) (slots + 6) Q (F0 m 462 ls []) := by
    refine lv_goto (tgt := 1581) X.1.1 X.1.2.1 dL_law_462 (by decide) ?_
    exact kk H locs m1 τ1 ls (lv_sub hl [2, 3, 4, 5, 6] rfl) I J2
  refine lv_icmp_eq (tgt := 445) X.1.1 X.1.2.1 dL_law_440 (by decide) (fun _ => ?_) (fun q => absurd et q)
  refine lv_iload X.1.1 X.1.2.1 dL_law_445 (lv_at hl 1 rfl) ?_
  refine lv_if_ne (tgt := 462) X.1.1 X.1.2.1 dL_law_447 (by decide) (fun _ => fin) (fun r0 => ?_)
  have hval : τ1 153 = v.toInt64 := by
    rcases hp with ⟨h1, -, h2⟩ | ⟨-, h1⟩
    · rcases hc with ⟨-, -, h3⟩ | ⟨h3, -⟩
      · rw [h2, h3]
      · exact absurd h1 h3
    · rw [r0] at h1; exact absurd h1 (by decide)
  refine lv_aload_n X.1.1 X.1.2.1 dL_law_450 rfl (lv_at hl 3 rfl) ?_
  refine lv_iconst (v := 0) X.1.1 X.1.2.1 dL_law_451 (by decide) ?_
  refine r_lald X.1 I (k := 153) (by decide) rfl dL_law_452 ?_
  rw [hval]
  refine lv_iload X.1.1 X.1.2.1 dL_law_453 (lv_at hl 0 rfl) ?_
  refine lv_i2l X.1.1 X.1.2.1 dL_law_455 rfl ?_
  refine W.lcmp X.1.1 X.1.2.1 dL_law_456 ?_
  exact lv_if_eq (tgt := 462) X.1.1 X.1.2.1 dL_law_457 (by decide) (fun _ => fin) (fun q => absurd (lgc _) q)
