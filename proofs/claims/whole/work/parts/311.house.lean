theorem P_setcg {D : va_G} {cl : List vw_C} {ws : va_W} {H : Heap} {q : Nat} {e1 e2 : Nat × va_E} (h : va_P D cl (ws.set q e1) H) (he : va_at D cl e1 H → va_at D cl e2 H) : va_P D cl (ws.set q e2) H := by
  intro k x hx
  rw [List.getElem?_set] at hx
  have h2 := h k
  rw [List.getElem?_set] at h2
  by_cases hk : q = k
  · rw [if_pos hk] at hx h2
    by_cases hl : q < ws.length
    · rw [if_pos hl] at hx h2
      cases hx
      exact he (h2 _ rfl)
    · rw [if_neg hl] at hx
      cases hx
  · rw [if_neg hk] at hx h2
    exact h2 _ hx
theorem r_last {p : Program} {l : Launch} {e : Env} {R : Room} {s : State} {m : MethodId} {args : Array Value} {below : List Frame} {meth : Method} {c : Code} {H : Heap} {locs : List Loc} {cells slots : Nat} {Q : State → Prop}
    {pc : Nat} {ls : Array Slot} {rest : List Value} {G : GT} {σ : SI} {τ : SL} {cc : ByteArray} {own : String} {nL : Nat} {ret : Option FieldType} (X : CX p s m args meth c cc own nL ret G) (I : IX G s H locs σ τ) {k : Nat} (hk : k < NW) (h : kd k = 22) {x : Int64} (hdg : decode cc pc = .ok (.lastore, 1))
    (kk : ∀ (H1 : Heap) (locs1 : List Loc), IX G s H1 locs1 σ (sl τ k x) → W p l e R s m args below meth c H1 locs1 cells slots Q (F0 m (pc + 1) ls rest)) : W p l e R s m args below meth c H locs cells slots Q (F0 m pc ls (.long x :: .int 0 :: .ref (G.2.1 k) :: rest)) := by
  obtain ⟨hx, hb, hr, hts, hown, hml, hlk, hD, hK, -⟩ := X
  refine va_last (D := G.1) (cl := vwCl) (tys := tyW G) (ws := wW G σ τ) hx hb hK I.1 (dW hD s.heap.size σ τ) I.2 k 2 (n := 1) (by rw [wW_at hk, cl_22 h]) rfl (show vp_in (nI 0) 1 from vp_in_nI (by decide) (by decide)) hdg (fun H1 locs1 hP hD1 hS => kk H1 locs1 ⟨?_, hS⟩)
  rw [← wW_setL hk rfl, cl_22 h]
  refine P_setcg hP (fun he => ?_)
  have he : H1[G.2.1 k]? = some (vp_cell (G.2.2.1 2) (1, .inr (.inl (vp_updL (fun _ => τ k) (Int32.toNatClampNeg 0) x)))) := he
  show H1[G.2.1 k]? = some (vp_cell (G.2.2.1 2) (1, .inr (.inl (fun _ => x))))
  rw [he]
  refine congrArg some ?_
  rw [vp_cell_l, vp_cell_l]
  refine arrV_cg (fun j hj => ?_)
  obtain rfl : j = 0 := by omega
  rfl
set_option maxHeartbeats 4000000 in
set_option maxRecDepth 100000 in
theorem l_house (l : Launch) (hl0 : l.stackTraces = false) (G : GT) (σ : SI) (τ : SL) (x1 x2 : Int32) (sz : Nat) : Met l yL_house (Cond.codeWith yL_house cL_house 5 (some .int) [(0, 10, 13, 13)] :: ALL) { frames := 10, cells := 1, slots := 6, locals := 640 } (va_Pc [.ref (G.2.1 0), .int x1, .int x2, .ref (G.2.1 153)] (fun U => PW G sz σ τ U ∧ HX (AW G sz) U U.heap)) (Qi G (fun r a b => (Hok σ x1 x2 ∧ r = 0 ∧ a = σ ∧ b = sl τ 153 (hv σ x1 x2).toInt64) ∨ (¬ Hok σ x1 x2 ∧ r = 1 ∧ a = σ ∧ b = τ)) sz) 1 6 (AW G sz) := by
  refine va_MetW (cc := cL_house) (maxL := 5) (ret := some .int) (hh := [(0, 10, 13, 13)]) (by decide +kernel) rfl ?_
  intro p e s m args below meth c s₁ B hml hv0
  obtain ⟨rfl, ⟨rfl, hP, hD, hK⟩, hH⟩ := hv0
  have htab := vx_table (x := yL_house) B (atoms_spec (ws := Cond.codeWith yL_house cL_house 5 (some .int) [(0, 10, 13, 13)] :: ALL) B.pre _ List.mem_cons_self)
  rw [lg_entry_eq]
  have X : CX p s m _ meth c cL_house RL 5 (some .int) G := ⟨B.exec, B.bytes, B.returns, fun w hw => atoms_spec (ws := Cond.codeWith yL_house cL_house 5 (some .int) [(0, 10, 13, 13)] :: ALL) B.pre w (List.mem_cons_of_mem _ hw), findClass_of_methodNamed B.named, hml, B.notSynchronized, hD, hK⟩
  have I : IX G s s.heap [] σ τ := ⟨hP, va_S.rf⟩
  have hl := lv_entry [.ref (G.2.1 0), .int x1, .int x2, .ref (G.2.1 153)] (n := 5) (Nat.le_of_ble_eq_true rfl)
  generalize (lg_sl [.ref (G.2.1 0), .int x1, .int x2, .ref (G.2.1 153)] ++ List.replicate (5 - (lg_sl [.ref (G.2.1 0), .int x1, .int x2, .ref (G.2.1 153)]).length) Slot.unset).toArray = ls at hl ⊢
  have hl : lv_has ls 5 [(0, .ref (G.2.1 0)), (1, .int x1), (2, .int x2), (3, .ref (G.2.1 153))] := hl
  refine lv_aload_n X.1 X.2.1 dL_house_0 rfl (lv_at hl 3 rfl) ?_
  refine lv_iconst (v := 0) X.1 X.2.1 dL_house_1 (by decide) ?_
  refine lv_aload_n X.1 X.2.1 dL_house_2 rfl (lv_at hl 0 rfl) ?_
  refine lv_iload_n X.1 X.2.1 dL_house_3 rfl (lv_at hl 1 rfl) ?_
  refine lv_iload_n X.1 X.2.1 dL_house_4 rfl (lv_at hl 2 rfl) ?_
  have hts := X.2.2.2.1
  have cw : CallW { frames := 10, cells := 1, slots := 6, locals := 640 } s #[.ref (G.2.1 0), .int x1, .int x2, .ref (G.2.1 153)] RL RX11 7 yX11_house cX11_house 3 (some .int) (Cond.code yX11_house cX11_house 3 (some .int) :: ALL) { frames := 8, cells := 1, slots := 6, locals := 512 } 1 6 2 := ⟨callB_of 2 hts (good_cons pk_X11_house.1.1) rfl rfl rfl (hts _ pk_X11_house.1.2.1) (hts _ lm_L_7) pk_X11_house.1.2.2 ⟨Nat.le_of_ble_eq_true rfl, Nat.le_of_ble_eq_true rfl⟩, hts _ pk_X11_house.2.1, hts _ pk_X11_house.2.2⟩
  have hr := vx_runV (l := l) (p := p) (e := e) (below := below) (meth := meth) (locs := []) (cells := 0) (slots := 0) (g := F0 m 5 ls [.int x2, .int x1, .ref (G.2.1 0), .int 0, .ref (G.2.1 153)]) (As := [.int x1, .int x2]) (rest := [.int 0, .ref (G.2.1 153)]) ⟨X.1, X.2.1, X.2.2.2.2.2.1, X.2.2.2.2.1, hts⟩ (x11_house l hl0 G σ τ x1 x2 s.heap.size) cw ⟨PH_blind G _ σ τ _, va_recv hK.1 I.1 (ci := 11) rfl (by rw [wW_at (k := 0) (by decide), cl_11 rfl]), fun U hU hW' => ⟨rfl, ⟨by rw [hU], by rw [hU]; exact I.1, hD, by rw [hU]; exact KZ_go hK I.2 hW'⟩, by rw [hU]; exact HX_go hH I.2 hW' (fun q h => h)⟩⟩ rfl rfl hl.1 rfl (lv_room (Nat.le_of_ble_eq_true rfl)) dL_house_5 ⟨Nat.le_of_ble_eq_true rfl, Nat.le_of_ble_eq_true rfl⟩
  refine vx_calli hr I.2 (fun q _ h => h) (fun q h => h) (fun q _ h => h) (fun E ce q9 u t H1 locs1 ht hvm hp hB hz hk hS hce hcv hcl => ?_) (fun r u t H1 locs1 ht hvm hp hB hz hk hS => ?_)
  · obtain ⟨rfl, hB⟩ := hB
    have I : IX G s H1 locs1 σ τ := ⟨by rw [← ht]; exact hB, hS⟩
    have hcast : (Cond.castable NSE NSE).before #[.ref (G.2.1 0), .int x1, .int x2, .ref (G.2.1 153)] s = true := va_Nw.use rfl (hH.1 _ (List.mem_filter.mpr ⟨by decide +kernel, rfl⟩))
    refine vx_catch X.2.2.2.2.1 [] { startPc := 0, endPc := 10, handlerPc := 13, catchType := 13 } [] (name := NSE) (by rw [htab]; rfl) (fun z hz => absurd hz List.not_mem_nil) (by decide) (by decide) (hts _ lk_L_13) hcast hce hcv hcl ?_
    refine lv_astore (lv' := [(4, .ref q9), (0, .ref (G.2.1 0)), (1, .int x1), (2, .int x2), (3, .ref (G.2.1 153))]) X.1 X.2.1 dL_house_13 hl (by decide) rfl (fun ls hl => ?_)
    refine lv_iconst (v := 1) X.1 X.2.1 dL_house_15 (by decide) ?_
    exact r_iret X I (Or.inr ⟨hp, rfl, rfl, rfl⟩) dL_house_16
  · obtain ⟨hok, rfl, h1, h2⟩ := hp
    obtain ⟨a, b⟩ := u
    obtain rfl : a = σ := h1
    obtain rfl : b = τ := h2
    have I : IX G s H1 locs1 a b := ⟨by rw [← ht]; exact hB, hS⟩
    refine lv_i2l X.1 X.2.1 dL_house_8 rfl ?_
    refine r_last X I (k := 153) (by decide) rfl dL_house_9 (fun H locs I => ?_)
    refine lv_goto (tgt := 17) X.1 X.2.1 dL_house_10 (by decide) ?_
    refine lv_iconst (v := 0) X.1 X.2.1 dL_house_17 (by decide) ?_
    exact r_iret X I (Or.inl ⟨hok, rfl, rfl, rfl⟩) dL_house_18
