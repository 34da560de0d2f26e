/-! the house: a method that throws, and the law's one that catches -/
def NSE : String := "java/util/NoSuchElementException"
def AT0 : List Cond := vx_at0 RX11 175 NSE ["java/lang/RuntimeException", "java/lang/Exception"]
def NBH : List Cond := AT0.filter (fun w => !goodWord w)
def nbok : Cond → Bool
  | .declares _ => true
  | .castable _ _ => true
  | _ => false
theorem NBH_ok : NBH.all nbok = true := by decide +kernel
theorem NBH_on {w : Cond} (h : nbok w = true) : w.onTables = true := by
  cases w <;> first | rfl | exact absurd h Bool.false_ne_true
theorem NBH_warm {s U : State} (hW : s.WarmedH U.vm) {w : Cond} (hk : nbok w = true) (h : va_Nw w s) : va_Nw w U := by
  cases w <;> first | exact va_Nw.warmD hW h | exact va_Nw.warmC hW h | exact absurd hk Bool.false_ne_true
theorem AT0_in : ∀ w ∈ Cond.initialized NSE :: AT0.filter goodWord, w ∈ lw_tbl := by decide +kernel
theorem AT0_good : ∀ w ∈ Cond.classLink RX11 173 NSE :: Cond.initialized NSE :: AT0, vx_ot w = true := by decide +kernel
theorem at_all {w : Cond} (h : w ∈ AT0) (g : goodWord w = true) : w ∈ ALL := List.mem_filter.mpr ⟨AT0_in w (List.mem_cons_of_mem _ (List.mem_filter.mpr ⟨h, g⟩)), g⟩
theorem ln_NSE : Cond.initialized NSE ∈ ALL := List.mem_filter.mpr ⟨AT0_in _ List.mem_cons_self, rfl⟩
theorem lc_L_house : Cond.codeWith yL_house cL_house 5 (some .int) [(0, 10, 13, 13)] ∈ ALL := al_6 13 rfl rfl
def HX (A : Nat → Prop) (U : State) (H : Heap) : Prop := (∀ w ∈ NBH, va_Nw w U) ∧ vx_Zq Bundle.tN "UNASSIGNED_STACK" Bundle.steD A U H ∧ vx_Zq Bundle.tN "SUPPRESSED_SENTINEL" Bundle.listD A U H
theorem HX_go {s U : State} {H : Heap} {locs : List Loc} {A A' : Nat → Prop} (h : HX A s s.heap) (hS : va_S A s.heap H locs) (hW : s.WarmedH U.vm) (hA : ∀ q, A' q → A q) : HX A' U H := by
  obtain ⟨h1, h2, h3⟩ := h
  exact ⟨fun w hw => NBH_warm hW (List.all_eq_true.mp NBH_ok w hw) (h1 w hw), ((vx_Zq.moved hW.alike h2).kept (fun q a b => hS.2.1 q a b)).narrow hA, ((vx_Zq.moved hW.alike h3).kept (fun q a b => hS.2.1 q a b)).narrow hA⟩
theorem HX_same {A : Nat → Prop} {U : State} {H : Heap} (g : JFrame) (mk : MethodId) (a : Array Value) (h : HX A U H) : HX A (U.calling g mk a) H := by
  obtain ⟨h1, h2, h3⟩ := h
  exact ⟨fun w hw => va_Nw.same (NBH_on (List.all_eq_true.mp NBH_ok w hw)) (u := U) (U := U.calling g mk a) rfl (h1 w hw), vx_Zq.moved (u := U) (U := U.calling g mk a) (Vm.Alike.refl U.vm) h2, vx_Zq.moved (u := U) (U := U.calling g mk a) (Vm.Alike.refl U.vm) h3⟩
theorem PH_blind (G : GT) (sz : Nat) (σ : SI) (τ : SL) (av : List Value) : FrameBlind (va_Pc av (fun U => PW G sz σ τ U ∧ HX (AW G sz) U U.heap)) := by
  intro a U g mk q
  obtain ⟨q0, q1, q2⟩ := q
  obtain ⟨z1, z2⟩ := PW_blind G sz σ τ av a U g mk ⟨q0, q1⟩
  exact ⟨z1, z2, HX_same g mk a q2⟩
set_option maxHeartbeats 4000000 in
set_option maxRecDepth 100000 in
theorem x11_house (l : Launch) (hl0 : l.stackTraces = false) (G : GT) (σ : SI) (τ : SL) (x1 x2 : Int32) (sz : Nat) : vx_Met l yX11_house (Cond.code yX11_house cX11_house 3 (some .int) :: ALL) { frames := 8, cells := 1, slots := 6, locals := 512 } (va_Pc [.ref (G.2.1 0), .int x1, .int x2] (fun U => PW G sz σ τ U ∧ HX (AW G sz) U U.heap)) (Qi G (fun r a b => Hok σ x1 x2 ∧ r = hv σ x1 x2 ∧ a = σ ∧ b = τ) sz) (vx_X (fun _ : Unit => ¬ Hok σ x1 x2) (fun E _ t => E = NSE ∧ BW G (σ, τ) t) (AW G sz)) 1 6 (AW G sz) := by
  refine vx_ofW (cc := cX11_house) (maxL := 3) (ret := some .int) (by decide +kernel) rfl ?_
  intro p e s m args below meth c s₁ B hml hout hv0
  obtain ⟨rfl, ⟨rfl, hP, hD, hK⟩, hH⟩ := hv0
  rw [lg_entry_eq]
  have X : CX p s m _ meth c cX11_house RX11 3 (some .int) G := ⟨B.exec, B.bytes, B.returns, fun w hw => atoms_spec (ws := Cond.code yX11_house cX11_house 3 (some .int) :: ALL) B.pre w (List.mem_cons_of_mem _ hw), findClass_of_methodNamed B.named, hml, B.notSynchronized, hD, hK⟩
  have I : IX G s s.heap [] σ τ := ⟨hP, va_S.rf⟩
  have hl := lv_entry [.ref (G.2.1 0), .int x1, .int x2] (n := 3) (Nat.le_of_ble_eq_true rfl)
  generalize (lg_sl [.ref (G.2.1 0), .int x1, .int x2] ++ List.replicate (3 - (lg_sl [.ref (G.2.1 0), .int x1, .int x2]).length) Slot.unset).toArray = ls at hl ⊢
  have hl : lv_has ls 3 [(0, .ref (G.2.1 0)), (1, .int x1), (2, .int x2)] := hl
  have bad : ∀ (H : Heap) (locs : List Loc), IX G s H locs σ τ → ¬ Hok σ x1 x2 → W p l e { frames := 8, cells := 1, slots := 6, locals := 512 } s m #[.ref (G.2.1 0), .int x1, .int x2] below meth c H locs 0 0 (vx_MQ below (Qi G (fun r a b => Hok σ x1 x2 ∧ r = hv σ x1 x2 ∧ a = σ ∧ b = τ) s.heap.size) (vx_X (fun _ : Unit => ¬ Hok σ x1 x2) (fun E _ t => E = NSE ∧ BW G (σ, τ) t) (AW G s.heap.size)) #[.ref (G.2.1 0), .int x1, .int x2] s 1 6 (AW G s.heap.size)) (F0 m 20 ls []) := by
    intro H locs I hno
    refine vx_throw0 (own := RX11) (cls := NSE) (names := ["java/lang/RuntimeException", "java/lang/Exception"]) (ik := 173) (ic := 175) (rest := []) (A := AW G s.heap.size) X.1 X.2.1 hl0 X.2.2.2.2.1 (by decide +kernel) (by decide +kernel) (X.2.2.2.1 _ lk_X11_173) (X.2.2.2.1 _ ln_NSE) (fun w hw => ?_) AT0_good hH.2.1 hH.2.2 I.2 (hl.1.trans X.2.2.2.2.2.1.symm) dX11_house_20 dX11_house_23 dX11_house_24 dX11_house_27 (fun x hx => (hout x hx).elim) (by decide) (by decide) (by decide) (by decide) X.2.2.2.2.2.2.1 (fun t ha hz hk => ?_) I.2.2.2 (by decide) (by decide)
    · by_cases g : goodWord w = true
      · exact X.2.2.2.1 _ (at_all hw g)
      · have hb : w ∈ NBH := List.mem_filter.mpr ⟨hw, by simp [g]⟩
        exact va_Nw.use (NBH_on (List.all_eq_true.mp NBH_ok w hb)) (hH.1 w hb)
    · exact ⟨(), hno, ⟨rfl, I.1.kept (fun k q hq => hk q.1 (I.1 k q hq).lt)⟩, ⟨Nat.le_trans I.2.1 hz, fun q h2 h3 => (hk q (Nat.lt_of_lt_of_le h2 I.2.1)).trans (I.2.2.1 q h2 h3)⟩⟩
  refine lv_aload_n X.1 X.2.1 dX11_house_0 rfl (lv_at hl 0 rfl) ?_
  refine g11_3 X I (k := 0) (by decide) rfl lf_X11_35 dX11_house_1 ?_
  refine lv_iload_n X.1 X.2.1 dX11_house_4 rfl (lv_at hl 1 rfl) ?_
  refine r_ei I (r_runV X I pk_X8_isHouse (c8_isHouse l G (k := 10) ⟨by decide, rfl, rfl, rfl⟩ _ _ _) lm_X11_169 (by decide) (cl_8 rfl) rfl rfl rfl hl.1 rfl (Nat.le_of_ble_eq_true rfl) dX11_house_5 ⟨Nat.le_of_ble_eq_true rfl, Nat.le_of_ble_eq_true rfl⟩ ⟨Nat.zero_le _, Nat.zero_le _⟩) (fun H locs I => ?_)
  refine lv_if_eq (tgt := 20) X.1 X.2.1 dX11_house_8 (by decide) (fun c_1 => ?_) (fun c_1 => ?_)
  · exact bad H locs I (fun h => b2i_n c_1 h.1)
  refine lv_iload_n X.1 X.2.1 dX11_house_11 rfl (lv_at hl 2 rfl) ?_
  refine lv_if_lt (tgt := 20) X.1 X.2.1 dX11_house_12 (by decide) (fun c_2 => ?_) (fun c_2 => ?_)
  · exact bad H locs I (fun h => h.2.1 c_2)
  refine lv_iload_n X.1 X.2.1 dX11_house_15 rfl (lv_at hl 2 rfl) ?_
  refine lv_iconst (v := 4) X.1 X.2.1 dX11_house_16 (by decide) ?_
  refine lv_icmp_le (tgt := 28) X.1 X.2.1 dX11_house_17 (by decide) (fun c_3 => ?_) (fun c_3 => ?_)
  · have hok : Hok σ x1 x2 := ⟨b2i_y c_1, c_2, c_3⟩
    refine lv_iload_n X.1 X.2.1 dX11_house_28 rfl (lv_at hl 2 rfl) ?_
    by_cases c_4 : x2 = 0
    · refine lv_tableIn (off := 31) (tgt := 60) X.1 X.2.1 dX11_house_29 (by rw [c_4]; decide) (by rw [c_4]; decide) (by rw [c_4]; decide) (by decide) ?_
      refine lv_aload_n X.1 X.2.1 dX11_house_60 rfl (lv_at hl 0 rfl) ?_
      refine g11_3 X I (k := 0) (by decide) rfl lf_X11_35 dX11_house_61 ?_
      refine lv_iload_n X.1 X.2.1 dX11_house_64 rfl (lv_at hl 1 rfl) ?_
      refine r_ei I (r_runV X I pk_X8_xOf (c8_xOf l G (k := 10) ⟨by decide, rfl, rfl, rfl⟩ _ _ _) lm_X11_176 (by decide) (cl_8 rfl) rfl rfl rfl hl.1 rfl (Nat.le_of_ble_eq_true rfl) dX11_house_65 ⟨Nat.le_of_ble_eq_true rfl, Nat.le_of_ble_eq_true rfl⟩ ⟨Nat.zero_le _, Nat.zero_le _⟩) (fun H locs I => ?_)
      refine W.widen (k := 1) (n := 6) (by decide) (by decide) (vx_ret (r_iret X I ⟨hok, ?_, rfl, rfl⟩ dX11_house_68))
      unfold hv
      rw [if_pos c_4]
    by_cases c_5 : x2 = 1
    · refine lv_tableIn (off := 40) (tgt := 69) X.1 X.2.1 dX11_house_29 (by rw [c_5]; decide) (by rw [c_5]; decide) (by rw [c_5]; decide) (by decide) ?_
      refine lv_aload_n X.1 X.2.1 dX11_house_69 rfl (lv_at hl 0 rfl) ?_
      refine g11_3 X I (k := 0) (by decide) rfl lf_X11_35 dX11_house_70 ?_
      refine lv_iload_n X.1 X.2.1 dX11_house_73 rfl (lv_at hl 1 rfl) ?_
      refine r_ei I (r_runV X I pk_X8_yOf (c8_yOf l G (k := 10) ⟨by decide, rfl, rfl, rfl⟩ _ _ _) lm_X11_179 (by decide) (cl_8 rfl) rfl rfl rfl hl.1 rfl (Nat.le_of_ble_eq_true rfl) dX11_house_74 ⟨Nat.le_of_ble_eq_true rfl, Nat.le_of_ble_eq_true rfl⟩ ⟨Nat.zero_le _, Nat.zero_le _⟩) (fun H locs I => ?_)
      refine W.widen (k := 1) (n := 6) (by decide) (by decide) (vx_ret (r_iret X I ⟨hok, ?_, rfl, rfl⟩ dX11_house_77))
      unfold hv
      rw [if_neg c_4, if_pos c_5]
    by_cases c_6 : x2 = 2
    · refine lv_tableIn (off := 49) (tgt := 78) X.1 X.2.1 dX11_house_29 (by rw [c_6]; decide) (by rw [c_6]; decide) (by rw [c_6]; decide) (by decide) ?_
      refine lv_aload_n X.1 X.2.1 dX11_house_78 rfl (lv_at hl 0 rfl) ?_
      refine g11_5 X I (k := 0) (by decide) rfl lf_X11_49 dX11_house_79 ?_
      refine lv_iload_n X.1 X.2.1 dX11_house_82 rfl (lv_at hl 1 rfl) ?_
      refine r_ei I (r_runV X I pk_X0_grievanceOf (c0_grievanceOf l G (k := 24) ⟨by decide, rfl, rfl⟩ _ _ _) lm_X11_182 (by decide) (cl_0 rfl) rfl rfl rfl hl.1 rfl (Nat.le_of_ble_eq_true rfl) dX11_house_83 ⟨Nat.le_of_ble_eq_true rfl, Nat.le_of_ble_eq_true rfl⟩ ⟨Nat.zero_le _, Nat.zero_le _⟩) (fun H locs I => ?_)
      refine W.widen (k := 1) (n := 6) (by decide) (by decide) (vx_ret (r_iret X I ⟨hok, ?_, rfl, rfl⟩ dX11_house_86))
      unfold hv
      rw [if_neg c_4, if_neg c_5, if_pos c_6]
    by_cases c_7 : x2 = 3
    · refine lv_tableIn (off := 58) (tgt := 87) X.1 X.2.1 dX11_house_29 (by rw [c_7]; decide) (by rw [c_7]; decide) (by rw [c_7]; decide) (by decide) ?_
      refine lv_aload_n X.1 X.2.1 dX11_house_87 rfl (lv_at hl 0 rfl) ?_
      refine g11_3 X I (k := 0) (by decide) rfl lf_X11_35 dX11_house_88 ?_
      refine lv_iload_n X.1 X.2.1 dX11_house_91 rfl (lv_at hl 1 rfl) ?_
      refine r_ei I (r_runV X I pk_X8_isThankful (c8_isThankful l G (k := 10) ⟨by decide, rfl, rfl, rfl⟩ _ _ _) lm_X11_185 (by decide) (cl_8 rfl) rfl rfl rfl hl.1 rfl (Nat.le_of_ble_eq_true rfl) dX11_house_92 ⟨Nat.le_of_ble_eq_true rfl, Nat.le_of_ble_eq_true rfl⟩ ⟨Nat.zero_le _, Nat.zero_le _⟩) (fun H locs I => ?_)
      refine lv_if_eq (tgt := 102) X.1 X.2.1 dX11_house_95 (by decide) (fun c_8 => ?_) (fun c_8 => ?_)
      · refine lv_iconst (v := 0) X.1 X.2.1 dX11_house_102 (by decide) ?_
        refine W.widen (k := 1) (n := 6) (by decide) (by decide) (vx_ret (r_iret X I ⟨hok, ?_, rfl, rfl⟩ dX11_house_103))
        unfold hv
        rw [if_neg c_4, if_neg c_5, if_neg c_6, if_pos c_7, if_neg (b2i_n c_8)]
      · refine lv_iconst (v := 1) X.1 X.2.1 dX11_house_98 (by decide) ?_
        refine lv_goto (tgt := 103) X.1 X.2.1 dX11_house_99 (by decide) ?_
        refine W.widen (k := 1) (n := 6) (by decide) (by decide) (vx_ret (r_iret X I ⟨hok, ?_, rfl, rfl⟩ dX11_house_103))
        unfold hv
        rw [if_neg c_4, if_neg c_5, if_neg c_6, if_pos c_7, if_pos (b2i_y c_8)]
    refine lv_tableD (L := [0, 1, 2, 3]) (tgt := 104) X.1 X.2.1 dX11_house_29 (by decide) (List.forall_mem_cons.mpr ⟨c_4, (List.forall_mem_cons.mpr ⟨c_5, (List.forall_mem_cons.mpr ⟨c_6, (List.forall_mem_cons.mpr ⟨c_7, (fun _ h => absurd h List.not_mem_nil)⟩)⟩)⟩)⟩) (by decide) ?_
    refine lv_aload_n X.1 X.2.1 dX11_house_104 rfl (lv_at hl 0 rfl) ?_
    refine g11_5 X I (k := 0) (by decide) rfl lf_X11_49 dX11_house_105 ?_
    refine lv_iload_n X.1 X.2.1 dX11_house_108 rfl (lv_at hl 1 rfl) ?_
    refine r_ei I (r_runV X I pk_X0_wasAt (c0_wasAt l G (k := 24) ⟨by decide, rfl, rfl⟩ _ _ _) lm_X11_188 (by decide) (cl_0 rfl) rfl rfl rfl hl.1 rfl (Nat.le_of_ble_eq_true rfl) dX11_house_109 ⟨Nat.le_of_ble_eq_true rfl, Nat.le_of_ble_eq_true rfl⟩ ⟨Nat.zero_le _, Nat.zero_le _⟩) (fun H locs I => ?_)
    refine lv_if_eq (tgt := 119) X.1 X.2.1 dX11_house_112 (by decide) (fun c_8 => ?_) (fun c_8 => ?_)
    · refine lv_iconst (v := 0) X.1 X.2.1 dX11_house_119 (by decide) ?_
      refine W.widen (k := 1) (n := 6) (by decide) (by decide) (vx_ret (r_iret X I ⟨hok, ?_, rfl, rfl⟩ dX11_house_120))
      unfold hv
      rw [if_neg c_4, if_neg c_5, if_neg c_6, if_neg c_7, if_neg (b2i_n c_8)]
    · refine lv_iconst (v := 1) X.1 X.2.1 dX11_house_115 (by decide) ?_
      refine lv_goto (tgt := 120) X.1 X.2.1 dX11_house_116 (by decide) ?_
      refine W.widen (k := 1) (n := 6) (by decide) (by decide) (vx_ret (r_iret X I ⟨hok, ?_, rfl, rfl⟩ dX11_house_120))
      unfold hv
      rw [if_neg c_4, if_neg c_5, if_neg c_6, if_neg c_7, if_pos (b2i_y c_8)]
  · exact bad H locs I (fun h => c_3 h.2.2)
