set_option maxHeartbeats 4000000 in
set_option maxRecDepth 100000 in
theorem lc_year {p : Program} {l : Launch} {e : Env} {s : State} {m : MethodId} {below : List Frame} {meth : Method} {c : Code} {H : Heap} {locs : List Loc} {cells slots : Nat} {Q : State → Prop} {ls : Array Slot} {G : GT} {σ : SI} {τ : SL} {b L : Nat} {xs : Nat → Int32} {x4 : Int32} {g : Nat} (X : LX p s m b L xs meth c G) (J : INV g σ σ) (hg : g + 61 < 2 ^ 31) (I : IX G s H locs σ τ) (hl : lv_has ls 7 (LB G b x4)) (hv : LV x4 L) (hcs : cells ≤ 601024 ∧ slots ≤ 7293034)
    (kk : ∀ (H1 : Heap) (locs1 : List Loc) (σ1 : SI) (τ1 : SL), IX G s H1 locs1 σ1 τ1 → INV (g + 60) σ1 σ1 → W p l e room_1 s m #[Value.ref b] below meth c H1 locs1 cells slots Q (F0 m 1581 ls [])) : W p l e room_1 s m #[Value.ref b] below meth c H locs cells slots Q (F0 m 677 ls []) := by
  have F1 : ∀ a, 123 ≤ a → (f11_year σ ).2 a = σ a := fun a ha => w_f11_year σ  a (by omega) (by omega) (by omega) (by omega) (by omega)
  have J1 := t_year (br_1 J F1) 
  refine lv_aload_n X.1.1 X.1.2.1 dL_law_677 rfl (lv_at hl 3 rfl) ?_
  refine r_ei I (r_runV X.1 I pk_X11_year (c11_year l G σ τ ) lm_L_84 (by decide) (cl_11 rfl) rfl rfl rfl hl.1 rfl (Nat.le_of_ble_eq_true rfl) dL_law_678 ⟨Nat.le_of_ble_eq_true rfl, Nat.le_of_ble_eq_true rfl⟩ hcs) (fun H locs I => ?_)
  refine lv_aload_n X.1.1 X.1.2.1 dL_law_681 rfl (lv_at hl 2 rfl) ?_
  refine r_ei I (r_runV X.1 I pk_X12_year (c12_year l G (f11_year σ ).2 τ  J1.2.1) lm_L_87 (by decide) (cl_12 rfl) rfl rfl rfl hl.1 rfl (Nat.le_of_ble_eq_true rfl) dL_law_682 ⟨Nat.le_of_ble_eq_true rfl, Nat.le_of_ble_eq_true rfl⟩ hcs) (fun H locs I => ?_)
  refine lv_icmp_eq (tgt := 1581) X.1.1 X.1.2.1 dL_law_685 (by decide) (fun _ => ?_) (fun q => absurd J1.1 q)
  exact kk H locs _ τ I (INV_up (br_2 J1.2.2 (fun a ha => w_f12_year _  a (by omega) (by omega) (by omega) (by omega))) (by omega))
set_option maxHeartbeats 4000000 in
set_option maxRecDepth 100000 in
theorem lc_faith {p : Program} {l : Launch} {e : Env} {s : State} {m : MethodId} {below : List Frame} {meth : Method} {c : Code} {H : Heap} {locs : List Loc} {cells slots : Nat} {Q : State → Prop} {ls : Array Slot} {G : GT} {σ : SI} {τ : SL} {b L : Nat} {xs : Nat → Int32} {x4 : Int32} {g : Nat} (X : LX p s m b L xs meth c G) (J : INV g σ σ) (hg : g + 61 < 2 ^ 31) (I : IX G s H locs σ τ) (hl : lv_has ls 7 (LB G b x4)) (hv : LV x4 L) (hcs : cells ≤ 601024 ∧ slots ≤ 7293034)
    (kk : ∀ (H1 : Heap) (locs1 : List Loc) (σ1 : SI) (τ1 : SL), IX G s H1 locs1 σ1 τ1 → INV (g + 60) σ1 σ1 → W p l e room_1 s m #[Value.ref b] below meth c H1 locs1 cells slots Q (F0 m 1581 ls [])) : W p l e room_1 s m #[Value.ref b] below meth c H locs cells slots Q (F0 m 690 ls []) := by
  have F1 : ∀ a, 123 ≤ a → (f11_faith σ (sx xs x4 1)).2 a = σ a := fun a ha => w_f11_faith σ (sx xs x4 1) a (by omega)
  have J1 := t_faith (br_1 J F1) (sx xs x4 1)
  refine lv_aload_n X.1.1 X.1.2.1 dL_law_690 rfl (lv_at hl 3 rfl) ?_
  refine l_arg (n := 1) (k := 1) X I hl (by decide) hv.1 dL_law_691 dL_law_692 dL_law_694 dL_law_695 dL_law_696 ?_
  refine r_ei I (r_runV X.1 I pk_X11_faith (c11_faith l G σ τ (sx xs x4 1)) lm_L_88 (by decide) (cl_11 rfl) rfl rfl rfl hl.1 rfl (Nat.le_of_ble_eq_true rfl) dL_law_697 ⟨Nat.le_of_ble_eq_true rfl, Nat.le_of_ble_eq_true rfl⟩ hcs) (fun H locs I => ?_)
  refine lv_aload_n X.1.1 X.1.2.1 dL_law_700 rfl (lv_at hl 2 rfl) ?_
  refine l_arg (n := 1) (k := 1) X I hl (by decide) hv.1 dL_law_701 dL_law_702 dL_law_704 dL_law_705 dL_law_706 ?_
  refine r_ei I (r_runV X.1 I pk_X12_faith (c12_faith l G (f11_faith σ (sx xs x4 1)).2 τ (sx xs x4 1)) lm_L_91 (by decide) (cl_12 rfl) rfl rfl rfl hl.1 rfl (Nat.le_of_ble_eq_true rfl) dL_law_707 ⟨Nat.le_of_ble_eq_true rfl, Nat.le_of_ble_eq_true rfl⟩ hcs) (fun H locs I => ?_)
  refine lv_icmp_eq (tgt := 1581) X.1.1 X.1.2.1 dL_law_710 (by decide) (fun _ => ?_) (fun q => absurd (congrArg b2i J1.1) q)
  exact kk H locs _ τ I (INV_up (br_2 J1.2.2 (fun a ha => w_f12_faith _ (sx xs x4 1) a (by omega))) (by omega))
set_option maxHeartbeats 4000000 in
set_option maxRecDepth 100000 in
theorem lc_status {p : Program} {l : Launch} {e : Env} {s : State} {m : MethodId} {below : List Frame} {meth : Method} {c : Code} {H : Heap} {locs : List Loc} {cells slots : Nat} {Q : State → Prop} {ls : Array Slot} {G : GT} {σ : SI} {τ : SL} {b L : Nat} {xs : Nat → Int32} {x4 : Int32} {g : Nat} (X : LX p s m b L xs meth c G) (J : INV g σ σ) (hg : g + 61 < 2 ^ 31) (I : IX G s H locs σ τ) (hl : lv_has ls 7 (LB G b x4)) (hv : LV x4 L) (hcs : cells ≤ 601024 ∧ slots ≤ 7293034)
    (kk : ∀ (H1 : Heap) (locs1 : List Loc) (σ1 : SI) (τ1 : SL), IX G s H1 locs1 σ1 τ1 → INV (g + 60) σ1 σ1 → W p l e room_1 s m #[Value.ref b] below meth c H1 locs1 cells slots Q (F0 m 1581 ls [])) : W p l e room_1 s m #[Value.ref b] below meth c H locs cells slots Q (F0 m 784 ls []) := by
  have J1 := t_status J (sx xs x4 1)
  refine lv_aload_n X.1.1 X.1.2.1 dL_law_784 rfl (lv_at hl 3 rfl) ?_
  refine l_arg (n := 1) (k := 1) X I hl (by decide) hv.1 dL_law_785 dL_law_786 dL_law_788 dL_law_789 dL_law_790 ?_
  refine r_ei I (r_runV X.1 I pk_X11_status (c11_status l G σ τ (sx xs x4 1)) lm_L_99 (by decide) (cl_11 rfl) rfl rfl rfl hl.1 rfl (Nat.le_of_ble_eq_true rfl) dL_law_791 ⟨Nat.le_of_ble_eq_true rfl, Nat.le_of_ble_eq_true rfl⟩ hcs) (fun H locs I => ?_)
  refine lv_aload_n X.1.1 X.1.2.1 dL_law_794 rfl (lv_at hl 2 rfl) ?_
  refine l_arg (n := 1) (k := 1) X I hl (by decide) hv.1 dL_law_795 dL_law_796 dL_law_798 dL_law_799 dL_law_800 ?_
  refine r_ei I (r_runV X.1 I pk_X12_status (c12_status l G σ τ (sx xs x4 1) J1.2) lm_L_102 (by decide) (cl_12 rfl) rfl rfl rfl hl.1 rfl (Nat.le_of_ble_eq_true rfl) dL_law_801 ⟨Nat.le_of_ble_eq_true rfl, Nat.le_of_ble_eq_true rfl⟩ hcs) (fun H locs I => ?_)
  refine lv_icmp_eq (tgt := 1581) X.1.1 X.1.2.1 dL_law_804 (by decide) (fun _ => ?_) (fun q => absurd J1.1 q)
  exact kk H locs σ τ I (INV_up J (by omega))
set_option maxHeartbeats 4000000 in
set_option maxRecDepth 100000 in
theorem lc_undo {p : Program} {l : Launch} {e : Env} {s : State} {m : MethodId} {below : List Frame} {meth : Method} {c : Code} {H : Heap} {locs : List Loc} {cells slots : Nat} {Q : State → Prop} {ls : Array Slot} {G : GT} {σ : SI} {τ : SL} {b L : Nat} {xs : Nat → Int32} {x4 : Int32} {g : Nat} (X : LX p s m b L xs meth c G) (J : INV g σ σ) (hg : g + 61 < 2 ^ 31) (I : IX G s H locs σ τ) (hl : lv_has ls 7 (LB G b x4)) (hv : LV x4 L) (hcs : cells ≤ 601024 ∧ slots ≤ 7293034)
    (kk : ∀ (H1 : Heap) (locs1 : List Loc) (σ1 : SI) (τ1 : SL), IX G s H1 locs1 σ1 τ1 → INV (g + 60) σ1 σ1 → W p l e room_1 s m #[Value.ref b] below meth c H1 locs1 cells slots Q (F0 m 1581 ls [])) : W p l e room_1 s m #[Value.ref b] below meth c H locs cells slots Q (F0 m 809 ls []) := by
  have F1 : ∀ a, 123 ≤ a → (f11_undo σ ).2 a = σ a := fun a ha => w_f11_undo σ  a (by omega) (by omega) (by omega)
  have J1 := t_undo (br_1 J F1) 
  refine lv_aload_n X.1.1 X.1.2.1 dL_law_809 rfl (lv_at hl 3 rfl) ?_
  refine r_ei I (r_runV X.1 I pk_X11_undo (c11_undo l G σ τ ) lm_L_103 (by decide) (cl_11 rfl) rfl rfl rfl hl.1 rfl (Nat.le_of_ble_eq_true rfl) dL_law_810 ⟨Nat.le_of_ble_eq_true rfl, Nat.le_of_ble_eq_true rfl⟩ hcs) (fun H locs I => ?_)
  refine lv_aload_n X.1.1 X.1.2.1 dL_law_813 rfl (lv_at hl 2 rfl) ?_
  refine r_ei I (r_runV X.1 I pk_X12_undo (c12_undo l G (f11_undo σ ).2 τ  J1.2.1) lm_L_106 (by decide) (cl_12 rfl) rfl rfl rfl hl.1 rfl (Nat.le_of_ble_eq_true rfl) dL_law_814 ⟨Nat.le_of_ble_eq_true rfl, Nat.le_of_ble_eq_true rfl⟩ hcs) (fun H locs I => ?_)
  refine lv_icmp_eq (tgt := 1581) X.1.1 X.1.2.1 dL_law_817 (by decide) (fun _ => ?_) (fun q => absurd J1.1 q)
  exact kk H locs _ τ I (INV_up (br_2 J1.2.2 (fun a ha => w_f12_undo _  a (by omega) (by omega))) (by omega))
set_option maxHeartbeats 4000000 in
set_option maxRecDepth 100000 in
theorem lc_log {p : Program} {l : Launch} {e : Env} {s : State} {m : MethodId} {below : List Frame} {meth : Method} {c : Code} {H : Heap} {locs : List Loc} {cells slots : Nat} {Q : State → Prop} {ls : Array Slot} {G : GT} {σ : SI} {τ : SL} {b L : Nat} {xs : Nat → Int32} {x4 : Int32} {g : Nat} (X : LX p s m b L xs meth c G) (J : INV g σ σ) (hg : g + 61 < 2 ^ 31) (I : IX G s H locs σ τ) (hl : lv_has ls 7 (LB G b x4)) (hv : LV x4 L) (hcs : cells ≤ 601024 ∧ slots ≤ 7293034)
    (kk : ∀ (H1 : Heap) (locs1 : List Loc) (σ1 : SI) (τ1 : SL), IX G s H1 locs1 σ1 τ1 → INV (g + 60) σ1 σ1 → W p l e room_1 s m #[Value.ref b] below meth c H1 locs1 cells slots Q (F0 m 1581 ls [])) : W p l e room_1 s m #[Value.ref b] below meth c H locs cells slots Q (F0 m 822 ls []) := by
  have J1 := t_log J (by omega) (sx xs x4 1) (sx xs x4 2)
  refine lv_aload_n X.1.1 X.1.2.1 dL_law_822 rfl (lv_at hl 3 rfl) ?_
  refine l_arg (n := 1) (k := 1) X I hl (by decide) hv.1 dL_law_823 dL_law_824 dL_law_826 dL_law_827 dL_law_828 ?_
  refine l_arg (n := 2) (k := 2) X I hl (by decide) hv.2.1 dL_law_829 dL_law_830 dL_law_832 dL_law_833 dL_law_834 ?_
  refine r_ei I (r_runV X.1 I pk_X11_log (c11_log l G σ τ (sx xs x4 1) (sx xs x4 2)) lm_L_107 (by decide) (cl_11 rfl) rfl rfl rfl hl.1 rfl (Nat.le_of_ble_eq_true rfl) dL_law_835 ⟨Nat.le_of_ble_eq_true rfl, Nat.le_of_ble_eq_true rfl⟩ hcs) (fun H locs I => ?_)
  refine lv_aload_n X.1.1 X.1.2.1 dL_law_838 rfl (lv_at hl 2 rfl) ?_
  refine l_arg (n := 1) (k := 1) X I hl (by decide) hv.1 dL_law_839 dL_law_840 dL_law_842 dL_law_843 dL_law_844 ?_
  refine l_arg (n := 2) (k := 2) X I hl (by decide) hv.2.1 dL_law_845 dL_law_846 dL_law_848 dL_law_849 dL_law_850 ?_
  refine r_ei I (r_runV X.1 I pk_X12_log (c12_log l G σ τ (sx xs x4 1) (sx xs x4 2) J1.2) lm_L_110 (by decide) (cl_12 rfl) rfl rfl rfl hl.1 rfl (Nat.le_of_ble_eq_true rfl) dL_law_851 ⟨Nat.le_of_ble_eq_true rfl, Nat.le_of_ble_eq_true rfl⟩ hcs) (fun H locs I => ?_)
  refine lv_icmp_eq (tgt := 1581) X.1.1 X.1.2.1 dL_law_854 (by decide) (fun _ => ?_) (fun q => absurd J1.1 q)
  exact kk H locs σ τ I (INV_up J (by omega))
set_option maxHeartbeats 4000000 in
set_option maxRecDepth 100000 in
theorem lc_route {p : Program} {l : Launch} {e : Env} {s : State} {m : MethodId} {below : List Frame} {meth : Method} {c : Code} {H : Heap} {locs : List Loc} {cells slots : Nat} {Q : State → Prop} {ls : Array Slot} {G : GT} {σ : SI} {τ : SL} {b L : Nat} {xs : Nat → Int32} {x4 : Int32} {g : Nat} (X : LX p s m b L xs meth c G) (J : INV g σ σ) (hg : g + 61 < 2 ^ 31) (I : IX G s H locs σ τ) (hl : lv_has ls 7 (LB G b x4)) (hv : LV x4 L) (hcs : cells ≤ 601024 ∧ slots ≤ 7293034)
    (kk : ∀ (H1 : Heap) (locs1 : List Loc) (σ1 : SI) (τ1 : SL), IX G s H1 locs1 σ1 τ1 → INV (g + 60) σ1 σ1 → W p l e room_1 s m #[Value.ref b] below meth c H1 locs1 cells slots Q (F0 m 1581 ls [])) : W p l e room_1 s m #[Value.ref b] below meth c H locs cells slots Q (F0 m 859 ls []) := by
  have F1 : ∀ a, 123 ≤ a → (f11_route σ (sx xs x4 1)).2 a = σ a := fun a ha => w_f11_route σ (sx xs x4 1) a (by omega) (by omega) (by omega)
  have J1 := t_route (br_1 J F1) (sx xs x4 1)
  refine lv_aload_n X.1.1 X.1.2.1 dL_law_859 rfl (lv_at hl 3 rfl) ?_
  refine l_arg (n := 1) (k := 1) X I hl (by decide) hv.1 dL_law_860 dL_law_861 dL_law_863 dL_law_864 dL_law_865 ?_
  refine r_ei I (r_runV X.1 I pk_X11_route (c11_route l G σ τ (sx xs x4 1)) lm_L_111 (by decide) (cl_11 rfl) rfl rfl rfl hl.1 rfl (Nat.le_of_ble_eq_true rfl) dL_law_866 ⟨Nat.le_of_ble_eq_true rfl, Nat.le_of_ble_eq_true rfl⟩ hcs) (fun H locs I => ?_)
  refine lv_aload_n X.1.1 X.1.2.1 dL_law_869 rfl (lv_at hl 2 rfl) ?_
  refine l_arg (n := 1) (k := 1) X I hl (by decide) hv.1 dL_law_870 dL_law_871 dL_law_873 dL_law_874 dL_law_875 ?_
  refine r_ei I (r_runV X.1 I pk_X12_route (c12_route l G (f11_route σ (sx xs x4 1)).2 τ (sx xs x4 1) J1.2.1) lm_L_114 (by decide) (cl_12 rfl) rfl rfl rfl hl.1 rfl (Nat.le_of_ble_eq_true rfl) dL_law_876 ⟨Nat.le_of_ble_eq_true rfl, Nat.le_of_ble_eq_true rfl⟩ hcs) (fun H locs I => ?_)
  refine lv_icmp_eq (tgt := 1581) X.1.1 X.1.2.1 dL_law_879 (by decide) (fun _ => ?_) (fun q => absurd J1.1 q)
  exact kk H locs _ τ I (INV_up (br_2 J1.2.2 (fun a ha => w_f12_route _ (sx xs x4 1) a (by omega) (by omega) (by omega) (by omega) (by omega))) (by omega))
set_option maxHeartbeats 4000000 in
set_option maxRecDepth 100000 in
theorem lc_order {p : Program} {l : Launch} {e : Env} {s : State} {m : MethodId} {below : List Frame} {meth : Method} {c : Code} {H : Heap} {locs : List Loc} {cells slots : Nat} {Q : State → Prop} {ls : Array Slot} {G : GT} {σ : SI} {τ : SL} {b L : Nat} {xs : Nat → Int32} {x4 : Int32} {g : Nat} (X : LX p s m b L xs meth c G) (J : INV g σ σ) (hg : g + 61 < 2 ^ 31) (I : IX G s H locs σ τ) (hl : lv_has ls 7 (LB G b x4)) (hv : LV x4 L) (hcs : cells ≤ 601024 ∧ slots ≤ 7293034)
    (kk : ∀ (H1 : Heap) (locs1 : List Loc) (σ1 : SI) (τ1 : SL), IX G s H1 locs1 σ1 τ1 → INV (g + 60) σ1 σ1 → W p l e room_1 s m #[Value.ref b] below meth c H1 locs1 cells slots Q (F0 m 1581 ls [])) : W p l e room_1 s m #[Value.ref b] below meth c H locs cells slots Q (F0 m 884 ls []) := by
  have F1 : ∀ a, 123 ≤ a → (f11_order σ (sx xs x4 1)).2 a = σ a := fun a ha => w_f11_order σ (sx xs x4 1) a (by omega) (by omega) (by omega) (by omega) (by omega) (by omega)
  have J1 := t_order (br_1 J F1) (sx xs x4 1)
  refine lv_aload_n X.1.1 X.1.2.1 dL_law_884 rfl (lv_at hl 3 rfl) ?_
  refine l_arg (n := 1) (k := 1) X I hl (by decide) hv.1 dL_law_885 dL_law_886 dL_law_888 dL_law_889 dL_law_890 ?_
  refine r_ei I (r_runV X.1 I pk_X11_order (c11_order l G σ τ (sx xs x4 1)) lm_L_115 (by decide) (cl_11 rfl) rfl rfl rfl hl.1 rfl (Nat.le_of_ble_eq_true rfl) dL_law_891 ⟨Nat.le_of_ble_eq_true rfl, Nat.le_of_ble_eq_true rfl⟩ hcs) (fun H locs I => ?_)
  refine lv_aload_n X.1.1 X.1.2.1 dL_law_894 rfl (lv_at hl 2 rfl) ?_
  refine l_arg (n := 1) (k := 1) X I hl (by decide) hv.1 dL_law_895 dL_law_896 dL_law_898 dL_law_899 dL_law_900 ?_
  refine r_ei I (r_runV X.1 I pk_X12_order (c12_order l G (f11_order σ (sx xs x4 1)).2 τ (sx xs x4 1) J1.2.1) lm_L_118 (by decide) (cl_12 rfl) rfl rfl rfl hl.1 rfl (Nat.le_of_ble_eq_true rfl) dL_law_901 ⟨Nat.le_of_ble_eq_true rfl, Nat.le_of_ble_eq_true rfl⟩ hcs) (fun H locs I => ?_)
  refine lv_icmp_eq (tgt := 1581) X.1.1 X.1.2.1 dL_law_904 (by decide) (fun _ => ?_) (fun q => absurd J1.1 q)
  exact kk H locs _ τ I (INV_up (br_2 J1.2.2 (fun a ha => w_f12_order _ (sx xs x4 1) a (by omega) (by omega) (by omega) (by omega) (by omega))) (by omega))
set_option maxHeartbeats 4000000 in
set_option maxRecDepth 100000 in
theorem lc_shorter {p : Program} {l : Launch} {e : Env} {s : State} {m : MethodId} {below : List Frame} {meth : Method} {c : Code} {H : Heap} {locs : List Loc} {cells slots : Nat} {Q : State → Prop} {ls : Array Slot} {G : GT} {σ : SI} {τ : SL} {b L : Nat} {xs : Nat → Int32} {x4 : Int32} {g : Nat} (X : LX p s m b L xs meth c G) (J : INV g σ σ) (hg : g + 61 < 2 ^ 31) (I : IX G s H locs σ τ) (hl : lv_has ls 7 (LB G b x4)) (hv : LV x4 L) (hcs : cells ≤ 601024 ∧ slots ≤ 7293034)
    (kk : ∀ (H1 : Heap) (locs1 : List Loc) (σ1 : SI) (τ1 : SL), IX G s H1 locs1 σ1 τ1 → INV (g + 60) σ1 σ1 → W p l e room_1 s m #[Value.ref b] below meth c H1 locs1 cells slots Q (F0 m 1581 ls [])) : W p l e room_1 s m #[Value.ref b] below meth c H locs cells slots Q (F0 m 909 ls []) := by
  have F1 : ∀ a, 123 ≤ a → (f11_shorter σ (sx xs x4 1) (sx xs x4 2)).2 a = σ a := fun a ha => w_f11_shorter σ (sx xs x4 1) (sx xs x4 2) a (by omega) (by omega)
  have J1 := t_shorter (br_1 J F1) (sx xs x4 1) (sx xs x4 2)
  refine lv_aload_n X.1.1 X.1.2.1 dL_law_909 rfl (lv_at hl 3 rfl) ?_
  refine l_arg (n := 1) (k := 1) X I hl (by decide) hv.1 dL_law_910 dL_law_911 dL_law_913 dL_law_914 dL_law_915 ?_
  refine l_arg (n := 2) (k := 2) X I hl (by decide) hv.2.1 dL_law_916 dL_law_917 dL_law_919 dL_law_920 dL_law_921 ?_
  refine r_ei I (r_runV X.1 I pk_X11_shorter (c11_shorterH l G σ τ (sx xs x4 1) (sx xs x4 2) (hg_sh J _)) lm_L_119 (by decide) (cl_11 rfl) rfl rfl rfl hl.1 rfl (Nat.le_of_ble_eq_true rfl) dL_law_922 ⟨Nat.le_of_ble_eq_true rfl, Nat.le_of_ble_eq_true rfl⟩ hcs) (fun H locs I => ?_)
  refine lv_aload_n X.1.1 X.1.2.1 dL_law_925 rfl (lv_at hl 2 rfl) ?_
  refine l_arg (n := 1) (k := 1) X I hl (by decide) hv.1 dL_law_926 dL_law_927 dL_law_929 dL_law_930 dL_law_931 ?_
  refine l_arg (n := 2) (k := 2) X I hl (by decide) hv.2.1 dL_law_932 dL_law_933 dL_law_935 dL_law_936 dL_law_937 ?_
  refine r_ei I (r_runV X.1 I pk_X12_shorter (c12_shorter l G (f11_shorter σ (sx xs x4 1) (sx xs x4 2)).2 τ (sx xs x4 1) (sx xs x4 2) J1.2.1) lm_L_122 (by decide) (cl_12 rfl) rfl rfl rfl hl.1 rfl (Nat.le_of_ble_eq_true rfl) dL_law_938 ⟨Nat.le_of_ble_eq_true rfl, Nat.le_of_ble_eq_true rfl⟩ hcs) (fun H locs I => ?_)
  refine lv_icmp_eq (tgt := 1581) X.1.1 X.1.2.1 dL_law_941 (by decide) (fun _ => ?_) (fun q => absurd J1.1 q)
  exact kk H locs _ τ I (INV_up (br_2 J1.2.2 (fun a ha => w_f12_shorter _ (sx xs x4 1) (sx xs x4 2) a (by omega) (by omega))) (by omega))
set_option maxHeartbeats 4000000 in
set_option maxRecDepth 100000 in
theorem lc_roster {p : Program} {l : Launch} {e : Env} {s : State} {m : MethodId} {below : List Frame} {meth : Method} {c : Code} {H : Heap} {locs : List Loc} {cells slots : Nat} {Q : State → Prop} {ls : Array Slot} {G : GT} {σ : SI} {τ : SL} {b L : Nat} {xs : Nat → Int32} {x4 : Int32} {g : Nat} (X : LX p s m b L xs meth c G) (J : INV g σ σ) (hg : g + 61 < 2 ^ 31) (I : IX G s H locs σ τ) (hl : lv_has ls 7 (LB G b x4)) (hv : LV x4 L) (hcs : cells ≤ 601024 ∧ slots ≤ 7293034)
    (kk : ∀ (H1 : Heap) (locs1 : List Loc) (σ1 : SI) (τ1 : SL), IX G s H1 locs1 σ1 τ1 → INV (g + 60) σ1 σ1 → W p l e room_1 s m #[Value.ref b] below meth c H1 locs1 cells slots Q (F0 m 1581 ls [])) : W p l e room_1 s m #[Value.ref b] below meth c H locs cells slots Q (F0 m 946 ls []) := by
  have J1 := t_roster J (sx xs x4 1)
  refine lv_aload_n X.1.1 X.1.2.1 dL_law_946 rfl (lv_at hl 3 rfl) ?_
  refine l_arg (n := 1) (k := 1) X I hl (by decide) hv.1 dL_law_947 dL_law_948 dL_law_950 dL_law_951 dL_law_952 ?_
  refine r_ei I (r_runV X.1 I pk_X11_roster (c11_roster l G σ τ (sx xs x4 1)) lm_L_123 (by decide) (cl_11 rfl) rfl rfl rfl hl.1 rfl (Nat.le_of_ble_eq_true rfl) dL_law_953 ⟨Nat.le_of_ble_eq_true rfl, Nat.le_of_ble_eq_true rfl⟩ hcs) (fun H locs I => ?_)
  refine lv_aload_n X.1.1 X.1.2.1 dL_law_956 rfl (lv_at hl 2 rfl) ?_
  refine l_arg (n := 1) (k := 1) X I hl (by decide) hv.1 dL_law_957 dL_law_958 dL_law_960 dL_law_961 dL_law_962 ?_
  refine r_ei I (r_runV X.1 I pk_X12_roster (c12_roster l G σ τ (sx xs x4 1) J1.2) lm_L_126 (by decide) (cl_12 rfl) rfl rfl rfl hl.1 rfl (Nat.le_of_ble_eq_true rfl) dL_law_963 ⟨Nat.le_of_ble_eq_true rfl, Nat.le_of_ble_eq_true rfl⟩ hcs) (fun H locs I => ?_)
  refine lv_icmp_eq (tgt := 1581) X.1.1 X.1.2.1 dL_law_966 (by decide) (fun _ => ?_) (fun q => absurd J1.1 q)
  exact kk H locs σ τ I (INV_up J (by omega))
set_option maxHeartbeats 4000000 in
set_option maxRecDepth 100000 in
theorem lc_stood {p : Program} {l : Launch} {e : Env} {s : State} {m : MethodId} {below : List Frame} {meth : Method} {c : Code} {H : Heap} {locs : List Loc} {cells slots : Nat} {Q : State → Prop} {ls : Array Slot} {G : GT} {σ : SI} {τ : SL} {b L : Nat} {xs : Nat → Int32} {x4 : Int32} {g : Nat} (X : LX p s m b L xs meth c G) (J : INV g σ σ) (hg : g + 61 < 2 ^ 31) (I : IX G s H locs σ τ) (hl : lv_has ls 7 (LB G b x4)) (hv : LV x4 L) (hcs : cells ≤ 601024 ∧ slots ≤ 7293034)
    (kk : ∀ (H1 : Heap) (locs1 : List Loc) (σ1 : SI) (τ1 : SL), IX G s H1 locs1 σ1 τ1 → INV (g + 60) σ1 σ1 → W p l e room_1 s m #[Value.ref b] below meth c H1 locs1 cells slots Q (F0 m 1581 ls [])) : W p l e room_1 s m #[Value.ref b] below meth c H locs cells slots Q (F0 m 971 ls []) := by
  have F1 : ∀ a, 123 ≤ a → (f11_stood σ (sx xs x4 1) (sx xs x4 2) (sx xs x4 3)).2 a = σ a := fun a ha => w_f11_stood σ (sx xs x4 1) (sx xs x4 2) (sx xs x4 3) a (by omega) (by omega)
  have J1 := t_stood (br_1 J F1) (sx xs x4 1) (sx xs x4 2) (sx xs x4 3)
  refine lv_aload_n X.1.1 X.1.2.1 dL_law_971 rfl (lv_at hl 3 rfl) ?_
  refine l_arg (n := 1) (k := 1) X I hl (by decide) hv.1 dL_law_972 dL_law_973 dL_law_975 dL_law_976 dL_law_977 ?_
  refine l_arg (n := 2) (k := 2) X I hl (by decide) hv.2.1 dL_law_978 dL_law_979 dL_law_981 dL_law_982 dL_law_983 ?_
  refine l_arg (n := 3) (k := 3) X I hl (by decide) hv.2.2.1 dL_law_984 dL_law_985 dL_law_987 dL_law_988 dL_law_989 ?_
  refine r_ei I (r_runV X.1 I pk_X11_stood (c11_stood l G σ τ (sx xs x4 1) (sx xs x4 2) (sx xs x4 3)) lm_L_127 (by decide) (cl_11 rfl) rfl rfl rfl hl.1 rfl (Nat.le_of_ble_eq_true rfl) dL_law_990 ⟨Nat.le_of_ble_eq_true rfl, Nat.le_of_ble_eq_true rfl⟩ hcs) (fun H locs I => ?_)
  refine lv_aload_n X.1.1 X.1.2.1 dL_law_993 rfl (lv_at hl 2 rfl) ?_
  refine l_arg (n := 1) (k := 1) X I hl (by decide) hv.1 dL_law_994 dL_law_995 dL_law_997 dL_law_998 dL_law_999 ?_
  refine l_arg (n := 2) (k := 2) X I hl (by decide) hv.2.1 dL_law_1000 dL_law_1001 dL_law_1003 dL_law_1004 dL_law_1005 ?_
  refine l_arg (n := 3) (k := 3) X I hl (by decide) hv.2.2.1 dL_law_1006 dL_law_1007 dL_law_1009 dL_law_1010 dL_law_1011 ?_
  refine r_ei I (r_runV X.1 I pk_X12_stood (c12_stood l G (f11_stood σ (sx xs x4 1) (sx xs x4 2) (sx xs x4 3)).2 τ (sx xs x4 1) (sx xs x4 2) (sx xs x4 3) J1.2.1) lm_L_131 (by decide) (cl_12 rfl) rfl rfl rfl hl.1 rfl (Nat.le_of_ble_eq_true rfl) dL_law_1012 ⟨Nat.le_of_ble_eq_true rfl, Nat.le_of_ble_eq_true rfl⟩ hcs) (fun H locs I => ?_)
  refine lv_icmp_eq (tgt := 1581) X.1.1 X.1.2.1 dL_law_1015 (by decide) (fun _ => ?_) (fun q => absurd J1.1 q)
  exact kk H locs _ τ I (INV_up (br_2 J1.2.2 (fun a ha => w_f12_stood _ (sx xs x4 1) (sx xs x4 2) (sx xs x4 3) a (by omega) (by omega) (by omega) (by omega))) (by omega))
set_option maxHeartbeats 4000000 in
set_option maxRecDepth 100000 in
theorem lc_fits {p : Program} {l : Launch} {e : Env} {s : State} {m : MethodId} {below : List Frame} {meth : Method} {c : Code} {H : Heap} {locs : List Loc} {cells slots : Nat} {Q : State → Prop} {ls : Array Slot} {G : GT} {σ : SI} {τ : SL} {b L : Nat} {xs : Nat → Int32} {x4 : Int32} {g : Nat} (X : LX p s m b L xs meth c G) (J : INV g σ σ) (hg : g + 61 < 2 ^ 31) (I : IX G s H locs σ τ) (hl : lv_has ls 7 (LB G b x4)) (hv : LV x4 L) (hcs : cells ≤ 601024 ∧ slots ≤ 7293034)
    (kk : ∀ (H1 : Heap) (locs1 : List Loc) (σ1 : SI) (τ1 : SL), IX G s H1 locs1 σ1 τ1 → INV (g + 60) σ1 σ1 → W p l e room_1 s m #[Value.ref b] below meth c H1 locs1 cells slots Q (F0 m 1581 ls [])) : W p l e room_1 s m #[Value.ref b] below meth c H locs cells slots Q (F0 m 1020 ls []) := by
  have F1 : ∀ a, 123 ≤ a → (f11_fits σ (sx xs x4 1) (sx xs x4 2)).2 a = σ a := fun a ha => w_f11_fits σ (sx xs x4 1) (sx xs x4 2) a (by omega) (by omega)
  have J1 := t_fits (br_1 J F1) (sx xs x4 1) (sx xs x4 2)
  refine lv_aload_n X.1.1 X.1.2.1 dL_law_1020 rfl (lv_at hl 3 rfl) ?_
  refine l_arg (n := 1) (k := 1) X I hl (by decide) hv.1 dL_law_1021 dL_law_1022 dL_law_1024 dL_law_1025 dL_law_1026 ?_
  refine l_arg (n := 2) (k := 2) X I hl (by decide) hv.2.1 dL_law_1027 dL_law_1028 dL_law_1030 dL_law_1031 dL_law_1032 ?_
  refine r_ei I (r_runV X.1 I pk_X11_fits (c11_fits l G σ τ (sx xs x4 1) (sx xs x4 2)) lm_L_132 (by decide) (cl_11 rfl) rfl rfl rfl hl.1 rfl (Nat.le_of_ble_eq_true rfl) dL_law_1033 ⟨Nat.le_of_ble_eq_true rfl, Nat.le_of_ble_eq_true rfl⟩ hcs) (fun H locs I => ?_)
  refine lv_aload_n X.1.1 X.1.2.1 dL_law_1036 rfl (lv_at hl 2 rfl) ?_
  refine l_arg (n := 1) (k := 1) X I hl (by decide) hv.1 dL_law_1037 dL_law_1038 dL_law_1040 dL_law_1041 dL_law_1042 ?_
  refine l_arg (n := 2) (k := 2) X I hl (by decide) hv.2.1 dL_law_1043 dL_law_1044 dL_law_1046 dL_law_1047 dL_law_1048 ?_
  refine r_ei I (r_runV X.1 I pk_X12_fits (c12_fits l G (f11_fits σ (sx xs x4 1) (sx xs x4 2)).2 τ (sx xs x4 1) (sx xs x4 2) J1.2.1) lm_L_135 (by decide) (cl_12 rfl) rfl rfl rfl hl.1 rfl (Nat.le_of_ble_eq_true rfl) dL_law_1049 ⟨Nat.le_of_ble_eq_true rfl, Nat.le_of_ble_eq_true rfl⟩ hcs) (fun H locs I => ?_)
  refine lv_icmp_eq (tgt := 1581) X.1.1 X.1.2.1 dL_law_1052 (by decide) (fun _ => ?_) (fun q => absurd J1.1 q)
  exact kk H locs _ τ I (INV_up (br_2 J1.2.2 (fun a ha => w_f12_fits _ (sx xs x4 1) (sx xs x4 2) a (by omega) (by omega))) (by omega))
set_option maxHeartbeats 4000000 in
set_option maxRecDepth 100000 in
theorem lc_ask {p : Program} {l : Launch} {e : Env} {s : State} {m : MethodId} {below : List Frame} {meth : Method} {c : Code} {H : Heap} {locs : List Loc} {cells slots : Nat} {Q : State → Prop} {ls : Array Slot} {G : GT} {σ : SI} {τ : SL} {b L : Nat} {xs : Nat → Int32} {x4 : Int32} {g : Nat} (X : LX p s m b L xs meth c G) (J : INV g σ σ) (hg : g + 61 < 2 ^ 31) (I : IX G s H locs σ τ) (hl : lv_has ls 7 (LB G b x4)) (hv : LV x4 L) (hcs : cells ≤ 601024 ∧ slots ≤ 7293034)
    (kk : ∀ (H1 : Heap) (locs1 : List Loc) (σ1 : SI) (τ1 : SL), IX G s H1 locs1 σ1 τ1 → INV (g + 60) σ1 σ1 → W p l e room_1 s m #[Value.ref b] below meth c H1 locs1 cells slots Q (F0 m 1581 ls [])) : W p l e room_1 s m #[Value.ref b] below meth c H locs cells slots Q (F0 m 1057 ls []) := by
  have F1 : ∀ a, 123 ≤ a → (f11_ask σ (sx xs x4 1)).2 a = σ a := fun a ha => w_f11_ask σ (sx xs x4 1) a (by omega) (by omega) (by omega)
  have J1 := t_ask (br_1 J F1) (sx xs x4 1)
  refine lv_aload_n X.1.1 X.1.2.1 dL_law_1057 rfl (lv_at hl 3 rfl) ?_
  refine l_arg (n := 1) (k := 1) X I hl (by decide) hv.1 dL_law_1058 dL_law_1059 dL_law_1061 dL_law_1062 dL_law_1063 ?_
  refine r_ei I (r_runV X.1 I pk_X11_ask (c11_ask l G σ τ (sx xs x4 1)) lm_L_136 (by decide) (cl_11 rfl) rfl rfl rfl hl.1 rfl (Nat.le_of_ble_eq_true rfl) dL_law_1064 ⟨Nat.le_of_ble_eq_true rfl, Nat.le_of_ble_eq_true rfl⟩ hcs) (fun H locs I => ?_)
  refine lv_aload_n X.1.1 X.1.2.1 dL_law_1067 rfl (lv_at hl 2 rfl) ?_
  refine l_arg (n := 1) (k := 1) X I hl (by decide) hv.1 dL_law_1068 dL_law_1069 dL_law_1071 dL_law_1072 dL_law_1073 ?_
  refine r_ei I (r_runV X.1 I pk_X12_ask (c12_ask l G (f11_ask σ (sx xs x4 1)).2 τ (sx xs x4 1) J1.2.1) lm_L_139 (by decide) (cl_12 rfl) rfl rfl rfl hl.1 rfl (Nat.le_of_ble_eq_true rfl) dL_law_1074 ⟨Nat.le_of_ble_eq_true rfl, Nat.le_of_ble_eq_true rfl⟩ hcs) (fun H locs I => ?_)
  refine lv_icmp_eq (tgt := 1581) X.1.1 X.1.2.1 dL_law_1077 (by decide) (fun _ => ?_) (fun q => absurd J1.1 q)
  exact kk H locs _ τ I (INV_up (br_2 J1.2.2 (fun a ha => w_f12_ask _ (sx xs x4 1) a (by omega) (by omega) (by omega))) (by omega))
set_option maxHeartbeats 4000000 in
set_option maxRecDepth 100000 in
theorem lc_game {p : Program} {l : Launch} {e : Env} {s : State} {m : MethodId} {below : List Frame} {meth : Method} {c : Code} {H : Heap} {locs : List Loc} {cells slots : Nat} {Q : State → Prop} {ls : Array Slot} {G : GT} {σ : SI} {τ : SL} {b L : Nat} {xs : Nat → Int32} {x4 : Int32} {g : Nat} (X : LX p s m b L xs meth c G) (J : INV g σ σ) (hg : g + 61 < 2 ^ 31) (I : IX G s H locs σ τ) (hl : lv_has ls 7 (LB G b x4)) (hv : LV x4 L) (hcs : cells ≤ 601024 ∧ slots ≤ 7293034)
    (kk : ∀ (H1 : Heap) (locs1 : List Loc) (σ1 : SI) (τ1 : SL), IX G s H1 locs1 σ1 τ1 → INV (g + 60) σ1 σ1 → W p l e room_1 s m #[Value.ref b] below meth c H1 locs1 cells slots Q (F0 m 1581 ls [])) : W p l e room_1 s m #[Value.ref b] below meth c H locs cells slots Q (F0 m 1082 ls []) := by
  have F1 : ∀ a, 123 ≤ a → (f11_game σ (sx xs x4 1) (sx xs x4 2) (sx xs x4 3) (sx xs x4 4) (sx xs x4 5)).2 a = σ a := fun a ha => w_f11_game σ (sx xs x4 1) (sx xs x4 2) (sx xs x4 3) (sx xs x4 4) (sx xs x4 5) a (by omega) (by omega)
  have J1 := t_game (br_1 J F1) (sx xs x4 1) (sx xs x4 2) (sx xs x4 3) (sx xs x4 4) (sx xs x4 5)
  refine lv_aload_n X.1.1 X.1.2.1 dL_law_1082 rfl (lv_at hl 3 rfl) ?_
  refine l_arg (n := 1) (k := 1) X I hl (by decide) hv.1 dL_law_1083 dL_law_1084 dL_law_1086 dL_law_1087 dL_law_1088 ?_
  refine l_arg (n := 2) (k := 2) X I hl (by decide) hv.2.1 dL_law_1089 dL_law_1090 dL_law_1092 dL_law_1093 dL_law_1094 ?_
  refine l_arg (n := 3) (k := 3) X I hl (by decide) hv.2.2.1 dL_law_1095 dL_law_1096 dL_law_1098 dL_law_1099 dL_law_1100 ?_
  refine l_arg (n := 4) (k := 4) X I hl (by decide) hv.2.2.2.1 dL_law_1101 dL_law_1102 dL_law_1104 dL_law_1105 dL_law_1106 ?_
  refine l_arg (n := 5) (k := 5) X I hl (by decide) hv.2.2.2.2 dL_law_1107 dL_law_1108 dL_law_1110 dL_law_1111 dL_law_1112 ?_
  refine r_ei I (r_runV X.1 I pk_X11_game (c11_game l G σ τ (sx xs x4 1) (sx xs x4 2) (sx xs x4 3) (sx xs x4 4) (sx xs x4 5)) lm_L_140 (by decide) (cl_11 rfl) rfl rfl rfl hl.1 rfl (Nat.le_of_ble_eq_true rfl) dL_law_1113 ⟨Nat.le_of_ble_eq_true rfl, Nat.le_of_ble_eq_true rfl⟩ hcs) (fun H locs I => ?_)
  refine lv_aload_n X.1.1 X.1.2.1 dL_law_1116 rfl (lv_at hl 2 rfl) ?_
  refine l_arg (n := 1) (k := 1) X I hl (by decide) hv.1 dL_law_1117 dL_law_1118 dL_law_1120 dL_law_1121 dL_law_1122 ?_
  refine l_arg (n := 2) (k := 2) X I hl (by decide) hv.2.1 dL_law_1123 dL_law_1124 dL_law_1126 dL_law_1127 dL_law_1128 ?_
  refine l_arg (n := 3) (k := 3) X I hl (by decide) hv.2.2.1 dL_law_1129 dL_law_1130 dL_law_1132 dL_law_1133 dL_law_1134 ?_
  refine l_arg (n := 4) (k := 4) X I hl (by decide) hv.2.2.2.1 dL_law_1135 dL_law_1136 dL_law_1138 dL_law_1139 dL_law_1140 ?_
  refine l_arg (n := 5) (k := 5) X I hl (by decide) hv.2.2.2.2 dL_law_1141 dL_law_1142 dL_law_1144 dL_law_1145 dL_law_1146 ?_
  refine r_ei I (r_runV X.1 I pk_X12_game (c12_game l G (f11_game σ (sx xs x4 1) (sx xs x4 2) (sx xs x4 3) (sx xs x4 4) (sx xs x4 5)).2 τ (sx xs x4 1) (sx xs x4 2) (sx xs x4 3) (sx xs x4 4) (sx xs x4 5) J1.2.1) lm_L_143 (by decide) (cl_12 rfl) rfl rfl rfl hl.1 rfl (Nat.le_of_ble_eq_true rfl) dL_law_1147 ⟨Nat.le_of_ble_eq_true rfl, Nat.le_of_ble_eq_true rfl⟩ hcs) (fun H locs I => ?_)
  refine lv_icmp_eq (tgt := 1581) X.1.1 X.1.2.1 dL_law_1150 (by decide) (fun _ => ?_) (fun q => absurd J1.1 q)
  exact kk H locs _ τ I (INV_up (br_2 J1.2.2 (fun a ha => w_f12_game _ (sx xs x4 1) (sx xs x4 2) (sx xs x4 3) (sx xs x4 4) (sx xs x4 5) a (by omega) (by omega))) (by omega))
