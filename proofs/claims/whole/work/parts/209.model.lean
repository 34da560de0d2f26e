noncomputable def f12_itemOf (x0 : Int32) (x1 : Int32) : Int32 := if x0 = 104 then (if x1 = (120 : Int32) then (0 : Int32) else (if x1 = (121 : Int32) then (1 : Int32) else (if x1 = (103 : Int32) then (2 : Int32) else (if x1 = (113 : Int32) then (3 : Int32) else (-1 : Int32))))) else (if x0 = 115 then (if x1 = (116 : Int32) then (0 : Int32) else (if x1 = (99 : Int32) then (1 : Int32) else (if x1 = (101 : Int32) then (2 : Int32) else (-1 : Int32)))) else (if x1 = (115 : Int32) then (0 : Int32) else (-1 : Int32)))
set_option maxHeartbeats 4000000 in
set_option maxRecDepth 100000 in
theorem c12_itemOf (l : Launch) (G : GT) (σ : SI) (τ : SL) (x0 : Int32) (x1 : Int32) : Mc l yX12_itemOf cX12_itemOf 2 (some .int) 0 G [.int x0, .int x1] σ τ (Qi G (Ei (f12_itemOf x0 x1) σ τ)) := by
  refine m_start (by decide +kernel) (Nat.le_of_ble_eq_true rfl) rfl (fun p e s m args below meth c ls X I hl => ?_)
  have hl : lv_has ls 2 [(0, .int x0), (1, .int x1)] := hl
  obtain ⟨E, hE⟩ : ∃ E, E = (f12_itemOf x0 x1) := ⟨_, rfl⟩
  rw [← hE]
  refine lv_iload_n X.1 X.2.1 dX12_itemOf_0 rfl (lv_at hl 0 rfl) ?_
  rcases Classical.em (x0 = 104) with c_1 | c_1
  · skip
    have hE := ite_t hE c_1
    refine lv_lookup (off := 59) (tgt := 60) X.1 X.2.1 dX12_itemOf_1 (by decide) (by rw [c_1]; decide) (by decide) ?_
    refine lv_iload_n X.1 X.2.1 dX12_itemOf_60 rfl (lv_at hl 1 rfl) ?_
    refine lv_bipush (v := 120) X.1 X.2.1 dX12_itemOf_61 (by decide) ?_
    refine lv_icmp_ne (tgt := 70) X.1 X.2.1 dX12_itemOf_63 (by decide) (fun c_2 => ?_) (fun c_2 => ?_)
    · skip
      have hE := ite_f hE c_2
      refine lv_iload_n X.1 X.2.1 dX12_itemOf_70 rfl (lv_at hl 1 rfl) ?_
      refine lv_bipush (v := 121) X.1 X.2.1 dX12_itemOf_71 (by decide) ?_
      refine lv_icmp_ne (tgt := 80) X.1 X.2.1 dX12_itemOf_73 (by decide) (fun c_3 => ?_) (fun c_3 => ?_)
      · skip
        have hE := ite_f hE c_3
        refine lv_iload_n X.1 X.2.1 dX12_itemOf_80 rfl (lv_at hl 1 rfl) ?_
        refine lv_bipush (v := 103) X.1 X.2.1 dX12_itemOf_81 (by decide) ?_
        refine lv_icmp_ne (tgt := 90) X.1 X.2.1 dX12_itemOf_83 (by decide) (fun c_4 => ?_) (fun c_4 => ?_)
        · skip
          have hE := ite_f hE c_4
          refine lv_iload_n X.1 X.2.1 dX12_itemOf_90 rfl (lv_at hl 1 rfl) ?_
          refine lv_bipush (v := 113) X.1 X.2.1 dX12_itemOf_91 (by decide) ?_
          refine lv_icmp_ne (tgt := 100) X.1 X.2.1 dX12_itemOf_93 (by decide) (fun c_5 => ?_) (fun c_5 => ?_)
          · skip
            have hE := ite_f hE c_5
            refine lv_iconst (v := (-1)) X.1 X.2.1 dX12_itemOf_100 (by decide) ?_
            have h9 := hE
            exact r_iret X I (e_i h9.symm rfl rfl) dX12_itemOf_101
          · skip
            have hE := ite_t hE c_5
            refine lv_iconst (v := 3) X.1 X.2.1 dX12_itemOf_96 (by decide) ?_
            refine lv_goto (tgt := 101) X.1 X.2.1 dX12_itemOf_97 (by decide) ?_
            have h9 := hE
            exact r_iret X I (e_i h9.symm rfl rfl) dX12_itemOf_101
        · skip
          have hE := ite_t hE c_4
          refine lv_iconst (v := 2) X.1 X.2.1 dX12_itemOf_86 (by decide) ?_
          refine lv_goto (tgt := 101) X.1 X.2.1 dX12_itemOf_87 (by decide) ?_
          have h9 := hE
          exact r_iret X I (e_i h9.symm rfl rfl) dX12_itemOf_101
      · skip
        have hE := ite_t hE c_3
        refine lv_iconst (v := 1) X.1 X.2.1 dX12_itemOf_76 (by decide) ?_
        refine lv_goto (tgt := 101) X.1 X.2.1 dX12_itemOf_77 (by decide) ?_
        have h9 := hE
        exact r_iret X I (e_i h9.symm rfl rfl) dX12_itemOf_101
    · skip
      have hE := ite_t hE c_2
      refine lv_iconst (v := 0) X.1 X.2.1 dX12_itemOf_66 (by decide) ?_
      refine lv_goto (tgt := 101) X.1 X.2.1 dX12_itemOf_67 (by decide) ?_
      have h9 := hE
      exact r_iret X I (e_i h9.symm rfl rfl) dX12_itemOf_101
  have hE := ite_f hE c_1
  rcases Classical.em (x0 = 115) with c_6 | c_6
  · skip
    have hE := ite_t hE c_6
    refine lv_lookup (off := 27) (tgt := 28) X.1 X.2.1 dX12_itemOf_1 (by decide) (by rw [c_6]; decide) (by decide) ?_
    refine lv_iload_n X.1 X.2.1 dX12_itemOf_28 rfl (lv_at hl 1 rfl) ?_
    refine lv_bipush (v := 116) X.1 X.2.1 dX12_itemOf_29 (by decide) ?_
    refine lv_icmp_ne (tgt := 38) X.1 X.2.1 dX12_itemOf_31 (by decide) (fun c_7 => ?_) (fun c_7 => ?_)
    · skip
      have hE := ite_f hE c_7
      refine lv_iload_n X.1 X.2.1 dX12_itemOf_38 rfl (lv_at hl 1 rfl) ?_
      refine lv_bipush (v := 99) X.1 X.2.1 dX12_itemOf_39 (by decide) ?_
      refine lv_icmp_ne (tgt := 48) X.1 X.2.1 dX12_itemOf_41 (by decide) (fun c_8 => ?_) (fun c_8 => ?_)
      · skip
        have hE := ite_f hE c_8
        refine lv_iload_n X.1 X.2.1 dX12_itemOf_48 rfl (lv_at hl 1 rfl) ?_
        refine lv_bipush (v := 101) X.1 X.2.1 dX12_itemOf_49 (by decide) ?_
        refine lv_icmp_ne (tgt := 58) X.1 X.2.1 dX12_itemOf_51 (by decide) (fun c_9 => ?_) (fun c_9 => ?_)
        · skip
          have hE := ite_f hE c_9
          refine lv_iconst (v := (-1)) X.1 X.2.1 dX12_itemOf_58 (by decide) ?_
          have h9 := hE
          exact r_iret X I (e_i h9.symm rfl rfl) dX12_itemOf_59
        · skip
          have hE := ite_t hE c_9
          refine lv_iconst (v := 2) X.1 X.2.1 dX12_itemOf_54 (by decide) ?_
          refine lv_goto (tgt := 59) X.1 X.2.1 dX12_itemOf_55 (by decide) ?_
          have h9 := hE
          exact r_iret X I (e_i h9.symm rfl rfl) dX12_itemOf_59
      · skip
        have hE := ite_t hE c_8
        refine lv_iconst (v := 1) X.1 X.2.1 dX12_itemOf_44 (by decide) ?_
        refine lv_goto (tgt := 59) X.1 X.2.1 dX12_itemOf_45 (by decide) ?_
        have h9 := hE
        exact r_iret X I (e_i h9.symm rfl rfl) dX12_itemOf_59
    · skip
      have hE := ite_t hE c_7
      refine lv_iconst (v := 0) X.1 X.2.1 dX12_itemOf_34 (by decide) ?_
      refine lv_goto (tgt := 59) X.1 X.2.1 dX12_itemOf_35 (by decide) ?_
      have h9 := hE
      exact r_iret X I (e_i h9.symm rfl rfl) dX12_itemOf_59
  have hE := ite_f hE c_6
  refine lv_lookup (off := 101) (tgt := 102) X.1 X.2.1 dX12_itemOf_1 (by decide) (sw_def _ _ _ (by decide) (fun q hq => by
    simp only [List.mem_cons, List.not_mem_nil, or_false] at hq
    rcases hq with rfl | rfl
    · exact fun h9 => c_1 (sw_eq h9)
    · exact fun h9 => c_6 (sw_eq h9))) (by decide) ?_
  refine lv_iload_n X.1 X.2.1 dX12_itemOf_102 rfl (lv_at hl 1 rfl) ?_
  refine lv_bipush (v := 115) X.1 X.2.1 dX12_itemOf_103 (by decide) ?_
  refine lv_icmp_ne (tgt := 112) X.1 X.2.1 dX12_itemOf_105 (by decide) (fun c_10 => ?_) (fun c_10 => ?_)
  · skip
    have hE := ite_f hE c_10
    refine lv_iconst (v := (-1)) X.1 X.2.1 dX12_itemOf_112 (by decide) ?_
    have h9 := hE
    exact r_iret X I (e_i h9.symm rfl rfl) dX12_itemOf_113
  · skip
    have hE := ite_t hE c_10
    refine lv_iconst (v := 0) X.1 X.2.1 dX12_itemOf_108 (by decide) ?_
    refine lv_goto (tgt := 113) X.1 X.2.1 dX12_itemOf_109 (by decide) ?_
    have h9 := hE
    exact r_iret X I (e_i h9.symm rfl rfl) dX12_itemOf_113
noncomputable def f12_lowest (x0 : Int32) (x1 : Int32) : Int32 := if x0 = (115 : Int32) then (if x1 = (0 : Int32) then (1 : Int32) else (if x0 = (98 : Int32) then (1 : Int32) else (0 : Int32))) else (if x0 = (98 : Int32) then (1 : Int32) else (0 : Int32))
set_option maxHeartbeats 4000000 in
set_option maxRecDepth 100000 in
theorem c12_lowest (l : Launch) (G : GT) (σ : SI) (τ : SL) (x0 : Int32) (x1 : Int32) : Mc l yX12_lowest cX12_lowest 2 (some .int) 0 G [.int x0, .int x1] σ τ (Qi G (Ei (f12_lowest x0 x1) σ τ)) := by
  refine m_start (by decide +kernel) (Nat.le_of_ble_eq_true rfl) rfl (fun p e s m args below meth c ls X I hl => ?_)
  have hl : lv_has ls 2 [(0, .int x0), (1, .int x1)] := hl
  obtain ⟨E, hE⟩ : ∃ E, E = (f12_lowest x0 x1) := ⟨_, rfl⟩
  rw [← hE]
  refine lv_iload_n X.1 X.2.1 dX12_lowest_0 rfl (lv_at hl 0 rfl) ?_
  refine lv_bipush (v := 115) X.1 X.2.1 dX12_lowest_1 (by decide) ?_
  refine lv_icmp_ne (tgt := 10) X.1 X.2.1 dX12_lowest_3 (by decide) (fun c_1 => ?_) (fun c_1 => ?_)
  · skip
    have hE := ite_f hE c_1
    refine lv_iload_n X.1 X.2.1 dX12_lowest_10 rfl (lv_at hl 0 rfl) ?_
    refine lv_bipush (v := 98) X.1 X.2.1 dX12_lowest_11 (by decide) ?_
    refine lv_icmp_ne (tgt := 20) X.1 X.2.1 dX12_lowest_13 (by decide) (fun c_2 => ?_) (fun c_2 => ?_)
    · skip
      have hE := ite_f hE c_2
      refine lv_iconst (v := 0) X.1 X.2.1 dX12_lowest_20 (by decide) ?_
      have h9 := hE
      exact r_iret X I (e_i h9.symm rfl rfl) dX12_lowest_21
    · skip
      have hE := ite_t hE c_2
      refine lv_iconst (v := 1) X.1 X.2.1 dX12_lowest_16 (by decide) ?_
      refine lv_goto (tgt := 21) X.1 X.2.1 dX12_lowest_17 (by decide) ?_
      have h9 := hE
      exact r_iret X I (e_i h9.symm rfl rfl) dX12_lowest_21
  · skip
    have hE := ite_t hE c_1
    refine lv_iload_n X.1 X.2.1 dX12_lowest_6 rfl (lv_at hl 1 rfl) ?_
    refine lv_if_eq (tgt := 16) X.1 X.2.1 dX12_lowest_7 (by decide) (fun c_3 => ?_) (fun c_3 => ?_)
    · skip
      have hE := ite_t hE c_3
      refine lv_iconst (v := 1) X.1 X.2.1 dX12_lowest_16 (by decide) ?_
      refine lv_goto (tgt := 21) X.1 X.2.1 dX12_lowest_17 (by decide) ?_
      have h9 := hE
      exact r_iret X I (e_i h9.symm rfl rfl) dX12_lowest_21
    · skip
      have hE := ite_f hE c_3
      refine lv_iload_n X.1 X.2.1 dX12_lowest_10 rfl (lv_at hl 0 rfl) ?_
      refine lv_bipush (v := 98) X.1 X.2.1 dX12_lowest_11 (by decide) ?_
      refine lv_icmp_ne (tgt := 20) X.1 X.2.1 dX12_lowest_13 (by decide) (fun c_4 => ?_) (fun c_4 => ?_)
      · skip
        have hE := ite_f hE c_4
        refine lv_iconst (v := 0) X.1 X.2.1 dX12_lowest_20 (by decide) ?_
        have h9 := hE
        exact r_iret X I (e_i h9.symm rfl rfl) dX12_lowest_21
      · skip
        have hE := ite_t hE c_4
        refine lv_iconst (v := 1) X.1 X.2.1 dX12_lowest_16 (by decide) ?_
        refine lv_goto (tgt := 21) X.1 X.2.1 dX12_lowest_17 (by decide) ?_
        have h9 := hE
        exact r_iret X I (e_i h9.symm rfl rfl) dX12_lowest_21
noncomputable def f12_highest (x0 : Int32) (x1 : Int32) : Int32 := if x0 = 104 then (if x1 = (2 : Int32) then (30 : Int32) else (if x1 = (3 : Int32) then (1 : Int32) else (9 : Int32))) else (if x0 = 115 then (if x1 = (2 : Int32) then (9 : Int32) else (99 : Int32)) else (40 : Int32))
set_option maxHeartbeats 4000000 in
set_option maxRecDepth 100000 in
theorem c12_highest (l : Launch) (G : GT) (σ : SI) (τ : SL) (x0 : Int32) (x1 : Int32) : Mc l yX12_highest cX12_highest 2 (some .int) 0 G [.int x0, .int x1] σ τ (Qi G (Ei (f12_highest x0 x1) σ τ)) := by
  refine m_start (by decide +kernel) (Nat.le_of_ble_eq_true rfl) rfl (fun p e s m args below meth c ls X I hl => ?_)
  have hl : lv_has ls 2 [(0, .int x0), (1, .int x1)] := hl
  obtain ⟨E, hE⟩ : ∃ E, E = (f12_highest x0 x1) := ⟨_, rfl⟩
  rw [← hE]
  refine lv_iload_n X.1 X.2.1 dX12_highest_0 rfl (lv_at hl 0 rfl) ?_
  rcases Classical.em (x0 = 104) with c_1 | c_1
  · skip
    have hE := ite_t hE c_1
    refine lv_lookup (off := 40) (tgt := 41) X.1 X.2.1 dX12_highest_1 (by decide) (by rw [c_1]; decide) (by decide) ?_
    refine lv_iload_n X.1 X.2.1 dX12_highest_41 rfl (lv_at hl 1 rfl) ?_
    refine lv_iconst (v := 2) X.1 X.2.1 dX12_highest_42 (by decide) ?_
    refine lv_icmp_ne (tgt := 51) X.1 X.2.1 dX12_highest_43 (by decide) (fun c_2 => ?_) (fun c_2 => ?_)
    · skip
      have hE := ite_f hE c_2
      refine lv_iload_n X.1 X.2.1 dX12_highest_51 rfl (lv_at hl 1 rfl) ?_
      refine lv_iconst (v := 3) X.1 X.2.1 dX12_highest_52 (by decide) ?_
      refine lv_icmp_ne (tgt := 60) X.1 X.2.1 dX12_highest_53 (by decide) (fun c_3 => ?_) (fun c_3 => ?_)
      · skip
        have hE := ite_f hE c_3
        refine lv_bipush (v := 9) X.1 X.2.1 dX12_highest_60 (by decide) ?_
        have h9 := hE
        exact r_iret X I (e_i h9.symm rfl rfl) dX12_highest_62
      · skip
        have hE := ite_t hE c_3
        refine lv_iconst (v := 1) X.1 X.2.1 dX12_highest_56 (by decide) ?_
        refine lv_goto (tgt := 62) X.1 X.2.1 dX12_highest_57 (by decide) ?_
        have h9 := hE
        exact r_iret X I (e_i h9.symm rfl rfl) dX12_highest_62
    · skip
      have hE := ite_t hE c_2
      refine lv_bipush (v := 30) X.1 X.2.1 dX12_highest_46 (by decide) ?_
      refine lv_goto (tgt := 62) X.1 X.2.1 dX12_highest_48 (by decide) ?_
      have h9 := hE
      exact r_iret X I (e_i h9.symm rfl rfl) dX12_highest_62
  have hE := ite_f hE c_1
  rcases Classical.em (x0 = 115) with c_4 | c_4
  · skip
    have hE := ite_t hE c_4
    refine lv_lookup (off := 27) (tgt := 28) X.1 X.2.1 dX12_highest_1 (by decide) (by rw [c_4]; decide) (by decide) ?_
    refine lv_iload_n X.1 X.2.1 dX12_highest_28 rfl (lv_at hl 1 rfl) ?_
    refine lv_iconst (v := 2) X.1 X.2.1 dX12_highest_29 (by decide) ?_
    refine lv_icmp_ne (tgt := 38) X.1 X.2.1 dX12_highest_30 (by decide) (fun c_5 => ?_) (fun c_5 => ?_)
    · skip
      have hE := ite_f hE c_5
      refine lv_bipush (v := 99) X.1 X.2.1 dX12_highest_38 (by decide) ?_
      have h9 := hE
      exact r_iret X I (e_i h9.symm rfl rfl) dX12_highest_40
    · skip
      have hE := ite_t hE c_5
      refine lv_bipush (v := 9) X.1 X.2.1 dX12_highest_33 (by decide) ?_
      refine lv_goto (tgt := 40) X.1 X.2.1 dX12_highest_35 (by decide) ?_
      have h9 := hE
      exact r_iret X I (e_i h9.symm rfl rfl) dX12_highest_40
  have hE := ite_f hE c_4
  refine lv_lookup (off := 62) (tgt := 63) X.1 X.2.1 dX12_highest_1 (by decide) (sw_def _ _ _ (by decide) (fun q hq => by
    simp only [List.mem_cons, List.not_mem_nil, or_false] at hq
    rcases hq with rfl | rfl
    · exact fun h9 => c_1 (sw_eq h9)
    · exact fun h9 => c_4 (sw_eq h9))) (by decide) ?_
  refine lv_bipush (v := 40) X.1 X.2.1 dX12_highest_63 (by decide) ?_
  have h9 := hE
  exact r_iret X I (e_i h9.symm rfl rfl) dX12_highest_65
noncomputable def f12_usual (x0 : Int32) (x1 : Int32) : Int32 := if x0 = 104 then (if x1 = (2 : Int32) then (5 : Int32) else (0 : Int32)) else (if x0 = 115 then (if x1 = (0 : Int32) then (60 : Int32) else (if x1 = (1 : Int32) then (20 : Int32) else (2 : Int32))) else (20 : Int32))
set_option maxHeartbeats 4000000 in
set_option maxRecDepth 100000 in
theorem c12_usual (l : Launch) (G : GT) (σ : SI) (τ : SL) (x0 : Int32) (x1 : Int32) : Mc l yX12_usual cX12_usual 2 (some .int) 0 G [.int x0, .int x1] σ τ (Qi G (Ei (f12_usual x0 x1) σ τ)) := by
  refine m_start (by decide +kernel) (Nat.le_of_ble_eq_true rfl) rfl (fun p e s m args below meth c ls X I hl => ?_)
  have hl : lv_has ls 2 [(0, .int x0), (1, .int x1)] := hl
  obtain ⟨E, hE⟩ : ∃ E, E = (f12_usual x0 x1) := ⟨_, rfl⟩
  rw [← hE]
  refine lv_iload_n X.1 X.2.1 dX12_usual_0 rfl (lv_at hl 0 rfl) ?_
  rcases Classical.em (x0 = 104) with c_1 | c_1
  · skip
    have hE := ite_t hE c_1
    refine lv_lookup (off := 48) (tgt := 49) X.1 X.2.1 dX12_usual_1 (by decide) (by rw [c_1]; decide) (by decide) ?_
    refine lv_iload_n X.1 X.2.1 dX12_usual_49 rfl (lv_at hl 1 rfl) ?_
    refine lv_iconst (v := 2) X.1 X.2.1 dX12_usual_50 (by decide) ?_
    refine lv_icmp_ne (tgt := 58) X.1 X.2.1 dX12_usual_51 (by decide) (fun c_2 => ?_) (fun c_2 => ?_)
    · skip
      have hE := ite_f hE c_2
      refine lv_iconst (v := 0) X.1 X.2.1 dX12_usual_58 (by decide) ?_
      have h9 := hE
      exact r_iret X I (e_i h9.symm rfl rfl) dX12_usual_59
    · skip
      have hE := ite_t hE c_2
      refine lv_iconst (v := 5) X.1 X.2.1 dX12_usual_54 (by decide) ?_
      refine lv_goto (tgt := 59) X.1 X.2.1 dX12_usual_55 (by decide) ?_
      have h9 := hE
      exact r_iret X I (e_i h9.symm rfl rfl) dX12_usual_59
  have hE := ite_f hE c_1
  rcases Classical.em (x0 = 115) with c_3 | c_3
  · skip
    have hE := ite_t hE c_3
    refine lv_lookup (off := 27) (tgt := 28) X.1 X.2.1 dX12_usual_1 (by decide) (by rw [c_3]; decide) (by decide) ?_
    refine lv_iload_n X.1 X.2.1 dX12_usual_28 rfl (lv_at hl 1 rfl) ?_
    refine lv_if_ne (tgt := 37) X.1 X.2.1 dX12_usual_29 (by decide) (fun c_4 => ?_) (fun c_4 => ?_)
    · skip
      have hE := ite_f hE c_4
      refine lv_iload_n X.1 X.2.1 dX12_usual_37 rfl (lv_at hl 1 rfl) ?_
      refine lv_iconst (v := 1) X.1 X.2.1 dX12_usual_38 (by decide) ?_
      refine lv_icmp_ne (tgt := 47) X.1 X.2.1 dX12_usual_39 (by decide) (fun c_5 => ?_) (fun c_5 => ?_)
      · skip
        have hE := ite_f hE c_5
        refine lv_iconst (v := 2) X.1 X.2.1 dX12_usual_47 (by decide) ?_
        have h9 := hE
        exact r_iret X I (e_i h9.symm rfl rfl) dX12_usual_48
      · skip
        have hE := ite_t hE c_5
        refine lv_bipush (v := 20) X.1 X.2.1 dX12_usual_42 (by decide) ?_
        refine lv_goto (tgt := 48) X.1 X.2.1 dX12_usual_44 (by decide) ?_
        have h9 := hE
        exact r_iret X I (e_i h9.symm rfl rfl) dX12_usual_48
    · skip
      have hE := ite_t hE c_4
      refine lv_bipush (v := 60) X.1 X.2.1 dX12_usual_32 (by decide) ?_
      refine lv_goto (tgt := 48) X.1 X.2.1 dX12_usual_34 (by decide) ?_
      have h9 := hE
      exact r_iret X I (e_i h9.symm rfl rfl) dX12_usual_48
  have hE := ite_f hE c_3
  refine lv_lookup (off := 59) (tgt := 60) X.1 X.2.1 dX12_usual_1 (by decide) (sw_def _ _ _ (by decide) (fun q hq => by
    simp only [List.mem_cons, List.not_mem_nil, or_false] at hq
    rcases hq with rfl | rfl
    · exact fun h9 => c_1 (sw_eq h9)
    · exact fun h9 => c_3 (sw_eq h9))) (by decide) ?_
  refine lv_bipush (v := 20) X.1 X.2.1 dX12_usual_60 (by decide) ?_
  have h9 := hE
  exact r_iret X I (e_i h9.symm rfl rfl) dX12_usual_62
noncomputable def f12_items_c41 (k : Nat) (n : Nat) (x1 : Int32) (x3 : Int32) (x4 : Int32) (K : Int32 → Int32 → SI → SI) : Nat → Int32 → Int32 → SI → SI
  | 0, v5, v6, σ => (K v5 v6 σ)
  | fu + 1, v5, v6, σ => if (σ 123 4) = (-1 : Int32) then (if v6 = (-1 : Int32) then (K v5 v6 σ) else (if (f12_has v5 v6) = true then (K v5 v6 σ) else (let s1 := sp σ 123 3 ((σ 123 3) + (1 : Int32)); let r2 := (f12_number s1 (f12_lowest x1 v6) (f12_highest x1 v6)); let s3 := sp r2.2 k (Int32.toNatClampNeg (x3 + v6)) r2.1; if (s3 123 4) = (-1 : Int32) then (let r4 := (f12_look s3); (f12_items_c41 k n x1 x3 x4 K fu (v5 ||| ((1 : Int32) <<< (v6 &&& 31))) (f12_itemOf x1 r4.1) r4.2)) else (f12_items_c41 k n x1 x3 x4 K fu (v5 ||| ((1 : Int32) <<< (v6 &&& 31))) (-1 : Int32) s3)))) else (K v5 v6 σ)
noncomputable def o12_items_c41 (k : Nat) (n : Nat) (x1 : Int32) (x3 : Int32) (x4 : Int32) (oK : Int32 → Int32 → SI → Prop) : Nat → Int32 → Int32 → SI → Prop
  | 0, _, _, _ => False
  | fu + 1, v5, v6, σ => if (σ 123 4) = (-1 : Int32) then (if v6 = (-1 : Int32) then (oK v5 v6 σ) else (if (f12_has v5 v6) = true then (oK v5 v6 σ) else (let s1 := sp σ 123 3 ((σ 123 3) + (1 : Int32)); (o12_number s1 (f12_lowest x1 v6) (f12_highest x1 v6)) ∧ (let r2 := (f12_number s1 (f12_lowest x1 v6) (f12_highest x1 v6)); (vp_in (x3 + v6) n) ∧ (let s3 := sp r2.2 k (Int32.toNatClampNeg (x3 + v6)) r2.1; if (s3 123 4) = (-1 : Int32) then ((o12_look s3) ∧ (let r4 := (f12_look s3); (o12_items_c41 k n x1 x3 x4 oK fu (v5 ||| ((1 : Int32) <<< (v6 &&& 31))) (f12_itemOf x1 r4.1) r4.2))) else (o12_items_c41 k n x1 x3 x4 oK fu (v5 ||| ((1 : Int32) <<< (v6 &&& 31))) (-1 : Int32) s3)))))) else (oK v5 v6 σ)
noncomputable def f12_items_c3 (k : Nat) (n : Nat) (x1 : Int32) (x3 : Int32) (x4 : Int32) : Nat → Int32 → SI → SI
  | 0, _, σ => σ
  | fu + 1, v5, σ => if x4 ≤ v5 then (let r0 := (f12_look σ); (f12_items_c41 k n x1 x3 x4 (fun (y1_5 : Int32) (y1_6 : Int32) (σk1 : SI) => σk1) (fu1 ((Int32.toInt (r0.2 123 2) - Int32.toInt (r0.2 123 3)).toNat + 1)) (0 : Int32) (f12_itemOf x1 r0.1) r0.2)) else (let s5 := sp σ k (Int32.toNatClampNeg (x3 + v5)) (f12_usual x1 v5); (f12_items_c3 k n x1 x3 x4 fu (v5 + 1) s5))
noncomputable def o12_items_c3 (k : Nat) (n : Nat) (x1 : Int32) (x3 : Int32) (x4 : Int32) : Nat → Int32 → SI → Prop
  | 0, _, _ => True
  | fu + 1, v5, σ => if x4 ≤ v5 then ((o12_look σ) ∧ (let r0 := (f12_look σ); (o12_items_c41 k n x1 x3 x4 (fun (y1_5 : Int32) (y1_6 : Int32) (σk1 : SI) => True) (fu1 ((Int32.toInt (r0.2 123 2) - Int32.toInt (r0.2 123 3)).toNat + 1)) (0 : Int32) (f12_itemOf x1 r0.1) r0.2))) else ((vp_in (x3 + v5) n) ∧ (let s5 := sp σ k (Int32.toNatClampNeg (x3 + v5)) (f12_usual x1 v5); (o12_items_c3 k n x1 x3 x4 fu (v5 + 1) s5)))
noncomputable def f12_items (k : Nat) (n : Nat) (σ : SI) (x1 : Int32) (x3 : Int32) (x4 : Int32) : SI := (f12_items_c3 k n x1 x3 x4 (fu1 ((Int32.toInt x4 - Int32.toInt (0 : Int32)).toNat)) (0 : Int32) σ)
noncomputable def o12_items (k : Nat) (n : Nat) (σ : SI) (x1 : Int32) (x3 : Int32) (x4 : Int32) : Prop := (o12_items_c3 k n x1 x3 x4 (fu1 ((Int32.toInt x4 - Int32.toInt (0 : Int32)).toNat)) (0 : Int32) σ)
theorem w_f12_items_c41 {k : Nat} {n : Nat} (x1 : Int32) (x3 : Int32) (x4 : Int32) {K : Int32 → Int32 → SI → SI} (a : Nat) (h0 : a ≠ 123) (h1 : a ≠ k) (hK : ∀ (v5 : Int32) (v6 : Int32) (σ : SI), (K v5 v6 σ) a = σ a) : ∀ (fu : Nat) (v5 : Int32) (v6 : Int32) (σ : SI), (f12_items_c41 k n x1 x3 x4 K fu v5 v6 σ) a = σ a := by
  intro fu
  induction fu with
  | zero => intro v5 v6 σ; exact hK v5 v6 σ
  | succ fu ih =>
    intro v5 v6 σ
    unfold f12_items_c41
    exact (fr_ite (fr_ite (hK _ _ _) (fr_ite (hK _ _ _) (fr_ite ((ih _ _ _).trans ((w_f12_look _ a h0).trans ((sp_n h1).trans ((w_f12_number _ _ _ a h0).trans (sp_n h0))))) ((ih _ _ _).trans ((sp_n h1).trans ((w_f12_number _ _ _ a h0).trans (sp_n h0))))))) (hK _ _ _))
theorem w_f12_items_c3 {k : Nat} {n : Nat} (x1 : Int32) (x3 : Int32) (x4 : Int32) (a : Nat) (h0 : a ≠ 123) (h1 : a ≠ k) : ∀ (fu : Nat) (v5 : Int32) (σ : SI), (f12_items_c3 k n x1 x3 x4 fu v5 σ) a = σ a := by
  intro fu
  induction fu with
  | zero => intro v5 σ; exact rfl
  | succ fu ih =>
    intro v5 σ
    unfold f12_items_c3
    exact (fr_ite ((w_f12_items_c41 _ _ _ a h0 h1 (fun y1_5 y1_6 σk1 => rfl) _ _ _ _).trans (w_f12_look _ a h0)) ((ih _ _).trans (sp_n h1)))
theorem w_f12_items {k : Nat} {n : Nat} (σ : SI) (x1 : Int32) (x3 : Int32) (x4 : Int32) (a : Nat) (h0 : a ≠ 123) (h1 : a ≠ k) : (f12_items k n σ x1 x3 x4) a = σ a := by
  unfold f12_items
  exact (w_f12_items_c3 _ _ _ a h0 h1 _ _ _)
set_option maxHeartbeats 4000000 in
set_option maxRecDepth 100000 in
theorem c12_items_c41 {l : Launch} {p : Program} {e : Env} {s : State} {m : MethodId} {args : Array Value} {below : List Frame} {meth : Method} {c : Code} {G : GT} (X : CX p s m args meth c cX12_items RX12 7 none G) {k n : Nat} (hk : k < NW) (hd : kd k = 100 + n) (hn : n < 2 ^ 31) {E : SI} (τ : SL) (x1 : Int32) (x3 : Int32) (x4 : Int32) {oK : Int32 → Int32 → SI → Prop} {K : Int32 → Int32 → SI → SI} (hK : ∀ (v5 : Int32) (v6 : Int32) (σ : SI) (H : Heap) (locs : List Loc) (ls : Array Slot), IX G s H locs σ τ → lv_has ls 7 [(0, .ref (G.2.1 123)), (1, .int x1), (2, .ref (G.2.1 k)), (3, .int x3), (4, .int x4), (5, .int v5), (6, .int v6)] → oK v5 v6 σ → E = K v5 v6 σ → W p l e (rmN 3) s m args below meth c H locs 0 0 (MQ below ((Qv G (Ev E τ)) s.heap.size) args s 0 0 (AW G s.heap.size)) (F0 m 131 ls [])) : ∀ (fu : Nat) (v5 : Int32) (v6 : Int32) (σ : SI) (H : Heap) (locs : List Loc) (ls : Array Slot), IX G s H locs σ τ → lv_has ls 7 [(0, .ref (G.2.1 123)), (1, .int x1), (2, .ref (G.2.1 k)), (3, .int x3), (4, .int x4), (5, .int v5), (6, .int v6)] → (o12_items_c41 k n x1 x3 x4 oK fu v5 v6 σ) → E = (f12_items_c41 k n x1 x3 x4 K fu v5 v6 σ) → W p l e (rmN 3) s m args below meth c H locs 0 0 (MQ below ((Qv G (Ev E τ)) s.heap.size) args s 0 0 (AW G s.heap.size)) (F0 m 41 ls []) := by
  intro fu
  induction fu with
  | zero =>
    intro v5 v6 σ H locs ls I hl  ho hE
    unfold o12_items_c41 at ho
    exact ho.elim
  | succ fu ih =>
    intro v5 v6 σ H locs ls I hl  ho hE
    unfold o12_items_c41 at ho
    refine lv_aload_n X.1 X.2.1 dX12_items_41 rfl (lv_at hl 0 rfl) ?_
    refine g12_4 X I (k := 123) (by decide) rfl lf_X12_122 dX12_items_42 ?_
    refine lv_iconst (v := (-1)) X.1 X.2.1 dX12_items_45 (by decide) ?_
    refine lv_icmp_ne (tgt := 131) X.1 X.2.1 dX12_items_46 (by decide) (fun c_2 => ?_) (fun c_2 => ?_)
    · skip
      have hE := ite_f hE c_2
      have ho := ite_fP ho c_2
      exact hK _ _ _ _ _ _ I (lv_sub hl [0, 1, 2, 3, 4, 5, 6] rfl) ho (hE.trans (rfl))
    · skip
      have hE := ite_t hE c_2
      have ho := ite_tP ho c_2
      refine lv_iload X.1 X.2.1 dX12_items_49 (lv_at hl 6 rfl) ?_
      refine lv_iconst (v := (-1)) X.1 X.2.1 dX12_items_51 (by decide) ?_
      refine lv_icmp_eq (tgt := 131) X.1 X.2.1 dX12_items_52 (by decide) (fun c_3 => ?_) (fun c_3 => ?_)
      · skip
        have hE := ite_t hE c_3
        have ho := ite_tP ho c_3
        exact hK _ _ _ _ _ _ I (lv_sub hl [0, 1, 2, 3, 4, 5, 6] rfl) ho (hE.trans (rfl))
      · skip
        have hE := ite_f hE c_3
        have ho := ite_fP ho c_3
        refine lv_iload X.1 X.2.1 dX12_items_55 (lv_at hl 5 rfl) ?_
        refine lv_iload X.1 X.2.1 dX12_items_57 (lv_at hl 6 rfl) ?_
        refine r_ei I (r_runS X I pk_X12_has (c12_has l G _ _ _ _) lm_X12_231 rfl hl.1 rfl (Nat.le_of_ble_eq_true rfl) dX12_items_59 ⟨Nat.le_of_ble_eq_true rfl, Nat.le_of_ble_eq_true rfl⟩ ⟨Nat.le_refl 0, Nat.le_refl 0⟩) (fun H locs I => ?_)
        refine lv_if_ne (tgt := 131) X.1 X.2.1 dX12_items_62 (by decide) (fun c_4 => ?_) (fun c_4 => ?_)
        · skip
          have hE := ite_t hE (b2i_y c_4)
          have ho := ite_tP ho (b2i_y c_4)
          exact hK _ _ _ _ _ _ I (lv_sub hl [0, 1, 2, 3, 4, 5, 6] rfl) ho (hE.trans (rfl))
        · skip
          have hE := ite_f hE (b2i_n c_4)
          have ho := ite_fP ho (b2i_n c_4)
          refine lv_iload X.1 X.2.1 dX12_items_65 (lv_at hl 5 rfl) ?_
          refine lv_iconst (v := 1) X.1 X.2.1 dX12_items_67 (by decide) ?_
          refine lv_iload X.1 X.2.1 dX12_items_68 (lv_at hl 6 rfl) ?_
          refine lv_ishl X.1 X.2.1 dX12_items_70 ?_
          refine lv_ior X.1 X.2.1 dX12_items_71 ?_
          refine lv_istore (lv' := [(5, .int _), (0, .ref _), (1, .int _), (2, .ref _), (3, .int _), (4, .int _), (6, .int _)]) X.1 X.2.1 dX12_items_72 hl (by decide) rfl (fun ls hl => ?_)
          refine lv_aload_n X.1 X.2.1 dX12_items_74 rfl (lv_at hl 1 rfl) ?_
          refine lv_dup X.1 X.2.1 dX12_items_75 rfl ?_
          refine g12_3 X I (k := 123) (by decide) rfl lf_X12_115 dX12_items_76 ?_
          refine lv_iconst (v := 1) X.1 X.2.1 dX12_items_79 (by decide) ?_
          refine lv_iadd X.1 X.2.1 dX12_items_80 ?_
          refine p12_3 X I (k := 123) (by decide) rfl lf_X12_115 dX12_items_81 (fun H locs I => ?_)
          refine lv_aload_n X.1 X.2.1 dX12_items_84 rfl (lv_at hl 3 rfl) ?_
          refine lv_iload_n X.1 X.2.1 dX12_items_85 rfl (lv_at hl 4 rfl) ?_
          refine lv_iload X.1 X.2.1 dX12_items_86 (lv_at hl 6 rfl) ?_
          refine lv_iadd X.1 X.2.1 dX12_items_88 ?_
          refine lv_aload_n X.1 X.2.1 dX12_items_89 rfl (lv_at hl 1 rfl) ?_
          refine lv_iload_n X.1 X.2.1 dX12_items_90 rfl (lv_at hl 2 rfl) ?_
          refine lv_iload X.1 X.2.1 dX12_items_91 (lv_at hl 6 rfl) ?_
          refine r_ei I (r_runS X I pk_X12_lowest (c12_lowest l G _ _ _ _) lm_X12_235 rfl hl.1 rfl (Nat.le_of_ble_eq_true rfl) dX12_items_93 ⟨Nat.le_of_ble_eq_true rfl, Nat.le_of_ble_eq_true rfl⟩ ⟨Nat.le_refl 0, Nat.le_refl 0⟩) (fun H locs I => ?_)
          refine lv_iload_n X.1 X.2.1 dX12_items_96 rfl (lv_at hl 2 rfl) ?_
          refine lv_iload X.1 X.2.1 dX12_items_97 (lv_at hl 6 rfl) ?_
          refine r_ei I (r_runS X I pk_X12_highest (c12_highest l G _ _ _ _) lm_X12_238 rfl hl.1 rfl (Nat.le_of_ble_eq_true rfl) dX12_items_99 ⟨Nat.le_of_ble_eq_true rfl, Nat.le_of_ble_eq_true rfl⟩ ⟨Nat.le_refl 0, Nat.le_refl 0⟩) (fun H locs I => ?_)
          have ho2 := ho.1
          have ho := ho.2
          refine r_ei I (r_runV X I pk_X12_number (c12_number l G _ _ _ _ ho2) lm_X12_241 (by decide) (cl_12 rfl) rfl rfl rfl hl.1 rfl (Nat.le_of_ble_eq_true rfl) dX12_items_102 ⟨Nat.le_of_ble_eq_true rfl, Nat.le_of_ble_eq_true rfl⟩ ⟨Nat.le_refl 0, Nat.le_refl 0⟩) (fun H locs I => ?_)
          have ho3 := ho.1
          have ho := ho.2
          refine r_ast X I (k := k) (n := n) hk hd ho3 dX12_items_105 (fun H locs I => ?_)
          refine lv_aload_n X.1 X.2.1 dX12_items_106 rfl (lv_at hl 1 rfl) ?_
          refine g12_4 X I (k := 123) (by decide) rfl lf_X12_122 dX12_items_107 ?_
          refine lv_iconst (v := (-1)) X.1 X.2.1 dX12_items_110 (by decide) ?_
          refine lv_icmp_ne (tgt := 125) X.1 X.2.1 dX12_items_111 (by decide) (fun c_5 => ?_) (fun c_5 => ?_)
          · skip
            have hE := ite_f hE c_5
            have ho := ite_fP ho c_5
            refine lv_iconst (v := (-1)) X.1 X.2.1 dX12_items_125 (by decide) ?_
            refine lv_istore (lv' := [(6, .int _), (5, .int _), (0, .ref _), (1, .int _), (2, .ref _), (3, .int _), (4, .int _)]) X.1 X.2.1 dX12_items_126 hl (by decide) rfl (fun ls hl => ?_)
            refine lv_goto (tgt := 41) X.1 X.2.1 dX12_items_128 (by decide) ?_
            exact ih _ _ _ _ _ _ I (lv_sub hl [2, 3, 4, 5, 6, 1, 0] rfl) ho (hE.trans (rfl))
          · skip
            have hE := ite_t hE c_5
            have ho := ite_tP ho c_5
            refine lv_iload_n X.1 X.2.1 dX12_items_114 rfl (lv_at hl 2 rfl) ?_
            refine lv_aload_n X.1 X.2.1 dX12_items_115 rfl (lv_at hl 1 rfl) ?_
            have ho4 := ho.1
            have ho := ho.2
            refine r_ei I (r_runV X I pk_X12_look (c12_look l G _ _ ho4) lm_X12_134 (by decide) (cl_12 rfl) rfl rfl rfl hl.1 rfl (Nat.le_of_ble_eq_true rfl) dX12_items_116 ⟨Nat.le_of_ble_eq_true rfl, Nat.le_of_ble_eq_true rfl⟩ ⟨Nat.le_refl 0, Nat.le_refl 0⟩) (fun H locs I => ?_)
            refine r_ei I (r_runS X I pk_X12_itemOf (c12_itemOf l G _ _ _ _) lm_X12_228 rfl hl.1 rfl (Nat.le_of_ble_eq_true rfl) dX12_items_119 ⟨Nat.le_of_ble_eq_true rfl, Nat.le_of_ble_eq_true rfl⟩ ⟨Nat.le_refl 0, Nat.le_refl 0⟩) (fun H locs I => ?_)
            refine lv_goto (tgt := 126) X.1 X.2.1 dX12_items_122 (by decide) ?_
            refine lv_istore (lv' := [(6, .int _), (5, .int _), (0, .ref _), (1, .int _), (2, .ref _), (3, .int _), (4, .int _)]) X.1 X.2.1 dX12_items_126 hl (by decide) rfl (fun ls hl => ?_)
            refine lv_goto (tgt := 41) X.1 X.2.1 dX12_items_128 (by decide) ?_
            exact ih _ _ _ _ _ _ I (lv_sub hl [2, 3, 4, 5, 6, 1, 0] rfl) ho (hE.trans (rfl))
set_option maxHeartbeats 4000000 in
set_option maxRecDepth 100000 in
theorem c12_items_c3 {l : Launch} {p : Program} {e : Env} {s : State} {m : MethodId} {args : Array Value} {below : List Frame} {meth : Method} {c : Code} {G : GT} (X : CX p s m args meth c cX12_items RX12 7 none G) {k n : Nat} (hk : k < NW) (hd : kd k = 100 + n) (hn : n < 2 ^ 31) {E : SI} (τ : SL) (x1 : Int32) (x3 : Int32) (x4 : Int32) : ∀ (fu : Nat) (v5 : Int32) (σ : SI) (H : Heap) (locs : List Loc) (ls : Array Slot), IX G s H locs σ τ → lv_has ls 7 [(0, .ref (G.2.1 123)), (1, .int x1), (2, .ref (G.2.1 k)), (3, .int x3), (4, .int x4), (5, .int v5)] → (o12_items_c3 k n x1 x3 x4 fu v5 σ) → (Int32.toInt x4 - Int32.toInt v5).toNat < fu → E = (f12_items_c3 k n x1 x3 x4 fu v5 σ) → W p l e (rmN 3) s m args below meth c H locs 0 0 (MQ below ((Qv G (Ev E τ)) s.heap.size) args s 0 0 (AW G s.heap.size)) (F0 m 3 ls []) := by
  intro fu
  induction fu with
  | zero =>
    intro v5 σ H locs ls I hl  ho hm hE
    exact absurd hm (Nat.not_lt_zero _)
  | succ fu ih =>
    intro v5 σ H locs ls I hl  ho hm hE
    unfold o12_items_c3 at ho
    refine lv_iload X.1 X.2.1 dX12_items_3 (lv_at hl 5 rfl) ?_
    refine lv_iload X.1 X.2.1 dX12_items_5 (lv_at hl 4 rfl) ?_
    refine lv_icmp_ge (tgt := 28) X.1 X.2.1 dX12_items_7 (by decide) (fun c_1 => ?_) (fun c_1 => ?_)
    · skip
      have hE := ite_t hE c_1
      have ho := ite_tP ho c_1
      refine lv_iconst (v := 0) X.1 X.2.1 dX12_items_28 (by decide) ?_
      refine lv_istore (lv' := [(5, .int _), (0, .ref _), (1, .int _), (2, .ref _), (3, .int _), (4, .int _)]) X.1 X.2.1 dX12_items_29 hl (by decide) rfl (fun ls hl => ?_)
      refine lv_iload_n X.1 X.2.1 dX12_items_31 rfl (lv_at hl 2 rfl) ?_
      refine lv_aload_n X.1 X.2.1 dX12_items_32 rfl (lv_at hl 1 rfl) ?_
      have ho1 := ho.1
      have ho := ho.2
      refine r_ei I (r_runV X I pk_X12_look (c12_look l G _ _ ho1) lm_X12_134 (by decide) (cl_12 rfl) rfl rfl rfl hl.1 rfl (Nat.le_of_ble_eq_true rfl) dX12_items_33 ⟨Nat.le_of_ble_eq_true rfl, Nat.le_of_ble_eq_true rfl⟩ ⟨Nat.le_refl 0, Nat.le_refl 0⟩) (fun H locs I => ?_)
      refine r_ei I (r_runS X I pk_X12_itemOf (c12_itemOf l G _ _ _ _) lm_X12_228 rfl hl.1 rfl (Nat.le_of_ble_eq_true rfl) dX12_items_36 ⟨Nat.le_of_ble_eq_true rfl, Nat.le_of_ble_eq_true rfl⟩ ⟨Nat.le_refl 0, Nat.le_refl 0⟩) (fun H locs I => ?_)
      refine lv_istore (lv' := [(6, .int _), (5, .int _), (0, .ref _), (1, .int _), (2, .ref _), (3, .int _), (4, .int _)]) X.1 X.2.1 dX12_items_39 hl (by decide) rfl (fun ls hl => ?_)
      refine c12_items_c41 X hk hd hn _ _ _ _ (fun y1_5 y1_6 σk1 H locs ls I hl ho hE => ?_) _ _ _ _ _ _ _ I (lv_sub hl [2, 3, 4, 5, 6, 1, 0] rfl) ho (hE.trans (rfl))
      have h9 := hE
      exact r_vret X I (e_v h9.symm rfl) dX12_items_131
    · skip
      have hE := ite_f hE c_1
      have ho := ite_fP ho c_1
      refine lv_aload_n X.1 X.2.1 dX12_items_10 rfl (lv_at hl 2 rfl) ?_
      refine lv_iload_n X.1 X.2.1 dX12_items_11 rfl (lv_at hl 3 rfl) ?_
      refine lv_iload X.1 X.2.1 dX12_items_12 (lv_at hl 5 rfl) ?_
      refine lv_iadd X.1 X.2.1 dX12_items_14 ?_
      refine lv_iload_n X.1 X.2.1 dX12_items_15 rfl (lv_at hl 1 rfl) ?_
      refine lv_iload X.1 X.2.1 dX12_items_16 (lv_at hl 5 rfl) ?_
      refine r_ei I (r_runS X I pk_X12_usual (c12_usual l G _ _ _ _) lm_X12_224 rfl hl.1 rfl (Nat.le_of_ble_eq_true rfl) dX12_items_18 ⟨Nat.le_of_ble_eq_true rfl, Nat.le_of_ble_eq_true rfl⟩ ⟨Nat.le_refl 0, Nat.le_refl 0⟩) (fun H locs I => ?_)
      have ho5 := ho.1
      have ho := ho.2
      refine r_ast X I (k := k) (n := n) hk hd ho5 dX12_items_21 (fun H locs I => ?_)
      refine lv_iinc (v := _ + 1) (lv' := [(5, .int _), (0, .ref _), (1, .int _), (2, .ref _), (3, .int _), (4, .int _)]) X.1 X.2.1 dX12_items_22 hl (k := 5) rfl rfl (by decide) rfl (fun ls hl => ?_)
      refine lv_goto (tgt := 3) X.1 X.2.1 dX12_items_25 (by decide) ?_
      exact ih _ _ _ _ _ I (lv_sub hl [1, 2, 3, 4, 5, 0] rfl) ho (Nat.lt_of_lt_of_le (up_dec c_1) (Nat.le_of_lt_succ hm)) (hE.trans (rfl))
set_option maxHeartbeats 4000000 in
set_option maxRecDepth 100000 in
theorem c12_items (l : Launch) (G : GT) {k n : Nat} (hk : k < NW) (hd : kd k = 100 + n) (hn : n < 2 ^ 31) (σ : SI) (τ : SL) (x1 : Int32) (x3 : Int32) (x4 : Int32) (ho : o12_items k n σ x1 x3 x4) : Mc l yX12_items cX12_items 7 none 3 G [.ref (G.2.1 123), .int x1, .ref (G.2.1 k), .int x3, .int x4] σ τ (Qv G (Ev (f12_items k n σ x1 x3 x4) τ)) := by
  refine m_start (by decide +kernel) (Nat.le_of_ble_eq_true rfl) rfl (fun p e s m args below meth c ls X I hl => ?_)
  have hl : lv_has ls 7 [(0, .ref (G.2.1 123)), (1, .int x1), (2, .ref (G.2.1 k)), (3, .int x3), (4, .int x4)] := hl
  obtain ⟨E, hE⟩ : ∃ E, E = (f12_items k n σ x1 x3 x4) := ⟨_, rfl⟩
  rw [← hE]
  unfold o12_items at ho
  refine lv_iconst (v := 0) X.1 X.2.1 dX12_items_0 (by decide) ?_
  refine lv_istore (lv' := [(5, .int _), (0, .ref _), (1, .int _), (2, .ref _), (3, .int _), (4, .int _)]) X.1 X.2.1 dX12_items_1 hl (by decide) rfl (fun ls hl => ?_)
  exact c12_items_c3 X hk hd hn _ _ _ _ _ _ _ _ _ _ I (lv_sub hl [1, 2, 3, 4, 5, 0] rfl) ho (fu1_lt _) (hE.trans (rfl))
