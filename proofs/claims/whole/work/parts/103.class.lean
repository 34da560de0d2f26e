noncomputable def f2_worked (x0 : Int32) (x1 : Int32) (x2 : Int32) : Int64 := if x0 = 38 then (Int32.toInt64 (x1 &&& x2)) else (if x0 = 42 then ((Int32.toInt64 x1) * (Int32.toInt64 x2)) else (if x0 = 43 then ((Int32.toInt64 x1) + (Int32.toInt64 x2)) else (if x0 = 45 then ((Int32.toInt64 x1) - (Int32.toInt64 x2)) else (if x0 = 47 then (if x2 = (0 : Int32) then (0 : Int64) else (Int32.toInt64 (x1 / x2))) else (if x0 = 60 then (if x2 ≤ x1 then (0 : Int64) else (1 : Int64)) else (if x0 = 61 then (if x1 = x2 then (1 : Int64) else (0 : Int64)) else (if x0 = 62 then (if x1 ≤ x2 then (0 : Int64) else (1 : Int64)) else (if x0 = 124 then (Int32.toInt64 (x1 ||| x2)) else (0 : Int64)))))))))
set_option maxHeartbeats 4000000 in
set_option maxRecDepth 100000 in
theorem c2_worked (l : Launch) (G : GT) (σ : SI) (τ : SL) (x0 : Int32) (x1 : Int32) (x2 : Int32) : Mc l yX2_worked cX2_worked 3 (some .long) 0 G [.int x0, .int x1, .int x2] σ τ (Ql G (El (f2_worked x0 x1 x2) σ τ)) := by
  refine m_start (by decide +kernel) (Nat.le_of_ble_eq_true rfl) rfl (fun p e s m args below meth c ls X I hl => ?_)
  have hl : lv_has ls 3 [(0, .int x0), (1, .int x1), (2, .int x2)] := hl
  obtain ⟨E, hE⟩ : ∃ E, E = (f2_worked x0 x1 x2) := ⟨_, rfl⟩
  rw [← hE]
  refine lv_iload_n X.1 X.2.1 dX2_worked_0 rfl (lv_at hl 0 rfl) ?_
  rcases Classical.em (x0 = 38) with c_1 | c_1
  · skip
    have hE := ite_t hE c_1
    refine lv_lookup (off := 147) (tgt := 148) X.1 X.2.1 dX2_worked_1 (by decide) (by rw [c_1]; decide) (by decide) ?_
    refine lv_iload_n X.1 X.2.1 dX2_worked_148 rfl (lv_at hl 1 rfl) ?_
    refine lv_iload_n X.1 X.2.1 dX2_worked_149 rfl (lv_at hl 2 rfl) ?_
    refine lv_iand X.1 X.2.1 dX2_worked_150 ?_
    refine lv_i2l X.1 X.2.1 dX2_worked_151 rfl ?_
    have h9 := hE
    exact r_lret X I (e_l h9.symm rfl rfl) dX2_worked_152
  have hE := ite_f hE c_1
  rcases Classical.em (x0 = 42) with c_2 | c_2
  · skip
    have hE := ite_t hE c_2
    refine lv_lookup (off := 95) (tgt := 96) X.1 X.2.1 dX2_worked_1 (by decide) (by rw [c_2]; decide) (by decide) ?_
    refine lv_iload_n X.1 X.2.1 dX2_worked_96 rfl (lv_at hl 1 rfl) ?_
    refine lv_i2l X.1 X.2.1 dX2_worked_97 rfl ?_
    refine lv_iload_n X.1 X.2.1 dX2_worked_98 rfl (lv_at hl 2 rfl) ?_
    refine lv_i2l X.1 X.2.1 dX2_worked_99 rfl ?_
    refine lv_lmul X.1 X.2.1 dX2_worked_100 ?_
    have h9 := hE
    exact r_lret X I (e_l h9.symm rfl rfl) dX2_worked_101
  have hE := ite_f hE c_2
  rcases Classical.em (x0 = 43) with c_3 | c_3
  · skip
    have hE := ite_t hE c_3
    refine lv_lookup (off := 83) (tgt := 84) X.1 X.2.1 dX2_worked_1 (by decide) (by rw [c_3]; decide) (by decide) ?_
    refine lv_iload_n X.1 X.2.1 dX2_worked_84 rfl (lv_at hl 1 rfl) ?_
    refine lv_i2l X.1 X.2.1 dX2_worked_85 rfl ?_
    refine lv_iload_n X.1 X.2.1 dX2_worked_86 rfl (lv_at hl 2 rfl) ?_
    refine lv_i2l X.1 X.2.1 dX2_worked_87 rfl ?_
    refine lv_ladd X.1 X.2.1 dX2_worked_88 ?_
    have h9 := hE
    exact r_lret X I (e_l h9.symm rfl rfl) dX2_worked_89
  have hE := ite_f hE c_3
  rcases Classical.em (x0 = 45) with c_4 | c_4
  · skip
    have hE := ite_t hE c_4
    refine lv_lookup (off := 89) (tgt := 90) X.1 X.2.1 dX2_worked_1 (by decide) (by rw [c_4]; decide) (by decide) ?_
    refine lv_iload_n X.1 X.2.1 dX2_worked_90 rfl (lv_at hl 1 rfl) ?_
    refine lv_i2l X.1 X.2.1 dX2_worked_91 rfl ?_
    refine lv_iload_n X.1 X.2.1 dX2_worked_92 rfl (lv_at hl 2 rfl) ?_
    refine lv_i2l X.1 X.2.1 dX2_worked_93 rfl ?_
    refine lv_lsub X.1 X.2.1 dX2_worked_94 ?_
    have h9 := hE
    exact r_lret X I (e_l h9.symm rfl rfl) dX2_worked_95
  have hE := ite_f hE c_4
  rcases Classical.em (x0 = 47) with c_5 | c_5
  · skip
    have hE := ite_t hE c_5
    refine lv_lookup (off := 101) (tgt := 102) X.1 X.2.1 dX2_worked_1 (by decide) (by rw [c_5]; decide) (by decide) ?_
    refine lv_iload_n X.1 X.2.1 dX2_worked_102 rfl (lv_at hl 2 rfl) ?_
    refine lv_if_ne (tgt := 110) X.1 X.2.1 dX2_worked_103 (by decide) (fun c_6 => ?_) (fun c_6 => ?_)
    · skip
      have hE := ite_f hE c_6
      refine lv_iload_n X.1 X.2.1 dX2_worked_110 rfl (lv_at hl 1 rfl) ?_
      refine lv_iload_n X.1 X.2.1 dX2_worked_111 rfl (lv_at hl 2 rfl) ?_
      refine lv_idiv X.1 X.2.1 dX2_worked_112 c_6 ?_
      refine lv_i2l X.1 X.2.1 dX2_worked_113 rfl ?_
      have h9 := hE
      exact r_lret X I (e_l h9.symm rfl rfl) dX2_worked_114
    · skip
      have hE := ite_t hE c_6
      refine lv_lconst (v := 0) X.1 X.2.1 dX2_worked_106 rfl ?_
      refine lv_goto (tgt := 114) X.1 X.2.1 dX2_worked_107 (by decide) ?_
      have h9 := hE
      exact r_lret X I (e_l h9.symm rfl rfl) dX2_worked_114
  have hE := ite_f hE c_5
  rcases Classical.em (x0 = 60) with c_7 | c_7
  · skip
    have hE := ite_t hE c_7
    refine lv_lookup (off := 125) (tgt := 126) X.1 X.2.1 dX2_worked_1 (by decide) (by rw [c_7]; decide) (by decide) ?_
    refine lv_iload_n X.1 X.2.1 dX2_worked_126 rfl (lv_at hl 1 rfl) ?_
    refine lv_iload_n X.1 X.2.1 dX2_worked_127 rfl (lv_at hl 2 rfl) ?_
    refine lv_icmp_ge (tgt := 135) X.1 X.2.1 dX2_worked_128 (by decide) (fun c_8 => ?_) (fun c_8 => ?_)
    · skip
      have hE := ite_t hE c_8
      refine lv_lconst (v := 0) X.1 X.2.1 dX2_worked_135 rfl ?_
      have h9 := hE
      exact r_lret X I (e_l h9.symm rfl rfl) dX2_worked_136
    · skip
      have hE := ite_f hE c_8
      refine lv_lconst (v := 1) X.1 X.2.1 dX2_worked_131 rfl ?_
      refine lv_goto (tgt := 136) X.1 X.2.1 dX2_worked_132 (by decide) ?_
      have h9 := hE
      exact r_lret X I (e_l h9.symm rfl rfl) dX2_worked_136
  have hE := ite_f hE c_7
  rcases Classical.em (x0 = 61) with c_9 | c_9
  · skip
    have hE := ite_t hE c_9
    refine lv_lookup (off := 114) (tgt := 115) X.1 X.2.1 dX2_worked_1 (by decide) (by rw [c_9]; decide) (by decide) ?_
    refine lv_iload_n X.1 X.2.1 dX2_worked_115 rfl (lv_at hl 1 rfl) ?_
    refine lv_iload_n X.1 X.2.1 dX2_worked_116 rfl (lv_at hl 2 rfl) ?_
    refine lv_icmp_ne (tgt := 124) X.1 X.2.1 dX2_worked_117 (by decide) (fun c_10 => ?_) (fun c_10 => ?_)
    · skip
      have hE := ite_f hE c_10
      refine lv_lconst (v := 0) X.1 X.2.1 dX2_worked_124 rfl ?_
      have h9 := hE
      exact r_lret X I (e_l h9.symm rfl rfl) dX2_worked_125
    · skip
      have hE := ite_t hE c_10
      refine lv_lconst (v := 1) X.1 X.2.1 dX2_worked_120 rfl ?_
      refine lv_goto (tgt := 125) X.1 X.2.1 dX2_worked_121 (by decide) ?_
      have h9 := hE
      exact r_lret X I (e_l h9.symm rfl rfl) dX2_worked_125
  have hE := ite_f hE c_9
  rcases Classical.em (x0 = 62) with c_11 | c_11
  · skip
    have hE := ite_t hE c_11
    refine lv_lookup (off := 136) (tgt := 137) X.1 X.2.1 dX2_worked_1 (by decide) (by rw [c_11]; decide) (by decide) ?_
    refine lv_iload_n X.1 X.2.1 dX2_worked_137 rfl (lv_at hl 1 rfl) ?_
    refine lv_iload_n X.1 X.2.1 dX2_worked_138 rfl (lv_at hl 2 rfl) ?_
    refine lv_icmp_le (tgt := 146) X.1 X.2.1 dX2_worked_139 (by decide) (fun c_12 => ?_) (fun c_12 => ?_)
    · skip
      have hE := ite_t hE c_12
      refine lv_lconst (v := 0) X.1 X.2.1 dX2_worked_146 rfl ?_
      have h9 := hE
      exact r_lret X I (e_l h9.symm rfl rfl) dX2_worked_147
    · skip
      have hE := ite_f hE c_12
      refine lv_lconst (v := 1) X.1 X.2.1 dX2_worked_142 rfl ?_
      refine lv_goto (tgt := 147) X.1 X.2.1 dX2_worked_143 (by decide) ?_
      have h9 := hE
      exact r_lret X I (e_l h9.symm rfl rfl) dX2_worked_147
  have hE := ite_f hE c_11
  rcases Classical.em (x0 = 124) with c_13 | c_13
  · skip
    have hE := ite_t hE c_13
    refine lv_lookup (off := 152) (tgt := 153) X.1 X.2.1 dX2_worked_1 (by decide) (by rw [c_13]; decide) (by decide) ?_
    refine lv_iload_n X.1 X.2.1 dX2_worked_153 rfl (lv_at hl 1 rfl) ?_
    refine lv_iload_n X.1 X.2.1 dX2_worked_154 rfl (lv_at hl 2 rfl) ?_
    refine lv_ior X.1 X.2.1 dX2_worked_155 ?_
    refine lv_i2l X.1 X.2.1 dX2_worked_156 rfl ?_
    have h9 := hE
    exact r_lret X I (e_l h9.symm rfl rfl) dX2_worked_157
  have hE := ite_f hE c_13
  refine lv_lookup (off := 157) (tgt := 158) X.1 X.2.1 dX2_worked_1 (by decide) (sw_def _ _ _ (by decide) (fun q hq => by
    simp only [List.mem_cons, List.not_mem_nil, or_false] at hq
    rcases hq with rfl | rfl | rfl | rfl | rfl | rfl | rfl | rfl | rfl
    · exact fun h9 => c_1 (sw_eq h9)
    · exact fun h9 => c_2 (sw_eq h9)
    · exact fun h9 => c_3 (sw_eq h9)
    · exact fun h9 => c_4 (sw_eq h9)
    · exact fun h9 => c_5 (sw_eq h9)
    · exact fun h9 => c_7 (sw_eq h9)
    · exact fun h9 => c_9 (sw_eq h9)
    · exact fun h9 => c_11 (sw_eq h9)
    · exact fun h9 => c_13 (sw_eq h9))) (by decide) ?_
  refine lv_lconst (v := 0) X.1 X.2.1 dX2_worked_158 rfl ?_
  have h9 := hE
  exact r_lret X I (e_l h9.symm rfl rfl) dX2_worked_159
noncomputable def f2_work (σ : SI) (x1 : Int32) : SI := if x1 = 33 then (let r0 := (f2_pop σ); let s1 := (f2_push r0.2 ((1 : Int32) - r0.1)); s1) else (if x1 = 100 then (let s2 := (f2_push σ (σ 13 9)); s2) else (if x1 = 103 then (let s3 := (f2_push σ (σ 13 5)); s3) else (if x1 = 110 then (let s4 := (f2_push σ (σ 13 8)); s4) else (if x1 = 113 then (let s5 := (f2_push σ (σ 13 6)); s5) else (if x1 = 116 then (let s6 := (f2_push σ (σ 13 7)); s6) else (if x1 = 121 then (let s7 := (f2_push σ (σ 13 10)); s7) else (let r8 := (f2_pop σ); let r9 := (f2_pop r8.2); let s10 := (f2_push r9.2 (f11_within (f2_worked x1 r9.1 r8.1) (-1000000 : Int32) (1000000 : Int32))); s10)))))))
theorem w_f2_work (σ : SI) (x1 : Int32) (a : Nat) (h0 : a ≠ 13) (h1 : a ≠ 15) : (f2_work σ x1) a = σ a := by
  unfold f2_work
  exact (fr_ite ((w_f2_push _ _ a h0 h1).trans (w_f2_pop _ a h0)) (fr_ite (w_f2_push _ _ a h0 h1) (fr_ite (w_f2_push _ _ a h0 h1) (fr_ite (w_f2_push _ _ a h0 h1) (fr_ite (w_f2_push _ _ a h0 h1) (fr_ite (w_f2_push _ _ a h0 h1) (fr_ite (w_f2_push _ _ a h0 h1) ((w_f2_push _ _ a h0 h1).trans ((w_f2_pop _ a h0).trans (w_f2_pop _ a h0))))))))))
set_option maxHeartbeats 4000000 in
set_option maxRecDepth 100000 in
theorem c2_work (l : Launch) (G : GT) (σ : SI) (τ : SL) (x1 : Int32) : Mc l yX2_work cX2_work 4 none 1 G [.ref (G.2.1 13), .int x1] σ τ (Qv G (Ev (f2_work σ x1) τ)) := by
  refine m_start (by decide +kernel) (Nat.le_of_ble_eq_true rfl) rfl (fun p e s m args below meth c ls X I hl => ?_)
  have hl : lv_has ls 4 [(0, .ref (G.2.1 13)), (1, .int x1)] := hl
  obtain ⟨E, hE⟩ : ∃ E, E = (f2_work σ x1) := ⟨_, rfl⟩
  rw [← hE]
  refine lv_iload_n X.1 X.2.1 dX2_work_0 rfl (lv_at hl 1 rfl) ?_
  rcases Classical.em (x1 = 33) with c_1 | c_1
  · skip
    have hE := ite_t hE c_1
    refine lv_lookup (off := 133) (tgt := 134) X.1 X.2.1 dX2_work_1 (by decide) (by rw [c_1]; decide) (by decide) ?_
    refine lv_aload_n X.1 X.2.1 dX2_work_134 rfl (lv_at hl 0 rfl) ?_
    refine lv_iconst (v := 1) X.1 X.2.1 dX2_work_135 (by decide) ?_
    refine lv_aload_n X.1 X.2.1 dX2_work_136 rfl (lv_at hl 0 rfl) ?_
    refine r_ei I (r_runV X I pk_X2_pop (c2_pop l G _ _) lm_X2_74 (by decide) (cl_2 rfl) rfl rfl rfl hl.1 rfl (Nat.le_of_ble_eq_true rfl) dX2_work_137 ⟨Nat.le_of_ble_eq_true rfl, Nat.le_of_ble_eq_true rfl⟩ ⟨Nat.le_refl 0, Nat.le_refl 0⟩) (fun H locs I => ?_)
    refine lv_isub X.1 X.2.1 dX2_work_140 ?_
    refine r_ev I (r_runV X I pk_X2_push (c2_push l G _ _ _) lm_X2_77 (by decide) (cl_2 rfl) rfl rfl rfl hl.1 rfl (Nat.le_of_ble_eq_true rfl) dX2_work_141 ⟨Nat.le_of_ble_eq_true rfl, Nat.le_of_ble_eq_true rfl⟩ ⟨Nat.le_refl 0, Nat.le_refl 0⟩) (fun H locs I => ?_)
    refine lv_goto (tgt := 174) X.1 X.2.1 dX2_work_144 (by decide) ?_
    have h9 := hE
    exact r_vret X I (e_v h9.symm rfl) dX2_work_174
  have hE := ite_f hE c_1
  rcases Classical.em (x1 = 100) with c_2 | c_2
  · skip
    have hE := ite_t hE c_2
    refine lv_lookup (off := 111) (tgt := 112) X.1 X.2.1 dX2_work_1 (by decide) (by rw [c_2]; decide) (by decide) ?_
    refine lv_aload_n X.1 X.2.1 dX2_work_112 rfl (lv_at hl 0 rfl) ?_
    refine lv_aload_n X.1 X.2.1 dX2_work_113 rfl (lv_at hl 0 rfl) ?_
    refine g2_9 X I (k := 13) (by decide) rfl lf_X2_49 dX2_work_114 ?_
    refine r_ev I (r_runV X I pk_X2_push (c2_push l G _ _ _) lm_X2_77 (by decide) (cl_2 rfl) rfl rfl rfl hl.1 rfl (Nat.le_of_ble_eq_true rfl) dX2_work_117 ⟨Nat.le_of_ble_eq_true rfl, Nat.le_of_ble_eq_true rfl⟩ ⟨Nat.le_refl 0, Nat.le_refl 0⟩) (fun H locs I => ?_)
    refine lv_goto (tgt := 174) X.1 X.2.1 dX2_work_120 (by decide) ?_
    have h9 := hE
    exact r_vret X I (e_v h9.symm rfl) dX2_work_174
  have hE := ite_f hE c_2
  rcases Classical.em (x1 = 103) with c_3 | c_3
  · skip
    have hE := ite_t hE c_3
    refine lv_lookup (off := 67) (tgt := 68) X.1 X.2.1 dX2_work_1 (by decide) (by rw [c_3]; decide) (by decide) ?_
    refine lv_aload_n X.1 X.2.1 dX2_work_68 rfl (lv_at hl 0 rfl) ?_
    refine lv_aload_n X.1 X.2.1 dX2_work_69 rfl (lv_at hl 0 rfl) ?_
    refine g2_5 X I (k := 13) (by decide) rfl lf_X2_37 dX2_work_70 ?_
    refine r_ev I (r_runV X I pk_X2_push (c2_push l G _ _ _) lm_X2_77 (by decide) (cl_2 rfl) rfl rfl rfl hl.1 rfl (Nat.le_of_ble_eq_true rfl) dX2_work_73 ⟨Nat.le_of_ble_eq_true rfl, Nat.le_of_ble_eq_true rfl⟩ ⟨Nat.le_refl 0, Nat.le_refl 0⟩) (fun H locs I => ?_)
    refine lv_goto (tgt := 174) X.1 X.2.1 dX2_work_76 (by decide) ?_
    have h9 := hE
    exact r_vret X I (e_v h9.symm rfl) dX2_work_174
  have hE := ite_f hE c_3
  rcases Classical.em (x1 = 110) with c_4 | c_4
  · skip
    have hE := ite_t hE c_4
    refine lv_lookup (off := 100) (tgt := 101) X.1 X.2.1 dX2_work_1 (by decide) (by rw [c_4]; decide) (by decide) ?_
    refine lv_aload_n X.1 X.2.1 dX2_work_101 rfl (lv_at hl 0 rfl) ?_
    refine lv_aload_n X.1 X.2.1 dX2_work_102 rfl (lv_at hl 0 rfl) ?_
    refine g2_8 X I (k := 13) (by decide) rfl lf_X2_46 dX2_work_103 ?_
    refine r_ev I (r_runV X I pk_X2_push (c2_push l G _ _ _) lm_X2_77 (by decide) (cl_2 rfl) rfl rfl rfl hl.1 rfl (Nat.le_of_ble_eq_true rfl) dX2_work_106 ⟨Nat.le_of_ble_eq_true rfl, Nat.le_of_ble_eq_true rfl⟩ ⟨Nat.le_refl 0, Nat.le_refl 0⟩) (fun H locs I => ?_)
    refine lv_goto (tgt := 174) X.1 X.2.1 dX2_work_109 (by decide) ?_
    have h9 := hE
    exact r_vret X I (e_v h9.symm rfl) dX2_work_174
  have hE := ite_f hE c_4
  rcases Classical.em (x1 = 113) with c_5 | c_5
  · skip
    have hE := ite_t hE c_5
    refine lv_lookup (off := 78) (tgt := 79) X.1 X.2.1 dX2_work_1 (by decide) (by rw [c_5]; decide) (by decide) ?_
    refine lv_aload_n X.1 X.2.1 dX2_work_79 rfl (lv_at hl 0 rfl) ?_
    refine lv_aload_n X.1 X.2.1 dX2_work_80 rfl (lv_at hl 0 rfl) ?_
    refine g2_6 X I (k := 13) (by decide) rfl lf_X2_40 dX2_work_81 ?_
    refine r_ev I (r_runV X I pk_X2_push (c2_push l G _ _ _) lm_X2_77 (by decide) (cl_2 rfl) rfl rfl rfl hl.1 rfl (Nat.le_of_ble_eq_true rfl) dX2_work_84 ⟨Nat.le_of_ble_eq_true rfl, Nat.le_of_ble_eq_true rfl⟩ ⟨Nat.le_refl 0, Nat.le_refl 0⟩) (fun H locs I => ?_)
    refine lv_goto (tgt := 174) X.1 X.2.1 dX2_work_87 (by decide) ?_
    have h9 := hE
    exact r_vret X I (e_v h9.symm rfl) dX2_work_174
  have hE := ite_f hE c_5
  rcases Classical.em (x1 = 116) with c_6 | c_6
  · skip
    have hE := ite_t hE c_6
    refine lv_lookup (off := 89) (tgt := 90) X.1 X.2.1 dX2_work_1 (by decide) (by rw [c_6]; decide) (by decide) ?_
    refine lv_aload_n X.1 X.2.1 dX2_work_90 rfl (lv_at hl 0 rfl) ?_
    refine lv_aload_n X.1 X.2.1 dX2_work_91 rfl (lv_at hl 0 rfl) ?_
    refine g2_7 X I (k := 13) (by decide) rfl lf_X2_43 dX2_work_92 ?_
    refine r_ev I (r_runV X I pk_X2_push (c2_push l G _ _ _) lm_X2_77 (by decide) (cl_2 rfl) rfl rfl rfl hl.1 rfl (Nat.le_of_ble_eq_true rfl) dX2_work_95 ⟨Nat.le_of_ble_eq_true rfl, Nat.le_of_ble_eq_true rfl⟩ ⟨Nat.le_refl 0, Nat.le_refl 0⟩) (fun H locs I => ?_)
    refine lv_goto (tgt := 174) X.1 X.2.1 dX2_work_98 (by decide) ?_
    have h9 := hE
    exact r_vret X I (e_v h9.symm rfl) dX2_work_174
  have hE := ite_f hE c_6
  rcases Classical.em (x1 = 121) with c_7 | c_7
  · skip
    have hE := ite_t hE c_7
    refine lv_lookup (off := 122) (tgt := 123) X.1 X.2.1 dX2_work_1 (by decide) (by rw [c_7]; decide) (by decide) ?_
    refine lv_aload_n X.1 X.2.1 dX2_work_123 rfl (lv_at hl 0 rfl) ?_
    refine lv_aload_n X.1 X.2.1 dX2_work_124 rfl (lv_at hl 0 rfl) ?_
    refine g2_10 X I (k := 13) (by decide) rfl lf_X2_52 dX2_work_125 ?_
    refine r_ev I (r_runV X I pk_X2_push (c2_push l G _ _ _) lm_X2_77 (by decide) (cl_2 rfl) rfl rfl rfl hl.1 rfl (Nat.le_of_ble_eq_true rfl) dX2_work_128 ⟨Nat.le_of_ble_eq_true rfl, Nat.le_of_ble_eq_true rfl⟩ ⟨Nat.le_refl 0, Nat.le_refl 0⟩) (fun H locs I => ?_)
    refine lv_goto (tgt := 174) X.1 X.2.1 dX2_work_131 (by decide) ?_
    have h9 := hE
    exact r_vret X I (e_v h9.symm rfl) dX2_work_174
  have hE := ite_f hE c_7
  refine lv_lookup (off := 146) (tgt := 147) X.1 X.2.1 dX2_work_1 (by decide) (sw_def _ _ _ (by decide) (fun q hq => by
    simp only [List.mem_cons, List.not_mem_nil, or_false] at hq
    rcases hq with rfl | rfl | rfl | rfl | rfl | rfl | rfl
    · exact fun h9 => c_1 (sw_eq h9)
    · exact fun h9 => c_2 (sw_eq h9)
    · exact fun h9 => c_3 (sw_eq h9)
    · exact fun h9 => c_4 (sw_eq h9)
    · exact fun h9 => c_5 (sw_eq h9)
    · exact fun h9 => c_6 (sw_eq h9)
    · exact fun h9 => c_7 (sw_eq h9))) (by decide) ?_
  refine lv_aload_n X.1 X.2.1 dX2_work_147 rfl (lv_at hl 0 rfl) ?_
  refine r_ei I (r_runV X I pk_X2_pop (c2_pop l G _ _) lm_X2_74 (by decide) (cl_2 rfl) rfl rfl rfl hl.1 rfl (Nat.le_of_ble_eq_true rfl) dX2_work_148 ⟨Nat.le_of_ble_eq_true rfl, Nat.le_of_ble_eq_true rfl⟩ ⟨Nat.le_refl 0, Nat.le_refl 0⟩) (fun H locs I => ?_)
  refine lv_istore_n (lv' := [(2, .int _), (0, .ref _), (1, .int _)]) X.1 X.2.1 dX2_work_151 rfl hl (by decide) rfl (fun ls hl => ?_)
  refine lv_aload_n X.1 X.2.1 dX2_work_152 rfl (lv_at hl 1 rfl) ?_
  refine r_ei I (r_runV X I pk_X2_pop (c2_pop l G _ _) lm_X2_74 (by decide) (cl_2 rfl) rfl rfl rfl hl.1 rfl (Nat.le_of_ble_eq_true rfl) dX2_work_153 ⟨Nat.le_of_ble_eq_true rfl, Nat.le_of_ble_eq_true rfl⟩ ⟨Nat.le_refl 0, Nat.le_refl 0⟩) (fun H locs I => ?_)
  refine lv_istore_n (lv' := [(3, .int _), (2, .int _), (0, .ref _), (1, .int _)]) X.1 X.2.1 dX2_work_156 rfl hl (by decide) rfl (fun ls hl => ?_)
  refine lv_aload_n X.1 X.2.1 dX2_work_157 rfl (lv_at hl 2 rfl) ?_
  refine lv_iload_n X.1 X.2.1 dX2_work_158 rfl (lv_at hl 3 rfl) ?_
  refine lv_iload_n X.1 X.2.1 dX2_work_159 rfl (lv_at hl 0 rfl) ?_
  refine lv_iload_n X.1 X.2.1 dX2_work_160 rfl (lv_at hl 1 rfl) ?_
  refine r_el I (r_runS X I pk_X2_worked (c2_worked l G _ _ _ _ _) lm_X2_84 rfl hl.1 rfl (Nat.le_of_ble_eq_true rfl) dX2_work_161 ⟨Nat.le_of_ble_eq_true rfl, Nat.le_of_ble_eq_true rfl⟩ ⟨Nat.le_refl 0, Nat.le_refl 0⟩) (fun H locs I => ?_)
  refine lv_ldc X.1 X.2.1 (v := (-1000000)) X.2.2.2.2.1 (X.2.2.2.1 _ lq_X2_88) dX2_work_164 ?_
  refine lv_ldc X.1 X.2.1 (v := 1000000) X.2.2.2.2.1 (X.2.2.2.1 _ lq_X2_89) dX2_work_166 ?_
  refine r_ei I (r_runN X I pk_X11_within (c11_within l G _ _ _ _ _) (by decide +kernel) rfl hl.1 rfl (Nat.le_of_ble_eq_true rfl) dX2_work_168 ⟨Nat.le_of_ble_eq_true rfl, Nat.le_of_ble_eq_true rfl⟩ ⟨Nat.le_refl 0, Nat.le_refl 0⟩) (fun H locs I => ?_)
  refine r_ev I (r_runV X I pk_X2_push (c2_push l G _ _ _) lm_X2_77 (by decide) (cl_2 rfl) rfl rfl rfl hl.1 rfl (Nat.le_of_ble_eq_true rfl) dX2_work_171 ⟨Nat.le_of_ble_eq_true rfl, Nat.le_of_ble_eq_true rfl⟩ ⟨Nat.le_refl 0, Nat.le_refl 0⟩) (fun H locs I => ?_)
  have h9 := hE
  exact r_vret X I (e_v h9.symm rfl) dX2_work_174
noncomputable def f2_worthBy_c9 (k1 : Nat) : Nat → Int32 → Int32 → SI → (Int32 × SI)
  | 0, _, _, σ => (0, σ)
  | fu + 1, v2, v3, σ => if (f1_size k1 σ) ≤ v3 then ((0 : Int32), σ) else (if v2 = (0 : Int32) then (if (f1_signAt k1 σ v3) = (-59 : Int32) then (let r4 := (f2_pop σ); r4) else (if (f1_signAt k1 σ v3) = (-63 : Int32) then (let r3 := (f2_pop σ); if r3.1 = (0 : Int32) then (f2_worthBy_c9 k1 fu (1 : Int32) (v3 + 1) r3.2) else (f2_worthBy_c9 k1 fu (0 : Int32) (v3 + 1) r3.2)) else (if (f1_signAt k1 σ v3) < (0 : Int32) then (let s1 := (f2_work σ (-(f1_signAt k1 σ v3))); (f2_worthBy_c9 k1 fu v2 (v3 + 1) s1)) else (let s2 := (f2_push σ (f1_signAt k1 σ v3)); (f2_worthBy_c9 k1 fu v2 (v3 + 1) s2))))) else (if (f1_signAt k1 σ v3) = (-59 : Int32) then (f2_worthBy_c9 k1 fu (0 : Int32) (v3 + 1) σ) else (f2_worthBy_c9 k1 fu (1 : Int32) (v3 + 1) σ)))
noncomputable def f2_worthBy (k1 : Nat) (σ : SI) : Int32 × SI := let s0 := sp σ 13 4 (0 : Int32); (f2_worthBy_c9 k1 (fu1 ((Int32.toInt (f1_size k1 s0) - Int32.toInt (0 : Int32)).toNat)) (0 : Int32) (0 : Int32) s0)
theorem w_f2_worthBy_c9 {k1 : Nat} (a : Nat) (h0 : a ≠ 13) (h1 : a ≠ 15) : ∀ (fu : Nat) (v2 : Int32) (v3 : Int32) (σ : SI), (f2_worthBy_c9 k1 fu v2 v3 σ).2 a = σ a := by
  intro fu
  induction fu with
  | zero => intro v2 v3 σ; exact rfl
  | succ fu ih =>
    intro v2 v3 σ
    refine fp_to2 ?_
    unfold f2_worthBy_c9
    exact (fr_ite2 (fr_mk21 rfl) (fr_ite2 (fr_ite2 (w_f2_pop _ a h0) (fr_ite2 (fr_ite2 (fp_of2 (((ih _ _ _).trans (w_f2_pop _ a h0)))) (fp_of2 (((ih _ _ _).trans (w_f2_pop _ a h0))))) (fr_ite2 (fp_of2 (((ih _ _ _).trans (w_f2_work _ _ a h0 h1)))) (fp_of2 (((ih _ _ _).trans (w_f2_push _ _ a h0 h1))))))) (fr_ite2 (fp_of2 ((ih _ _ _))) (fp_of2 ((ih _ _ _))))))
theorem w_f2_worthBy {k1 : Nat} (σ : SI) (a : Nat) (h0 : a ≠ 13) (h1 : a ≠ 15) : (f2_worthBy k1 σ).2 a = σ a := by
  refine fp_to2 ?_
  unfold f2_worthBy
  exact (fp_of2 (((w_f2_worthBy_c9 a h0 h1 _ _ _ _).trans (sp_n h0))))
set_option maxHeartbeats 4000000 in
set_option maxRecDepth 100000 in
theorem c2_worthBy_c9 {l : Launch} {p : Program} {e : Env} {s : State} {m : MethodId} {args : Array Value} {below : List Frame} {meth : Method} {c : Code} {G : GT} (X : CX p s m args meth c cX2_worthBy RX2 5 (some .int) G) {k1 : Nat} (hk1 : isLaw k1) {E : Int32 × SI} (τ : SL) : ∀ (fu : Nat) (v2 : Int32) (v3 : Int32) (σ : SI) (H : Heap) (locs : List Loc) (ls : Array Slot), IX G s H locs σ τ → lv_has ls 5 [(0, .ref (G.2.1 13)), (1, .ref (G.2.1 k1)), (2, .int v2), (3, .int v3)] → (Int32.toInt (f1_size k1 σ) - Int32.toInt v3).toNat < fu → E = (f2_worthBy_c9 k1 fu v2 v3 σ) → W p l e (rmN 2) s m args below meth c H locs 0 0 (MQ below ((Qi G (Ei E.1 E.2 τ)) s.heap.size) args s 0 0 (AW G s.heap.size)) (F0 m 9 ls []) := by
  intro fu
  induction fu with
  | zero =>
    intro v2 v3 σ H locs ls I hl  hm hE
    exact absurd hm (Nat.not_lt_zero _)
  | succ fu ih =>
    intro v2 v3 σ H locs ls I hl  hm hE
    refine lv_iload_n X.1 X.2.1 dX2_worthBy_9 rfl (lv_at hl 3 rfl) ?_
    refine lv_aload_n X.1 X.2.1 dX2_worthBy_10 rfl (lv_at hl 1 rfl) ?_
    refine r_ei I (r_runV X I pk_X1_size (c1_size l G (k := k1) hk1 _ _) lm_X2_66 (Nat.lt_of_le_of_lt (Nat.add_le_add_left (show 0 ≤ 1 by decide) k1) hk1.1) (cl_1 hk1.2.1) rfl rfl rfl hl.1 rfl (Nat.le_of_ble_eq_true rfl) dX2_worthBy_11 ⟨Nat.le_of_ble_eq_true rfl, Nat.le_of_ble_eq_true rfl⟩ ⟨Nat.le_refl 0, Nat.le_refl 0⟩) (fun H locs I => ?_)
    refine lv_icmp_ge (tgt := 106) X.1 X.2.1 dX2_worthBy_14 (by decide) (fun c_1 => ?_) (fun c_1 => ?_)
    · skip
      have hE := ite_t hE c_1
      refine lv_iconst (v := 0) X.1 X.2.1 dX2_worthBy_106 (by decide) ?_
      have h9 := hE
      exact r_iret X I (e_i (pr_fst h9) (pr_snd h9) rfl) dX2_worthBy_107
    · skip
      have hE := ite_f hE c_1
      refine lv_aload_n X.1 X.2.1 dX2_worthBy_17 rfl (lv_at hl 1 rfl) ?_
      refine lv_iload_n X.1 X.2.1 dX2_worthBy_18 rfl (lv_at hl 3 rfl) ?_
      refine r_ei I (r_runV X I pk_X1_signAt (c1_signAt l G (k := k1) hk1 _ _ _) lm_X2_70 (Nat.lt_of_le_of_lt (Nat.add_le_add_left (show 0 ≤ 1 by decide) k1) hk1.1) (cl_1 hk1.2.1) rfl rfl rfl hl.1 rfl (Nat.le_of_ble_eq_true rfl) dX2_worthBy_19 ⟨Nat.le_of_ble_eq_true rfl, Nat.le_of_ble_eq_true rfl⟩ ⟨Nat.le_refl 0, Nat.le_refl 0⟩) (fun H locs I => ?_)
      refine lv_istore (lv' := [(4, .int _), (0, .ref _), (1, .ref _), (2, .int _), (3, .int _)]) X.1 X.2.1 dX2_worthBy_22 hl (by decide) rfl (fun ls hl => ?_)
      refine lv_iload_n X.1 X.2.1 dX2_worthBy_24 rfl (lv_at hl 3 rfl) ?_
      refine lv_if_eq (tgt := 44) X.1 X.2.1 dX2_worthBy_25 (by decide) (fun c_2 => ?_) (fun c_2 => ?_)
      · skip
        have hE := ite_t hE c_2
        refine lv_iload X.1 X.2.1 dX2_worthBy_44 (lv_at hl 0 rfl) ?_
        refine lv_bipush (v := (-59)) X.1 X.2.1 dX2_worthBy_46 (by decide) ?_
        refine lv_icmp_ne (tgt := 56) X.1 X.2.1 dX2_worthBy_48 (by decide) (fun c_3 => ?_) (fun c_3 => ?_)
        · skip
          have hE := ite_f hE c_3
          refine lv_iload X.1 X.2.1 dX2_worthBy_56 (lv_at hl 0 rfl) ?_
          refine lv_bipush (v := (-63)) X.1 X.2.1 dX2_worthBy_58 (by decide) ?_
          refine lv_icmp_ne (tgt := 79) X.1 X.2.1 dX2_worthBy_60 (by decide) (fun c_4 => ?_) (fun c_4 => ?_)
          · skip
            have hE := ite_f hE c_4
            refine lv_iload X.1 X.2.1 dX2_worthBy_79 (lv_at hl 0 rfl) ?_
            refine lv_if_lt (tgt := 93) X.1 X.2.1 dX2_worthBy_81 (by decide) (fun c_5 => ?_) (fun c_5 => ?_)
            · skip
              have hE := ite_t hE c_5
              refine lv_aload_n X.1 X.2.1 dX2_worthBy_93 rfl (lv_at hl 1 rfl) ?_
              refine lv_iload X.1 X.2.1 dX2_worthBy_94 (lv_at hl 0 rfl) ?_
              refine lv_ineg X.1 X.2.1 dX2_worthBy_96 ?_
              refine r_ev I (r_runV X I pk_X2_work (c2_work l G _ _ _) lm_X2_81 (by decide) (cl_2 rfl) rfl rfl rfl hl.1 rfl (Nat.le_of_ble_eq_true rfl) dX2_worthBy_97 ⟨Nat.le_of_ble_eq_true rfl, Nat.le_of_ble_eq_true rfl⟩ ⟨Nat.le_refl 0, Nat.le_refl 0⟩) (fun H locs I => ?_)
              refine lv_iinc (v := _ + 1) (lv' := [(3, .int _), (4, .int _), (0, .ref _), (1, .ref _), (2, .int _)]) X.1 X.2.1 dX2_worthBy_100 hl (k := 4) rfl rfl (by decide) rfl (fun ls hl => ?_)
              refine lv_goto (tgt := 9) X.1 X.2.1 dX2_worthBy_103 (by decide) ?_
              exact ih _ _ _ _ _ _ I (lv_sub hl [2, 3, 4, 0] rfl) (Nat.lt_of_lt_of_le (dec_c (by first | with_reducible rfl | simp [f1_size, w_f2_pop, w_f2_push, w_f2_work, sp_n, show k1 ≠ 13 from fun h => by subst h; exact absurd hk1.2.1 (by decide), show k1 ≠ 15 from fun h => by subst h; exact absurd hk1.2.1 (by decide)]) (up_dec c_1)) (Nat.le_of_lt_succ hm)) (hE.trans (rfl))
            · skip
              have hE := ite_f hE c_5
              refine lv_aload_n X.1 X.2.1 dX2_worthBy_84 rfl (lv_at hl 1 rfl) ?_
              refine lv_iload X.1 X.2.1 dX2_worthBy_85 (lv_at hl 0 rfl) ?_
              refine r_ev I (r_runV X I pk_X2_push (c2_push l G _ _ _) lm_X2_77 (by decide) (cl_2 rfl) rfl rfl rfl hl.1 rfl (Nat.le_of_ble_eq_true rfl) dX2_worthBy_87 ⟨Nat.le_of_ble_eq_true rfl, Nat.le_of_ble_eq_true rfl⟩ ⟨Nat.le_refl 0, Nat.le_refl 0⟩) (fun H locs I => ?_)
              refine lv_goto (tgt := 100) X.1 X.2.1 dX2_worthBy_90 (by decide) ?_
              refine lv_iinc (v := _ + 1) (lv' := [(3, .int _), (4, .int _), (0, .ref _), (1, .ref _), (2, .int _)]) X.1 X.2.1 dX2_worthBy_100 hl (k := 4) rfl rfl (by decide) rfl (fun ls hl => ?_)
              refine lv_goto (tgt := 9) X.1 X.2.1 dX2_worthBy_103 (by decide) ?_
              exact ih _ _ _ _ _ _ I (lv_sub hl [2, 3, 4, 0] rfl) (Nat.lt_of_lt_of_le (dec_c (by first | with_reducible rfl | simp [f1_size, w_f2_pop, w_f2_push, w_f2_work, sp_n, show k1 ≠ 13 from fun h => by subst h; exact absurd hk1.2.1 (by decide), show k1 ≠ 15 from fun h => by subst h; exact absurd hk1.2.1 (by decide)]) (up_dec c_1)) (Nat.le_of_lt_succ hm)) (hE.trans (rfl))
          · skip
            have hE := ite_t hE c_4
            refine lv_aload_n X.1 X.2.1 dX2_worthBy_63 rfl (lv_at hl 1 rfl) ?_
            refine r_ei I (r_runV X I pk_X2_pop (c2_pop l G _ _) lm_X2_74 (by decide) (cl_2 rfl) rfl rfl rfl hl.1 rfl (Nat.le_of_ble_eq_true rfl) dX2_worthBy_64 ⟨Nat.le_of_ble_eq_true rfl, Nat.le_of_ble_eq_true rfl⟩ ⟨Nat.le_refl 0, Nat.le_refl 0⟩) (fun H locs I => ?_)
            refine lv_if_ne (tgt := 74) X.1 X.2.1 dX2_worthBy_67 (by decide) (fun c_6 => ?_) (fun c_6 => ?_)
            · skip
              have hE := ite_f hE c_6
              refine lv_iconst (v := 0) X.1 X.2.1 dX2_worthBy_74 (by decide) ?_
              refine lv_istore_n (lv' := [(2, .int _), (4, .int _), (0, .ref _), (1, .ref _), (3, .int _)]) X.1 X.2.1 dX2_worthBy_75 rfl hl (by decide) rfl (fun ls hl => ?_)
              refine lv_goto (tgt := 100) X.1 X.2.1 dX2_worthBy_76 (by decide) ?_
              refine lv_iinc (v := _ + 1) (lv' := [(3, .int _), (2, .int _), (4, .int _), (0, .ref _), (1, .ref _)]) X.1 X.2.1 dX2_worthBy_100 hl (k := 4) rfl rfl (by decide) rfl (fun ls hl => ?_)
              refine lv_goto (tgt := 9) X.1 X.2.1 dX2_worthBy_103 (by decide) ?_
              exact ih _ _ _ _ _ _ I (lv_sub hl [3, 4, 1, 0] rfl) (Nat.lt_of_lt_of_le (dec_c (by first | with_reducible rfl | simp [f1_size, w_f2_pop, w_f2_push, w_f2_work, sp_n, show k1 ≠ 13 from fun h => by subst h; exact absurd hk1.2.1 (by decide), show k1 ≠ 15 from fun h => by subst h; exact absurd hk1.2.1 (by decide)]) (up_dec c_1)) (Nat.le_of_lt_succ hm)) (hE.trans (rfl))
            · skip
              have hE := ite_t hE c_6
              refine lv_iconst (v := 1) X.1 X.2.1 dX2_worthBy_70 (by decide) ?_
              refine lv_goto (tgt := 75) X.1 X.2.1 dX2_worthBy_71 (by decide) ?_
              refine lv_istore_n (lv' := [(2, .int _), (4, .int _), (0, .ref _), (1, .ref _), (3, .int _)]) X.1 X.2.1 dX2_worthBy_75 rfl hl (by decide) rfl (fun ls hl => ?_)
              refine lv_goto (tgt := 100) X.1 X.2.1 dX2_worthBy_76 (by decide) ?_
              refine lv_iinc (v := _ + 1) (lv' := [(3, .int _), (2, .int _), (4, .int _), (0, .ref _), (1, .ref _)]) X.1 X.2.1 dX2_worthBy_100 hl (k := 4) rfl rfl (by decide) rfl (fun ls hl => ?_)
              refine lv_goto (tgt := 9) X.1 X.2.1 dX2_worthBy_103 (by decide) ?_
              exact ih _ _ _ _ _ _ I (lv_sub hl [3, 4, 1, 0] rfl) (Nat.lt_of_lt_of_le (dec_c (by first | with_reducible rfl | simp [f1_size, w_f2_pop, w_f2_push, w_f2_work, sp_n, show k1 ≠ 13 from fun h => by subst h; exact absurd hk1.2.1 (by decide), show k1 ≠ 15 from fun h => by subst h; exact absurd hk1.2.1 (by decide)]) (up_dec c_1)) (Nat.le_of_lt_succ hm)) (hE.trans (rfl))
        · skip
          have hE := ite_t hE c_3
          refine lv_aload_n X.1 X.2.1 dX2_worthBy_51 rfl (lv_at hl 1 rfl) ?_
          refine r_ei I (r_runV X I pk_X2_pop (c2_pop l G _ _) lm_X2_74 (by decide) (cl_2 rfl) rfl rfl rfl hl.1 rfl (Nat.le_of_ble_eq_true rfl) dX2_worthBy_52 ⟨Nat.le_of_ble_eq_true rfl, Nat.le_of_ble_eq_true rfl⟩ ⟨Nat.le_refl 0, Nat.le_refl 0⟩) (fun H locs I => ?_)
          have h9 := hE
          exact r_iret X I (e_i (congrArg Prod.fst h9).symm (congrArg Prod.snd h9).symm rfl) dX2_worthBy_55
      · skip
        have hE := ite_f hE c_2
        refine lv_iload X.1 X.2.1 dX2_worthBy_28 (lv_at hl 0 rfl) ?_
        refine lv_bipush (v := (-59)) X.1 X.2.1 dX2_worthBy_30 (by decide) ?_
        refine lv_icmp_eq (tgt := 39) X.1 X.2.1 dX2_worthBy_32 (by decide) (fun c_7 => ?_) (fun c_7 => ?_)
        · skip
          have hE := ite_t hE c_7
          refine lv_iconst (v := 0) X.1 X.2.1 dX2_worthBy_39 (by decide) ?_
          refine lv_istore_n (lv' := [(2, .int _), (4, .int _), (0, .ref _), (1, .ref _), (3, .int _)]) X.1 X.2.1 dX2_worthBy_40 rfl hl (by decide) rfl (fun ls hl => ?_)
          refine lv_goto (tgt := 100) X.1 X.2.1 dX2_worthBy_41 (by decide) ?_
          refine lv_iinc (v := _ + 1) (lv' := [(3, .int _), (2, .int _), (4, .int _), (0, .ref _), (1, .ref _)]) X.1 X.2.1 dX2_worthBy_100 hl (k := 4) rfl rfl (by decide) rfl (fun ls hl => ?_)
          refine lv_goto (tgt := 9) X.1 X.2.1 dX2_worthBy_103 (by decide) ?_
          exact ih _ _ _ _ _ _ I (lv_sub hl [3, 4, 1, 0] rfl) (Nat.lt_of_lt_of_le (dec_c (by first | with_reducible rfl | simp [f1_size, w_f2_pop, w_f2_push, w_f2_work, sp_n, show k1 ≠ 13 from fun h => by subst h; exact absurd hk1.2.1 (by decide), show k1 ≠ 15 from fun h => by subst h; exact absurd hk1.2.1 (by decide)]) (up_dec c_1)) (Nat.le_of_lt_succ hm)) (hE.trans (rfl))
        · skip
          have hE := ite_f hE c_7
          refine lv_iconst (v := 1) X.1 X.2.1 dX2_worthBy_35 (by decide) ?_
          refine lv_goto (tgt := 40) X.1 X.2.1 dX2_worthBy_36 (by decide) ?_
          refine lv_istore_n (lv' := [(2, .int _), (4, .int _), (0, .ref _), (1, .ref _), (3, .int _)]) X.1 X.2.1 dX2_worthBy_40 rfl hl (by decide) rfl (fun ls hl => ?_)
          refine lv_goto (tgt := 100) X.1 X.2.1 dX2_worthBy_41 (by decide) ?_
          refine lv_iinc (v := _ + 1) (lv' := [(3, .int _), (2, .int _), (4, .int _), (0, .ref _), (1, .ref _)]) X.1 X.2.1 dX2_worthBy_100 hl (k := 4) rfl rfl (by decide) rfl (fun ls hl => ?_)
          refine lv_goto (tgt := 9) X.1 X.2.1 dX2_worthBy_103 (by decide) ?_
          exact ih _ _ _ _ _ _ I (lv_sub hl [3, 4, 1, 0] rfl) (Nat.lt_of_lt_of_le (dec_c (by first | with_reducible rfl | simp [f1_size, w_f2_pop, w_f2_push, w_f2_work, sp_n, show k1 ≠ 13 from fun h => by subst h; exact absurd hk1.2.1 (by decide), show k1 ≠ 15 from fun h => by subst h; exact absurd hk1.2.1 (by decide)]) (up_dec c_1)) (Nat.le_of_lt_succ hm)) (hE.trans (rfl))
set_option maxHeartbeats 4000000 in
set_option maxRecDepth 100000 in
theorem c2_worthBy (l : Launch) (G : GT) {k1 : Nat} (hk1 : isLaw k1) (σ : SI) (τ : SL) : Mc l yX2_worthBy cX2_worthBy 5 (some .int) 2 G [.ref (G.2.1 13), .ref (G.2.1 k1)] σ τ (Qi G (Ei (f2_worthBy k1 σ).1 (f2_worthBy k1 σ).2 τ)) := by
  refine m_start (by decide +kernel) (Nat.le_of_ble_eq_true rfl) rfl (fun p e s m args below meth c ls X I hl => ?_)
  have hl : lv_has ls 5 [(0, .ref (G.2.1 13)), (1, .ref (G.2.1 k1))] := hl
  obtain ⟨E, hE⟩ : ∃ E, E = (f2_worthBy k1 σ) := ⟨_, rfl⟩
  rw [← hE]
  refine lv_iconst (v := 0) X.1 X.2.1 dX2_worthBy_0 (by decide) ?_
  refine lv_istore_n (lv' := [(2, .int _), (0, .ref _), (1, .ref _)]) X.1 X.2.1 dX2_worthBy_1 rfl hl (by decide) rfl (fun ls hl => ?_)
  refine lv_aload_n X.1 X.2.1 dX2_worthBy_2 rfl (lv_at hl 1 rfl) ?_
  refine lv_iconst (v := 0) X.1 X.2.1 dX2_worthBy_3 (by decide) ?_
  refine p2_4 X I (k := 13) (by decide) rfl lf_X2_63 dX2_worthBy_4 (fun H locs I => ?_)
  refine lv_iconst (v := 0) X.1 X.2.1 dX2_worthBy_7 (by decide) ?_
  refine lv_istore_n (lv' := [(3, .int _), (2, .int _), (0, .ref _), (1, .ref _)]) X.1 X.2.1 dX2_worthBy_8 rfl hl (by decide) rfl (fun ls hl => ?_)
  exact c2_worthBy_c9 X hk1 _  _ _ _ _ _ _ _ I (lv_sub hl [2, 3, 1, 0] rfl) (fu1_lt _) (hE.trans (rfl))
