/-! the route call -/
theorem t_route {G : Nat} {c m : SI} (I : INV G c m) (x : Int32) : RUN G (f11_route c x) (f12_route m x) (o12_route m x) := by
  obtain ⟨H, B, LL, hd, T, L, D⟩ := INV_pick I
  have hH := T.1
  unfold f11_route f12_route o12_route
  rcases told_c T with ⟨e, hz, hq⟩ | ⟨e, hz, hq⟩
  · rw [e, if_pos rfl, if_neg hq, if_neg hq]
    have M := DN_MB D hz
    rcases in_nat (x := x) (k := 2) (by decide) with ⟨j, hj, rfl, i1, i2, i3, _⟩ | ⟨i1, i2⟩ | ⟨i1, i2, i3, i4⟩
    · rw [show f12_in (nI j) 0 2 = true from i1, if_pos rfl, if_pos rfl, if_neg i2, if_pos (show nI j ≤ 2 from i3)]
      obtain ⟨LI, X2, E2, E3⟩ := setOut_c D hz
      unfold f4_findRoute f4_go f12_tryRouteR o12_tryRouteR
      rw [blk_eq, blk_eq]
      dsimp only
      generalize hs : sp (sp (sp (sp (f4_setOut c) 32 9 0) 32 10 0) 32 11 0) 32 12 (f4_setOut c 24 2) = s4
      generalize hm : sp (sp (sp m 123 36 (-1)) 123 37 0) 123 35 0 = m0
      have s4a : ∀ a, a ≠ 32 → s4 a = c a := fun a y => by rw [← hs, sp_n y, sp_n y, sp_n y, sp_n y, E2 a y]
      have s4j : ∀ i, i < 9 → s4 32 i = f4_setOut c 32 i := fun i y => by rw [← hs, sp_k (by omega), sp_k (by omega), sp_k (by omega), sp_k (by omega)]
      have m0a : ∀ a, a ≠ 123 → m0 a = m a := fun a y => by rw [← hm, sp_n y, sp_n y, sp_n y]
      have m0j : ∀ i, i < 35 ∨ 38 < i → m0 123 i = m 123 i := fun i y => by rw [← hm, sp_k (by omega), sp_k (by omega), sp_k (by omega)]
      have m036 : m0 123 36 = -1 := by rw [← hm, sp_k (by decide), sp_k (by decide), sp_r]
      generalize hm1 : sp (sp (sp (sp m0 123 35 0) 123 36 0) 123 37 0) 123 38 (m0 140 8) = m1
      have m1a : ∀ a, a ≠ 123 → m1 a = m a := fun a y => by rw [← hm1, sp_n y, sp_n y, sp_n y, sp_n y, m0a a y]
      have m1j : ∀ i, i < 35 ∨ 38 < i → m1 123 i = m 123 i := fun i y => by rw [← hm1, sp_k (by omega), sp_k (by omega), sp_k (by omega), sp_k (by omega), m0j i y]
      have e140 : m1 140 = m 140 := m1a 140 (by decide)
      have C4 : CF2 c s4 := CF2_32 s4a
      have F1 : RF2 0 m m1 := ⟨fun a y _ _ _ => m1a a y, m1j, fun i _ => by rw [m1a 143 (by decide)]⟩
      have T1 : TR H B s4 m1 := TR_sx (TR_r2 T F1) (CF2_SX C4)
      have L1 : LR LL hd s4 m1 := LR_sx (LR_r2 L F1) (CF2_SX C4)
      have M1 : MB H m1 := MB_fr M e140
      have I1 : LIT H s4 m1 := by
        unfold LIT
        rw [e140, s4j 3 (by decide), s4j 4 (by decide), s4j 5 (by decide), s4j 6 (by decide), s4a 24 (by decide), s4a 25 (by decide), ← E2 24 (by decide), ← E2 25 (by decide)]
        exact LI
      have B1 : BEST 0 0 0 (m 140 8) s4 m1 := by
        refine ⟨⟨?_, ?_, ?_, ?_⟩, ⟨?_, ?_, ?_⟩, ?_⟩
        · rw [← hs, sp_k (by decide), sp_k (by decide), sp_k (by decide), sp_r]; rfl
        · rw [← hs, sp_k (by decide), sp_k (by decide), sp_r]; rfl
        · rw [← hs, sp_k (by decide), sp_r]; rfl
        · rw [← hs, sp_r, E2 24 (by decide)]; exact D.2.2.1.1
        · rw [← hm1, sp_k (by decide), sp_k (by decide), sp_k (by decide), sp_r]; rfl
        · rw [← hm1, sp_k (by decide), sp_k (by decide), sp_r]; rfl
        · rw [← hm1, sp_k (by decide), sp_r]; rfl
        · rw [← hm1, sp_r, m0a 140 (by decide)]
      have u7 : uv m1 H ≤ 7 := Nat.le_trans (cnt_le _ H) hH
      have r7 : 0 + remS m1 H ≤ 1000 := by have := rem_le M1 H (Nat.le_refl _); omega
      obtain ⟨c', m', R', K', E', t', k1, k2, k3, k4, k5, k6, k7, k8, k9, k10, k11⟩ := go_both 7 7 8 0 0 0 0 0 0 (m 140 8) 1 s4 m1 u7 u7 (by omega) (by omega) (by decide) T1 L1 M1 I1 r7 B1 (Nat.le_refl _) (fun _ => Nat.le_refl _) (Nat.le_refl _) (by decide) (by decide) (by decide)
      have k1' : fGoD 8 s4 0 0 0 = c' := k1
      have efu : fu1 ((Int32.toInt ((f12_putAside m1 0) 123 25)).toNat + 1) = H + 2 := by
        obtain ⟨ma, p1, _, p3, _⟩ := aside m1 (d := 0) (by decide)
        have p1' : f12_putAside m1 0 = ma := p1
        rw [p1', p3 123 (by decide), hou_m T1]
        exact route_fu hH
      have lt1 : (-1 : Int32) < 0 := by decide
      have k2' : fm_tryRoute_D 9 m0 0 0 0 = m' := by
        show f12_tryRoute (fm_tryRoute_D 8) m0 0 0 0 = m'
        unfold f12_tryRoute
        rw [m036, if_pos lt1]
        dsimp only
        rw [hm1, efu]
        exact k2
      have k4' : om_tryRoute_D 9 m0 0 0 0 := by
        show o12_tryRoute (fm_tryRoute_D 8) (om_tryRoute_D 8) m0 0 0 0
        unfold o12_tryRoute
        rw [m036, if_pos lt1]
        dsimp only
        rw [hm1, efu]
        exact ⟨k3, k4⟩
      rw [k1', k2']
      obtain ⟨⟨c9, c10, c11, c12⟩, ⟨b1, b2, b3⟩, b4⟩ := k7
      rw [c9, c10, c11, c12, b1, b2, b3, b4]
      have K : KM m m' := by
        have F := RF2_tr F1 k6
        refine ⟨fun a y => F.1 a (by omega) (by omega) (by omega) (by omega), fun i y => F.2.1 i (by omega)⟩
      have V : INV G c' m' := INV_k I (SX_KC (CF2_SX (CF2_tr C4 k5))) K (Nat.le_refl _)
      rcases (by omega : j = 0 ∨ j = 1 ∨ j = 2) with rfl | rfl | rfl
      · rw [if_pos (show nI 0 = 0 from rfl), if_pos (show nI 0 = 0 from rfl), if_pos (show nI 0 = 0 from rfl)]
        by_cases q : nI K' = 0
        · rw [if_pos q, if_pos q, if_pos q]
          exact ⟨rfl, ⟨k4', trivial⟩, V⟩
        · rw [if_neg q, if_neg q, if_neg q]
          exact ⟨rfl, ⟨k4', trivial⟩, V⟩
      · have n0 : ¬ nI 1 = 0 := by decide
        rw [if_neg n0, if_neg n0, if_neg n0, if_pos (show nI 1 = 1 from rfl), if_pos (show nI 1 = 1 from rfl), if_pos (show nI 1 = 1 from rfl)]
        exact ⟨rfl, ⟨k4', trivial⟩, V⟩
      · have n0 : ¬ nI 2 = 0 := by decide
        have n1 : ¬ nI 2 = 1 := by decide
        rw [if_neg n0, if_neg n0, if_neg n0, if_neg n1, if_neg n1, if_neg n1]
        exact ⟨rfl, ⟨k4', trivial⟩, V⟩
    · rw [show f12_in x 0 2 = false from i1, if_neg Bool.false_ne_true, if_neg Bool.false_ne_true, if_pos i2]; exact ⟨rfl, trivial, I⟩
    · rw [show f12_in x 0 2 = false from i1, if_neg Bool.false_ne_true, if_neg Bool.false_ne_true, if_neg i2, if_neg (show ¬ x ≤ 2 from i3)]; exact ⟨rfl, trivial, I⟩
  · rw [e, if_neg Bool.false_ne_true, if_pos hq, if_pos hq]; exact ⟨rfl, trivial, I⟩
