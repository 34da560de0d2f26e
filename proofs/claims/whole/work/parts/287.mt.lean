/-! undo, image, back -/
theorem tb_c {c : SI} {n x : Nat} (hn0 : 1 ≤ n) (hn : n ≤ 40) (hx : x < 40) (e4 : c 26 4 = nI n) (e5 : c 26 5 = nI x) : ∃ c', f5_takeBack 24 c = (true, c') ∧ c' 26 4 = nI (n - 1) ∧ c' 26 5 = nI ((x + 39) % 40) ∧ (∀ j, j ≠ 4 → j ≠ 5 → c' 26 j = c 26 j) ∧ (∀ a, a ≠ 24 → a ≠ 25 → a ≠ 26 → c' a = c a) ∧ (∀ j, j < 7 → c' 25 j = c (44 + 2 * ((x + 39) % 40)) j) ∧ (∀ j, 1 ≤ j → j ≤ 8 → c' 24 j = c (43 + 2 * ((x + 39) % 40)) j) := by
  have hw : (x + 39) % 40 < 40 := Nat.mod_lt _ (by decide)
  have key : ∀ w : Int32, w = nI ((x + 39) % 40) → ∃ c', oq (f5_dayAt w) ((true, sp (sp c 26 5 w) 26 4 (nI n - 1)) : Bool × SI) (fun o => (true, f0_copy 24 o (sp (sp c 26 5 w) 26 4 (nI n - 1)))) = (true, c') ∧ c' 26 4 = nI (n - 1) ∧ c' 26 5 = nI ((x + 39) % 40) ∧ (∀ j, j ≠ 4 → j ≠ 5 → c' 26 j = c 26 j) ∧ (∀ a, a ≠ 24 → a ≠ 25 → a ≠ 26 → c' a = c a) ∧ (∀ j, j < 7 → c' 25 j = c (44 + 2 * ((x + 39) % 40)) j) ∧ (∀ j, 1 ≤ j → j ≤ 8 → c' 24 j = c (43 + 2 * ((x + 39) % 40)) j) := by
    intro w ew
    rw [ew, oq_some (dayAt_x hw), show nI n - 1 = nI (n - 1) from nI_sub (b := 1) hn0]
    generalize (x + 39) % 40 = z at hw
    obtain ⟨C1, C2, C3⟩ := copy_day (k := 24) (k1 := 43 + 2 * z) (sp (sp c 26 5 (nI z)) 26 4 (nI (n - 1))) (by omega) (by omega)
    refine ⟨_, rfl, ?_, ?_, fun j h1 h2 => ?_, fun a h1 h2 h3 => ?_, fun j hj => ?_, fun j h1 h2 => ?_⟩
    · rw [C1 26 (by decide) (by decide), sp_r]
    · rw [C1 26 (by decide) (by decide), sp_k (by decide), sp_r]
    · rw [C1 26 (by decide) (by decide), sp_k h1, sp_k h2]
    · rw [C1 a h1 h2, sp_n h3, sp_n h3]
    · have := C2 j hj
      rw [show 24 + 1 = 25 from rfl] at this
      rw [this, sp_n (by omega), sp_n (by omega), show 43 + 2 * z + 1 = 44 + 2 * z by omega]
    · rw [C3 j h1 h2, sp_n (by omega), sp_n (by omega)]
  unfold f5_takeBack
  rw [e4, if_pos (show (0 : Int32) < nI n from nI_lt (a := 0) (by omega) (by omega)), e5]
  by_cases q : x = 0
  · subst q
    rw [if_neg (show ¬ (0 : Int32) < nI 0 by decide)]
    exact key 39 rfl
  · rw [if_pos (show (0 : Int32) < nI x from nI_lt (a := 0) (by omega) (by omega))]
    exact key (nI x - 1) (by rw [show nI x - 1 = nI (x - 1) from nI_sub (b := 1) (by omega), show (x + 39) % 40 = x - 1 by omega])
theorem und_m {a : Nat} (ha : a < 40) : ∀ (fu v : Nat) (m : SI), v ≤ 255 → 255 < v + fu → m 123 32 = nI a → ∃ m', f12_undo_c21 fu (nI v) m = (nI a, m') ∧ o12_undo_c21 fu (nI v) m ∧ (∀ b, b ≠ 140 → m' b = m b) ∧ (∀ j, v ≤ j → j < 255 → m' 140 j = m 142 (255 * a + j)) ∧ (∀ j, j < v → m' 140 j = m 140 j) := by
  intro fu
  induction fu with
  | zero => intro v m h1 h2; omega
  | succ fu ih =>
    intro v m h1 h2 h3
    rw [f12_undo_c21, o12_undo_c21]
    by_cases q : v = 255
    · subst q
      have le : (255 : Int32) ≤ nI 255 := by decide
      rw [if_pos le, if_pos le, h3]
      exact ⟨m, rfl, trivial, fun _ _ => rfl, fun j x y => by omega, fun _ _ => rfl⟩
    · have nle : ¬ (255 : Int32) ≤ nI v := nI_ge (b := 255) (by omega) (by decide)
      have ix : (255 : Int32) * nI a + nI v = nI (255 * a + v) := by rw [show (255 : Int32) = nI 255 from rfl, show nI 255 * nI a = nI (255 * a) from pk_mul _ _, nI_add]
      rw [if_neg nle, if_neg nle, h3, ix, nI_clamp (by omega), nI_clamp (by omega), nI_1]
      obtain ⟨m', i1, i2, i3, i4, i5⟩ := ih (v + 1) (sp m 140 v (m 142 (255 * a + v))) (by omega) (by omega) (by rw [sp_n (by decide)]; exact h3)
      refine ⟨m', i1, ⟨vp_in_nI (by omega) (by decide), vp_in_nI (by omega) (by decide), i2⟩, fun b x => by rw [i3 b x, sp_n x], fun j x y => ?_, fun j x => by rw [i5 j (by omega), sp_k (by omega)]⟩
      by_cases e : j = v
      · subst e
        rw [i5 _ (by omega), sp_r]
      · rw [i4 j (by omega) y, sp_n (by decide)]
theorem t_undo {G : Nat} {c m : SI} (I : INV G c m) : RUN G (f11_undo c) (f12_undo m) (o12_undo m) := by
  obtain ⟨H, B, LL, hd, g, n, x, gs, J⟩ := I
  have J : IX0 G c m H B LL hd g n x gs := J
  obtain ⟨h1, hT, h3, hD, hL, hK, h7, h8, hg, h10⟩ := J
  have J : IX0 G c m H B LL hd g n x gs := ⟨h1, hT, h3, hD, hL, hK, h7, h8, hg, h10⟩
  have hH := hT.1
  obtain ⟨k1, k2, k3, k4, k5, k6, k7, k8⟩ := hK
  have ef : fu1 ((Int32.toInt (255 : Int32) - Int32.toInt (0 : Int32)).toNat) = 256 := fu_bd (a := 255) (by decide)
  unfold f11_undo f5_kept f12_undo o12_undo
  by_cases q : n = 0
  · subst q
    have e0 : m 123 32 = 0 := k4
    have tb : f5_takeBack 24 c = (false, c) := by
      unfold f5_takeBack
      rw [k3, if_neg (show ¬ (0 : Int32) < nI 0 by decide)]
    rw [tb, if_pos e0, if_pos e0]
    dsimp only
    rw [if_neg Bool.false_ne_true]
    exact ⟨rfl, trivial, IX0_inv J⟩
  · have e0 : ¬ m 123 32 = 0 := by rw [k4]; exact nI_ne0 (by omega) (by omega)
    obtain ⟨c', c1, c2, c3, c4, c5, c6, c7⟩ := tb_c (by omega) k1 k2 k3 k5
    rw [c1, if_neg e0, if_neg e0, ef]
    dsimp only
    rw [if_pos rfl, c2]
    have es : (sp m 123 32 (m 123 32 - 1)) 123 32 = nI (n - 1) := by rw [sp_r, k4]; exact nI_sub (b := 1) (by omega)
    obtain ⟨m', m1, m2, m3, m4, m5⟩ := und_m (a := n - 1) (by omega) 256 0 (sp m 123 32 (m 123 32 - 1)) (by decide) (by decide) es
    have m1' : f12_undo_c21 256 0 (sp m 123 32 (m 123 32 - 1)) = (nI (n - 1), m') := m1
    rw [m1']
    refine ⟨rfl, m2, IX0_inv (?_ : IX0 G c' m' H B LL hd (gs (n - 1)) (n - 1) ((x + 39) % 40) gs)⟩
    have hr : (x + 39) % 40 < 40 := Nat.mod_lt _ (by decide)
    obtain ⟨d1, d2⟩ := k8 (n - 1) (by omega)
    rw [show (x + 40 - n + (n - 1)) % 40 = (x + 39) % 40 by omega] at d1
    have c28 : c' 28 = c 28 := c5 28 (by decide) (by decide) (by decide)
    have m140 : ∀ j, j < 255 → m' 140 (0 + j) = m 142 (255 * (n - 1) + j) := fun j hj => by rw [Nat.zero_add, m4 j (Nat.zero_le _) hj, sp_n (by decide)]
    have m142 : m' 142 = m 142 := by rw [m3 142 (by decide), sp_n (by decide)]
    have m123 : ∀ j, j ≠ 32 → m' 123 j = m 123 j := fun j hj => by rw [m3 123 (by decide), sp_k hj]
    refine IX_day J (Nat.le_refl _) (fun a h => c5 a (by omega) (by omega) (by omega)) (by rw [c5 1 (by decide) (by decide) (by decide)]) (by rw [c5 13 (by decide) (by decide) (by decide)]) (by rw [c5 13 (by decide) (by decide) (by decide)]) (by rw [c5 0 (by decide) (by decide) (by decide)]) (c4 6 (by decide) (by decide)) (fun a h => by rw [m3 a (by omega), sp_n (by omega)]) (fun j h => m123 j (by omega)) (DAY_as hH d1 (fun j hj => by rw [show 43 + 2 * ((x + 39) % 40) + 1 = 44 + 2 * ((x + 39) % 40) by omega]; exact c6 j hj) c7 m140) (LOG_as d2 (fun j _ => by rw [c28]) m140) ?_ (Nat.le_trans (by have := (k7 (n - 1) n (by omega) (Nat.le_refl _)).1; rw [k6] at this; exact this) hg)
    refine ⟨by omega, hr, c2, by rw [m3 123 (by decide)]; exact es, c3, rfl, fun i j u v => k7 i j u (by omega), fun i hi => ?_⟩
    obtain ⟨d3, d4⟩ := k8 i (by omega)
    rw [show ((x + 39) % 40 + 40 - (n - 1) + i) % 40 = (x + 40 - n + i) % 40 by omega, c28, m142]
    have hq : (x + 40 - n + i) % 40 < 40 := Nat.mod_lt _ (by decide)
    exact ⟨DAY_as hH d3 (fun j _ => by rw [c5 _ (by omega) (by omega) (by omega)]) (fun j _ _ => by rw [c5 _ (by omega) (by omega) (by omega)]) (fun _ _ => rfl), d4⟩
theorem img_m : ∀ (fu v : Nat) (m : SI), v ≤ 255 → 255 < v + fu → ∃ m', f12_image_c11 fu (nI v) m = (m 140 12, m') ∧ o12_image_c11 fu (nI v) m ∧ (∀ b, b ≠ 152 → b ≠ 123 → m' b = m b) ∧ (∀ j, j ≠ 50 → m' 123 j = m 123 j) ∧ m' 123 50 = 1 ∧ (∀ j, v ≤ j → j < 255 → m' 152 j = m 140 j) ∧ (∀ j, j < v → m' 152 j = m 152 j) := by
  intro fu
  induction fu with
  | zero => intro v m h1 h2; omega
  | succ fu ih =>
    intro v m h1 h2
    rw [f12_image_c11, o12_image_c11]
    by_cases q : v = 255
    · subst q
      have le : (255 : Int32) ≤ nI 255 := by decide
      rw [if_pos le, if_pos le]
      exact ⟨_, rfl, trivial, fun b _ y => sp_n y, fun j y => sp_k y, sp_r, fun j x y => by omega, fun j _ => by rw [sp_n (by decide)]⟩
    · have nle : ¬ (255 : Int32) ≤ nI v := nI_ge (b := 255) (by omega) (by decide)
      rw [if_neg nle, if_neg nle, nI_clamp (by omega), nI_1]
      obtain ⟨m', i1, i2, i3, i4, i5, i6, i7⟩ := ih (v + 1) (sp m 152 v (m 140 v)) (by omega) (by omega)
      rw [sp_n (show 140 ≠ 152 by decide)] at i1
      refine ⟨m', i1, ⟨vp_in_nI (by omega) (by decide), vp_in_nI (by omega) (by decide), i2⟩, fun b x y => by rw [i3 b x y, sp_n x], fun j x => by rw [i4 j x, sp_n (by decide)], i5, fun j x y => ?_, fun j x => by rw [i7 j (by omega), sp_k (by omega)]⟩
      by_cases e : j = v
      · subst e
        rw [i7 _ (by omega), sp_r]
      · rw [i6 j (by omega) y, sp_n (by decide)]
theorem t_image {G : Nat} {c m : SI} (I : INV G c m) : RUN G (f11_image c) (f12_image m) (o12_image m) := by
  obtain ⟨H, B, LL, hd, g, n, x, gs, J⟩ := I
  have J : IX0 G c m H B LL hd g n x gs := J
  obtain ⟨h1, hT, h3, hD, hL, hK, h7, h8, hg, h10⟩ := J
  have J : IX0 G c m H B LL hd g n x gs := ⟨h1, hT, h3, hD, hL, hK, h7, h8, hg, h10⟩
  have hH := hT.1
  have ef : fu1 ((Int32.toInt (255 : Int32) - Int32.toInt (0 : Int32)).toNat) = 256 := fu_bd (a := 255) (by decide)
  unfold f11_image f12_image o12_image
  rcases told_c hT with ⟨e, hz, hq⟩ | ⟨e, hz, hq⟩
  · rw [e, if_pos rfl, if_neg hq, if_neg hq, ef]
    obtain ⟨m', m1, m2, m3, m4, m5, m6, m7⟩ := img_m 256 0 m (by decide) (by decide)
    have m1' : f12_image_c11 256 0 m = (m 140 12, m') := m1
    rw [m1']
    unfold f5_draw
    obtain ⟨C1, C2, C3⟩ := copy_day (k := 29) (k1 := 24) c (by decide) (by decide)
    dsimp only
    generalize f0_copy 29 24 c = s at C1 C2 C3
    generalize hc : sp (su s 31 (va_cpy (s 28) (s 31) 0 0 400)) 26 6 1 = c'
    have ca : ∀ a, a ≠ 26 → a ≠ 29 → a ≠ 30 → a ≠ 31 → c' a = c a := fun a x1 x2 x3 x4 => by rw [← hc, sp_n x1, su_n _ _ x4, C1 a x2 x3]
    have c26 : ∀ j, j ≠ 6 → c' 26 j = c 26 j := fun j hj => by rw [← hc, sp_k hj, su_n _ _ (by decide), C1 26 (by decide) (by decide)]
    have e6 : c' 24 6 = m 140 12 := by rw [ca 24 (by decide) (by decide) (by decide) (by decide)]; exact (DAY_DN hD).2.2.2.2.2.2.2.1.1
    have m152 : ∀ j, j < 255 → m' 152 (0 + j) = m 140 (0 + j) := fun j hj => by rw [Nat.zero_add, m6 j (Nat.zero_le _) hj]
    refine ⟨e6, m2, ?_⟩
    dsimp only
    refine IX0_inv (IX_img J (Nat.le_refl _) (fun a h => ca a (by omega) (by omega) (by omega) (by omega)) (by rw [ca 1 (by decide) (by decide) (by decide) (by decide)]) (by rw [ca 13 (by decide) (by decide) (by decide) (by decide)]) (by rw [ca 13 (by decide) (by decide) (by decide) (by decide)]) (by rw [ca 0 (by decide) (by decide) (by decide) (by decide)]) (c26 4 (by decide)) (c26 5 (by decide)) (fun a h => m3 a (by omega) (by omega)) (fun j h => m4 j (by omega)) (Or.inr ⟨by rw [← hc, sp_r], m5, g, hg, ?_, ?_⟩))
    · exact DAY_as hH hD (fun j hj => by rw [← hc, sp_n (by decide), su_n _ _ (by decide)]; exact C2 j hj) (fun j x y => by rw [← hc, sp_n (by decide), su_n _ _ (by decide)]; exact C3 j x y) m152
    · exact LOG_as hL (fun j hj => by rw [← hc, sp_n (by decide), su_s, cpy_at hj, C1 28 (by decide) (by decide)]) m152
  · rw [e, if_neg Bool.false_ne_true, if_pos hq, if_pos hq]; exact ⟨rfl, trivial, IX0_inv J⟩
theorem back_m : ∀ (fu v : Nat) (m : SI), v ≤ 255 → 255 < v + fu → (∀ j, j < v → m 140 j = m 152 j) → ∃ m', f12_back_c11 fu (nI v) m = (m 152 12, m') ∧ o12_back_c11 fu (nI v) m ∧ (∀ b, b ≠ 140 → b ≠ 123 → m' b = m b) ∧ (∀ j, j ≠ 32 → m' 123 j = m 123 j) ∧ m' 123 32 = 0 ∧ (∀ j, j < 255 → m' 140 j = m 152 j) := by
  intro fu
  induction fu with
  | zero => intro v m h1 h2; omega
  | succ fu ih =>
    intro v m h1 h2 h3
    rw [f12_back_c11, o12_back_c11]
    by_cases q : v = 255
    · subst q
      have le : (255 : Int32) ≤ nI 255 := by decide
      rw [if_pos le, if_pos le, h3 12 (by decide)]
      exact ⟨_, rfl, trivial, fun b _ y => sp_n y, fun j y => sp_k y, sp_r, fun j x => by rw [sp_n (by decide)]; exact h3 j x⟩
    · have nle : ¬ (255 : Int32) ≤ nI v := nI_ge (b := 255) (by omega) (by decide)
      rw [if_neg nle, if_neg nle, nI_clamp (by omega), nI_1]
      obtain ⟨m', i1, i2, i3, i4, i5, i6⟩ := ih (v + 1) (sp m 140 v (m 152 v)) (by omega) (by omega) (fun j hj => by
        rw [sp_n (show 152 ≠ 140 by decide)]
        by_cases e : j = v
        · subst e; rw [sp_r]
        · rw [sp_k e]; exact h3 j (by omega))
      rw [sp_n (show 152 ≠ 140 by decide)] at i1 i6
      exact ⟨m', i1, ⟨vp_in_nI (by omega) (by decide), vp_in_nI (by omega) (by decide), i2⟩, fun b x y => by rw [i3 b x y, sp_n x], fun j x => by rw [i4 j x, sp_n (by decide)], i5, i6⟩
theorem t_back {G : Nat} {c m : SI} (I : INV G c m) : RUN G (f11_back c) (f12_back m) (o12_back m) := by
  obtain ⟨H, B, LL, hd, g, n, x, gs, J⟩ := I
  have J : IX0 G c m H B LL hd g n x gs := J
  obtain ⟨h1, hT, h3, hD, hL, hK, h7, h8, hg, h10⟩ := J
  have J : IX0 G c m H B LL hd g n x gs := ⟨h1, hT, h3, hD, hL, hK, h7, h8, hg, h10⟩
  have hH := hT.1
  have ef : fu1 ((Int32.toInt (255 : Int32) - Int32.toInt (0 : Int32)).toNat) = 256 := fu_bd (a := 255) (by decide)
  unfold f11_back f12_back o12_back f5_bringBack
  rcases h7 with ⟨i1, i2⟩ | ⟨i1, i2, gi, i3, i4, i5⟩
  · rw [if_pos i1, if_pos i2, if_pos i2]
    dsimp only
    rw [if_neg Bool.false_ne_true]
    exact ⟨rfl, trivial, IX0_inv J⟩
  · rw [if_neg (show ¬ c 26 6 = 0 by rw [i1]; decide), if_neg (show ¬ m 123 50 = 0 by rw [i2]; decide), if_neg (show ¬ m 123 50 = 0 by rw [i2]; decide), ef]
    obtain ⟨m', m1, m2, m3, m4, m5, m6⟩ := back_m 256 0 m (by decide) (by decide) (fun j hj => by omega)
    have m1' : f12_back_c11 256 0 m = (m 152 12, m') := m1
    rw [m1']
    obtain ⟨C1, C2, C3⟩ := copy_day (k := 24) (k1 := 29) c (by decide) (by decide)
    dsimp only
    rw [if_pos rfl]
    generalize f0_copy 24 29 c = s at C1 C2 C3
    generalize hc : sp (su s 28 (va_cpy (s 31) (s 28) 0 0 400)) 26 4 0 = c'
    have ca : ∀ a, a ≠ 24 → a ≠ 25 → a ≠ 26 → a ≠ 28 → c' a = c a := fun a x1 x2 x3 x4 => by rw [← hc, sp_n x3, su_n _ _ x4, C1 a x1 x2]
    have c26 : ∀ j, j ≠ 4 → c' 26 j = c 26 j := fun j hj => by rw [← hc, sp_k hj, su_n _ _ (by decide), C1 26 (by decide) (by decide)]
    have c24 : ∀ j, 1 ≤ j → j ≤ 8 → c' 24 j = c 29 j := fun j x y => by rw [← hc, sp_n (by decide), su_n _ _ (by decide)]; exact C3 j x y
    have m140 : ∀ j, j < 255 → m' 140 (0 + j) = m 152 (0 + j) := fun j hj => by rw [Nat.zero_add, m6 j hj]
    obtain ⟨k1, k2, k3, k4, k5, k6, k7, k8⟩ := hK
    refine ⟨?_, m2, IX0_inv (?_ : IX0 G c' m' H B LL hd gi 0 x (fun _ => gi))⟩
    · rw [c24 6 (by decide) (by decide)]
      obtain ⟨_, _, _, _, _, _, _, b8, _⟩ := i4
      have := b8.1
      rwa [Nat.zero_add] at this
    · refine IX_day J (Nat.le_refl _) (fun a h => ca a (by omega) (by omega) (by omega) (by omega)) (by rw [ca 1 (by decide) (by decide) (by decide) (by decide)]) (by rw [ca 13 (by decide) (by decide) (by decide) (by decide)]) (by rw [ca 13 (by decide) (by decide) (by decide) (by decide)]) (by rw [ca 0 (by decide) (by decide) (by decide) (by decide)]) (c26 6 (by decide)) (fun a h => m3 a (by omega) (by omega)) (fun j h => m4 j (by omega)) ?_ ?_ ⟨by omega, k2, by rw [← hc, sp_r]; rfl, m5, (c26 5 (by decide)).trans k5, rfl, fun i j _ _ => ⟨Nat.le_refl _, Nat.le_add_right _ _⟩, fun i hi => absurd hi (Nat.not_lt_zero _)⟩ i3
      · exact DAY_as hH i4 (fun j hj => by rw [← hc, sp_n (by decide), su_n _ _ (by decide)]; exact C2 j hj) c24 m140
      · exact LOG_as i5 (fun j hj => by rw [← hc, sp_n (by decide), su_s, cpy_at hj, C1 31 (by decide) (by decide)]) m140
