/-! games, rests, rosters -/
def clm (g x : Int32) : Int32 := if g + x < 30 then g + x else 30
noncomputable def sC (LL : List LW) (hd : Int32) (m : SI) (h k : Nat) : Int32 := sN LL hd m h (clm (m 140 h) (nI k)) 0
theorem clm_bnd {g : Int32} {k : Nat} (h : Bnd g 0 30) (hk : k ≤ 9) : Bnd (clm g (nI k)) 0 100 := by
  obtain ⟨n, hn, rfl⟩ := bnd_nI (hi := 30) h
  unfold clm
  rw [nI_add]
  split
  · exact nI_bnd (by omega) (by omega)
  · exact ⟨by decide, by decide⟩
theorem sC_fr {LL : List LW} {hd : Int32} {m m' : SI} {h k : Nat} (F : FM m m') : sC LL hd m' h k = sC LL hd m h k := by
  unfold sC
  rw [(sN_fr (LL := LL) (hd := hd) (F 138 (by decide) (by decide)) (F 140 (by decide) (by decide))).2, F 140 (by decide) (by decide)]
theorem claim_c {LL : List LW} {hd : Int32} {H B h k : Nat} {c m : SI} (T : TR H B c m) (L : LR LL hd c m) (D : DN H c m) (hh : h < H) (hk : k ≤ 9) : ∃ c', f11_standsClaimed c (nI h) (nI k) = (sC LL hd m h k, c') ∧ SC c c' := by
  unfold f11_standsClaimed
  rw [gr_c T D hh]
  obtain ⟨c', e, S⟩ := standsNow_c (LL := LL) (hd := hd) T L D hh (clm_bnd (D.1 h hh).2 hk)
  unfold clm at e
  rw [e]
  exact ⟨c', rfl, S⟩
theorem claim_m {LL : List LW} {hd : Int32} {H B h k : Nat} {c m : SI} (T : TR H B c m) (L : LR LL hd c m) (D : DN H c m) (hh : h < H) (hk : k ≤ 9) : ∃ m', f12_claimOf m (nI h) (nI k) = (sC LL hd m h k, m') ∧ o12_claimOf m (nI h) (nI k) ∧ FM m m' := by
  have hH := T.1
  have M := DN_MB D (by omega)
  have hw : R6 ((m 140 8 + sD m h) + 0) := by rw [Int32.add_zero]; exact bnd_r6 (tD_bnd T M hh).2 (by decide) (by decide)
  obtain ⟨m', e, o, F⟩ := standsIf_m (LL := LL) (hd := hd) (w := 0) T L M hh (clm_bnd (D.1 h hh).2 hk) hw
  unfold clm at e o
  unfold f12_claimOf o12_claimOf
  rw [idx (by omega), e]
  exact ⟨m', rfl, ⟨vpx (by omega), o, trivial⟩, F⟩
theorem game_m {LL : List LW} {hd : Int32} {H B h k : Nat} {c m : SI} (T : TR H B c m) (L : LR LL hd c m) (D : DN H c m) (hh : h < H) (hk : k ≤ 9) (y : Int32) : ∃ m', f12_gameOf m (nI h) (nI k) y = (f11_gain (sC LL hd m h k) (nI k) y, m') ∧ o12_gameOf m (nI h) (nI k) y ∧ FM m m' := by
  obtain ⟨m', e, o, F⟩ := claim_m (LL := LL) (hd := hd) T L D hh hk
  unfold f12_gameOf o12_gameOf f11_gain
  rw [e]
  refine ⟨m', ?_, ⟨o, ?_⟩, F⟩
  · dsimp only
    split <;> rfl
  · split <;> trivial
theorem two_or {H B : Nat} {c m : SI} (T : TR H B c m) (x y : Int32) : (∃ h k, h < H ∧ k < H ∧ h ≠ k ∧ x = nI h ∧ y = nI k ∧ f11_arePlaying c x y = true ∧ f12_areTwo m x y = true) ∨ (f11_arePlaying c x y = false ∧ f12_areTwo m x y = false) := by
  have hH := T.1
  unfold f11_arePlaying f12_areTwo
  rcases hse_or T x with ⟨h, hh, rfl, y1, y2⟩ | ⟨y1, y2, _⟩
  · rw [y1, y2, if_pos rfl, if_pos rfl]
    rcases hse_or T y with ⟨k, hk, rfl, z1, z2⟩ | ⟨z1, z2, _⟩
    · rw [z1, z2, if_pos rfl]
      by_cases e : nI h = nI k
      · rw [if_pos e]; exact Or.inr ⟨rfl, rfl⟩
      · rw [if_neg e]; exact Or.inl ⟨h, k, hh, hk, fun q => e (q ▸ rfl), rfl, rfl, rfl, rfl⟩
    · rw [z1, z2, if_neg Bool.false_ne_true]; exact Or.inr ⟨rfl, rfl⟩
  · rw [y1, y2, if_neg Bool.false_ne_true, if_neg Bool.false_ne_true]; exact Or.inr ⟨rfl, rfl⟩
theorem clm_or (x : Int32) : (∃ k, k ≤ 9 ∧ x = nI k ∧ f11_isClaim x = true ∧ f12_in x 0 9 = true) ∨ (f11_isClaim x = false ∧ f12_in x 0 9 = false) := by
  unfold f11_isClaim
  rcases in_nat (x := x) (k := 9) (by decide) with ⟨j, hj, rfl, i1, i2, i3, i4⟩ | ⟨i1, i2⟩ | ⟨i1, i2, i3, i4⟩
  · left
    refine ⟨j, hj, rfl, ?_, i1⟩
    rw [if_neg i2, if_neg (show ¬ (10 : Int32) ≤ nI j from nI_ge (b := 10) (by omega) (by decide))]
  · right
    exact ⟨by rw [if_pos i2], i1⟩
  · right
    obtain ⟨j, hj, rfl⟩ := nI_of i2
    refine ⟨?_, i1⟩
    rw [if_neg i2, if_pos (show (10 : Int32) ≤ nI j from nI_le (a := 10) (by have := (nI_ltI (a := 9) (by decide) hj).mp i4; omega) hj)]
theorem t_game {G : Nat} {c m : SI} (I : INV G c m) (x y p q z : Int32) : RUN G (f11_game c x y p q z) (f12_game m x y p q z) (o12_game m x y p q z) := by
  obtain ⟨H, B, LL, hd, T, L, D⟩ := INV_pick I
  unfold f11_game f12_game o12_game
  rcases two_or T x y with ⟨h, k, hh, hk, _, rfl, rfl, y1, y2⟩ | ⟨y1, y2⟩
  · rw [y1, y2, if_pos rfl, if_pos rfl, if_pos rfl]
    rcases clm_or p with ⟨a, ha, rfl, p1, p2⟩ | ⟨p1, p2⟩
    · rw [p1, p2, if_pos rfl, if_pos rfl, if_pos rfl]
      rcases clm_or q with ⟨b, hb, rfl, q1, q2⟩ | ⟨q1, q2⟩
      · rw [q1, q2, if_pos rfl, if_pos rfl, if_pos rfl]
        rcases in_nat (x := z) (k := 1) (by decide) with ⟨j, hj, rfl, i1, i2, i3, i4⟩ | ⟨i1, i2⟩ | ⟨i1, i2, i3, i4⟩
        · rw [show f12_in (nI j) 0 1 = true from i1, if_pos rfl, if_pos rfl, if_neg i2, if_pos (show nI j ≤ 1 from i3)]
          have : j = 0 ∨ j = 1 := by omega
          rcases this with rfl | rfl
          · obtain ⟨c', e1, S⟩ := claim_c (LL := LL) (hd := hd) T L D hh ha
            obtain ⟨m', e2, o, F⟩ := game_m (LL := LL) (hd := hd) T L D hh ha (nI b)
            rw [if_pos (show nI 0 = 0 from rfl), if_pos (show nI 0 = 0 from rfl), if_pos (show nI 0 = 0 from rfl), e1, e2]
            exact ⟨rfl, ⟨o, trivial⟩, INV_sx I (SC_SX S) F⟩
          · obtain ⟨c', e1, S⟩ := claim_c (LL := LL) (hd := hd) T L D hk hb
            obtain ⟨m', e2, o, F⟩ := game_m (LL := LL) (hd := hd) T L D hk hb (nI a)
            rw [if_neg (show ¬ nI 1 = 0 by decide), if_neg (show ¬ nI 1 = 0 by decide), if_neg (show ¬ nI 1 = 0 by decide), e1, e2]
            exact ⟨rfl, ⟨o, trivial⟩, INV_sx I (SC_SX S) F⟩
        · rw [show f12_in z 0 1 = false from i1, if_neg Bool.false_ne_true, if_neg Bool.false_ne_true, if_pos i2]; exact ⟨rfl, trivial, I⟩
        · rw [show f12_in z 0 1 = false from i1, if_neg Bool.false_ne_true, if_neg Bool.false_ne_true, if_neg i2, if_neg (show ¬ z ≤ 1 from i3)]; exact ⟨rfl, trivial, I⟩
      · rw [q1, q2, if_neg Bool.false_ne_true, if_neg Bool.false_ne_true, if_neg Bool.false_ne_true]; exact ⟨rfl, trivial, I⟩
    · rw [p1, p2, if_neg Bool.false_ne_true, if_neg Bool.false_ne_true, if_neg Bool.false_ne_true]; exact ⟨rfl, trivial, I⟩
  · rw [y1, y2, if_neg Bool.false_ne_true, if_neg Bool.false_ne_true, if_neg Bool.false_ne_true]; exact ⟨rfl, trivial, I⟩
theorem best_in {k : Nat} {σ : SI} {a b g : Int32} {f : Nat → Int32} (hf : ∀ v, v < 10 → σ k v = f v) : ∀ (fu v : Nat), v ≤ 10 → 10 < v + fu → (f11_isBest_c14 k 10 σ a b g fu (nI v) = true ↔ ∀ w, v ≤ w → w < 10 → f11_gain (f w) (nI w) b ≤ g) := by
  intro fu
  induction fu with
  | zero => intro v h1 h2; omega
  | succ fu ih =>
    intro v h1 h2
    rw [f11_isBest_c14]
    by_cases q : v = 10
    · subst q
      rw [if_pos (show (10 : Int32) ≤ nI 10 by decide)]
      exact ⟨fun _ w a b => by omega, fun _ => rfl⟩
    · rw [if_neg (show ¬ (10 : Int32) ≤ nI v from nI_ge (b := 10) (by omega) (by decide)), cell_at (by omega) (by decide), hf v (by omega), nI_1]
      by_cases u : f11_gain (f v) (nI v) b ≤ g
      · rw [if_pos u, ih (v + 1) (by omega) (by omega)]
        exact ⟨fun z w h3 h4 => by
          by_cases e : w = v
          · subst e; exact u
          · exact z w (by omega) h4, fun z w h3 h4 => z w (by omega) h4⟩
      · rw [if_neg u]
        exact ⟨fun z => absurd z Bool.false_ne_true, fun z => absurd (z v (Nat.le_refl _) (by omega)) u⟩
theorem rest_in {LL : List LW} {hd : Int32} {H B h k a b : Nat} {f1 f2 : Nat → Int32} (hh : h < H) (hk : k < H) (ha : a ≤ 9) (hb : b ≤ 9) : ∀ (fu v : Nat) (c m : SI), TR H B c m → LR LL hd c m → DN H c m → (∀ v, v ≤ 9 → sC LL hd m h v = f1 v) → (∀ v, v ≤ 9 → sC LL hd m k v = f2 v) → v ≤ 10 → 10 < v + fu → ∃ r m', f12_isRest_c3 (nI h) (nI k) (nI a) (nI b) fu (nI v) m = (r, m') ∧ o12_isRest_c3 (nI h) (nI k) (nI a) (nI b) fu (nI v) m ∧ FM m m' ∧ (r = true ↔ ∀ w, v ≤ w → w < 10 → f11_gain (f1 w) (nI w) (nI b) ≤ f11_gain (f1 a) (nI a) (nI b) ∧ f11_gain (f2 w) (nI w) (nI a) ≤ f11_gain (f2 b) (nI b) (nI a)) := by
  intro fu
  induction fu with
  | zero => intro v c m _ _ _ _ _ h1 h2; omega
  | succ fu ih =>
    intro v c m T L D w1 w2 h1 h2
    rw [f12_isRest_c3, o12_isRest_c3]
    by_cases q : v = 10
    · subst q
      rw [if_pos (show (10 : Int32) ≤ nI 10 by decide), if_pos (show (10 : Int32) ≤ nI 10 by decide)]
      exact ⟨true, m, rfl, trivial, FM_rf m, fun _ w a b => by omega, fun _ => rfl⟩
    · have nlt : ¬ (10 : Int32) ≤ nI v := nI_ge (b := 10) (by omega) (by decide)
      rw [if_neg nlt, if_neg nlt, nI_1]
      obtain ⟨m1, e1, o1, F1⟩ := game_m (LL := LL) (hd := hd) (k := v) T L D hh (by omega) (nI b)
      rw [e1, w1 v (by omega)]
      dsimp only
      have T1 := TR_fm T F1
      have L1 := LR_fm L F1
      have D1 := DN_fr D rfl rfl (F1 140 (by decide) (by decide))
      obtain ⟨m2, e2, o2, F2⟩ := game_m (LL := LL) (hd := hd) (k := a) T1 L1 D1 hh (by omega) (nI b)
      rw [e2, sC_fr F1, w1 a ha]
      dsimp only
      have T2 := TR_fm T1 F2
      have L2 := LR_fm L1 F2
      have D2 := DN_fr D1 rfl rfl (F2 140 (by decide) (by decide))
      by_cases u : f11_gain (f1 a) (nI a) (nI b) < f11_gain (f1 v) (nI v) (nI b)
      · rw [if_pos u, if_pos u]
        refine ⟨false, m2, rfl, ⟨o1, o2, trivial⟩, FM_tr F1 F2, fun z => absurd z Bool.false_ne_true, fun z => ?_⟩
        have := (z v (Nat.le_refl _) (by omega)).1
        rw [lt_ti] at u
        rw [le_ti] at this
        omega
      · rw [if_neg u, if_neg u]
        obtain ⟨m3, e3, o3, F3⟩ := game_m (LL := LL) (hd := hd) (k := v) T2 L2 D2 hk (by omega) (nI a)
        rw [e3, sC_fr (FM_tr F1 F2), w2 v (by omega)]
        dsimp only
        have T3 := TR_fm T2 F3
        have L3 := LR_fm L2 F3
        have D3 := DN_fr D2 rfl rfl (F3 140 (by decide) (by decide))
        obtain ⟨m4, e4, o4, F4⟩ := game_m (LL := LL) (hd := hd) (k := b) T3 L3 D3 hk (by omega) (nI a)
        have F := FM_tr (FM_tr F1 F2) (FM_tr F3 F4)
        rw [e4, sC_fr (FM_tr (FM_tr F1 F2) F3), w2 b hb]
        dsimp only
        by_cases u2 : f11_gain (f2 v) (nI v) (nI a) ≤ f11_gain (f2 b) (nI b) (nI a)
        · rw [if_pos u2, if_pos u2]
          have D4 := DN_fr D3 rfl rfl (F4 140 (by decide) (by decide))
          obtain ⟨r, m', i1, i2, i3, i4⟩ := ih (v + 1) c m4 (TR_fm T3 F4) (LR_fm L3 F4) D4 (fun v hv => by rw [sC_fr F]; exact w1 v hv) (fun v hv => by rw [sC_fr F]; exact w2 v hv) (by omega) (by omega)
          refine ⟨r, m', i1, ⟨o1, o2, o3, o4, i2⟩, FM_tr F i3, fun z w h3 h4 => ?_, fun z => i4.mpr fun w h3 h4 => z w (by omega) h4⟩
          by_cases e : w = v
          · subst e
            refine ⟨?_, u2⟩
            rw [le_ti]
            rw [lt_ti] at u
            omega
          · exact i4.mp z w (by omega) h4
        · rw [if_neg u2, if_neg u2]
          exact ⟨false, m4, rfl, ⟨o1, o2, o3, o4, trivial⟩, F, fun z => absurd z Bool.false_ne_true, fun z => absurd (z v (Nat.le_refl _) (by omega)).2 u2⟩
theorem best_at {k : Nat} {σ : SI} {a b : Nat} {f : Nat → Int32} (hf : ∀ v, v < 10 → σ k v = f v) (ha : a ≤ 9) : f11_isBest k 10 σ (nI a) (nI b) = true ↔ ∀ w, w < 10 → f11_gain (f w) (nI w) (nI b) ≤ f11_gain (f a) (nI a) (nI b) := by
  unfold f11_isBest
  rw [cell_at (by omega) (by decide), hf a (by omega)]
  have := best_in (k := k) (σ := σ) (a := nI a) (b := nI b) (g := f11_gain (f a) (nI a) (nI b)) hf 11 0 (by omega) (by omega)
  rw [show fu1 ((Int32.toInt (10 : Int32) - Int32.toInt (0 : Int32)).toNat) = 11 from fu_bd (a := 10) (by decide)]
  exact this.trans ⟨fun z w h => z w (Nat.zero_le _) h, fun z w _ h => z w h⟩
theorem divmod10 {j : Nat} (h : j < 2 ^ 31) : nI j / 10 = nI (j / 10) ∧ nI j - nI j / 10 * 10 = nI (j % 10) := ⟨nI_divI (b := 10) h (by decide), nI_modI (b := 10) h (by decide)⟩
theorem pairs_in {LL : List LW} {hd : Int32} {H B h k : Nat} {f1 f2 : Nat → Int32} {c : SI} {z : Int32} (hh : h < H) (hk : k < H) (g1 : ∀ v, v < 10 → c 41 v = f1 v) (g2 : ∀ v, v < 10 → c 42 v = f2 v) : ∀ (fu j n : Nat) (m : SI), TR H B c m → LR LL hd c m → DN H c m → (∀ v, v ≤ 9 → sC LL hd m h v = f1 v) → (∀ v, v ≤ 9 → sC LL hd m k v = f2 v) → j ≤ 100 → 100 < j + fu → ∃ r m', f11_rests_c65 c (nI h) (nI k) z (fun y1_4 _ => if z = -1 then (y1_4, c) else (-1, c)) fu (nI n) (nI j) = (r, c) ∧ f12_rests_c22 (nI h) (nI k) z fu (nI n) (nI j) m = (r, m') ∧ o12_rests_c22 (nI h) (nI k) z fu (nI n) (nI j) m ∧ FM m m' := by
  intro fu
  induction fu with
  | zero => intro j n m _ _ _ _ _ h1 h2; omega
  | succ fu ih =>
    intro j n m T L D w1 w2 h1 h2
    rw [f11_rests_c65, f12_rests_c22, o12_rests_c22]
    by_cases q : j = 100
    · subst q
      have le : (100 : Int32) ≤ nI 100 := by decide
      rw [if_pos le, if_pos le, if_pos le]
      by_cases u : z = -1
      · rw [if_pos u, if_pos u, if_pos u]; exact ⟨_, m, rfl, rfl, trivial, FM_rf m⟩
      · rw [if_neg u, if_neg u, if_neg u]; exact ⟨_, m, rfl, rfl, trivial, FM_rf m⟩
    · have nle : ¬ (100 : Int32) ≤ nI j := nI_ge (b := 100) (by omega) (by decide)
      obtain ⟨e1, e2⟩ := divmod10 (j := j) (by omega)
      have ha : j / 10 ≤ 9 := by omega
      have hb : j % 10 ≤ 9 := by omega
      rw [if_neg nle, if_neg nle, if_neg nle, e2, e1, nI_1, nI_1]
      obtain ⟨r, m1, i1, i2, F, i4⟩ := rest_in (LL := LL) (hd := hd) hh hk ha hb 11 0 c m T L D w1 w2 (by omega) (by omega)
      have ei : f12_isRest m (nI h) (nI k) (nI (j / 10)) (nI (j % 10)) = (r, m1) := by
        unfold f12_isRest
        rw [show fu1 ((Int32.toInt (10 : Int32) - Int32.toInt (0 : Int32)).toNat) = 11 from fu_bd (a := 10) (by decide)]
        exact i1
      have oi : o12_isRest m (nI h) (nI k) (nI (j / 10)) (nI (j % 10)) := by
        unfold o12_isRest
        rw [show fu1 ((Int32.toInt (10 : Int32) - Int32.toInt (0 : Int32)).toNat) = 11 from fu_bd (a := 10) (by decide)]
        exact i2
      rw [ei]
      dsimp only
      have b1 := best_at (k := 41) (σ := c) (b := j % 10) g1 ha
      have b2 := best_at (k := 42) (σ := c) (b := j / 10) g2 hb
      have nx := fun (n : Nat) => ih (j + 1) n m1 (TR_fm T F) (LR_fm L F) (DN_fr D rfl rfl (F 140 (by decide) (by decide))) (fun v hv => by rw [sC_fr F]; exact w1 v hv) (fun v hv => by rw [sC_fr F]; exact w2 v hv) (by omega) (by omega)
      by_cases hr : r = true
      · have al := i4.mp hr
        rw [if_pos (b1.mpr fun w hw => (al w (Nat.zero_le _) hw).1), if_pos (b2.mpr fun w hw => (al w (Nat.zero_le _) hw).2), if_pos hr, if_pos hr]
        by_cases u : nI n = z
        · rw [if_pos u, if_pos u, if_pos u]; exact ⟨_, m1, rfl, rfl, ⟨oi, trivial⟩, F⟩
        · rw [if_neg u, if_neg u, if_neg u]
          obtain ⟨r', m', k1, k2, k3, k4⟩ := nx (n + 1)
          exact ⟨r', m', k1, k2, ⟨oi, k3⟩, FM_tr F k4⟩
      · rw [if_neg hr, if_neg hr]
        obtain ⟨r', m', k1, k2, k3, k4⟩ := nx n
        refine ⟨r', m', ?_, k2, ⟨oi, k3⟩, FM_tr F k4⟩
        rw [← k1]
        by_cases p1 : f11_isBest 41 10 c (nI (j / 10)) (nI (j % 10)) = true
        · rw [if_pos p1]
          by_cases p2 : f11_isBest 42 10 c (nI (j % 10)) (nI (j / 10)) = true
          · exact absurd (i4.mpr fun w _ hw => ⟨b1.mp p1 w hw, b2.mp p2 w hw⟩) hr
          · rw [if_neg p2]
        · rw [if_neg p1]
theorem pairs_no {c : SI} {x y z : Int32} (hz : z < -1) : ∀ (fu j n : Nat), n ≤ j → j ≤ 100 → f11_rests_c65 c x y z (fun y1_4 _ => if z = -1 then (y1_4, c) else (-1, c)) fu (nI n) (nI j) = (-1, c) := by
  have z1 : ¬ z = -1 := fun e => by rw [e] at hz; exact absurd hz (by decide)
  have zn : ∀ n, n < 300 → ¬ nI n = z := fun n hn e => by
    rw [← e, lt_ti, nI_toInt (by omega), ti_m1] at hz
    omega
  intro fu
  induction fu with
  | zero =>
    intro j n _ _
    rw [f11_rests_c65]
    exact if_neg z1
  | succ fu ih =>
    intro j n h1 h2
    rw [f11_rests_c65]
    by_cases q : j = 100
    · subst q
      rw [if_pos (show (100 : Int32) ≤ nI 100 by decide)]
      exact if_neg z1
    · rw [if_neg (show ¬ (100 : Int32) ≤ nI j from nI_ge (b := 100) (by omega) (by decide)), nI_1, nI_1, if_neg (zn n (by omega)), ih (j + 1) n (by omega) (by omega), ih (j + 1) (n + 1) (by omega) (by omega)]
      split
      · split <;> rfl
      · rfl
theorem fill_in {LL : List LW} {hd : Int32} {H B h k : Nat} {m : SI} {z : Int32} (hh : h < H) (hk : k < H) : ∀ (fu v : Nat) (c : SI), TR H B c m → LR LL hd c m → DN H c m → (∀ w, w < v → c 41 w = sC LL hd m h w ∧ c 42 w = sC LL hd m k w) → v ≤ 10 → 10 < v + fu → ∃ c', f11_rests_c14 (nI h) (nI k) z fu (nI v) c = f11_rests_c65 c' (nI h) (nI k) z (fun y1_4 _ => if z = -1 then (y1_4, c') else (-1, c')) 101 (nI 0) (nI 0) ∧ SX c c' ∧ (∀ w, w < 10 → c' 41 w = sC LL hd m h w ∧ c' 42 w = sC LL hd m k w) := by
  intro fu
  induction fu with
  | zero => intro v c _ _ _ _ h1 h2; omega
  | succ fu ih =>
    intro v c T L D hf h1 h2
    rw [f11_rests_c14]
    by_cases q : v = 10
    · subst q
      rw [if_pos (show (10 : Int32) ≤ nI 10 by decide), show fu1 ((Int32.toInt (100 : Int32) - Int32.toInt (0 : Int32)).toNat) = 101 from fu_bd (a := 100) (by decide)]
      exact ⟨c, rfl, SX_rf c, fun w hw => hf w hw⟩
    · rw [if_neg (show ¬ (10 : Int32) ≤ nI v from nI_ge (b := 10) (by omega) (by decide)), nI_1]
      obtain ⟨c1, e1, S1⟩ := claim_c (LL := LL) (hd := hd) (k := v) T L D hh (by omega)
      rw [e1]
      dsimp only
      rw [set_at (k := 41) (by omega) (by decide)]
      generalize hs2 : sp c1 41 v (sC LL hd m h v) = c2
      have X1 : SX c c2 := by rw [← hs2]; exact SX_tr (SC_SX S1) (SX_sp (by decide))
      have T2 := TR_sx T X1
      have L2 := LR_sx L X1
      have D2 := DN_fr (m' := m) D (sx24 X1) (sx25 X1) rfl
      obtain ⟨c3, e3, S3⟩ := claim_c (LL := LL) (hd := hd) (k := v) T2 L2 D2 hk (by omega)
      rw [e3]
      dsimp only
      rw [set_at (k := 42) (by omega) (by decide)]
      generalize hs4 : sp c3 42 v (sC LL hd m k v) = c4
      have X : SX c c4 := by rw [← hs4]; exact SX_tr X1 (SX_tr (SC_SX S3) (SX_sp (by decide)))
      have e41 : c4 41 = upd (c 41) v (sC LL hd m h v) := by rw [← hs4, sp_n (by decide), S3.1 41 (by decide) (by decide), ← hs2, sp_s, S1.1 41 (by decide) (by decide)]
      have e42 : c4 42 = upd (c 42) v (sC LL hd m k v) := by rw [← hs4, sp_s, S3.1 42 (by decide) (by decide), ← hs2, sp_n (by decide), S1.1 42 (by decide) (by decide)]
      obtain ⟨c', i1, i2, i3⟩ := ih (v + 1) c4 (TR_sx T X) (LR_sx L X) (DN_fr (m' := m) D (sx24 X) (sx25 X) rfl) (fun w hw => by
        rw [e41, e42]
        by_cases r : w = v
        · subst r; rw [upd_s, upd_s]; exact ⟨rfl, rfl⟩
        · rw [upd_n _ _ r, upd_n _ _ r]; exact hf w (by omega)) (by omega) (by omega)
      exact ⟨c', i1, SX_tr X i2, i3⟩
theorem t_rests {G : Nat} {c m : SI} (I : INV G c m) (x y z : Int32) : RUN G (f11_rests c x y z) (f12_rests m x y z) (o12_rests m x y z) := by
  obtain ⟨H, B, LL, hd, T, L, D⟩ := INV_pick I
  unfold f11_rests f12_rests o12_rests
  rcases two_or T x y with ⟨h, k, hh, hk, _, rfl, rfl, y1, y2⟩ | ⟨y1, y2⟩
  · rw [y1, y2, if_pos rfl, if_pos rfl, if_pos rfl, show fu1 ((Int32.toInt (10 : Int32) - Int32.toInt (0 : Int32)).toNat) = 11 from fu_bd (a := 10) (by decide), show fu1 ((Int32.toInt (100 : Int32) - Int32.toInt (0 : Int32)).toNat) = 101 from fu_bd (a := 100) (by decide)]
    obtain ⟨c', e1, X, f⟩ := fill_in (LL := LL) (hd := hd) (z := z) hh hk 11 0 c T L D (fun w hw => by omega) (by omega) (by omega)
    rw [show f11_rests_c14 (nI h) (nI k) z 11 0 c = _ from e1]
    by_cases q : -1 ≤ z
    · rw [if_pos q, if_pos q]
      obtain ⟨r, m', i1, i2, i3, F⟩ := pairs_in (LL := LL) (hd := hd) (z := z) hh hk (fun v hv => (f v hv).1) (fun v hv => (f v hv).2) 101 0 0 m (TR_sx T X) (LR_sx L X) (DN_fr (m' := m) D (sx24 X) (sx25 X) rfl) (fun v _ => rfl) (fun v _ => rfl) (by omega) (by omega)
      rw [i1, show f12_rests_c22 (nI h) (nI k) z 101 0 0 m = _ from i2]
      exact ⟨rfl, i3, INV_sx I X F⟩
    · rw [if_neg q, if_neg q, pairs_no (by rw [le_ti] at q; rw [lt_ti]; omega) 101 0 0 (Nat.le_refl _) (by omega)]
      exact ⟨rfl, trivial, INV_sx I X (FM_rf m)⟩
  · rw [y1, y2, if_neg Bool.false_ne_true, if_neg Bool.false_ne_true, if_neg Bool.false_ne_true]; exact ⟨rfl, trivial, I⟩
theorem pow_at {B : Nat} (hB : B ≤ 5) : (1 : Int32) <<< (nI B &&& 31) = nI (2 ^ B) := by
  have : B = 0 ∨ B = 1 ∨ B = 2 ∨ B = 3 ∨ B = 4 ∨ B = 5 := by omega
  rcases this with rfl | rfl | rfl | rfl | rfl | rfl <;> decide
theorem ros_in {H B : Nat} {c m : SI} (T : TR H B c m) (x v w : Int32) (K : Int32 → Int32 → Int32) (oK : Int32 → Int32 → Prop) (hK : ∀ a b, K a b = K a 0) (hO : ∀ a b, oK a b = oK a 0) : ∀ (fu j : Nat) (a : Int32), j ≤ B → B < j + fu → f12_roster_c40 m x v w K fu a (nI j) = K (f11_strengthOfAll_c4 c w fu a (nI j)) 0 ∧ (oK (f11_strengthOfAll_c4 c w fu a (nI j)) 0 → o12_roster_c40 m x v w oK fu a (nI j)) := by
  have hB := T.2.1
  have e2 : m 123 26 = nI B := T.2.2.2.2.2.2.1
  intro fu
  induction fu with
  | zero => intro j a h1 h2; omega
  | succ fu ih =>
    intro j a h1 h2
    rw [f11_strengthOfAll_c4, f12_roster_c40, o12_roster_c40, bea_c T, e2]
    by_cases q : j = B
    · subst q
      rw [if_pos (nI_le (Nat.le_refl _) (by omega)), if_pos (nI_le (Nat.le_refl _) (by omega)), if_pos (nI_le (Nat.le_refl _) (by omega))]
      exact ⟨hK _ _, fun o => by rw [hO]; exact o⟩
    · have hj : j < B := by omega
      rw [if_neg (nI_ge hj (by omega)), if_neg (nI_ge hj (by omega)), if_neg (nI_ge hj (by omega)), str_at T hj, bit_same (by omega), nI_clamp (by omega), nI_1, Int32.add_zero]
      by_cases u : f12_has w (nI j) = true
      · rw [if_pos u, if_pos u, if_pos u]
        obtain ⟨i1, i2⟩ := ih (j + 1) (a + m 139 j) (by omega) (by omega)
        exact ⟨i1, fun o => ⟨vp_in_nI (by omega) (by decide), i2 o⟩⟩
      · rw [if_neg u, if_neg u, if_neg u]
        exact ih (j + 1) a (by omega) (by omega)
theorem ros_out {H B : Nat} {c m : SI} (T : TR H B c m) (x : Int32) : ∀ (fu : Nat) (v w : Int32), f11_roster_c28 c x fu v w = f12_roster_c24 m x fu v w ∧ o12_roster_c24 m x fu v w := by
  have hB := T.2.1
  have e2 : m 123 26 = nI B := T.2.2.2.2.2.2.1
  intro fu
  induction fu with
  | zero => intro v w; exact ⟨rfl, trivial⟩
  | succ fu ih =>
    intro v w
    rw [f11_roster_c28, f12_roster_c24, o12_roster_c24, bea_c T, e2]
    by_cases q : (1 : Int32) <<< (nI B &&& 31) ≤ w
    · rw [if_pos q, if_pos q, if_pos q]; exact ⟨rfl, trivial⟩
    · rw [if_neg q, if_neg q, if_neg q, fu_bd (by omega)]
      obtain ⟨k1, k2⟩ := ih v (w + 1)
      obtain ⟨l1, l2⟩ := ih w (w + 1)
      obtain ⟨i1, i2⟩ := ros_in T x v w (fun a _ => if a < x then f12_roster_c24 m x fu v (w + 1) else (if v = -1 then f12_roster_c24 m x fu w (w + 1) else (if fbitCount v ≤ fbitCount w then f12_roster_c24 m x fu v (w + 1) else f12_roster_c24 m x fu w (w + 1)))) (fun a _ => if a < x then o12_roster_c24 m x fu v (w + 1) else (if v = -1 then o12_roster_c24 m x fu w (w + 1) else (if fbitCount v ≤ fbitCount w then o12_roster_c24 m x fu v (w + 1) else o12_roster_c24 m x fu w (w + 1)))) (fun _ _ => rfl) (fun _ _ => rfl) (B + 1) 0 0 (by omega) (by omega)
      have e1 : f11_strengthOfAll c w = f11_strengthOfAll_c4 c w (B + 1) (nI 0) (nI 0) := by
        unfold f11_strengthOfAll
        rw [bea_c T, fu_bd (by omega)]; rfl
      rw [e1, k1, l1]
      refine ⟨i1.symm, i2 ?_⟩
      split
      · exact k2
      · split
        · exact l2
        · split
          · exact k2
          · exact l2
theorem t_roster {G : Nat} {c m : SI} (I : INV G c m) (x : Int32) : f11_roster c x = f12_roster m x ∧ o12_roster m x := by
  obtain ⟨H, B, LL, hd, T, L, D⟩ := INV_pick I
  have hB := T.2.1
  have e2 : m 123 26 = nI B := T.2.2.2.2.2.2.1
  unfold f11_roster f12_roster o12_roster
  rcases told_c T with ⟨e, hz, hq⟩ | ⟨e, hz, hq⟩
  · rw [e, if_pos rfl, if_neg hq, if_neg hq]
    rcases in_nat1 (x := x) (k := 200) (by decide) with ⟨j, h1, hj, rfl, i1, i2, i3, _⟩ | ⟨i1, i2⟩ | ⟨i1, i2, i3, i4⟩
    · rw [show f12_in (nI j) 1 200 = true from i1, if_pos rfl, if_pos rfl, if_neg i2, if_pos (show nI j ≤ 200 from i3), bea_c T, e2, pow_at hB]
      have hp : 2 ^ B ≤ 32 := Nat.pow_le_pow_right (by decide) hB
      have hp1 : 1 ≤ 2 ^ B := Nat.pow_pos (by decide)
      have ef : fu1 ((Int32.toInt (nI (2 ^ B)) - Int32.toInt (1 : Int32)).toNat) = 2 ^ B := by
        rw [fu1_eq, nI_toInt (by omega), ti_1]; omega
      rw [ef, fu_bd (by omega)]
      obtain ⟨k1, k2⟩ := ros_out T (nI j) (2 ^ B) (-1) 1
      have nle : ¬ nI (2 ^ B) ≤ 0 := nI_nle (by omega) (by omega)
      rw [f12_roster_c24, o12_roster_c24, e2, pow_at hB, if_neg nle, if_neg nle, fu_bd (by omega)]
      have z0 : ∀ (fu i : Nat), i ≤ B → f11_strengthOfAll_c4 c 0 fu 0 (nI i) = 0 := by
        intro fu
        induction fu with
        | zero => intro i _; rfl
        | succ fu ih =>
          intro i hi
          rw [f11_strengthOfAll_c4, bea_c T]
          by_cases q : i = B
          · subst q; rw [if_pos (nI_le (Nat.le_refl _) (by omega))]
          · have hn : ¬ f11_hasBit 0 (nI i) = true := by
              have : i = 0 ∨ i = 1 ∨ i = 2 ∨ i = 3 ∨ i = 4 := by omega
              rcases this with rfl | rfl | rfl | rfl | rfl <;> decide
            rw [if_neg (nI_ge (by omega) (by omega)), if_neg hn, nI_1]
            exact ih (i + 1) (by omega)
      obtain ⟨i1, i2⟩ := ros_in T (nI j) (-1) 0 (fun a _ => if a < nI j then f12_roster_c24 m (nI j) (2 ^ B) (-1) (0 + 1) else (if (-1 : Int32) = -1 then f12_roster_c24 m (nI j) (2 ^ B) 0 (0 + 1) else (if fbitCount (-1) ≤ fbitCount 0 then f12_roster_c24 m (nI j) (2 ^ B) (-1) (0 + 1) else f12_roster_c24 m (nI j) (2 ^ B) 0 (0 + 1)))) (fun a _ => if a < nI j then o12_roster_c24 m (nI j) (2 ^ B) (-1) (0 + 1) else (if (-1 : Int32) = -1 then o12_roster_c24 m (nI j) (2 ^ B) 0 (0 + 1) else (if fbitCount (-1) ≤ fbitCount 0 then o12_roster_c24 m (nI j) (2 ^ B) (-1) (0 + 1) else o12_roster_c24 m (nI j) (2 ^ B) 0 (0 + 1)))) (fun _ _ => rfl) (fun _ _ => rfl) (B + 1) 0 0 (by omega) (by omega)
      have lt : (0 : Int32) < nI j := nI_lt (a := 0) (by omega) (by omega)
      rw [z0 (B + 1) 0 (Nat.zero_le _)] at i1 i2
      rw [if_pos lt] at i1 i2
      exact ⟨k1.trans i1.symm, i2 k2⟩
    · rw [show f12_in x 1 200 = false from i1, if_neg Bool.false_ne_true, if_neg Bool.false_ne_true, if_pos i2]; exact ⟨rfl, trivial⟩
    · rw [show f12_in x 1 200 = false from i1, if_neg Bool.false_ne_true, if_neg Bool.false_ne_true, if_neg i2, if_neg (show ¬ x ≤ 200 from i3)]; exact ⟨rfl, trivial⟩
  · rw [e, if_neg Bool.false_ne_true, if_pos hq, if_pos hq]; exact ⟨rfl, trivial⟩
