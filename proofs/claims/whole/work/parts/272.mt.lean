/-! shorter, waits, stood, seen, log -/
theorem DN_sf {H : Nat} {c m c' m' : SI} (D : DN H c m) (S : SC c c') (F : FM m m') : DN H c' m' := DN_fr D (S.1 24 (by decide) (by decide)) (S.1 25 (by decide) (by decide)) (F 140 (by decide) (by decide))
theorem TR_sf {H B : Nat} {c m c' m' : SI} (T : TR H B c m) (S : SC c c') (F : FM m m') : TR H B c' m' := TR_fm (TR_sc T S) F
theorem LR_sf {LL : List LW} {hd : Int32} {c m c' m' : SI} (L : LR LL hd c m) (S : SC c c') (F : FM m m') : LR LL hd c' m' := LR_fm (LR_sc L S) F
theorem sh_in {LL : List LW} {hd : Int32} {H B h e : Nat} (hh : h < H) (he : e ≤ 30) (y : Int32) : ∀ (fu k : Nat) (c m : SI), TR H B c m → LR LL hd c m → DN H c m → m 140 h = nI e → k ≤ e + 1 → e + 2 ≤ k + fu → ∃ r c' m', f11_shorter_c35 (nI h) y (nI e) fu (nI k) c = (r, c') ∧ f12_shorter_c22 (nI h) y fu (nI k) m = (r, m') ∧ o12_shorter_c22 (nI h) y fu (nI k) m ∧ SC c c' ∧ FM m m' := by
  intro fu
  induction fu with
  | zero => intro k c m _ _ _ _ h1 h2; omega
  | succ fu ih =>
    intro k c m T L D eg h1 h2
    have hH := T.1
    rw [f11_shorter_c35, f12_shorter_c22, o12_shorter_c22, idx (by omega), eg]
    by_cases q : k = e + 1
    · subst q
      have lt : nI e < nI (e + 1) := nI_lt (by omega) (by omega)
      rw [if_pos lt, if_pos lt, if_pos lt]
      exact ⟨_, c, m, rfl, rfl, ⟨vpx (by omega), trivial⟩, SC_rf c, FM_rf m⟩
    · have nlt : ¬ nI e < nI k := nI_nlt (by omega) (by omega)
      have M := DN_MB D (by omega)
      rw [if_neg nlt, if_neg nlt, if_neg nlt, nI_sub (by omega), nI_1]
      have hw : R6 ((m 140 8 + sD m h) + 0) := by rw [Int32.add_zero]; exact bnd_r6 (tD_bnd T M hh).2 (by decide) (by decide)
      have hg : Bnd (nI (e - k)) 0 100 := nI_bnd (by omega) (by omega)
      obtain ⟨c1, e1, S⟩ := standsNow_c (LL := LL) (hd := hd) T L D hh hg
      obtain ⟨m1, e2, o, F⟩ := standsIf_m (LL := LL) (hd := hd) (w := 0) T L M hh hg hw
      rw [e1, e2]
      dsimp only
      by_cases u : y < sN LL hd m h (nI (e - k)) 0
      · rw [if_pos u, if_pos u, if_pos u]
        obtain ⟨r, c', m', i1, i2, i3, i4, i5⟩ := ih (k + 1) c1 m1 (TR_sf T S F) (LR_sf L S F) (DN_sf D S F) (by rw [F 140 (by decide) (by decide)]; exact eg) (by omega) (by omega)
        exact ⟨r, c', m', i1, i2, ⟨vpx (by omega), vpx (by omega), o, i3⟩, SC_tr S i4, FM_tr F i5⟩
      · rw [if_neg u, if_neg u, if_neg u]
        exact ⟨_, c1, m1, rfl, rfl, ⟨vpx (by omega), vpx (by omega), o, trivial⟩, S, F⟩
theorem t_shorter {G : Nat} {c m : SI} (I : INV G c m) (x y : Int32) : RUN G (f11_shorter c x y) (f12_shorter m x y) (o12_shorter m x y) := by
  obtain ⟨H, B, LL, hd, T, L, D⟩ := INV_pick I
  unfold f11_shorter f12_shorter o12_shorter
  rcases hse_or T x with ⟨h, hh, rfl, y1, y2⟩ | ⟨y1, y2, _⟩
  · have hH := T.1
    rw [y1, y2, if_pos rfl, if_pos rfl, if_pos rfl]
    rcases in_nat (x := y) (k := 60) (by decide) with ⟨j, hj, rfl, i1, i2, i3, _⟩ | ⟨i1, i2⟩ | ⟨i1, i2, i3, i4⟩
    · obtain ⟨e, he, eg⟩ := bnd_nI (hi := 30) (D.1 h hh).2
      rw [show f12_in (nI j) 0 60 = true from i1, if_pos rfl, if_pos rfl, if_neg i2, if_pos (show nI j ≤ 60 from i3), gr_c T D hh, idx (by omega), eg, fu_bdE (by omega)]
      obtain ⟨r, c', m', i1, i2, i3, i4, i5⟩ := sh_in (LL := LL) (hd := hd) hh he (nI j) (e + 2) 0 c m T L D eg (by omega) (by omega)
      rw [show f11_shorter_c35 (nI h) (nI j) (nI e) (e + 2) 0 c = _ from i1, show f12_shorter_c22 (nI h) (nI j) (e + 2) 0 m = _ from i2]
      exact ⟨rfl, i3, INV_sx I (SC_SX i4) i5⟩
    · rw [show f12_in y 0 60 = false from i1, if_neg Bool.false_ne_true, if_neg Bool.false_ne_true, if_pos i2]; exact ⟨rfl, trivial, I⟩
    · rw [show f12_in y 0 60 = false from i1, if_neg Bool.false_ne_true, if_neg Bool.false_ne_true, if_neg i2, if_neg (show ¬ y ≤ 60 from i3)]; exact ⟨rfl, trivial, I⟩
  · rw [y1, y2, if_neg Bool.false_ne_true, if_neg Bool.false_ne_true, if_neg Bool.false_ne_true]; exact ⟨rfl, trivial, I⟩
theorem wa_in {LL : List LW} {hd : Int32} {H B : Nat} (x : Int32) : ∀ (fu j : Nat) (v : Int32) (c m : SI), TR H B c m → LR LL hd c m → DN H c m → j ≤ H → H < j + fu → ∃ r c' m', f11_waits_c26 x fu v (nI j) c = (r, c') ∧ f12_waits_c23 x fu v (nI j) m = (r, m') ∧ o12_waits_c23 x fu v (nI j) m ∧ SC c c' ∧ FM m m' := by
  intro fu
  induction fu with
  | zero => intro j v c m _ _ _ h1 h2; omega
  | succ fu ih =>
    intro j v c m T L D h1 h2
    have hH := T.1
    rw [f11_waits_c26, f12_waits_c23, o12_waits_c23, hou_c T, hou_m T]
    by_cases q : j = H
    · subst q
      rw [if_pos (nI_le (Nat.le_refl _) (by omega)), if_pos (nI_le (Nat.le_refl _) (by omega)), if_pos (nI_le (Nat.le_refl _) (by omega))]
      exact ⟨_, c, m, rfl, rfl, trivial, SC_rf c, FM_rf m⟩
    · have hj : j < H := by omega
      have M := DN_MB D (by omega)
      have ew : f0_wasAt 24 c (nI j) = f12_has (m 140 11) (nI j) := by
        unfold f0_wasAt
        rw [D.2.2.2.2.2.2.1]
        exact bit_same (by omega)
      rw [if_neg (nI_ge hj (by omega)), if_neg (nI_ge hj (by omega)), if_neg (nI_ge hj (by omega)), nI_1, gr_c T D hj, ew, Int32.or_zero]
      by_cases w : f12_has (m 140 11) (nI j) = true
      · rw [if_pos w, if_pos w, if_pos w]
        exact ih (j + 1) v c m T L D (by omega) (by omega)
      · rw [if_neg w, if_neg w, if_neg w]
        obtain ⟨c1, e1, S⟩ := standsNow_c (LL := LL) (hd := hd) T L D hj (bnd_le (M.1 j hj) (by decide) (by decide))
        obtain ⟨m1, e2, o, F⟩ := standsNow_m (LL := LL) (hd := hd) T L M hj
        rw [e1, e2]
        dsimp only
        rw [show sN LL hd m j (m 140 j) 0 = st LL hd m j from rfl]
        by_cases u : st LL hd m j < x
        · rw [if_pos u, if_pos u, if_pos u]
          obtain ⟨r, c', m', i1, i2, i3, i4, i5⟩ := ih (j + 1) v c1 m1 (TR_sf T S F) (LR_sf L S F) (DN_sf D S F) (by omega) (by omega)
          exact ⟨r, c', m', i1, i2, ⟨o, i3⟩, SC_tr S i4, FM_tr F i5⟩
        · rw [if_neg u, if_neg u, if_neg u]
          obtain ⟨r, c', m', i1, i2, i3, i4, i5⟩ := ih (j + 1) (v ||| ((1 : Int32) <<< (nI j &&& 31))) c1 m1 (TR_sf T S F) (LR_sf L S F) (DN_sf D S F) (by omega) (by omega)
          exact ⟨r, c', m', i1, i2, ⟨o, i3⟩, SC_tr S i4, FM_tr F i5⟩
theorem t_waits {G : Nat} {c m : SI} (I : INV G c m) (x : Int32) : RUN G (f11_waits c x) (f12_waits m x) (o12_waits m x) := by
  obtain ⟨H, B, LL, hd, T, L, D⟩ := INV_pick I
  have hH := T.1
  unfold f11_waits f12_waits o12_waits
  rcases told_c T with ⟨e, hz, hq⟩ | ⟨e, hz, hq⟩
  · rw [e, if_pos rfl, if_neg hq, if_neg hq]
    rcases in_nat (x := x) (k := 60) (by decide) with ⟨j, hj, rfl, i1, i2, i3, _⟩ | ⟨i1, i2⟩ | ⟨i1, i2, i3, i4⟩
    · rw [show f12_in (nI j) 0 60 = true from i1, if_pos rfl, if_pos rfl, if_neg i2, if_pos (show nI j ≤ 60 from i3), hou_c T, hou_m T, fu_bd (by omega)]
      obtain ⟨r, c', m', i1, i2, i3, i4, i5⟩ := wa_in (LL := LL) (hd := hd) (nI j) (H + 1) 0 0 c m T L D (by omega) (by omega)
      rw [show f11_waits_c26 (nI j) (H + 1) 0 0 c = _ from i1, show f12_waits_c23 (nI j) (H + 1) 0 0 m = _ from i2]
      exact ⟨rfl, i3, INV_sx I (SC_SX i4) i5⟩
    · rw [show f12_in x 0 60 = false from i1, if_neg Bool.false_ne_true, if_neg Bool.false_ne_true, if_pos i2]; exact ⟨rfl, trivial, I⟩
    · rw [show f12_in x 0 60 = false from i1, if_neg Bool.false_ne_true, if_neg Bool.false_ne_true, if_neg i2, if_neg (show ¬ x ≤ 60 from i3)]; exact ⟨rfl, trivial, I⟩
  · rw [e, if_neg Bool.false_ne_true, if_pos hq, if_pos hq]; exact ⟨rfl, trivial, I⟩
theorem tell_at {k n a : Nat} {c : SI} {x y z : Int32} (h : 3 * a + 2 < n) (hn : n < 1000) : f10_tell k n c (nI a) x y z = sp (sp (sp c k (3 * a) x) k (3 * a + 1) y) k (3 * a + 2) z := by
  unfold f10_tell
  have e : nI a * 3 = nI (3 * a) := by rw [show (3 : Int32) = nI 3 from rfl, show nI a * nI 3 = nI (a * 3) from pk_mul _ _, Nat.mul_comm]
  rw [e, nI_1, show nI (3 * a) + 2 = nI (3 * a + 2) from nI_add _ 2]
  dsimp only
  rw [set_at (by omega) (by omega), set_at (by omega) (by omega), set_at (by omega) (by omega)]
theorem three {c s : SI} {k a : Nat} {x y z : Int32} (hs : sp (sp (sp c k (3 * a) x) k (3 * a + 1) y) k (3 * a + 2) z = s) : s k (3 * a) = x ∧ s k (3 * a + 1) = y ∧ s k (3 * a + 2) = z ∧ (∀ i, i < a → s k (3 * i) = c k (3 * i) ∧ s k (3 * i + 1) = c k (3 * i + 1) ∧ s k (3 * i + 2) = c k (3 * i + 2)) ∧ ∀ q, q ≠ k → s q = c q := by
  have fo : ∀ j, j ≠ 3 * a → j ≠ 3 * a + 1 → j ≠ 3 * a + 2 → s k j = c k j := fun j h1 h2 h3 => by rw [← hs, sp_k h3, sp_k h2, sp_k h1]
  refine ⟨?_, ?_, ?_, fun i hi => ⟨fo _ (by omega) (by omega) (by omega), fo _ (by omega) (by omega) (by omega), fo _ (by omega) (by omega) (by omega)⟩, fun q hq => by rw [← hs, sp_n hq, sp_n hq, sp_n hq]⟩
  · rw [← hs, sp_k (by omega), sp_k (by omega), sp_r]
  · rw [← hs, sp_k (by omega), sp_r]
  · rw [← hs, sp_r]
theorem threeM {m M : SI} {p q r b a : Nat} {x y z w : Int32} (d1 : p ≠ q) (d2 : p ≠ r) (d3 : q ≠ r) (d4 : p ≠ 123) (d5 : q ≠ 123) (d6 : r ≠ 123) (hM : sp (sp (sp (sp m p a x) q a y) r a z) 123 b w = M) : M p = upd (m p) a x ∧ M q = upd (m q) a y ∧ M r = upd (m r) a z ∧ M 123 b = w ∧ (∀ j, j ≠ b → M 123 j = m 123 j) ∧ ∀ o, o ≠ p → o ≠ q → o ≠ r → o ≠ 123 → M o = m o := by
  refine ⟨?_, ?_, ?_, ?_, fun j hj => ?_, fun o h1 h2 h3 h4 => ?_⟩
  · rw [← hM, sp_n d4, sp_n d2, sp_n d1, sp_s]
  · rw [← hM, sp_n d5, sp_n d3, sp_s, sp_n d1.symm]
  · rw [← hM, sp_n d6, sp_s, sp_n d3.symm, sp_n d2.symm]
  · rw [← hM, sp_r]
  · rw [← hM, sp_k hj, sp_n d6.symm, sp_n d5.symm, sp_n d4.symm]
  · rw [← hM, sp_n h4, sp_n h3, sp_n h2, sp_n h1]
theorem t_stood {G : Nat} {c m : SI} (I : INV G c m) (x y z : Int32) : RUN G (f11_stood c x y z) (f12_stood m x y z) (o12_stood m x y z) := by
  obtain ⟨H, B, LL, hd, g, n, x', gs, J⟩ := I
  have T := J.2.1
  have W := J.2.2.2.2.2.2.2.2.2
  unfold f11_stood f12_stood o12_stood
  rcases hse_or T x with ⟨h, hh, rfl, y1, y2⟩ | ⟨y1, y2, _⟩
  · rw [y1, y2, if_pos rfl, if_pos rfl, if_pos rfl]
    rcases in_nat (x := y) (k := 99) (by decide) with ⟨j, hj, rfl, i1, i2, i3, i4⟩ | ⟨i1, i2⟩ | ⟨i1, i2, i3, i4⟩
    · rw [show f12_in (nI j) 0 99 = true from i1, if_pos rfl, if_pos rfl, if_neg i2, if_neg (show ¬ 99 < nI j from i4)]
      rcases in_nat (x := z) (k := 60) (by decide) with ⟨k, hk, rfl, k1, k2, k3, k4⟩ | ⟨k1, k2⟩ | ⟨k1, k2, k3, k4⟩
      · rw [show f12_in (nI k) 0 60 = true from k1, if_pos rfl, if_pos rfl, if_neg k2, if_pos (show nI k ≤ 60 from k3)]
        obtain ⟨⟨a, ha, w1, w2, w3⟩, b, hb, w4, w5, w6⟩ := W
        unfold f10_tellStood
        rw [w1, w2]
        by_cases q : a = 10
        · subst q
          rw [if_neg (show ¬ nI 10 < 10 by decide), if_pos (show nI 10 = 10 from rfl), if_pos (show nI 10 = 10 from rfl)]
          exact ⟨rfl, trivial, IX0_inv J⟩
        · have ne : ¬ nI a = 10 := fun e => q ((nI_eq (a := a) (b := 10) (by omega) (by decide)).mp e)
          rw [if_pos (show nI a < 10 from nI_lt (b := 10) (by omega) (by decide)), if_neg ne, if_neg ne, tell_at (by omega) (by decide), nI_clamp (by omega)]
          have v := vp_in_nI (n := a) (N := 10) (by omega) (by decide)
          dsimp only
          generalize hs : sp (sp (sp c 34 (3 * a) (nI h)) 34 (3 * a + 1) (nI j)) 34 (3 * a + 2) (nI k) = s
          obtain ⟨f0, f1, f2, fi, fo⟩ := three hs
          rw [fo 33 (by decide), w1, nI_1]
          generalize hM : sp (sp (sp (sp m 145 a (nI h)) 146 a (nI j)) 147 a (nI k)) 123 43 (nI (a + 1)) = M
          obtain ⟨m0, m1, m2, m3, m4, m5⟩ := threeM (by decide) (by decide) (by decide) (by decide) (by decide) (by decide) hM
          refine ⟨rfl, ⟨v, v, v, trivial⟩, ?_⟩
          show INV G (sp s 33 2 (nI (a + 1))) M
          refine IX0_inv (IX_wit J (Nat.le_refl _) (fun q hq => by rw [sp_n (by omega), fo q (by omega)]) (by rw [sp_n (by decide), fo _ (by decide)]) (by rw [sp_n (by decide), fo _ (by decide)]) (by rw [sp_n (by decide), fo _ (by decide)]) (by rw [sp_n (by decide), fo _ (by decide)]) (fun q hq => m5 q (by omega) (by omega) (by omega) (by omega)) (fun q hq => m4 q (by omega)) ?_)
          refine ⟨⟨a + 1, by omega, sp_r, m3, fun i hi => ?_⟩, b, hb, by rw [sp_k (by decide), fo 33 (by decide)]; exact w4, by rw [m4 48 (by decide)]; exact w5, fun i hi => ?_⟩
          · rw [sp_n (by decide), m0, m1, m2]
            by_cases r : i = a
            · subst r
              rw [upd_s, upd_s, upd_s]
              exact ⟨f0, f1, f2, nI_bnd (by omega) (by omega)⟩
            · rw [upd_n _ _ r, upd_n _ _ r, upd_n _ _ r, (fi i (by omega)).1, (fi i (by omega)).2.1, (fi i (by omega)).2.2]
              exact w3 i (by omega)
          · rw [sp_n (by decide), fo 35 (by decide), m5 149 (by decide) (by decide) (by decide) (by decide), m5 150 (by decide) (by decide) (by decide) (by decide), m5 151 (by decide) (by decide) (by decide) (by decide)]
            exact w6 i hi
      · rw [show f12_in z 0 60 = false from k1, if_neg Bool.false_ne_true, if_neg Bool.false_ne_true, if_pos k2]; exact ⟨rfl, trivial, IX0_inv J⟩
      · rw [show f12_in z 0 60 = false from k1, if_neg Bool.false_ne_true, if_neg Bool.false_ne_true, if_neg k2, if_neg (show ¬ z ≤ 60 from k3)]; exact ⟨rfl, trivial, IX0_inv J⟩
    · rw [show f12_in y 0 99 = false from i1, if_neg Bool.false_ne_true, if_neg Bool.false_ne_true, if_pos i2]; exact ⟨rfl, trivial, IX0_inv J⟩
    · rw [show f12_in y 0 99 = false from i1, if_neg Bool.false_ne_true, if_neg Bool.false_ne_true, if_neg i2, if_pos (show 99 < y from i4)]; exact ⟨rfl, trivial, IX0_inv J⟩
  · rw [y1, y2, if_neg Bool.false_ne_true, if_neg Bool.false_ne_true, if_neg Bool.false_ne_true]; exact ⟨rfl, trivial, IX0_inv J⟩
theorem t_seen {G : Nat} {c m : SI} (I : INV G c m) (x y : Int32) (z : Bool) : RUN G (f11_seen c x y z) (f12_seen m x y z) (o12_seen m x y z) := by
  obtain ⟨H, B, LL, hd, g, n, x', gs, J⟩ := I
  have T := J.2.1
  have W := J.2.2.2.2.2.2.2.2.2
  unfold f11_seen f12_seen o12_seen
  rcases hse_or T y with ⟨h, hh, rfl, y1, y2⟩ | ⟨y1, y2, _⟩
  · rw [y1, y2, if_pos rfl, if_pos rfl, if_pos rfl]
    rcases in_nat (x := x) (k := 6) (by decide) with ⟨j, hj, rfl, i1, i2, i3, i4⟩ | ⟨i1, i2⟩ | ⟨i1, i2, i3, i4⟩
    · rw [show f12_in (nI j) 0 6 = true from i1, if_pos rfl, if_pos rfl, if_neg i2, if_pos (show nI j < 7 from nI_lt (b := 7) (by omega) (by decide))]
      obtain ⟨⟨a, ha, w1, w2, w3⟩, b, hb, w4, w5, w6⟩ := W
      have ez : ∀ α : Type, ∀ u : Int32 → α, (if z = true then u 1 else u 0) = u (b2i z) := fun α u => by cases z <;> rfl
      unfold f10_tellSeen
      rw [w4, w5]
      by_cases q : b = 10
      · subst q
        rw [if_neg (show ¬ nI 10 < 10 by decide), if_pos (show nI 10 = 10 from rfl), if_pos (show nI 10 = 10 from rfl)]
        exact ⟨rfl, trivial, IX0_inv J⟩
      · have ne : ¬ nI b = 10 := fun e => q ((nI_eq (a := b) (b := 10) (by omega) (by decide)).mp e)
        have hz : b2i z = 0 ∨ b2i z = 1 := by cases z; exact Or.inl rfl; exact Or.inr rfl
        rw [if_pos (show nI b < 10 from nI_lt (b := 10) (by omega) (by decide)), if_neg ne, if_neg ne, tell_at (by omega) (by decide), tell_at (by omega) (by decide), nI_clamp (by omega)]
        have v := vp_in_nI (n := b) (N := 10) (by omega) (by decide)
        dsimp only
        rw [ez (Int32 × SI) (fun u => (sp (sp (sp c 35 (3 * b) (nI j)) 35 (3 * b + 1) (nI h)) 35 (3 * b + 2) u 33 3 + 1, sp (sp (sp (sp c 35 (3 * b) (nI j)) 35 (3 * b + 1) (nI h)) 35 (3 * b + 2) u) 33 3 (sp (sp (sp c 35 (3 * b) (nI j)) 35 (3 * b + 1) (nI h)) 35 (3 * b + 2) u 33 3 + 1)))]
        generalize hs : sp (sp (sp c 35 (3 * b) (nI j)) 35 (3 * b + 1) (nI h)) 35 (3 * b + 2) (b2i z) = s
        obtain ⟨f0, f1, f2, fi, fo⟩ := three hs
        rw [fo 33 (by decide), w4, nI_1]
        generalize hM : sp (sp (sp (sp m 149 b (nI j)) 150 b (nI h)) 151 b (b2i z)) 123 48 (nI (b + 1)) = M
        obtain ⟨m0, m1, m2, m3, m4, m5⟩ := threeM (by decide) (by decide) (by decide) (by decide) (by decide) (by decide) hM
        refine ⟨rfl, ⟨v, v, v, trivial⟩, ?_⟩
        show INV G (sp s 33 3 (nI (b + 1))) M
        refine IX0_inv (IX_wit J (Nat.le_refl _) (fun q hq => by rw [sp_n (by omega), fo q (by omega)]) (by rw [sp_n (by decide), fo _ (by decide)]) (by rw [sp_n (by decide), fo _ (by decide)]) (by rw [sp_n (by decide), fo _ (by decide)]) (by rw [sp_n (by decide), fo _ (by decide)]) (fun q hq => m5 q (by omega) (by omega) (by omega) (by omega)) (fun q hq => m4 q (by omega)) ?_)
        refine ⟨⟨a, ha, by rw [sp_k (by decide), fo 33 (by decide)]; exact w1, by rw [m4 43 (by decide)]; exact w2, fun i hi => ?_⟩, b + 1, by omega, sp_r, m3, fun i hi => ?_⟩
        · rw [sp_n (by decide), fo 34 (by decide), m5 145 (by decide) (by decide) (by decide) (by decide), m5 146 (by decide) (by decide) (by decide) (by decide), m5 147 (by decide) (by decide) (by decide) (by decide)]
          exact w3 i hi
        · rw [sp_n (by decide), m0, m1, m2]
          by_cases r : i = b
          · subst r
            rw [upd_s, upd_s, upd_s]
            exact ⟨f0, f1, f2, nI_bnd (by omega) (by omega), ⟨h, hh, rfl⟩, hz⟩
          · rw [upd_n _ _ r, upd_n _ _ r, upd_n _ _ r, (fi i (by omega)).1, (fi i (by omega)).2.1, (fi i (by omega)).2.2]
            exact w6 i (by omega)
    · rw [show f12_in x 0 6 = false from i1, if_neg Bool.false_ne_true, if_neg Bool.false_ne_true, if_pos i2]; exact ⟨rfl, trivial, IX0_inv J⟩
    · have h7 : ¬ x < 7 := by
        obtain ⟨j, hj, rfl⟩ := nI_of i2
        exact nI_nlt (b := 7) (by have := (nI_ltI (a := 6) (by decide) hj).mp i4; omega) hj
      rw [show f12_in x 0 6 = false from i1, if_neg Bool.false_ne_true, if_neg Bool.false_ne_true, if_neg i2, if_neg h7]; exact ⟨rfl, trivial, IX0_inv J⟩
  · rw [y1, y2, if_neg Bool.false_ne_true, if_neg Bool.false_ne_true, if_neg Bool.false_ne_true]; exact ⟨rfl, trivial, IX0_inv J⟩
theorem fm_nn {a : Nat} (h : a < 2 ^ 31) : ffloorMod (nI a) 100 = nI (a % 100) := by
  have hx : (0 : Int32) ≤ nI a ^^^ 100 := by
    have e : (nI a ^^^ 100).toBitVec.toNat < 2 ^ 31 := by
      rw [Int32.toBitVec_xor, BitVec.toNat_xor]
      have e1 : (nI a).toBitVec.toNat = a := by
        show (BitVec.ofNat 32 a).toNat = a
        rw [BitVec.toNat_ofNat, Nat.mod_eq_of_lt (by omega)]
      have e2 : (100 : Int32).toBitVec.toNat = 100 := rfl
      rw [e1, e2]
      exact Nat.xor_lt_two_pow h (by decide)
    rw [le_ti]
    show (0 : Int) ≤ (nI a ^^^ 100).toBitVec.toInt
    rw [BitVec.toInt_eq_toNat_of_lt (by omega)]
    omega
  unfold ffloorMod
  rw [if_pos hx]
  exact nI_modI h (by decide)
theorem t_log {G : Nat} {c m : SI} (I : INV G c m) (hG : G < 2 ^ 31) (x y : Int32) : f11_log c x y = f12_log m x y ∧ o12_log m x y := by
  obtain ⟨H, B, LL, hd, g, n, x', gs, h1, h2, h3, h4, h5, h6, h7, h8, h9, h10⟩ := I
  obtain ⟨d1, d2, d3, d4, d5, d6, d7, d8, d9, d10, d11⟩ := h4
  have hl := loglen d10 (by omega : g < 2 ^ 31)
  have d11' : m 140 14 = nI (min 60 g) := d11.1
  unfold f11_log f5_noted f12_log o12_log f12_in
  rw [hl, d11', d10]
  by_cases e : x < 0
  · rw [if_pos e, if_pos e, if_neg Bool.false_ne_true, if_neg Bool.false_ne_true]; exact ⟨rfl, trivial⟩
  · rw [if_neg e, if_neg e]
    obtain ⟨i, hi, rfl⟩ := nI_of e
    have hm : min 60 g ≤ 60 := Nat.min_le_left _ _
    have hm2 : min 60 g ≤ g := Nat.min_le_right _ _
    by_cases q : i < min 60 g
    · rw [if_neg (nI_ge q (by omega)), show nI (min 60 g) - 1 = nI (min 60 g - 1) from nI_sub (b := 1) (by omega), if_neg (nI_nlt (by omega) (by omega)), if_pos rfl, if_pos rfl]
      by_cases w : y < 0
      · rw [if_pos w, if_pos w, if_neg Bool.false_ne_true, if_neg Bool.false_ne_true]; exact ⟨rfl, trivial⟩
      · rw [if_neg w, if_neg w]
        obtain ⟨r, hr, rfl⟩ := nI_of w
        by_cases u : r < 4
        · rw [if_pos (show nI r < 4 from nI_lt (b := 4) u (by decide)), if_neg (show ¬ 3 < nI r from nI_nlt (a := 3) (b := r) (by omega) (by decide)), if_pos rfl, if_pos rfl]
          have e1 : nI g - 1 - nI i = nI (g - 1 - i) := by rw [show nI g - 1 = nI (g - 1) from nI_sub (b := 1) (by omega), nI_sub (by omega)]
          have e2 : f5_rowStart (nI (g - 1 - i)) + nI r = nI ((g - 1 - i) % 100 * 4 + r) := by
            unfold f5_rowStart
            rw [fm_nn (by omega), show (4 : Int32) = nI 4 from rfl, show nI ((g - 1 - i) % 100) * nI 4 = nI ((g - 1 - i) % 100 * 4) from pk_mul _ _, nI_add]
          have e3 : (15 : Int32) + 4 * (nI (min 60 g - 1) - nI i) + nI r = nI (15 + 4 * (min 60 g - 1 - i) + r) := by
            rw [nI_sub (by omega), show (4 : Int32) = nI 4 from rfl, show nI 4 * nI (min 60 g - 1 - i) = nI (4 * (min 60 g - 1 - i)) from pk_mul _ _, show (15 : Int32) = nI 15 from rfl, nI_add, nI_add]
          have hlt : (g - 1 - i) % 100 < 100 := Nat.mod_lt _ (by decide)
          rw [e1, e2, e3, cell_at (by omega) (by decide), nI_clamp (by omega)]
          refine ⟨?_, vp_in_nI (by omega) (by decide), trivial⟩
          have := h5 (min 60 g - 1 - i) r (by omega) u
          rw [show g - min 60 g + (min 60 g - 1 - i) = g - 1 - i by omega, Nat.zero_add] at this
          exact this
        · rw [if_neg (show ¬ nI r < 4 from nI_nlt (b := 4) (by omega) hr), if_pos (show 3 < nI r from nI_lt (a := 3) (by omega) hr), if_neg Bool.false_ne_true, if_neg Bool.false_ne_true]; exact ⟨rfl, trivial⟩
    · have a2 : nI (min 60 g) - 1 < nI i := by
        have r : (nI (min 60 g) - 1).toInt = ((min 60 g : Nat) : Int) - 1 := by rw [ti_sub' (by rw [nI_toInt (by omega), ti_1]; omega) (by rw [nI_toInt (by omega), ti_1]; omega), nI_toInt (by omega), ti_1]
        rw [lt_ti, r, nI_toInt hi]; omega
      rw [if_pos (nI_le (by omega) hi), if_pos a2, if_neg Bool.false_ne_true, if_neg Bool.false_ne_true]; exact ⟨rfl, trivial⟩
