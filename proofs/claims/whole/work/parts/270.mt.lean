/-! loops over the houses: shares, years, most, rival -/
theorem idx {j : Nat} (h : j < 2 ^ 31) : (0 + nI j).toNatClampNeg = j := by rw [z_add, nI_clamp h]
theorem vpx {j : Nat} (h : j < 7) : vp_in (0 + nI j) 255 := by rw [z_add]; exact vp_in_nI (by omega) (by decide)
theorem hou_m {H B : Nat} {c m : SI} (T : TR H B c m) : m 123 25 = nI H := T.2.2.2.2.1
theorem gr_c {H B h : Nat} {c m : SI} (T : TR H B c m) (D : DN H c m) (hh : h < H) : f0_grievanceOf 24 c (nI h) = m 140 h := by
  have := T.1
  rw [grief_c (by omega)]
  exact (D.1 h hh).1
theorem grown_0 {g w : Int32} (h : Bnd g 0 30) : (if g + 0 * w < 30 then g + 0 * w else 30) = g := by
  rw [Int32.zero_mul, Int32.add_zero]
  by_cases q : g < 30
  · rw [if_pos q]
  · rw [if_neg q]
    have t30 : (30 : Int32).toInt = 30 := rfl
    rw [lt_ti, t30] at q
    exact Int32.toInt_inj.mp (by rw [t30]; have := h.2; omega)
theorem allG {H B : Nat} {c m : SI} (T : TR H B c m) (D : DN H c m) : ∀ (fu j a : Nat), j ≤ H → a ≤ 30 * j → H < j + fu → f11_grievancesIn_c4 c 0 fu (nI a) (nI j) = f12_allGrief_c4 m fu (nI a) (nI j) ∧ o12_allGrief_c4 m fu (nI a) (nI j) ∧ ∃ s, s ≤ 210 ∧ f12_allGrief_c4 m fu (nI a) (nI j) = nI s := by
  have hH := T.1
  intro fu
  induction fu with
  | zero => intro j a h1 h2 h3; omega
  | succ fu ih =>
    intro j a h1 h2 h3
    rw [f11_grievancesIn_c4, f12_allGrief_c4, o12_allGrief_c4, hou_c T, hou_m T]
    by_cases q : j = H
    · subst q
      rw [if_pos (nI_le (Nat.le_refl _) (by omega)), if_pos (nI_le (Nat.le_refl _) (by omega)), if_pos (nI_le (Nat.le_refl _) (by omega))]
      exact ⟨rfl, trivial, a, by omega, rfl⟩
    · have hj : j < H := by omega
      have bj := (D.1 j hj).2
      obtain ⟨v, hv, ev⟩ := bnd_nI (hi := 30) bj
      have eg : f11_grown c (nI j) 0 = m 140 j := by
        unfold f11_grown
        rw [gr_c T D hj]
        split
        · rfl
        · exact grown_0 bj
      rw [if_neg (nI_ge hj (by omega)), if_neg (nI_ge hj (by omega)), if_neg (nI_ge hj (by omega)), eg, idx (by omega), ev, nI_add, nI_1]
      obtain ⟨i1, i2, i3⟩ := ih (j + 1) (a + v) (by omega) (by omega) (by omega)
      exact ⟨i1, ⟨vpx (by omega), i2⟩, i3⟩
theorem t_shares {G : Nat} {c m : SI} (I : INV G c m) (x y : Int32) : f11_shares c x y = f12_shares m x y ∧ o12_shares m x y := by
  obtain ⟨H, B, LL, hd, T, L, D⟩ := INV_pick I
  have hH := T.1
  obtain ⟨g1, g2, s, hs, g3⟩ := allG T D (H + 1) 0 0 (by omega) (by omega) (by omega)
  have e1 : f11_grievancesIn c 0 = nI s := by
    unfold f11_grievancesIn
    rw [hou_c T, fu_bd (by omega)]
    exact g1.trans g3
  have e2 : f12_allGrief m = nI s := by
    unfold f12_allGrief
    rw [hou_m T, fu_bd (by omega)]
    exact g3
  have e3 : o12_allGrief m := by
    unfold o12_allGrief
    rw [hou_m T, fu_bd (by omega)]
    exact g2
  unfold f11_shares f12_shares o12_shares
  rw [e1, e2]
  rcases hse_or T x with ⟨h, hh, rfl, y1, y2⟩ | ⟨y1, y2, _⟩
  · rw [y1, y2, if_pos rfl, if_pos rfl, if_pos rfl]
    rcases in_nat (x := y) (k := 999) (by decide) with ⟨j, hj, rfl, i1, i2, i3, _⟩ | ⟨i1, i2⟩ | ⟨i1, i2, i3, i4⟩
    · rw [show f12_in (nI j) 0 999 = true from i1, if_pos rfl, if_pos rfl, if_neg i2, if_pos (show nI j ≤ 999 from i3), gr_c T D hh, idx (by omega)]
      by_cases q : s = 0
      · subst q; exact ⟨rfl, e3, trivial⟩
      · rw [if_pos (show (0 : Int32) < nI s from nI_lt (a := 0) (by omega) (by omega)), if_neg (nI_ne0 (by omega) (by omega)), if_neg (nI_ne0 (by omega) (by omega))]
        exact ⟨rfl, e3, vpx (by omega), e3, trivial⟩
    · rw [show f12_in y 0 999 = false from i1, if_neg Bool.false_ne_true, if_neg Bool.false_ne_true, if_pos i2]; exact ⟨rfl, trivial⟩
    · rw [show f12_in y 0 999 = false from i1, if_neg Bool.false_ne_true, if_neg Bool.false_ne_true, if_neg i2, if_neg (show ¬ y ≤ 999 from i3)]; exact ⟨rfl, trivial⟩
  · rw [y1, y2, if_neg Bool.false_ne_true, if_neg Bool.false_ne_true, if_neg Bool.false_ne_true]; exact ⟨rfl, trivial⟩
theorem yr_in {H B : Nat} {c m : SI} (T : TR H B c m) (D : DN H c m) (x z : Int32) (K : Int32 → Int32 → Int32) (oK : Int32 → Int32 → Prop) (hK : ∀ a b, K a b = K a 0) (hO : ∀ a b, oK a b = oK a 0) : ∀ (fu j : Nat) (a : Int32), j ≤ H → H < j + fu → f12_years_c33 m x z K fu a (nI j) = K (f11_grievancesIn_c4 c z fu a (nI j)) 0 ∧ (oK (f11_grievancesIn_c4 c z fu a (nI j)) 0 → o12_years_c33 m x z oK fu a (nI j)) := by
  have hH := T.1
  intro fu
  induction fu with
  | zero => intro j a h1 h2; omega
  | succ fu ih =>
    intro j a h1 h2
    rw [f11_grievancesIn_c4, f12_years_c33, o12_years_c33, hou_c T, hou_m T]
    by_cases q : j = H
    · subst q
      rw [if_pos (nI_le (Nat.le_refl _) (by omega)), if_pos (nI_le (Nat.le_refl _) (by omega)), if_pos (nI_le (Nat.le_refl _) (by omega))]
      exact ⟨hK _ _, fun o => by rw [hO]; exact o⟩
    · have hj : j < H := by omega
      obtain ⟨t1, t2⟩ := thank_c T hj
      rw [if_neg (nI_ge hj (by omega)), if_neg (nI_ge hj (by omega)), if_neg (nI_ge hj (by omega)), idx (by omega), nI_1]
      unfold f11_grown
      rw [gr_c T D hj, t1, (rul_c T).2.2]
      by_cases w : f12_isThankful m (nI j) = true
      · rw [if_pos w, if_pos w, if_pos w]
        obtain ⟨i1, i2⟩ := ih (j + 1) (a + m 140 j) (by omega) (by omega)
        exact ⟨i1, fun o => ⟨t2, vpx (by omega), i2 o⟩⟩
      · rw [if_neg w, if_neg w, if_neg w]
        obtain ⟨i1, i2⟩ := ih (j + 1) (a + (if m 140 j + z * m 137 2 < 30 then m 140 j + z * m 137 2 else 30)) (by omega) (by omega)
        exact ⟨i1, fun o => ⟨t2, vpx (by omega), i2 o⟩⟩
theorem yr_out {H B : Nat} {c m : SI} (T : TR H B c m) (D : DN H c m) (x : Int32) : ∀ (fu : Nat) (z : Int32), f11_years_c26 c x fu z = f12_years_c22 m x fu z ∧ o12_years_c22 m x fu z := by
  have hH := T.1
  intro fu
  induction fu with
  | zero => intro z; exact ⟨rfl, trivial⟩
  | succ fu ih =>
    intro z
    rw [f11_years_c26, f12_years_c22, o12_years_c22]
    by_cases q : 60 < z
    · rw [if_pos q, if_pos q, if_pos q]; exact ⟨rfl, trivial⟩
    · rw [if_neg q, if_neg q, if_neg q, hou_m T, fu_bd (by omega)]
      obtain ⟨i1, i2⟩ := yr_in T D x z (fun a _ => if a < x then f12_years_c22 m x fu (z + 1) else z) (fun a _ => if a < x then o12_years_c22 m x fu (z + 1) else True) (fun _ _ => rfl) (fun _ _ => rfl) (H + 1) 0 0 (by omega) (by omega)
      have e1 : f11_grievancesIn c z = f11_grievancesIn_c4 c z (H + 1) (nI 0) (nI 0) := by
        unfold f11_grievancesIn
        rw [hou_c T, fu_bd (by omega)]; rfl
      rw [e1]
      obtain ⟨k1, k2⟩ := ih (z + 1)
      refine ⟨?_, i2 ?_⟩
      · rw [k1]; exact i1.symm
      · split
        · exact k2
        · trivial
theorem t_years {G : Nat} {c m : SI} (I : INV G c m) (x : Int32) : f11_years c x = f12_years m x ∧ o12_years m x := by
  obtain ⟨H, B, LL, hd, T, L, D⟩ := INV_pick I
  unfold f11_years f12_years o12_years
  rcases told_c T with ⟨e, hz, hq⟩ | ⟨e, hz, hq⟩
  · rw [e, if_pos rfl, if_neg hq, if_neg hq]
    rcases in_nat1 (x := x) (k := 200) (by decide) with ⟨j, h1, hj, rfl, i1, i2, i3, _⟩ | ⟨i1, i2⟩ | ⟨i1, i2, i3, i4⟩
    · rw [show f12_in (nI j) 1 200 = true from i1, if_pos rfl, if_pos rfl, if_neg i2, if_pos (show nI j ≤ 200 from i3)]
      exact yr_out T D _ _ _
    · rw [show f12_in x 1 200 = false from i1, if_neg Bool.false_ne_true, if_neg Bool.false_ne_true, if_pos i2]; exact ⟨rfl, trivial⟩
    · rw [show f12_in x 1 200 = false from i1, if_neg Bool.false_ne_true, if_neg Bool.false_ne_true, if_neg i2, if_neg (show ¬ x ≤ 200 from i3)]; exact ⟨rfl, trivial⟩
  · rw [e, if_neg Bool.false_ne_true, if_pos hq, if_pos hq]; exact ⟨rfl, trivial⟩
theorem riv_in {H B : Nat} {c m : SI} (T : TR H B c m) (D : DN H c m) (x : Int32) : ∀ (fu j : Nat) (a p : Int32), j ≤ H → Pos H p → f11_rivalComes_c7 c x fu a p (nI j) = f12_rivalAt_c7 m x fu a p (nI j) ∧ o12_rivalAt_c7 m x fu a p (nI j) := by
  have hH := T.1
  intro fu
  induction fu with
  | zero => intro j a p h1 h2; exact ⟨rfl, trivial⟩
  | succ fu ih =>
    intro j a p h1 h2
    rw [f11_rivalComes_c7, f12_rivalAt_c7, o12_rivalAt_c7, hou_c T, hou_m T]
    by_cases q : j = H
    · subst q
      rw [if_pos (nI_le (Nat.le_refl _) (by omega)), if_pos (nI_le (Nat.le_refl _) (by omega)), if_pos (nI_le (Nat.le_refl _) (by omega))]
      exact ⟨rfl, trivial⟩
    · have hj : j < H := by omega
      obtain ⟨d1, d2, _⟩ := dist T h2 hj
      rw [if_neg (nI_ge hj (by omega)), if_neg (nI_ge hj (by omega)), if_neg (nI_ge hj (by omega)), idx (by omega), nI_1, gr_c T D hj, d1]
      by_cases w : m 140 j = 0
      · rw [if_pos w, if_pos w, if_pos w]
        by_cases u : nI j = x
        · rw [if_pos u, if_pos u, if_pos u]
          exact ⟨rfl, vpx (by omega), d2, trivial⟩
        · rw [if_neg u, if_neg u, if_neg u]
          obtain ⟨i1, i2⟩ := ih (j + 1) ((a + f12_stepsTo m p (nI j)) + 2) (nI j) (by omega) (Or.inr ⟨j, hj, rfl⟩)
          exact ⟨i1, vpx (by omega), d2, i2⟩
      · rw [if_neg w, if_neg w, if_neg w]
        obtain ⟨i1, i2⟩ := ih (j + 1) a p (by omega) h2
        exact ⟨i1, vpx (by omega), i2⟩
theorem rivA {H B : Nat} {c m : SI} (T : TR H B c m) (D : DN H c m) (x : Int32) : f11_rivalComes c x = f12_rivalAt m x ∧ o12_rivalAt m x := by
  unfold f11_rivalComes f12_rivalAt o12_rivalAt
  rw [hou_c T, hou_m T]
  exact riv_in T D x _ 0 0 (-1) (Nat.zero_le _) (Or.inl rfl)
theorem t_rival {G : Nat} {c m : SI} (I : INV G c m) (x : Int32) : f11_rival c x = f12_rival m x ∧ o12_rival m x := by
  obtain ⟨H, B, LL, hd, T, L, D⟩ := INV_pick I
  obtain ⟨r1, r2⟩ := rivA T D x
  unfold f11_rival f12_rival o12_rival
  rw [r1]
  rcases hse_or T x with ⟨h, hh, rfl, y1, y2⟩ | ⟨y1, y2, _⟩
  · rw [y1, y2, if_pos rfl, if_pos rfl]; exact ⟨rfl, r2, trivial⟩
  · rw [y1, y2, if_neg Bool.false_ne_true, if_neg Bool.false_ne_true]; exact ⟨rfl, trivial⟩
theorem t_meets {G : Nat} {c m : SI} (I : INV G c m) (x : Int32) : RUN G (f11_meets c x) (f12_meets m x) (o12_meets m x) := by
  obtain ⟨H, B, LL, hd, T, L, D⟩ := INV_pick I
  obtain ⟨r1, r2⟩ := rivA T D x
  unfold f11_meets f12_meets o12_meets
  rw [r1]
  rcases hse_or T x with ⟨h, hh, rfl, y1, y2⟩ | ⟨y1, y2, _⟩
  · have hH := T.1
    have M := DN_MB D (by omega)
    rw [y1, y2, if_pos rfl, if_pos rfl, if_pos rfl]
    have oS := (stepsNow_m T M hh).2
    by_cases q : f12_rivalAt m (nI h) = -1
    · rw [if_pos q, if_pos q, if_pos q]; exact ⟨rfl, ⟨r2, oS, trivial⟩, I⟩
    · rw [if_neg q, if_neg q, if_neg q, gr_c T D hh]
      obtain ⟨c', e1, S⟩ := standsNow_c (LL := LL) (hd := hd) T L D hh (bnd_le (M.1 h hh) (by decide) (by decide))
      obtain ⟨m', e2, o, F⟩ := standsNow_m (LL := LL) (hd := hd) T L M hh
      have q3 : f11_stepsTo c (nI h) = f12_stepsNow m (nI h) := by
        unfold f11_stepsTo f12_stepsNow
        rw [(D.2.2.2.2.1 (by omega)).1]
        exact (dist T M.2.2.2.1 hh).1
      rw [e1, e2, q3, D.2.2.1.1]
      dsimp only
      rw [show sN LL hd m h (m 140 h) 0 = st LL hd m h from rfl]
      have K := INV_sx I (SC_SX S) F
      by_cases a1 : (m 140 8 + f12_stepsNow m (nI h)) + (if 1 < st LL hd m h then st LL hd m h else 1) ≤ f12_rivalAt m (nI h)
      · rw [if_pos a1, if_pos a1, if_pos a1]; exact ⟨rfl, ⟨r2, oS, o, trivial⟩, K⟩
      · rw [if_neg a1, if_neg a1, if_neg a1]
        by_cases a2 : f12_rivalAt m (nI h) + 2 ≤ m 140 8 + f12_stepsNow m (nI h)
        · rw [if_pos a2, if_pos a2, if_pos a2]; exact ⟨rfl, ⟨r2, oS, o, trivial⟩, K⟩
        · rw [if_neg a2, if_neg a2, if_neg a2]; exact ⟨rfl, ⟨r2, oS, o, trivial⟩, K⟩
  · rw [y1, y2, if_neg Bool.false_ne_true, if_neg Bool.false_ne_true, if_neg Bool.false_ne_true]
    exact ⟨rfl, trivial, I⟩
