/-! the who call -/
theorem FO_FA' {H B : Nat} {LL : List LW} {hd : Int32} {c m c' m' : SI} (X : CTX H B LL hd c m) (S : SX c c') (F : FO m m') : CTX H B LL hd c' m' := by
  obtain ⟨T, L, D, W⟩ := CTX_fr (m' := m) X S (FA_rf m)
  have f : ∀ a, a ≠ 144 → m' a = m a := F
  exact ⟨TR_fr T rfl rfl (by rw [f 123 (by decide)]) (by rw [f 123 (by decide)]) (f _ (by decide)) (f _ (by decide)) (f _ (by decide)), LR_fr L (fun _ _ _ => rfl) rfl rfl (fun a x y _ => f a (by omega)) (by rw [f 123 (by decide)]) (by rw [f 123 (by decide)]), DN_fr D rfl rfl (f _ (by decide)), WIT_fr W rfl rfl rfl (by rw [f 123 (by decide)]) (by rw [f 123 (by decide)]) (f _ (by decide)) (f _ (by decide)) (f _ (by decide)) (f _ (by decide)) (f _ (by decide)) (f _ (by decide))⟩
theorem FO_tr {m m1 m2 : SI} (h1 : FO m m1) (h2 : FO m1 m2) : FO m m2 := fun a x => (h2 a x).trans (h1 a x)
theorem so_none {H B : Nat} {c m : SI} {k : Nat} {y : Int32} (T : TR H B c m) (h1 : H ≤ k) (h2 : k < 9) : f12_isSo m (nI k) y = (false, m) ∧ o12_isSo m (nI k) y := by
  have ne : ¬ nI k = 9 := fun a => by have := (nI_eq (a := k) (b := 9) (by omega) (by decide)).mp a; omega
  have nh : f12_isHouse m (nI k) = false := by
    rcases hse_or T (nI k) with ⟨h, hh, e, _⟩ | ⟨_, a, _⟩
    · have := (nI_eq (a := k) (b := h) (by omega) (by omega)).mp e; omega
    · exact a
  unfold f12_isSo o12_isSo
  simp only [if_neg ne, nh, if_neg Bool.false_ne_true]
  exact ⟨trivial, trivial⟩
theorem who_in {H B : Nat} {LL : List LW} {hd : Int32} {e : Nat} {z : Int32} (he : e ≤ 9) : ∀ (fu k n : Nat) (c m : SI), CTX H B LL hd c m → n ≤ k → k ≤ 10 → 10 < k + fu → ∃ r c' m', f11_who_c28 (nI e) z fu (nI n) (nI k) c = (r, c') ∧ f12_who_c29 (nI e) z fu (nI n) (nI k) m = (r, m') ∧ o12_who_c29 (nI e) z fu (nI n) (nI k) m ∧ SX c c' ∧ FO m m' ∧ (z < -1 → r = -1) := by
  have zn : z < -1 → ∀ n, n < 300 → ¬ nI n = z := fun hz n hn e => by
    rw [← e, lt_ti, nI_toInt (by omega), ti_m1] at hz
    omega
  intro fu
  induction fu with
  | zero => intro k n c m _ _ h1 h2; omega
  | succ fu ih =>
    intro k n c m X hn h1 h2
    have T := X.1
    have hH := T.1
    rw [f11_who_c28, f12_who_c29, o12_who_c29, hou_c T]
    by_cases q : k = 10
    · subst q
      have lt : (9 : Int32) < nI 10 := by decide
      rw [if_pos lt, if_pos lt, if_pos lt]
      by_cases u : z = -1
      · rw [if_pos u, if_pos u, if_pos u]
        exact ⟨_, c, m, rfl, rfl, trivial, SX_rf c, fun _ _ => rfl, fun hz => by rw [u] at hz; exact absurd hz (by decide)⟩
      · rw [if_neg u, if_neg u, if_neg u]
        exact ⟨_, c, m, rfl, rfl, trivial, SX_rf c, fun _ _ => rfl, fun _ => rfl⟩
    · have nlt : ¬ (9 : Int32) < nI k := nI_nlt (a := 9) (b := k) (by omega) (by decide)
      rw [if_neg nlt, if_neg nlt, if_neg nlt, nI_1, nI_1]
      have both : (k < H ∨ k = 9) → ∃ r c' m', (if (f11_isSeenSo c (nI k) (nI e)).1 = true then (if nI n = z then (nI k, (f11_isSeenSo c (nI k) (nI e)).2) else f11_who_c28 (nI e) z fu (nI (n + 1)) (nI (k + 1)) (f11_isSeenSo c (nI k) (nI e)).2) else f11_who_c28 (nI e) z fu (nI n) (nI (k + 1)) (f11_isSeenSo c (nI k) (nI e)).2) = (r, c') ∧ (if (f12_isSo m (nI k) (nI e)).1 = true then (if nI n = z then (nI k, (f12_isSo m (nI k) (nI e)).2) else f12_who_c29 (nI e) z fu (nI (n + 1)) (nI (k + 1)) (f12_isSo m (nI k) (nI e)).2) else f12_who_c29 (nI e) z fu (nI n) (nI (k + 1)) (f12_isSo m (nI k) (nI e)).2) = (r, m') ∧ (o12_isSo m (nI k) (nI e) ∧ (if (f12_isSo m (nI k) (nI e)).1 = true then (if nI n = z then True else o12_who_c29 (nI e) z fu (nI (n + 1)) (nI (k + 1)) (f12_isSo m (nI k) (nI e)).2) else o12_who_c29 (nI e) z fu (nI n) (nI (k + 1)) (f12_isSo m (nI k) (nI e)).2)) ∧ SX c c' ∧ FO m m' ∧ (z < -1 → r = -1) := by
        intro hk
        obtain ⟨t, c1, m1, e1, e2, o, S, F⟩ := so_both X he hk
        rw [e1, e2]
        dsimp only
        have X1 := FO_FA' X S F
        by_cases ht : t = true
        · rw [if_pos ht, if_pos ht, if_pos ht]
          by_cases u : nI n = z
          · rw [if_pos u, if_pos u, if_pos u]
            exact ⟨_, c1, m1, rfl, rfl, ⟨o, trivial⟩, S, F, fun hz => absurd u (zn hz n (by omega))⟩
          · rw [if_neg u, if_neg u, if_neg u]
            obtain ⟨r', c', m', i1, i2, i3, i4, i5, i6⟩ := ih (k + 1) (n + 1) c1 m1 X1 (by omega) (by omega) (by omega)
            exact ⟨r', c', m', i1, i2, ⟨o, i3⟩, SX_tr S i4, FO_tr F i5, i6⟩
        · rw [if_neg ht, if_neg ht, if_neg ht]
          obtain ⟨r', c', m', i1, i2, i3, i4, i5, i6⟩ := ih (k + 1) n c1 m1 X1 (by omega) (by omega) (by omega)
          exact ⟨r', c', m', i1, i2, ⟨o, i3⟩, SX_tr S i4, FO_tr F i5, i6⟩
      by_cases w : k < H
      · rw [if_pos (nI_lt w (by omega))]
        exact both (Or.inl w)
      · rw [if_neg (nI_nlt (by omega) (by omega))]
        by_cases w9 : k = 9
        · rw [if_pos (show nI k = 9 by rw [w9]; rfl)]
          exact both (Or.inr w9)
        · have ne9 : ¬ nI k = 9 := fun a => w9 ((nI_eq (a := k) (b := 9) (by omega) (by decide)).mp a)
          rw [if_neg ne9]
          obtain ⟨n1, n2⟩ := so_none (y := nI e) T (by omega : H ≤ k) (by omega)
          rw [n1]
          dsimp only
          rw [if_neg Bool.false_ne_true, if_neg Bool.false_ne_true]
          obtain ⟨r', c', m', i1, i2, i3, i4, i5, i6⟩ := ih (k + 1) n c m X (by omega) (by omega) (by omega)
          exact ⟨r', c', m', i1, i2, ⟨n2, i3⟩, i4, i5, i6⟩
theorem t_who {G : Nat} {c m : SI} (I : INV G c m) (x z : Int32) : RUN G (f11_who c x z) (f12_who m x z) (o12_who m x z) := by
  obtain ⟨H, B, LL, hd, X⟩ := INV_ctx I
  have T := X.1
  unfold f11_who f12_who o12_who
  rw [show fu1 ((Int32.toInt (9 : Int32) + 1 - Int32.toInt (0 : Int32)).toNat) = 11 from fu_bdE (a := 9) (by decide)]
  rcases told_c T with ⟨e, hz, hq⟩ | ⟨e, hz, hq⟩
  · rw [e, if_pos rfl, if_neg hq, if_neg hq]
    rcases in_nat1 (x := x) (k := 9) (by decide) with ⟨j, h1, hj, rfl, i1, i2, i3, _⟩ | ⟨i1, i2⟩ | ⟨i1, i2, i3, i4⟩
    · rw [show f12_in (nI j) 1 9 = true from i1, if_pos rfl, if_pos rfl, if_neg i2, if_pos (show nI j ≤ 9 from i3)]
      obtain ⟨r, c', m', k1, k2, k3, S, F, k6⟩ := who_in (z := z) hj 11 0 0 c m X (Nat.le_refl _) (by omega) (by omega)
      rw [show f11_who_c28 (nI j) z 11 0 0 c = _ from k1]
      have KF' : KM m m' := ⟨fun a q => F a (by omega), fun i _ => by rw [F 123 (by decide)]⟩
      by_cases q : -1 ≤ z
      · rw [if_pos q, if_pos q, show f12_who_c29 (nI j) z 11 0 0 m = _ from k2]
        exact ⟨rfl, k3, INV_k I (SX_KC S) KF' (Nat.le_refl _)⟩
      · rw [if_neg q, if_neg q]
        exact ⟨k6 (by rw [le_ti] at q; rw [lt_ti]; omega), trivial, INV_sx I S (FM_rf m)⟩
    · rw [show f12_in x 1 9 = false from i1, if_neg Bool.false_ne_true, if_neg Bool.false_ne_true, if_pos i2]; exact ⟨rfl, trivial, I⟩
    · rw [show f12_in x 1 9 = false from i1, if_neg Bool.false_ne_true, if_neg Bool.false_ne_true, if_neg i2, if_neg (show ¬ x ≤ 9 from i3)]; exact ⟨rfl, trivial, I⟩
  · rw [e, if_neg Bool.false_ne_true, if_pos hq, if_pos hq]; exact ⟨rfl, trivial, I⟩
