/-! most, shorter, waits, stood, seen, log -/
noncomputable def fin (m : SI) (x a b : Int32) : Int32 := if x = 0 then a else (if x = 1 then f12_nearest m else (if x = 2 then b else (if x = 3 then f12_contents m else (if x = 4 then m 137 0 - m 140 8 else (if x = 5 then f12_allStrength m - m 140 9 else (if x = 6 then m 140 11 else (if m 140 10 = -1 then 0 else f12_stepsTo m (-1) (m 140 10))))))))
theorem near_in {H B : Nat} {c m : SI} (T : TR H B c m) (D : DN H c m) : ∀ (fu j : Nat) (p : Int32), j ≤ H → Pos H p → f11_nearest_c4 c fu p (nI j) = f12_nearest_c4 m fu p (nI j) ∧ o12_nearest_c4 m fu p (nI j) := by
  have hH := T.1
  intro fu
  induction fu with
  | zero => intro j p h1 h2; exact ⟨rfl, trivial⟩
  | succ fu ih =>
    intro j p h1 h2
    rw [f11_nearest_c4, f12_nearest_c4, o12_nearest_c4, hou_c T, hou_m T]
    by_cases q : j = H
    · subst q
      rw [if_pos (nI_le (Nat.le_refl _) (by omega)), if_pos (nI_le (Nat.le_refl _) (by omega)), if_pos (nI_le (Nat.le_refl _) (by omega))]
      exact ⟨rfl, trivial⟩
    · have hj : j < H := by omega
      have M := DN_MB D (by omega)
      have ep : c 24 4 = m 140 10 := (D.2.2.2.2.1 (by omega)).1
      have st' : ∀ i, i < H → f11_stepsTo c (nI i) = f12_stepsNow m (nI i) := fun i hi => by
        unfold f11_stepsTo f12_stepsNow
        rw [ep]
        exact (dist T M.2.2.2.1 hi).1
      rw [if_neg (nI_ge hj (by omega)), if_neg (nI_ge hj (by omega)), if_neg (nI_ge hj (by omega)), nI_1, ep]
      obtain ⟨k1, k2⟩ := ih (j + 1) p (by omega) h2
      obtain ⟨l1, l2⟩ := ih (j + 1) (nI j) (by omega) (Or.inr ⟨j, hj, rfl⟩)
      by_cases w : nI j = m 140 10
      · rw [if_pos w, if_pos w, if_pos w]; exact ⟨k1, k2⟩
      · rw [if_neg w, if_neg w, if_neg w]
        by_cases u : p = -1
        · rw [if_pos u, if_pos u, if_pos u]; exact ⟨l1, l2⟩
        · rw [if_neg u, if_neg u, if_neg u]
          rcases h2 with h2 | ⟨i, hi, rfl⟩
          · exact absurd h2 u
          · rw [st' i hi, st' j hj]
            have o1 := (stepsNow_m T M hj).2
            have o2 := (stepsNow_m T M hi).2
            by_cases v : f12_stepsNow m (nI i) ≤ f12_stepsNow m (nI j)
            · rw [if_pos v, if_pos v, if_pos v]; exact ⟨k1, o1, o2, k2⟩
            · rw [if_neg v, if_neg v, if_neg v]; exact ⟨l1, o1, o2, l2⟩
theorem cont_in {H B : Nat} {c m : SI} (T : TR H B c m) (D : DN H c m) : ∀ (fu j : Nat) (p : Int32), j ≤ H → f11_content_c4 c fu p (nI j) = f12_contents_c4 m fu p (nI j) ∧ o12_contents_c4 m fu p (nI j) := by
  have hH := T.1
  intro fu
  induction fu with
  | zero => intro j p h1; exact ⟨rfl, trivial⟩
  | succ fu ih =>
    intro j p h1
    rw [f11_content_c4, f12_contents_c4, o12_contents_c4, hou_c T, hou_m T]
    by_cases q : j = H
    · subst q
      rw [if_pos (nI_le (Nat.le_refl _) (by omega)), if_pos (nI_le (Nat.le_refl _) (by omega)), if_pos (nI_le (Nat.le_refl _) (by omega))]
      exact ⟨rfl, trivial⟩
    · have hj : j < H := by omega
      rw [if_neg (nI_ge hj (by omega)), if_neg (nI_ge hj (by omega)), if_neg (nI_ge hj (by omega)), nI_1, gr_c T D hj, idx (by omega), Int32.or_zero]
      by_cases w : m 140 j = 0
      · rw [if_pos w, if_pos w, if_pos w]
        obtain ⟨k1, k2⟩ := ih (j + 1) (p ||| ((1 : Int32) <<< (nI j &&& 31))) (by omega)
        exact ⟨k1, vpx (by omega), k2⟩
      · rw [if_neg w, if_neg w, if_neg w]
        obtain ⟨k1, k2⟩ := ih (j + 1) p (by omega)
        exact ⟨k1, vpx (by omega), k2⟩
theorem most_in {H B : Nat} {c m : SI} (T : TR H B c m) (D : DN H c m) (hz : H ≠ 0) (x : Int32) : ∀ (fu j a b : Nat), j ≤ H → a < H → b < H → H < j + fu → f12_most_c26 m x fu (nI a) (nI b) (nI j) = fin m x (f11_hardest_c4 c fu (nI a) (nI j)) (f11_farthest_c4 c fu (nI b) (nI j)) ∧ o12_most_c26 m x fu (nI a) (nI b) (nI j) := by
  have hH := T.1
  have M := DN_MB D hz
  intro fu
  induction fu with
  | zero => intro j a b h1 h2 h3 h4; omega
  | succ fu ih =>
    intro j a b h1 ha hb h4
    rw [f11_hardest_c4, f11_farthest_c4, f12_most_c26, o12_most_c26, hou_c T, hou_m T]
    by_cases q : j = H
    · subst q
      rw [if_pos (nI_le (Nat.le_refl _) (by omega)), if_pos (nI_le (Nat.le_refl _) (by omega)), if_pos (nI_le (Nat.le_refl _) (by omega)), if_pos (nI_le (Nat.le_refl _) (by omega))]
      refine ⟨rfl, ?_⟩
      have on : o12_nearest m := by
        unfold o12_nearest
        rw [hou_m T]
        exact (near_in T D _ 0 (-1) (Nat.zero_le _) (Or.inl rfl)).2
      have oc : o12_contents m := by
        unfold o12_contents
        rw [hou_m T]
        exact (cont_in T D _ 0 0 (Nat.zero_le _)).2
      have os := (str_c T).2.1
      split
      · trivial
      split
      · exact ⟨on, trivial⟩
      split
      · trivial
      split
      · exact ⟨oc, trivial⟩
      split
      · trivial
      split
      · exact ⟨os, trivial⟩
      split
      · trivial
      split
      · trivial
      · rename_i u
        rcases M.2.2.2.1 with h2 | ⟨i, hi, e⟩
        · exact absurd h2 u
        · rw [e]
          exact ⟨(dist T (Or.inl rfl) hi).2.1, trivial⟩
    · have hj : j < H := by omega
      obtain ⟨d1, d2, _⟩ := dist (p := -1) T (Or.inl rfl) hj
      obtain ⟨d3, d4, _⟩ := dist (p := -1) T (Or.inl rfl) hb
      rw [if_neg (nI_ge hj (by omega)), if_neg (nI_ge hj (by omega)), if_neg (nI_ge hj (by omega)), if_neg (nI_ge hj (by omega)), nI_1, gr_c T D hj, gr_c T D ha, idx (by omega), idx (by omega), d1, d3]
      have va := vpx (j := a) (by omega)
      have vj := vpx (j := j) (by omega)
      by_cases w : m 140 j ≤ m 140 a
      · rw [if_pos w, if_pos w, if_pos w]
        by_cases u : f12_stepsTo m (-1) (nI j) ≤ f12_stepsTo m (-1) (nI b)
        · rw [if_pos u, if_pos u, if_pos u]
          obtain ⟨i1, i2⟩ := ih (j + 1) a b (by omega) ha hb (by omega)
          exact ⟨i1, vj, va, d2, d4, i2⟩
        · rw [if_neg u, if_neg u, if_neg u]
          obtain ⟨i1, i2⟩ := ih (j + 1) a j (by omega) ha hj (by omega)
          exact ⟨i1, vj, va, d2, d4, i2⟩
      · rw [if_neg w, if_neg w, if_neg w]
        by_cases u : f12_stepsTo m (-1) (nI j) ≤ f12_stepsTo m (-1) (nI b)
        · rw [if_pos u, if_pos u, if_pos u]
          obtain ⟨i1, i2⟩ := ih (j + 1) j b (by omega) hj hb (by omega)
          exact ⟨i1, vj, va, d2, d4, i2⟩
        · rw [if_neg u, if_neg u, if_neg u]
          obtain ⟨i1, i2⟩ := ih (j + 1) j j (by omega) hj hj (by omega)
          exact ⟨i1, vj, va, d2, d4, i2⟩
theorem back_d {H B : Nat} {c m : SI} (T : TR H B c m) {p : Int32} (hp : Pos H p) : f8_distance 10 c p (-1) = if p = -1 then 0 else f12_stepsTo m (-1) p := by
  unfold f8_distance f8_xOf f8_yOf
  rw [ofH_m1 T, ofH_m1 T]
  rcases hp with rfl | ⟨h, hh, rfl⟩
  · rw [ofH_m1 T, ofH_m1 T, if_pos rfl]
    rfl
  · have hH := T.1
    rw [if_neg (nI_ne_m1 (by omega)), show f8_ofHouse 10 c (nI h) 0 = _ from ofH T hh (by decide : 0 < 4), show f8_ofHouse 10 c (nI h) 1 = _ from ofH T hh (by decide : 1 < 4)]
    unfold f12_stepsTo
    rw [if_pos rfl, if_pos rfl, show f12_of m (nI h) 0 = _ from (ofM T hh (by decide : 0 < 4)).1, show f12_of m (nI h) 1 = _ from (ofM T hh (by decide : 1 < 4)).1]
theorem t_most {G : Nat} {c m : SI} (I : INV G c m) (x : Int32) : f11_most c x = f12_most m x ∧ o12_most m x := by
  obtain ⟨H, B, LL, hd, T, L, D⟩ := INV_pick I
  have hH := T.1
  unfold f11_most f12_most o12_most
  rcases told_c T with ⟨e, hz, hq⟩ | ⟨e, hz, hq⟩
  · rw [e, if_pos rfl, if_neg hq, if_neg hq]
    have h2 : 2 ≤ H := (T.2.2.1 hz).1
    have M := DN_MB D hz
    have ef : fu1 ((Int32.toInt (nI H) - Int32.toInt (1 : Int32)).toNat) = H := by
      rw [fu1_eq, nI_toInt (by omega), ti_1]; omega
    obtain ⟨i1, i2⟩ := most_in T D hz x H 1 0 0 (by omega) (by omega) (by omega) (by omega)
    have e1 : f11_hardest c = f11_hardest_c4 c H (nI 0) (nI 1) := by unfold f11_hardest; rw [hou_c T, ef]; rfl
    have e2 : f11_farthest c = f11_farthest_c4 c H (nI 0) (nI 1) := by unfold f11_farthest; rw [hou_c T, ef]; rfl
    have e3 : f11_nearest c = f12_nearest m := by
      unfold f11_nearest f12_nearest
      rw [hou_c T, hou_m T]
      exact (near_in T D _ 0 (-1) (Nat.zero_le _) (Or.inl rfl)).1
    have e4 : f11_content c = f12_contents m := by
      unfold f11_content f12_contents
      rw [hou_c T, hou_m T]
      exact (cont_in T D _ 0 0 (Nat.zero_le _)).1
    rw [hou_m T, ef]
    rw [show f12_most_c26 m x H 0 0 1 = _ from i1, ← e1, ← e2, e3, e4, (rul_c T).1, D.2.2.1.1, D.2.2.2.1.1, (str_c T).1, D.2.2.2.2.2.2.1, (D.2.2.2.2.1 hz).1, back_d T M.2.2.2.1]
    unfold fin
    rcases in_nat (x := x) (k := 7) (by decide) with ⟨j, hj, rfl, i3, _⟩ | ⟨i3, i4⟩ | ⟨i3, i4, i5, _⟩
    · rw [show f12_in (nI j) 0 7 = true from i3, if_pos rfl, if_pos rfl]
      refine ⟨?_, i2⟩
      have : j = 0 ∨ j = 1 ∨ j = 2 ∨ j = 3 ∨ j = 4 ∨ j = 5 ∨ j = 6 ∨ j = 7 := by omega
      rcases this with rfl | rfl | rfl | rfl | rfl | rfl | rfl | rfl <;> rfl
    · rw [show f12_in x 0 7 = false from i3, if_neg Bool.false_ne_true, if_neg Bool.false_ne_true]
      refine ⟨?_, trivial⟩
      have ne : ∀ k, k ≤ 7 → ¬ x = nI k := fun k hk e => nI_pos (n := k) (by omega) (e ▸ i4)
      rw [if_neg (show ¬ x = 0 from ne 0 (by decide)), if_neg (show ¬ x = 1 from ne 1 (by decide)), if_neg (show ¬ x = 2 from ne 2 (by decide)), if_neg (show ¬ x = 3 from ne 3 (by decide)), if_neg (show ¬ x = 4 from ne 4 (by decide)), if_neg (show ¬ x = 5 from ne 5 (by decide)), if_neg (show ¬ x = 6 from ne 6 (by decide)), if_neg (show ¬ x = 7 from ne 7 (by decide))]
    · rw [show f12_in x 0 7 = false from i3, if_neg Bool.false_ne_true, if_neg Bool.false_ne_true]
      refine ⟨?_, trivial⟩
      have ne : ∀ k, k ≤ 7 → ¬ x = nI k := fun k hk e => i5 (e ▸ nI_le hk (by decide))
      rw [if_neg (show ¬ x = 0 from ne 0 (by decide)), if_neg (show ¬ x = 1 from ne 1 (by decide)), if_neg (show ¬ x = 2 from ne 2 (by decide)), if_neg (show ¬ x = 3 from ne 3 (by decide)), if_neg (show ¬ x = 4 from ne 4 (by decide)), if_neg (show ¬ x = 5 from ne 5 (by decide)), if_neg (show ¬ x = 6 from ne 6 (by decide)), if_neg (show ¬ x = 7 from ne 7 (by decide))]
  · rw [e, if_neg Bool.false_ne_true, if_pos hq, if_pos hq]; exact ⟨rfl, trivial⟩
