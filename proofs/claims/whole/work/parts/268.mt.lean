/-! numbers, and the calls that only ask -/
theorem nI_sub {a b : Nat} (h : b ≤ a) : nI a - nI b = nI (a - b) := by
  have e : nI a = nI (a - b) + nI b := by rw [nI_add, Nat.sub_add_cancel h]
  rw [e, Int32.add_sub_cancel]
theorem nI_divI {a b : Nat} (ha : a < 2 ^ 31) (hb : b < 2 ^ 31) : nI a / nI b = nI (a / b) := by
  apply Int32.toInt_inj.mp
  have hd : a / b ≤ a := Nat.div_le_self a b
  rw [Int32.toInt_div, nI_toInt ha, nI_toInt hb, nI_toInt (by omega), Int.tdiv_eq_ediv_of_nonneg (by omega)]
  have : ((a : Int) / (b : Int)) = ((a / b : Nat) : Int) := (Int.natCast_ediv a b).symm
  rw [this]
  generalize a / b = q at hd ⊢
  exact bm_id (by omega) (by omega)
theorem nI_modI {a b : Nat} (ha : a < 2 ^ 31) (hb : b < 2 ^ 31) : nI a - nI a / nI b * nI b = nI (a % b) := by
  rw [nI_divI ha hb, show nI (a / b) * nI b = nI (a / b * b) from pk_mul _ _, nI_sub (Nat.div_mul_le_self a b)]
  congr 1
  have := Nat.div_add_mod a b
  rw [Nat.mul_comm] at this
  omega
theorem nI_of_ti {x : Int32} {k : Nat} (h : x.toInt = (k : Int)) (hk : k < 2 ^ 31) : x = nI k := Int32.toInt_inj.mp (by rw [h, nI_toInt hk])
theorem fu_bd {a : Nat} (h : a < 2 ^ 31) : fu1 ((Int32.toInt (nI a) - Int32.toInt (0 : Int32)).toNat) = a + 1 := by
  have := toNat_sub_nI (a := a) (b := 0) h (by decide)
  rw [show (0 : Int32) = nI 0 from rfl, this, fu1_eq, Nat.sub_zero]
theorem fu_bdE {a : Nat} (h : a < 2 ^ 31) : fu1 ((Int32.toInt (nI a) + 1 - Int32.toInt (0 : Int32)).toNat) = a + 2 := by
  rw [fu1_eq, nI_toInt h, show (0 : Int32).toInt = 0 from rfl]
  omega
theorem in_or (x lo hi : Int32) : (f12_in x lo hi = true ∧ ¬ x < lo ∧ ¬ hi < x) ∨ (f12_in x lo hi = false ∧ (x < lo ∨ hi < x)) := by
  unfold f12_in
  by_cases h : x < lo
  · rw [if_pos h]; exact Or.inr ⟨rfl, Or.inl h⟩
  · rw [if_neg h]
    by_cases h2 : hi < x
    · rw [if_pos h2]; exact Or.inr ⟨rfl, Or.inr h2⟩
    · rw [if_neg h2]; exact Or.inl ⟨rfl, h, h2⟩
theorem in_nat {x : Int32} {k : Nat} (hk : k < 2 ^ 31) : (∃ j, j ≤ k ∧ x = nI j ∧ f12_in x 0 (nI k) = true ∧ ¬ x < 0 ∧ x ≤ nI k ∧ ¬ nI k < x) ∨ (f12_in x 0 (nI k) = false ∧ x < 0) ∨ (f12_in x 0 (nI k) = false ∧ ¬ x < 0 ∧ ¬ x ≤ nI k ∧ nI k < x) := by
  unfold f12_in
  by_cases h : x < 0
  · rw [if_pos h]; exact Or.inr (Or.inl ⟨rfl, h⟩)
  · rw [if_neg h]
    obtain ⟨j, hj, rfl⟩ := nI_of h
    by_cases h2 : j ≤ k
    · left
      rw [if_neg (nI_nlt h2 hk)]
      exact ⟨j, h2, rfl, rfl, h, nI_le h2 hk, nI_nlt h2 hk⟩
    · right; right
      rw [if_pos (nI_lt (by omega) hj)]
      exact ⟨rfl, h, nI_ge (by omega) hj, nI_lt (by omega) hj⟩
theorem in_nat1 {x : Int32} {k : Nat} (hk : k < 2 ^ 31) : (∃ j, 1 ≤ j ∧ j ≤ k ∧ x = nI j ∧ f12_in x 1 (nI k) = true ∧ ¬ x < 1 ∧ x ≤ nI k ∧ ¬ nI k < x) ∨ (f12_in x 1 (nI k) = false ∧ x < 1) ∨ (f12_in x 1 (nI k) = false ∧ ¬ x < 1 ∧ ¬ x ≤ nI k ∧ nI k < x) := by
  unfold f12_in
  by_cases h : x < 1
  · rw [if_pos h]; exact Or.inr (Or.inl ⟨rfl, h⟩)
  · rw [if_neg h]
    have h0 : ¬ x < 0 := by
      rw [lt_ti] at h ⊢
      rw [ti_1] at h
      rw [show (0 : Int32).toInt = 0 from rfl]
      omega
    obtain ⟨j, hj, rfl⟩ := nI_of h0
    have h1 : 1 ≤ j := by
      rw [lt_ti, ti_1, nI_toInt hj] at h
      omega
    by_cases h2 : j ≤ k
    · left
      rw [if_neg (nI_nlt h2 hk)]
      exact ⟨j, h1, h2, rfl, rfl, h, nI_le h2 hk, nI_nlt h2 hk⟩
    · right; right
      rw [if_pos (nI_lt (by omega) hj)]
      exact ⟨rfl, h, nI_ge (by omega) hj, nI_lt (by omega) hj⟩
theorem loglen {g : Nat} {c : SI} (h : c 24 8 = nI g) (hg : g < 2 ^ 31) : f0_logLength 24 c = nI (min 60 g) := by
  unfold f0_logLength
  rw [h]
  by_cases q : g < 60
  · rw [if_pos (show nI g < (60 : Int32) from nI_lt (b := 60) q (by decide)), Nat.min_eq_right (by omega)]
  · rw [if_neg (show ¬ nI g < (60 : Int32) from nI_nlt (b := 60) (by omega) hg), Nat.min_eq_left (by omega)]; rfl
theorem t_count {G : Nat} {c m : SI} (I : INV G c m) (hG : G < 2 ^ 31) (x : Int32) : f11_count c x = f12_count m x := by
  obtain ⟨H, B, LL, hd, g, n, x', gs, h1, h2, h3, h4, h5, h6, h7, h8, h9, h10⟩ := I
  obtain ⟨d1, d2, d3, d4, d5, d6, d7, d8, d9, d10, d11⟩ := h4
  have q25 : m 123 25 = nI H := h2.2.2.2.2.1
  unfold f11_count f11_countNow f12_count
  by_cases e0 : x = 0
  · rw [if_pos e0, if_pos e0, q25]; exact hou_c h2
  rw [if_neg e0, if_neg e0]
  by_cases e1 : x = 1
  · rw [if_pos e1, if_pos e1]; exact (bea_c h2).trans h2.2.2.2.2.2.2.1.symm
  rw [if_neg e1, if_neg e1]
  by_cases e2 : x = 2
  · rw [if_pos e2, if_pos e2]; exact h3.2.1.trans h3.2.2.1.symm
  rw [if_neg e2, if_neg e2]
  by_cases e3 : x = 3
  · rw [if_pos e3, if_pos e3]; exact h1.1.trans h1.2.1.symm
  rw [if_neg e3, if_neg e3]
  by_cases e4 : x = 4
  · rw [if_pos e4, if_pos e4]; exact h3.2.2.2.1.trans h3.2.2.2.2.1.symm
  rw [if_neg e4, if_neg e4]
  by_cases e5 : x = 5
  · subst e5; exact d8.1
  by_cases e6 : x = 6
  · subst e6; exact d3.1
  by_cases e7 : x = 7
  · subst e7
    show c 24 4 = if m 123 25 = 0 then -1 else m 140 10
    rcases told_c h2 with ⟨_, hz, hq⟩ | ⟨_, hz, hq⟩
    · rw [if_neg hq]; exact (d5 hz).1
    · rw [if_pos hq]; exact d6 hz
  by_cases e8 : x = 8
  · subst e8
    show fbitCount (c 24 5) = fbitCount (m 140 11)
    exact congrArg fbitCount d7
  by_cases e9 : x = 9
  · subst e9; exact d4.1
  by_cases e10 : x = 10
  · subst e10; exact d9
  by_cases e11 : x = 11
  · subst e11; exact h8.1
  by_cases e12 : x = 12
  · subst e12
    obtain ⟨a, _, a1, a2, _⟩ := h10.1
    exact a1.trans a2.symm
  by_cases e13 : x = 13
  · subst e13
    obtain ⟨a, _, a1, a2, _⟩ := h10.2
    exact a1.trans a2.symm
  by_cases e14 : x = 14
  · subst e14; exact (loglen d10 (by omega)).trans d11.1.symm
  by_cases e15 : x = 15
  · subst e15; exact h6.2.2.1.trans h6.2.2.2.1.symm
  rw [if_neg e11, if_neg e12, if_neg e13, if_neg e15, if_neg e5, if_neg e6, if_neg e7, if_neg e8, if_neg e9, if_neg e10, if_neg e14, if_neg e5, if_neg e6, if_neg e7, if_neg e8, if_neg e9, if_neg e10, if_neg e11, if_neg e12, if_neg e13, if_neg e14, if_neg e15]
theorem t_rule {G : Nat} {c m : SI} (I : INV G c m) (x : Int32) : f11_rule c x = f12_rule m x ∧ o12_rule m x := by
  obtain ⟨H, B, LL, hd, T, L, D⟩ := INV_pick I
  obtain ⟨d1, d2, _⟩ := D
  obtain ⟨r1, r2, r3⟩ := rul_c T
  obtain ⟨s1, s2, _⟩ := str_c T
  unfold f11_rule f12_rule o12_rule
  rcases told_c T with ⟨e, hz, hq⟩ | ⟨e, hz, hq⟩
  · rw [e, if_pos rfl, if_neg hq, if_neg hq]
    by_cases e0 : x = 0
    · subst e0; exact ⟨r1, vp_in_nI (n := 0) (N := 3) (by decide) (by decide), trivial⟩
    by_cases e1 : x = 1
    · subst e1; exact ⟨d2.1, trivial⟩
    by_cases e2 : x = 2
    · subst e2; exact ⟨r3, vp_in_nI (n := 2) (N := 3) (by decide) (by decide), trivial⟩
    by_cases e3 : x = 3
    · subst e3; exact ⟨s1, s2, trivial⟩
    rw [if_neg e0, if_neg e1, if_neg e2, if_neg e3]
    rcases in_nat (x := x) (k := 3) (by decide) with ⟨j, hj, rfl, _⟩ | ⟨i1, _⟩ | ⟨i1, _⟩
    · have : j = 0 ∨ j = 1 ∨ j = 2 ∨ j = 3 := by omega
      rcases this with rfl | rfl | rfl | rfl
      · exact absurd rfl e0
      · exact absurd rfl e1
      · exact absurd rfl e2
      · exact absurd rfl e3
    · rw [show f12_in x 0 3 = false from i1, if_neg Bool.false_ne_true, if_neg Bool.false_ne_true]; exact ⟨rfl, trivial⟩
    · rw [show f12_in x 0 3 = false from i1, if_neg Bool.false_ne_true, if_neg Bool.false_ne_true]; exact ⟨rfl, trivial⟩
  · rw [e, if_neg Bool.false_ne_true, if_pos hq, if_pos hq]; exact ⟨rfl, trivial⟩
theorem t_bearer {G : Nat} {c m : SI} (I : INV G c m) (x : Int32) : f11_bearer c x = f12_bearer m x ∧ o12_bearer m x := by
  obtain ⟨H, B, LL, hd, T, L, D⟩ := INV_pick I
  have hB := T.2.1
  have e2 : m 123 26 = nI B := T.2.2.2.2.2.2.1
  unfold f11_bearer f12_bearer o12_bearer
  rw [bea_c T, e2]
  by_cases h0 : x < 0
  · rw [if_pos h0]
    have : f12_in x 0 (nI B - 1) = false := by unfold f12_in; rw [if_pos h0]
    rw [this, if_neg Bool.false_ne_true, if_neg Bool.false_ne_true]; exact ⟨rfl, trivial⟩
  · rw [if_neg h0]
    obtain ⟨j, hj, rfl⟩ := nI_of h0
    by_cases hjB : j < B
    · have hp : nI B - 1 = nI (B - 1) := nI_sub (b := 1) (by omega)
      rw [if_neg (nI_ge hjB (by omega)), str_at T hjB, hp]
      have : f12_in (nI j) 0 (nI (B - 1)) = true := by unfold f12_in; rw [if_neg h0, if_neg (nI_nlt (by omega) (by omega))]
      rw [this, if_pos rfl, if_pos rfl, nI_clamp hj]
      exact ⟨rfl, vp_in_nI (by omega) (by decide), trivial⟩
    · rw [if_pos (nI_le (by omega) hj)]
      have : f12_in (nI j) 0 (nI B - 1) = false := by
        unfold f12_in
        rw [if_neg h0, if_pos]
        by_cases hz : B = 0
        · subst hz
          rw [lt_ti, nI_toInt hj, show (nI 0 - 1 : Int32).toInt = -1 from by decide +kernel]
          omega
        · rw [show nI B - 1 = nI (B - 1) from nI_sub (b := 1) (by omega)]
          exact nI_lt (by omega) hj
      rw [this, if_neg Bool.false_ne_true, if_neg Bool.false_ne_true]; exact ⟨rfl, trivial⟩
theorem t_status {G : Nat} {c m : SI} (I : INV G c m) (x : Int32) : f11_status c x = f12_status m x ∧ o12_status m x := by
  obtain ⟨H, B, LL, hd, g, n, x', gs, h1, h2, h3, h4, h5, h6, h7, h8, h9, h10⟩ := I
  unfold f11_status f12_status o12_status
  rcases in_nat (x := x) (k := 4) (by decide) with ⟨j, hj, rfl, i1, i2, _⟩ | ⟨i1, i2⟩ | ⟨i1, i2, _, i4⟩
  · rw [show f12_in (nI j) 0 4 = true from i1, if_pos rfl, if_pos rfl, if_neg i2, if_neg (show ¬ (5 : Int32) ≤ nI j from nI_ge (b := 5) (by omega) (by decide)), nI_clamp (by omega)]
    exact ⟨h8.2.2 j (by omega), vp_in_nI (by omega) (by decide), trivial⟩
  · rw [show f12_in x 0 4 = false from i1, if_neg Bool.false_ne_true, if_neg Bool.false_ne_true, if_pos i2]; exact ⟨rfl, trivial⟩
  · obtain ⟨j, hj, rfl⟩ := nI_of i2
    have h5' : (5 : Int32) ≤ nI j := nI_le (a := 5) (by
      have := (nI_ltI (a := 4) (by decide) hj).mp i4
      omega) hj
    rw [show f12_in (nI j) 0 4 = false from i1, if_neg Bool.false_ne_true, if_neg Bool.false_ne_true, if_neg i2, if_pos h5']; exact ⟨rfl, trivial⟩
theorem t_steps {G : Nat} {c m : SI} (I : INV G c m) (x y : Int32) : f11_steps c x y = f12_steps m x y ∧ o12_steps m x y := by
  obtain ⟨H, B, LL, hd, T, L, D⟩ := INV_pick I
  have hH := T.1
  unfold f11_steps f12_steps o12_steps
  rcases hse_or T y with ⟨j, hj, rfl, y1, y2⟩ | ⟨y1, y2, _⟩
  · rw [y1, y2]
    simp only [if_true]
    have M := DN_MB D (by omega)
    by_cases e : x = -1
    · subst e
      obtain ⟨q1, q2⟩ := stepsNow_m T M hj
      have q3 : f11_stepsTo c (nI j) = sD m j := by
        unfold f11_stepsTo
        rw [(D.2.2.2.2.1 (by omega)).1]
        exact (dist T M.2.2.2.1 hj).1
      simp only [if_true, q3, q1]
      refine ⟨?_, ?_⟩
      · split <;> rfl
      · split <;> exact ⟨q2, trivial⟩
    · simp only [if_neg e]
      rcases hse_or T x with ⟨i, hi, rfl, x1, x2⟩ | ⟨x1, x2, _⟩
      · obtain ⟨q1, q2, _⟩ := dist T (Or.inr ⟨i, hi, rfl⟩) hj
        rw [x1, x2, if_pos rfl, if_pos rfl, if_pos rfl]
        exact ⟨q1, q2, trivial⟩
      · rw [x1, x2, if_neg Bool.false_ne_true, if_neg Bool.false_ne_true, if_neg Bool.false_ne_true]
        exact ⟨rfl, trivial⟩
  · rw [y1, y2]
    simp only [if_neg Bool.false_ne_true]
    refine ⟨?_, trivial⟩
    split
    · rfl
    · split <;> rfl
theorem t_stands {G : Nat} {c m : SI} (I : INV G c m) (x : Int32) : RUN G (f11_stands c x) (f12_stands m x) (o12_stands m x) := by
  obtain ⟨H, B, LL, hd, T, L, D⟩ := INV_pick I
  unfold f11_stands f12_stands o12_stands
  rcases hse_or T x with ⟨h, hh, rfl, y1, y2⟩ | ⟨y1, y2, _⟩
  · have hH := T.1
    have M := DN_MB D (by omega)
    rw [y1, y2, if_pos rfl, if_pos rfl, if_pos rfl, grief_c (by omega), (D.1 h hh).1]
    obtain ⟨c', e1, S⟩ := standsNow_c (LL := LL) (hd := hd) T L D hh (bnd_le (M.1 h hh) (by decide) (by decide))
    obtain ⟨m', e2, o, F⟩ := standsNow_m (LL := LL) (hd := hd) T L M hh
    rw [e1, e2]
    exact ⟨rfl, ⟨o, trivial⟩, INV_sx I (SC_SX S) F⟩
  · rw [y1, y2, if_neg Bool.false_ne_true, if_neg Bool.false_ne_true, if_neg Bool.false_ne_true]
    exact ⟨rfl, trivial, I⟩
theorem t_remains {G : Nat} {c m : SI} (I : INV G c m) (x : Int32) : RUN G (f11_remains c x) (f12_remains m x) (o12_remains m x) := by
  obtain ⟨H, B, LL, hd, T, L, D⟩ := INV_pick I
  unfold f11_remains f12_remains o12_remains
  rcases hse_or T x with ⟨h, hh, rfl, y1, y2⟩ | ⟨y1, y2, _⟩
  · have hH := T.1
    have M := DN_MB D (by omega)
    rw [y1, y2, if_pos rfl, if_pos rfl, if_pos rfl, grief_c (by omega), (D.1 h hh).1]
    obtain ⟨c', e1, S⟩ := standsNow_c (LL := LL) (hd := hd) T L D hh (bnd_le (M.1 h hh) (by decide) (by decide))
    obtain ⟨m', e2, o, F⟩ := endOf_m (LL := LL) (hd := hd) T L M hh
    rw [e1, e2]
    refine ⟨?_, ⟨o, trivial⟩, INV_sx I (SC_SX S) F⟩
    have q3 : f11_stepsTo c (nI h) = sD m h := by
      unfold f11_stepsTo
      rw [(D.2.2.2.2.1 (by omega)).1]
      exact (dist T M.2.2.2.1 hh).1
    show ((f8_timeThereIs 10 c - c 24 2) - f11_stepsTo c (nI h)) - st LL hd m h = m 137 0 - sE LL hd m h
    rw [(rul_c T).1, q3, D.2.2.1.1]
    obtain ⟨t1, t2⟩ := T.2.2.2.2.2.2.2.2.2.2.1.1
    obtain ⟨u1, u2⟩ := M.2.1
    obtain ⟨v1, v2⟩ := sD_bnd T M hh
    obtain ⟨w1, w2⟩ := st_bnd (LL := LL) (hd := hd) (B := B) M hh
    obtain ⟨z0, z1, z2⟩ := sE_bnd (LL := LL) (hd := hd) T M hh
    have a1 : (m 137 0 - m 140 8).toInt = (m 137 0).toInt - (m 140 8).toInt := ti_sub' (by omega) (by omega)
    have a2 : ((m 137 0 - m 140 8) - sD m h).toInt = (m 137 0).toInt - (m 140 8).toInt - (sD m h).toInt := by rw [ti_sub' (by omega) (by omega), a1]
    apply Int32.toInt_inj.mp
    rw [ti_sub' (a := (m 137 0 - m 140 8) - sD m h) (by omega) (by omega), a2, ti_sub' (a := m 137 0) (by omega) (by omega), z0]
    omega
  · rw [y1, y2, if_neg Bool.false_ne_true, if_neg Bool.false_ne_true, if_neg Bool.false_ne_true]
    exact ⟨rfl, trivial, I⟩
