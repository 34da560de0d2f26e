/-! reading a town: is it whole; clause by clause; the whole tape -/
theorem hou4 {c : SI} {a : Nat} (h : c 6 1 = nI a) : f8_houses 4 c = nI a := (cell_at (k := 6) (n := 3) (i := 1) (σ := c) (by decide) (by decide)).trans h
theorem bea4 {c : SI} {b : Nat} (h : c 6 2 = nI b) : f8_bearers 4 c = nI b := (cell_at (k := 6) (n := 3) (i := 2) (σ := c) (by decide) (by decide)).trans h
def Pm (m : SI) (h o : Nat) : Prop := m 135 (4 * o) = m 135 (4 * h) ∧ m 135 (4 * o + 1) = m 135 (4 * h + 1)
theorem of4 {r : Bool} {a b h j : Nat} {c m : SI} (D : DT r a b c m) (hh : h < a) (hj : j < 4) : f8_ofHouse 4 c (nI h) (nI j) = m 135 (4 * h + j) := by
  obtain ⟨_, d1, _, _, _, d5, _, _, d8, _⟩ := D
  rw [of_slot (by omega) hj]
  exact (d8 h hh j hj).1
theorem dab_0 {x y : Nat} (hx : x ≤ 9) (hy : y ≤ 9) : (dab (nI x) (nI y)).toInt = ((x : Int) - (y : Int)).natAbs := by
  have := dab_v (a := nI x) (b := nI y) (nI_bnd (by omega) (by omega)) (nI_bnd (by omega) (by omega))
  rw [this, nI_toInt (by omega), nI_toInt (by omega)]
theorem dist4 {r : Bool} {a b h o : Nat} {c m : SI} (D : DT r a b c m) (hh : h < a) (ho : o < a) : f8_distance 4 c (nI h) (nI o) = 0 ↔ Pm m h o := by
  have d8 := D.2.2.2.2.2.2.2.2.1
  have d5 := D.2.2.2.2.2.1
  obtain ⟨_, x1, ex1, _, bx1⟩ := d8 h hh 0 (by decide)
  obtain ⟨_, y1, ey1, _, by1⟩ := d8 h hh 1 (by decide)
  obtain ⟨_, x2, ex2, _, bx2⟩ := d8 o ho 0 (by decide)
  obtain ⟨_, y2, ey2, _, by2⟩ := d8 o ho 1 (by decide)
  have bx1 : x1 ≤ 9 := bx1
  have bx2 : x2 ≤ 9 := bx2
  have by1 : y1 ≤ 9 := by1
  have by2 : y2 ≤ 9 := by2
  have e : f8_distance 4 c (nI h) (nI o) = dab (nI x1) (nI x2) + dab (nI y1) (nI y2) := by
    have u1 : f8_ofHouse 4 c (nI h) 0 = nI x1 := (of4 D hh (by decide : 0 < 4)).trans ex1
    have u2 : f8_ofHouse 4 c (nI h) 1 = nI y1 := (of4 D hh (by decide : 1 < 4)).trans ey1
    have u3 : f8_ofHouse 4 c (nI o) 0 = nI x2 := (of4 D ho (by decide : 0 < 4)).trans ex2
    have u4 : f8_ofHouse 4 c (nI o) 1 = nI y2 := (of4 D ho (by decide : 1 < 4)).trans ey2
    unfold f8_distance f8_xOf f8_yOf
    rw [u1, u2, u3, u4]
    rfl
  have v1 := dab_0 bx1 bx2
  have v2 := dab_0 by1 by2
  have t0 : (0 : Int32).toInt = 0 := rfl
  have es : (dab (nI x1) (nI x2) + dab (nI y1) (nI y2)).toInt = (((x1 : Int) - (x2 : Int)).natAbs : Int) + (((y1 : Int) - (y2 : Int)).natAbs : Int) := by
    rw [ti_add' (by omega) (by omega), v1, v2]
  rw [e]
  unfold Pm
  rw [show 4 * o = 4 * o + 0 from rfl, show m 135 (4 * h) = m 135 (4 * h + 0) from rfl, ex1, ey1, ex2, ey2, nI_eq (by omega) (by omega), nI_eq (by omega) (by omega)]
  constructor
  · intro q
    rw [q, t0] at es
    omega
  · intro q
    exact Int32.toInt_inj.mp (by rw [es, t0]; omega)
theorem shI {r : Bool} {a b h : Nat} {c m : SI} {K : Int32 → Bool} {k0 : Bool} (D : DT r a b c m) (hh : h < a) (hK : ∀ x, K x = k0) : ∀ (fu o : Nat), o ≤ h → h < o + fu → (f8_hasSharedPlace_c12 4 c (nI h) K fu (nI o) = true ↔ (∃ o', o ≤ o' ∧ o' < h ∧ Pm m h o') ∨ k0 = true) := by
  have d5 := D.2.2.2.2.2.1
  intro fu
  induction fu with
  | zero => intro o h1 h2; omega
  | succ fu ih =>
    intro o h1 h2
    rw [f8_hasSharedPlace_c12]
    by_cases q : o = h
    · subst q
      rw [if_pos (nI_le (Nat.le_refl _) (by omega)), hK]
      exact ⟨fun e => Or.inr e, fun e => by
        rcases e with ⟨o', x, y, _⟩ | e
        · omega
        · exact e⟩
    · rw [if_neg (nI_ge (by omega) (by omega)), show nI o + 1 = nI (o + 1) from nI_add o 1]
      by_cases z : Pm m h o
      · rw [if_pos ((dist4 D hh (by omega)).mpr z)]
        exact ⟨fun _ => Or.inl ⟨o, Nat.le_refl _, by omega, z⟩, fun _ => rfl⟩
      · rw [if_neg (fun e => z ((dist4 D hh (by omega)).mp e)), ih (o + 1) (by omega) (by omega)]
        constructor
        · rintro (⟨o', x, y, w⟩ | e)
          · exact Or.inl ⟨o', by omega, y, w⟩
          · exact Or.inr e
        · rintro (⟨o', x, y, w⟩ | e)
          · by_cases u : o' = o
            · subst u; exact absurd w z
            · exact Or.inl ⟨o', by omega, y, w⟩
          · exact Or.inr e
theorem shO {r : Bool} {a b : Nat} {c m : SI} (D : DT r a b c m) : ∀ (fu h : Nat), h ≤ a → a < h + fu → (f8_hasSharedPlace_c2 4 c fu (nI h) = true ↔ ∃ h' o, h ≤ h' ∧ h' < a ∧ o < h' ∧ Pm m h' o) := by
  have d5 := D.2.2.2.2.2.1
  have d1 := D.2.1
  intro fu
  induction fu with
  | zero => intro h h1 h2; omega
  | succ fu ih =>
    intro h h1 h2
    rw [f8_hasSharedPlace_c2, hou4 d1]
    by_cases q : h = a
    · subst q
      rw [if_pos (nI_le (Nat.le_refl _) (by omega))]
      exact ⟨fun e => absurd e Bool.false_ne_true, fun ⟨h', o, x, y, _⟩ => by omega⟩
    · rw [if_neg (nI_ge (by omega) (by omega)), fu_bd (by omega)]
      rw [show f8_hasSharedPlace_c12 4 c (nI h) (fun _ => f8_hasSharedPlace_c2 4 c fu (nI h + 1)) (h + 1) 0 = true ↔ _ from shI (k0 := f8_hasSharedPlace_c2 4 c fu (nI h + 1)) D (by omega) (fun _ => rfl) (h + 1) 0 (Nat.zero_le _) (by omega), show nI h + 1 = nI (h + 1) from nI_add h 1, ih (h + 1) (by omega) (by omega)]
      constructor
      · rintro (⟨o, x, y, w⟩ | ⟨h', o, x, y, z⟩)
        · exact ⟨h, o, Nat.le_refl _, by omega, y, w⟩
        · exact ⟨h', o, by omega, y, z⟩
      · rintro ⟨h', o, x, y, z, w⟩
        by_cases u : h' = h
        · subst u; exact Or.inl ⟨o, Nat.zero_le _, z, w⟩
        · exact Or.inr ⟨h', o, by omega, y, z, w⟩
theorem whI {m : SI} {h : Nat} {K : Bool → Int32 → Bool} {oK' : Bool → Int32 → Prop} (hh : h < 7) (hO : ∀ v x, oK' v x) : ∀ (fu o : Nat) (v : Bool), o ≤ h → h < o + fu → ∃ w x, f12_isWhole_c33 m (nI h) K fu v (nI o) = K w x ∧ o12_isWhole_c33 m (nI h) oK' fu v (nI o) ∧ (w = true ↔ v = true ∧ ∀ o', o ≤ o' → o' < h → ¬ Pm m h o') := by
  intro fu
  induction fu with
  | zero => intro o v h1 h2; omega
  | succ fu ih =>
    intro o v h1 h2
    rw [f12_isWhole_c33, o12_isWhole_c33]
    by_cases q : o = h
    · subst q
      have le : nI o ≤ nI o := nI_le (Nat.le_refl _) (by omega)
      rw [if_pos le, if_pos le]
      exact ⟨v, nI o, rfl, hO _ _, ⟨fun e => ⟨e, fun o' x y => by omega⟩, fun e => e.1⟩⟩
    · have nle : ¬ nI h ≤ nI o := nI_ge (by omega) (by omega)
      have i4 : ∀ k j : Nat, (4 : Int32) * nI k + nI j = nI (4 * k + j) := fun k j => by rw [show (4 : Int32) = nI 4 from rfl, show nI 4 * nI k = nI (4 * k) from pk_mul _ _, nI_add]
      have i40 : ∀ k : Nat, (4 : Int32) * nI k + 0 = nI (4 * k) := fun k => i4 k 0
      have i41 : ∀ k : Nat, (4 : Int32) * nI k + 1 = nI (4 * k + 1) := fun k => i4 k 1
      have vp : ∀ k, k < 28 → vp_in (nI k) 28 := fun k hk => vp_in_nI hk (by decide)
      rw [if_neg nle, if_neg nle, i40, i40, i41, i41, nI_clamp (by omega), nI_clamp (by omega), nI_clamp (by omega), nI_clamp (by omega), show nI o + 1 = nI (o + 1) from nI_add o 1]
      have keep : ∀ v' : Bool, (v' = true ↔ v = true ∧ ¬ Pm m h o) → ∃ w x, f12_isWhole_c33 m (nI h) K fu v' (nI (o + 1)) = K w x ∧ o12_isWhole_c33 m (nI h) oK' fu v' (nI (o + 1)) ∧ (w = true ↔ v = true ∧ ∀ o', o ≤ o' → o' < h → ¬ Pm m h o') := by
        intro v' hv
        obtain ⟨w, x, e1, e2, e3⟩ := ih (o + 1) v' (by omega) (by omega)
        refine ⟨w, x, e1, e2, e3.trans ⟨fun ⟨y, z⟩ => ⟨(hv.mp y).1, fun o' u1 u2 => ?_⟩, fun ⟨y, z⟩ => ⟨hv.mpr ⟨y, z o (Nat.le_refl _) (by omega)⟩, fun o' u1 u2 => z o' (by omega) u2⟩⟩⟩
        by_cases e : o' = o
        · subst e; exact (hv.mp y).2
        · exact z o' (by omega) u2
      by_cases hv : v = true
      · rw [if_pos hv, if_pos hv]
        by_cases p1 : m 135 (4 * o) = m 135 (4 * h)
        · rw [if_pos p1, if_pos p1]
          by_cases p2 : m 135 (4 * o + 1) = m 135 (4 * h + 1)
          · rw [if_pos p2, if_pos p2]
            obtain ⟨w, x, e1, e2, e3⟩ := keep false ⟨fun e => absurd e Bool.false_ne_true, fun e => absurd ⟨p1, p2⟩ e.2⟩
            exact ⟨w, x, e1, ⟨vp _ (by omega), vp _ (by omega), vp _ (by omega), vp _ (by omega), e2⟩, e3⟩
          · rw [if_neg p2, if_neg p2]
            obtain ⟨w, x, e1, e2, e3⟩ := keep true ⟨fun _ => ⟨hv, fun e => p2 e.2⟩, fun _ => rfl⟩
            exact ⟨w, x, e1, ⟨vp _ (by omega), vp _ (by omega), vp _ (by omega), vp _ (by omega), e2⟩, e3⟩
        · rw [if_neg p1, if_neg p1]
          obtain ⟨w, x, e1, e2, e3⟩ := keep true ⟨fun _ => ⟨hv, fun e => p1 e.1⟩, fun _ => rfl⟩
          exact ⟨w, x, e1, ⟨vp _ (by omega), vp _ (by omega), e2⟩, e3⟩
      · rw [if_neg hv, if_neg hv]
        obtain ⟨w, x, e1, e2, e3⟩ := keep false ⟨fun e => absurd e Bool.false_ne_true, fun e => absurd e.1 hv⟩
        exact ⟨w, x, e1, e2, e3⟩
theorem whO {m : SI} {a : Nat} (ha : a ≤ 7) (hm : m 123 20 = nI a) : ∀ (fu h : Nat) (v : Bool), h ≤ a → a < h + fu → (f12_isWhole_c23 m fu v (nI h) = true ↔ v = true ∧ ∀ h' o, h ≤ h' → h' < a → o < h' → ¬ Pm m h' o) ∧ o12_isWhole_c23 m fu v (nI h) := by
  intro fu
  induction fu with
  | zero => intro h v h1 h2; omega
  | succ fu ih =>
    intro h v h1 h2
    rw [f12_isWhole_c23, o12_isWhole_c23, hm]
    by_cases q : h = a
    · subst q
      have le : nI h ≤ nI h := nI_le (Nat.le_refl _) (by omega)
      rw [if_pos le, if_pos le]
      exact ⟨⟨fun e => ⟨e, fun h' o x y => by omega⟩, fun e => e.1⟩, trivial⟩
    · have nle : ¬ nI a ≤ nI h := nI_ge (by omega) (by omega)
      rw [if_neg nle, if_neg nle, fu_bd (by omega), show nI h + 1 = nI (h + 1) from nI_add h 1]
      obtain ⟨w, x, e1, e2, e3⟩ := whI (m := m) (h := h) (K := fun y _ => f12_isWhole_c23 m fu y (nI (h + 1))) (oK' := fun y _ => o12_isWhole_c23 m fu y (nI (h + 1))) (by omega) (fun y _ => (ih (h + 1) y (by omega) (by omega)).2) (h + 1) 0 v (Nat.zero_le _) (by omega)
      have e1' : f12_isWhole_c33 m (nI h) (fun y _ => f12_isWhole_c23 m fu y (nI (h + 1))) (h + 1) v 0 = _ := e1
      refine ⟨?_, e2⟩
      rw [e1', (ih (h + 1) w (by omega) (by omega)).1, e3]
      constructor
      · rintro ⟨⟨y, z⟩, t⟩
        refine ⟨y, fun h' o u1 u2 u3 => ?_⟩
        by_cases e : h' = h
        · subst e; exact z o (Nat.zero_le _) u3
        · exact t h' o (by omega) u2 u3
      · rintro ⟨y, z⟩
        exact ⟨⟨y, fun o _ u => z h o (Nat.le_refl _) (by omega) u⟩, fun h' o u1 u2 u3 => z h' o (by omega) u2 u3⟩
theorem whole_b {r : Bool} {a b : Nat} {c m : SI} (D : DT r a b c m) : f8_isWhole 4 c = f12_isWhole m ∧ o12_isWhole m ∧ (f8_isWhole 4 c = true → 2 ≤ a ∧ 1 ≤ b) := by
  have D0 := D
  obtain ⟨_, d1, d2, d3, d4, d5, d6, _⟩ := D0
  have sO := shO D (a + 1) 0 (Nat.zero_le _) (by omega)
  have wO := fun v => whO (m := m) d5 d3 (a + 1) 0 v (Nat.zero_le _) (by omega)
  unfold f8_isWhole f12_isWhole o12_isWhole f8_hasSharedPlace
  rw [hou4 d1, bea4 d2, d3, d4, fu_bd (by omega)]
  have fl : f12_isWhole_c23 m (a + 1) false 0 = false := by
    have := (wO false).1
    cases q : f12_isWhole_c23 m (a + 1) false 0
    · rfl
    · exact absurd (this.mp q).1 Bool.false_ne_true
  by_cases q1 : a < 2
  · have l1 : nI a ≤ (1 : Int32) := nI_le (b := 1) (by omega) (by decide)
    rw [if_pos (show nI a < (2 : Int32) from nI_lt (b := 2) q1 (by decide)), if_pos l1, if_pos l1, fl]
    exact ⟨rfl, (wO false).2, fun e => absurd e Bool.false_ne_true⟩
  · have l1 : ¬ nI a ≤ (1 : Int32) := nI_ge (a := 1) (by omega) (by omega)
    rw [if_neg (show ¬ nI a < (2 : Int32) from nI_nlt (b := 2) (by omega) (by omega)), if_neg l1, if_neg l1]
    by_cases q2 : b < 1
    · have l2 : nI b ≤ (0 : Int32) := nI_le (b := 0) (by omega) (by decide)
      rw [if_pos (show nI b < (1 : Int32) from nI_lt (b := 1) q2 (by decide)), if_pos l2, if_pos l2, fl]
      exact ⟨rfl, (wO false).2, fun e => absurd e Bool.false_ne_true⟩
    · have l2 : ¬ nI b ≤ (0 : Int32) := nI_ge (a := 0) (by omega) (by omega)
      rw [if_neg (show ¬ nI b < (1 : Int32) from nI_nlt (b := 1) (by omega) (by omega)), if_neg l2, if_neg l2]
      refine ⟨?_, (wO true).2, fun _ => ⟨by omega, by omega⟩⟩
      have w1 := (wO true).1
      have sO' : f8_hasSharedPlace_c2 4 c (a + 1) 0 = true ↔ _ := sO
      have w1' : f12_isWhole_c23 m (a + 1) true 0 = true ↔ _ := w1
      by_cases z : f8_hasSharedPlace_c2 4 c (a + 1) 0 = true
      · rw [if_pos z]
        obtain ⟨h', o, u1, u2, u3, u4⟩ := sO'.mp z
        cases y : f12_isWhole_c23 m (a + 1) true 0
        · rfl
        · exact absurd u4 ((w1'.mp y).2 h' o u1 u2 u3)
      · rw [if_neg z]
        exact (w1'.mpr ⟨rfl, fun h' o u1 u2 u3 u4 => z (sO'.mpr ⟨h', o, u1, u2, u3, u4⟩)⟩).symm
