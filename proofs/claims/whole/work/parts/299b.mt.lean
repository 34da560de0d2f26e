/-! text told as a town -/
theorem tt_43 {K : Int32 → SI → Int32 × SI} {oK' : Int32 → SI → Prop} : ∀ (fu v : Nat) (m : SI), v ≤ 28 → 28 < v + fu → ∃ x m', f12_takeTown_c43 K fu (nI v) m = K x m' ∧ (oK' x m' → o12_takeTown_c43 oK' fu (nI v) m) ∧ (∀ a, a ≠ 138 → m' a = m a) ∧ (∀ j, v ≤ j → j < 28 → m' 138 j = m 135 j) ∧ (∀ j, j < v → m' 138 j = m 138 j) := by
  intro fu
  induction fu with
  | zero => intro v m h1 h2; omega
  | succ fu ih =>
    intro v m h1 h2
    rw [f12_takeTown_c43, o12_takeTown_c43]
    by_cases q : v = 28
    · subst q
      have le : (28 : Int32) ≤ nI 28 := by decide
      rw [if_pos le, if_pos le]
      exact ⟨nI 28, m, rfl, fun o => o, fun _ _ => rfl, fun j x y => by omega, fun _ _ => rfl⟩
    · have nle : ¬ (28 : Int32) ≤ nI v := nI_ge (b := 28) (by omega) (by decide)
      rw [if_neg nle, if_neg nle, nI_clamp (by omega), show nI v + 1 = nI (v + 1) from nI_add v 1]
      obtain ⟨x, m', i1, i2, i3, i4, i5⟩ := ih (v + 1) (sp m 138 v (m 135 v)) (by omega) (by omega)
      refine ⟨x, m', i1, fun o => ⟨vp_in_nI (by omega) (by decide), vp_in_nI (by omega) (by decide), i2 o⟩, fun a y => by rw [i3 a y, sp_n y], fun j y z => ?_, fun j y => by rw [i5 j (by omega), sp_k (by omega)]⟩
      by_cases e : j = v
      · subst e
        rw [i5 _ (by omega), sp_r]
      · rw [i4 j (by omega) z, sp_n (by decide)]
theorem tt_69 {K : Int32 → SI → Int32 × SI} {oK' : Int32 → SI → Prop} {b : Nat} (hb : b ≤ 5) : ∀ (fu v : Nat) (m : SI), v ≤ 5 → 5 < v + fu → m 123 21 = nI b → ∃ x m', f12_takeTown_c69 K fu (nI v) m = K x m' ∧ (oK' x m' → o12_takeTown_c69 oK' fu (nI v) m) ∧ (∀ a, a ≠ 139 → m' a = m a) ∧ (∀ j, v ≤ j → j < b → m' 139 j = m 136 j) ∧ (∀ j, j < v → m' 139 j = m 139 j) := by
  intro fu
  induction fu with
  | zero => intro v m h1 h2; omega
  | succ fu ih =>
    intro v m h1 h2 hm
    rw [f12_takeTown_c69, o12_takeTown_c69, hm]
    by_cases q : v = 5
    · subst q
      have le : (5 : Int32) ≤ nI 5 := by decide
      rw [if_pos le, if_pos le]
      exact ⟨nI 5, m, rfl, fun o => o, fun _ _ => rfl, fun j x y => by omega, fun _ _ => rfl⟩
    · have nle : ¬ (5 : Int32) ≤ nI v := nI_ge (b := 5) (by omega) (by decide)
      have vp : vp_in (nI v) 5 := vp_in_nI (by omega) (by decide)
      rw [if_neg nle, if_neg nle, nI_clamp (by omega), show nI v + 1 = nI (v + 1) from nI_add v 1]
      have go : ∀ z, (v < b → z = m 136 v) → ∃ x m', f12_takeTown_c69 K fu (nI (v + 1)) (sp m 139 v z) = K x m' ∧ (oK' x m' → o12_takeTown_c69 oK' fu (nI (v + 1)) (sp m 139 v z)) ∧ (∀ a, a ≠ 139 → m' a = m a) ∧ (∀ j, v ≤ j → j < b → m' 139 j = m 136 j) ∧ (∀ j, j < v → m' 139 j = m 139 j) := by
        intro z hz
        obtain ⟨x, m', i1, i2, i3, i4, i5⟩ := ih (v + 1) (sp m 139 v z) (by omega) (by omega) (by rw [sp_n (by decide)]; exact hm)
        refine ⟨x, m', i1, i2, fun a y => by rw [i3 a y, sp_n y], fun j y w => ?_, fun j y => by rw [i5 j (by omega), sp_k (by omega)]⟩
        by_cases e : j = v
        · subst e
          rw [i5 _ (by omega), sp_r]
          exact hz w
        · rw [i4 j (by omega) w, sp_n (by decide)]
      by_cases u : b ≤ v
      · have le : nI b ≤ nI v := nI_le u (by omega)
        rw [if_pos le, if_pos le]
        obtain ⟨x, m', i1, i2, i3⟩ := go 0 (fun w => by omega)
        exact ⟨x, m', i1, fun o => ⟨vp, i2 o⟩, i3⟩
      · have le : ¬ nI b ≤ nI v := nI_ge (by omega) (by omega)
        rw [if_neg le, if_neg le]
        obtain ⟨x, m', i1, i2, i3⟩ := go (m 136 v) (fun _ => rfl)
        exact ⟨x, m', i1, fun o => ⟨vp, vp, i2 o⟩, i3⟩
theorem tt_106 {K : Int32 → SI → Int32 × SI} {oK' : Int32 → SI → Prop} : ∀ (fu v : Nat) (m : SI), v ≤ 255 → 255 < v + fu → ∃ x m', f12_takeTown_c106 K fu (nI v) m = K x m' ∧ (oK' x m' → o12_takeTown_c106 oK' fu (nI v) m) ∧ (∀ a, a ≠ 140 → m' a = m a) ∧ (∀ j, v ≤ j → j < 255 → m' 140 j = 0) ∧ (∀ j, j < v → m' 140 j = m 140 j) := by
  intro fu
  induction fu with
  | zero => intro v m h1 h2; omega
  | succ fu ih =>
    intro v m h1 h2
    rw [f12_takeTown_c106, o12_takeTown_c106]
    by_cases q : v = 255
    · subst q
      have le : (255 : Int32) ≤ nI 255 := by decide
      rw [if_pos le, if_pos le]
      exact ⟨nI 255, m, rfl, fun o => o, fun _ _ => rfl, fun j x y => by omega, fun _ _ => rfl⟩
    · have nle : ¬ (255 : Int32) ≤ nI v := nI_ge (b := 255) (by omega) (by decide)
      rw [if_neg nle, if_neg nle, nI_clamp (by omega), show nI v + 1 = nI (v + 1) from nI_add v 1]
      obtain ⟨x, m', i1, i2, i3, i4, i5⟩ := ih (v + 1) (sp m 140 v 0) (by omega) (by omega)
      refine ⟨x, m', i1, fun o => ⟨vp_in_nI (by omega) (by decide), i2 o⟩, fun a y => by rw [i3 a y, sp_n y], fun j y z => ?_, fun j y => by rw [i5 j (by omega), sp_k (by omega)]⟩
      by_cases e : j = v
      · subst e
        rw [i5 _ (by omega), sp_r]
      · exact i4 j (by omega) z
theorem tt_128 {K : Int32 → SI → Int32 × SI} {oK' : Int32 → SI → Prop} {a : Nat} (ha : a ≤ 7) : ∀ (fu v : Nat) (m : SI), v ≤ a → a < v + fu → m 123 25 = nI a → ∃ x m', f12_takeTown_c128 K fu (nI v) m = K x m' ∧ (oK' x m' → o12_takeTown_c128 oK' fu (nI v) m) ∧ (∀ b, b ≠ 140 → m' b = m b) ∧ (∀ j, v ≤ j → j < a → m' 140 j = m 138 (4 * j + 2)) ∧ (∀ j, j < v ∨ a ≤ j → m' 140 j = m 140 j) := by
  intro fu
  induction fu with
  | zero => intro v m h1 h2; omega
  | succ fu ih =>
    intro v m h1 h2 hm
    rw [f12_takeTown_c128, o12_takeTown_c128, hm]
    by_cases q : v = a
    · subst q
      have le : nI v ≤ nI v := nI_le (Nat.le_refl _) (by omega)
      rw [if_pos le, if_pos le]
      exact ⟨nI v, m, rfl, fun o => o, fun _ _ => rfl, fun j x y => by omega, fun _ _ => rfl⟩
    · have nle : ¬ nI a ≤ nI v := nI_ge (by omega) (by omega)
      obtain ⟨f1, f2⟩ := of_at (m := m) (h := v) (j := 2) (by omega) (by decide)
      have f1' : f12_of m (nI v) 2 = m 138 (4 * v + 2) := f1
      have f2' : o12_of m (nI v) 2 := f2
      rw [if_neg nle, if_neg nle, idx (by omega), f1', show nI v + 1 = nI (v + 1) from nI_add v 1]
      obtain ⟨x, m', i1, i2, i3, i4, i5⟩ := ih (v + 1) (sp m 140 v (m 138 (4 * v + 2))) (by omega) (by omega) (by rw [sp_n (by decide)]; exact hm)
      refine ⟨x, m', i1, fun o => ⟨f2', vpx (by omega), i2 o⟩, fun b y => by rw [i3 b y, sp_n y], fun j y z => ?_, fun j y => by rw [i5 j (by omega), sp_k (by omega)]⟩
      by_cases e : j = v
      · subst e
        rw [i5 _ (by omega), sp_r]
      · rw [i4 j (by omega) z, sp_n (by decide)]
noncomputable def tK4 : Int32 → SI → Int32 × SI := fun _ σk4 => ((σk4 123 25), sp (sp (sp (sp (sp (sp σk4 140 7 (σk4 137 1)) 140 10 (-1 : Int32)) 123 43 (0 : Int32)) 123 48 (0 : Int32)) 123 32 (0 : Int32)) 123 50 (0 : Int32))
def oK4 : Int32 → SI → Prop := fun _ _ => True
noncomputable def tK3 : Int32 → SI → Int32 × SI := fun _ σk3 => f12_takeTown_c128 tK4 (fu1 ((Int32.toInt (σk3 123 25) - Int32.toInt (0 : Int32)).toNat)) (0 : Int32) σk3
def oK3 : Int32 → SI → Prop := fun _ σk3 => o12_takeTown_c128 oK4 (fu1 ((Int32.toInt (σk3 123 25) - Int32.toInt (0 : Int32)).toNat)) (0 : Int32) σk3
noncomputable def tK2 : Int32 → SI → Int32 × SI := fun _ σk2 => f12_takeTown_c106 tK3 (fu1 ((Int32.toInt (255 : Int32) - Int32.toInt (0 : Int32)).toNat)) (0 : Int32) σk2
def oK2 : Int32 → SI → Prop := fun _ σk2 => o12_takeTown_c106 oK3 (fu1 ((Int32.toInt (255 : Int32) - Int32.toInt (0 : Int32)).toNat)) (0 : Int32) σk2
noncomputable def tK1 : Int32 → SI → Int32 × SI := fun _ σk1 => f12_takeTown_c69 tK2 (fu1 ((Int32.toInt (5 : Int32) - Int32.toInt (0 : Int32)).toNat)) (0 : Int32) σk1
def oK1 : Int32 → SI → Prop := fun _ σk1 => o12_takeTown_c69 oK2 (fu1 ((Int32.toInt (5 : Int32) - Int32.toInt (0 : Int32)).toNat)) (0 : Int32) σk1
theorem tt_18 (m : SI) : ∃ m', f12_takeTown_c18 4 (nI 0) m = f12_takeTown_c43 tK1 29 (nI 0) m' ∧ (o12_takeTown_c43 oK1 29 (nI 0) m' → o12_takeTown_c18 4 (nI 0) m) ∧ (∀ a, a ≠ 137 → m' a = m a) ∧ (∀ k, k < 3 → m' 137 k = m 134 k) := by
  have n0 : ¬ (3 : Int32) ≤ nI 0 := by decide
  have n1 : ¬ (3 : Int32) ≤ nI 1 := by decide
  have n2 : ¬ (3 : Int32) ≤ nI 2 := by decide
  have l3 : (3 : Int32) ≤ nI 3 := by decide
  have e28 : fu1 ((Int32.toInt (28 : Int32) - Int32.toInt (0 : Int32)).toNat) = 29 := fu_bd (a := 28) (by decide)
  have v : ∀ k, k < 3 → vp_in (nI k) 3 := fun k hk => vp_in_nI hk (by decide)
  refine ⟨sp (sp (sp m 137 0 (m 134 0)) 137 1 (m 134 1)) 137 2 (m 134 2), ?_, fun o => ?_, fun a x => by rw [sp_n x, sp_n x, sp_n x], fun k hk => ?_⟩
  · rw [f12_takeTown_c18, if_neg n0, nI_clamp (by decide), show nI 0 + 1 = nI 1 by decide]
    dsimp only
    rw [f12_takeTown_c18, if_neg n1, nI_clamp (by decide), show nI 1 + 1 = nI 2 by decide, sp_n (show 134 ≠ 137 by decide)]
    dsimp only
    rw [f12_takeTown_c18, if_neg n2, nI_clamp (by decide), show nI 2 + 1 = nI 3 by decide, sp_n (show 134 ≠ 137 by decide), sp_n (show 134 ≠ 137 by decide)]
    dsimp only
    rw [f12_takeTown_c18, if_pos l3, e28]
    rfl
  · rw [o12_takeTown_c18, if_neg n0, nI_clamp (by decide), show nI 0 + 1 = nI 1 by decide]
    dsimp only
    rw [o12_takeTown_c18, if_neg n1, nI_clamp (by decide), show nI 1 + 1 = nI 2 by decide, sp_n (show 134 ≠ 137 by decide)]
    dsimp only
    rw [o12_takeTown_c18, if_neg n2, nI_clamp (by decide), show nI 2 + 1 = nI 3 by decide, sp_n (show 134 ≠ 137 by decide), sp_n (show 134 ≠ 137 by decide)]
    dsimp only
    rw [o12_takeTown_c18, if_pos l3, e28]
    exact ⟨v 0 (by decide), v 0 (by decide), v 1 (by decide), v 1 (by decide), v 2 (by decide), v 2 (by decide), o⟩
  · rcases (by omega : k = 0 ∨ k = 1 ∨ k = 2) with rfl | rfl | rfl
    · rw [sp_k (by decide), sp_k (by decide), sp_r]
    · rw [sp_k (by decide), sp_r]
    · rw [sp_r]
theorem take_m {a b : Nat} {m : SI} (ha : a ≤ 7) (hb : b ≤ 5) (h20 : m 123 20 = nI a) (h21 : m 123 21 = nI b) : ∃ m', f12_takeTown m = (nI a, m') ∧ o12_takeTown m ∧ (∀ k, k ≠ 123 → k ≠ 137 → k ≠ 138 → k ≠ 139 → k ≠ 140 → m' k = m k) ∧ (∀ j, j ≠ 25 → j ≠ 26 → j ≠ 32 → j ≠ 43 → j ≠ 48 → j ≠ 50 → m' 123 j = m 123 j) ∧ m' 123 25 = nI a ∧ m' 123 26 = nI b ∧ m' 123 32 = 0 ∧ m' 123 43 = 0 ∧ m' 123 48 = 0 ∧ m' 123 50 = 0 ∧ (∀ j, j < 3 → m' 137 j = m 134 j) ∧ (∀ j, j < 28 → m' 138 j = m 135 j) ∧ (∀ j, j < b → m' 139 j = m 136 j) ∧ (∀ j, j < a → m' 140 j = m 135 (4 * j + 2)) ∧ m' 140 7 = m 134 1 ∧ m' 140 10 = -1 ∧ (∀ j, 7 < j → j ≠ 10 → j < 255 → m' 140 j = 0) := by
  have e3 : fu1 ((Int32.toInt (3 : Int32) - Int32.toInt (0 : Int32)).toNat) = 4 := fu_bd (a := 3) (by decide)
  have e5 : fu1 ((Int32.toInt (5 : Int32) - Int32.toInt (0 : Int32)).toNat) = 6 := fu_bd (a := 5) (by decide)
  have e255 : fu1 ((Int32.toInt (255 : Int32) - Int32.toInt (0 : Int32)).toNat) = 256 := fu_bd (a := 255) (by decide)
  unfold f12_takeTown o12_takeTown
  dsimp only
  rw [e3, h20, h21]
  generalize hs : sp (sp m 123 25 (nI a)) 123 26 (nI b) = s
  have sa : ∀ k, k ≠ 123 → s k = m k := fun k x => by rw [← hs, sp_n x, sp_n x]
  have sj : ∀ j, j ≠ 25 → j ≠ 26 → s 123 j = m 123 j := fun j x y => by rw [← hs, sp_k y, sp_k x]
  have s25 : s 123 25 = nI a := by rw [← hs, sp_k (by decide), sp_r]
  have s26 : s 123 26 = nI b := by rw [← hs, sp_r]
  obtain ⟨m1, p1, p2, p3, p4⟩ := tt_18 s
  obtain ⟨x2, m2, q1, q2, q3, q4, _⟩ := tt_43 (K := tK1) (oK' := oK1) 29 0 m1 (by decide) (by decide)
  obtain ⟨x3, m3, r1, r2, r3, r4, _⟩ := tt_69 (K := tK2) (oK' := oK2) hb 6 0 m2 (by decide) (by decide) (by rw [q3 123 (by decide), p3 123 (by decide), sj 21 (by decide) (by decide)]; exact h21)
  obtain ⟨x4, m4, t1, t2, t3, t4, _⟩ := tt_106 (K := tK3) (oK' := oK3) 256 0 m3 (by decide) (by decide)
  have f25 : m4 123 25 = nI a := by rw [t3 123 (by decide), r3 123 (by decide), q3 123 (by decide), p3 123 (by decide)]; exact s25
  obtain ⟨x5, m5, u1, u2, u3, u4, u5⟩ := tt_128 (K := tK4) (oK' := oK4) ha (a + 1) 0 m4 (Nat.zero_le _) (by omega) f25
  have K1 : tK1 x2 m2 = tK2 x3 m3 := by unfold tK1; rw [e5]; exact r1
  have K2 : tK2 x3 m3 = tK3 x4 m4 := by unfold tK2; rw [e255]; exact t1
  have K3 : tK3 x4 m4 = tK4 x5 m5 := by unfold tK3; rw [f25, fu_bd (by omega)]; exact u1
  have O : o12_takeTown_c18 4 (nI 0) s := by
    refine p2 (q2 ?_)
    unfold oK1
    rw [e5]
    refine r2 ?_
    unfold oK2
    rw [e255]
    refine t2 ?_
    unfold oK3
    rw [f25, fu_bd (by omega)]
    exact u2 trivial
  have M5 : ∀ k, k ≠ 137 → k ≠ 138 → k ≠ 139 → k ≠ 140 → m5 k = s k := fun k w1 w2 w3 w4 => by rw [u3 k w4, t3 k w4, r3 k w3, q3 k w2, p3 k w1]
  have m5_25 : m5 123 25 = nI a := by rw [M5 123 (by decide) (by decide) (by decide) (by decide)]; exact s25
  have res : f12_takeTown_c18 4 (nI 0) s = (nI a, sp (sp (sp (sp (sp (sp m5 140 7 (m5 137 1)) 140 10 (-1 : Int32)) 123 43 (0 : Int32)) 123 48 (0 : Int32)) 123 32 (0 : Int32)) 123 50 (0 : Int32)) := by
    rw [p1, q1, K1, K2, K3]
    unfold tK4
    rw [m5_25]
  have m137 : ∀ j, j < 3 → m5 137 j = m 134 j := fun j hj => by rw [u3 137 (by decide), t3 137 (by decide), r3 137 (by decide), q3 137 (by decide), p4 j hj, sa 134 (by decide)]
  generalize hm : sp (sp (sp (sp (sp (sp m5 140 7 (m5 137 1)) 140 10 (-1 : Int32)) 123 43 (0 : Int32)) 123 48 (0 : Int32)) 123 32 (0 : Int32)) 123 50 (0 : Int32) = m' at res
  have ma : ∀ k, k ≠ 123 → k ≠ 140 → m' k = m5 k := fun k w1 w2 => by rw [← hm, sp_n w1, sp_n w1, sp_n w1, sp_n w1, sp_n w2, sp_n w2]
  have mj : ∀ j, j ≠ 32 → j ≠ 43 → j ≠ 48 → j ≠ 50 → m' 123 j = m5 123 j := fun j w1 w2 w3 w4 => by rw [← hm, sp_k w4, sp_k w1, sp_k w3, sp_k w2, sp_n (by decide), sp_n (by decide)]
  have m14 : ∀ j, j ≠ 7 → j ≠ 10 → m' 140 j = m5 140 j := fun j w1 w2 => by rw [← hm, sp_n (by decide), sp_n (by decide), sp_n (by decide), sp_n (by decide), sp_k w2, sp_k w1]
  have s123 : m5 123 = s 123 := M5 123 (by decide) (by decide) (by decide) (by decide)
  refine ⟨m', res, O, fun k w1 w2 w3 w4 w5 => by rw [ma k w1 w5, M5 k w2 w3 w4 w5, sa k w1], fun j w1 w2 w3 w4 w5 w6 => by rw [mj j w3 w4 w5 w6, s123, sj j w1 w2], ?_, ?_, ?_, ?_, ?_, ?_, fun j hj => ?_, fun j hj => ?_, fun j hj => ?_, fun j hj => ?_, ?_, ?_, fun j w1 w2 w3 => ?_⟩
  · rw [mj 25 (by decide) (by decide) (by decide) (by decide)]; exact m5_25
  · rw [mj 26 (by decide) (by decide) (by decide) (by decide), s123]; exact s26
  · rw [← hm, sp_k (by decide), sp_r]
  · rw [← hm, sp_k (by decide), sp_k (by decide), sp_k (by decide), sp_r]
  · rw [← hm, sp_k (by decide), sp_k (by decide), sp_r]
  · rw [← hm, sp_r]
  · rw [ma 137 (by decide) (by decide)]; exact m137 j hj
  · rw [ma 138 (by decide) (by decide), u3 138 (by decide), t3 138 (by decide), r3 138 (by decide), q4 j (Nat.zero_le _) hj, p3 135 (by decide), sa 135 (by decide)]
  · rw [ma 139 (by decide) (by decide), u3 139 (by decide), t3 139 (by decide), r4 j (Nat.zero_le _) hj, q3 136 (by decide), p3 136 (by decide), sa 136 (by decide)]
  · rw [m14 j (by omega) (by omega), u4 j (Nat.zero_le _) hj, t3 138 (by decide), r3 138 (by decide), q4 _ (Nat.zero_le _) (by omega), p3 135 (by decide), sa 135 (by decide)]
  · rw [← hm, sp_n (by decide), sp_n (by decide), sp_n (by decide), sp_n (by decide), sp_k (by decide), sp_r]; exact m137 1 (by decide)
  · rw [← hm, sp_n (by decide), sp_n (by decide), sp_n (by decide), sp_n (by decide), sp_r]
  · rw [m14 j (by omega) w2, u5 j (Or.inr (by omega)), t4 j (Nat.zero_le _) w3]
theorem beg_in {H B : Nat} {m : SI} : ∀ (fu v : Nat) (c : SI), TR H B c m → v ≤ 7 → 7 < v + fu → ∃ c', f0_begin_c2 24 10 fu (nI v) c = f0_goHome 24 (sp (sp (sp (sp c' 24 1 (f8_toldCoins 10 c')) 24 6 0) 24 7 0) 24 8 0) ∧ (∀ a, a ≠ 25 → c' a = c a) ∧ (∀ h, v ≤ h → h < H → c' 25 h = m 138 (4 * h + 2)) ∧ (∀ h, h < v → c' 25 h = c 25 h) := by
  intro fu
  induction fu with
  | zero => intro v c _ h1 h2; omega
  | succ fu ih =>
    intro v c T h1 h2
    have hH := T.1
    rw [f0_begin_c2]
    by_cases q : v = 7
    · subst q
      rw [if_pos (show (7 : Int32) ≤ nI 7 by decide)]
      exact ⟨c, rfl, fun _ _ => rfl, fun h x y => by omega, fun _ _ => rfl⟩
    · have es : f0_setGrievance 24 c (nI v) (f8_toldGrievance 10 c (nI v)) = sp c 25 v (f8_toldGrievance 10 c (nI v)) := set_at (k := 25) (n := 7) (by omega) (by decide)
      rw [if_neg (show ¬ (7 : Int32) ≤ nI v from nI_ge (b := 7) (by omega) (by decide)), show nI v + 1 = nI (v + 1) from nI_add v 1]
      dsimp only
      rw [es]
      obtain ⟨c', i1, i2, i3, i4⟩ := ih (v + 1) (sp c 25 v (f8_toldGrievance 10 c (nI v))) (TR_fr T (sp_n (by decide)) (sp_n (by decide)) rfl rfl rfl rfl rfl) (by omega) (by omega)
      refine ⟨c', i1, fun a x => by rw [i2 a x, sp_n x], fun h x y => ?_, fun h x => by rw [i4 h (by omega), sp_k (by omega)]⟩
      by_cases e : h = v
      · subst e
        rw [i4 h (by omega), sp_r]
        exact toldG_c T y
      · exact i3 h (by omega) y
theorem bnd_of {x : Int32} {lo hi : Nat} {l h : Int} (e : ∃ v, x = nI v ∧ lo ≤ v ∧ v ≤ hi) (h1 : l ≤ lo) (h2 : (hi : Int) ≤ h) (h3 : hi < 1000) : Bnd x l h := by
  obtain ⟨v, rfl, a, b⟩ := e
  unfold Bnd
  rw [nI_toInt (by omega)]
  omega
theorem DT_TR {v : Bool} {a b : Nat} {c m c1 m' : SI} (D : DT v a b c m) (h2 : 2 ≤ a) (h1 : 1 ≤ b) (c11 : ∀ j, j < 36 → c1 11 j = c 5 j) (c12 : ∀ j, j < 3 → c1 12 j = c 6 j) (m25 : m' 123 25 = nI a) (m26 : m' 123 26 = nI b) (m137 : ∀ j, j < 3 → m' 137 j = m 134 j) (m138 : ∀ j, j < 28 → m' 138 j = m 135 j) (m139 : ∀ j, j < b → m' 139 j = m 136 j) : TR a b c1 m' := by
  obtain ⟨d0, d1, d2, d3, d4, d5, d6, d7, d8, d9⟩ := D
  refine ⟨d5, d6, fun _ => ⟨h2, h1⟩, (c12 1 (by decide)).trans d1, m25, (c12 2 (by decide)).trans d2, m26, fun j hj => ?_, fun h j hh hj => ?_, fun i hi => ?_, ⟨?_, ?_, ?_⟩, fun h hh => ⟨?_, ?_, ?_, ?_⟩, fun i hi => ?_⟩
  · have := (d7 j hj).1
    rw [Nat.zero_add] at this
    rw [c11 j (by omega), m137 j hj, this]
  · rw [c11 _ (by omega), m138 _ (by omega)]
    exact (d8 h hh j hj).1
  · rw [c11 _ (by omega), m139 i hi]
    exact (d9 i hi 0 (show 0 < 1 by decide)).1
  · rw [m137 0 (by decide)]
    exact bnd_of (d7 0 (show 0 < 3 by decide)).2 (by decide) (by decide) (by decide)
  · rw [m137 1 (by decide)]
    exact bnd_of (d7 1 (show 1 < 3 by decide)).2 (by decide) (by decide) (by decide)
  · rw [m137 2 (by decide)]
    exact bnd_of (d7 2 (show 2 < 3 by decide)).2 (by decide) (by decide) (by decide)
  · rw [m138 _ (by omega)]
    exact bnd_of (d8 h hh 0 (show 0 < 4 by decide)).2 (by decide) (by decide) (by decide)
  · rw [m138 _ (by omega)]
    exact bnd_of (d8 h hh 1 (show 1 < 4 by decide)).2 (by decide) (by decide) (by decide)
  · rw [m138 _ (by omega)]
    exact bnd_of (d8 h hh 2 (show 2 < 4 by decide)).2 (by decide) (by decide) (by decide)
  · rw [m138 _ (by omega)]
    obtain ⟨_, w, ew, _, hw⟩ := d8 h hh 3 (show 3 < 4 by decide)
    have hw : w ≤ 1 := hw
    rw [ew]
    rcases (by omega : w = 0 ∨ w = 1) with rfl | rfl
    · exact Or.inl rfl
    · exact Or.inr rfl
  · rw [m139 i hi]
    exact bnd_of (d9 i hi 0 (show 0 < 1 by decide)).2 (by decide) (by decide) (by decide)
theorem text_town {G : Nat} {c m : SI} (I : INV G c m) : RUN G (f11_text c 0) (f12_text m 0) (o12_text m 0) := by
  obtain ⟨H, B, LL, hd, g, n, y, gs, J⟩ := I
  have J : IX0 G c m H B LL hd g n y gs := J
  have hT : TP c m := J.1
  have n01 : ¬ (0 : Int32) = 1 := by decide
  unfold f11_text f12_text o12_text
  simp only [if_true, if_neg n01]
  obtain ⟨⟨f, r⟩, o⟩ := reads_town hT
  obtain ⟨KC', KM'⟩ := TFr_K f
  have V : INV G (f9_reads c).2 (f12_readTown m).2 := INV_k (IX0_inv J) KC' KM' (Nat.le_refl _)
  generalize f9_reads c = rc at f r V KC'
  generalize f12_readTown m = rm at f r V KM'
  rcases r with ⟨r1, r2, v, a, b, D, ha2, hb1⟩ | ⟨r1, w, hw, r2, r3⟩
  · rw [if_pos r1, if_pos r2, if_pos r2]
    have ha7 : a ≤ 7 := D.2.2.2.2.2.1
    have hb5 : b ≤ 5 := D.2.2.2.2.2.2.1
    obtain ⟨m', t1, t2, ta, tj, t25, t26, t32, t43, t48, t50, t137, t138, t139, t140, t7, t10, t0⟩ := take_m (m := sp rm.2 123 2 0) ha7 hb5 (by rw [sp_k (by decide)]; exact D.2.2.2.1) (by rw [sp_k (by decide)]; exact D.2.2.2.2.1)
    rw [t1]
    obtain ⟨H2, B2, LL2, hd2, g2, n2, y2, gs2, J2⟩ := V
    have J2 : IX0 G rc.2 rm.2 H2 B2 LL2 hd2 g2 n2 y2 gs2 := J2
    unfold f11_settle f8_copy f0_begin
    rw [cut_0 J2.1]
    dsimp only
    have e7 : fu1 ((Int32.toInt (7 : Int32) - Int32.toInt (0 : Int32)).toNat) = 8 := fu_bd (a := 7) (by decide)
    rw [e7]
    generalize hc1 : su (su (sp rc.2 1 1 0) (10 + 1) (va_cpy ((sp rc.2 1 1 0) (4 + 1)) ((sp rc.2 1 1 0) (10 + 1)) 0 0 36)) (10 + 2) (va_cpy ((su (sp rc.2 1 1 0) (10 + 1) (va_cpy ((sp rc.2 1 1 0) (4 + 1)) ((sp rc.2 1 1 0) (10 + 1)) 0 0 36)) (4 + 2)) ((su (sp rc.2 1 1 0) (10 + 1) (va_cpy ((sp rc.2 1 1 0) (4 + 1)) ((sp rc.2 1 1 0) (10 + 1)) 0 0 36)) (10 + 2)) 0 0 3) = c1
    have c1a : ∀ k, k ≠ 1 → k ≠ 11 → k ≠ 12 → c1 k = rc.2 k := fun k x1 x2 x3 => by rw [← hc1, su_n _ _ x3, su_n _ _ x2, sp_n x1]
    have c1_1 : c1 1 1 = 0 := by rw [← hc1, su_n _ _ (by decide), su_n _ _ (by decide), sp_r]
    have c1_11 : ∀ j, j < 36 → c1 11 j = rc.2 5 j := fun j hj => by rw [← hc1, su_n _ _ (by decide), su_s, cpy_at hj, sp_n (by decide)]
    have c1_12 : ∀ j, j < 3 → c1 12 j = rc.2 6 j := fun j hj => by rw [← hc1, su_s, cpy_at hj, su_n _ _ (by decide), sp_n (by decide)]
    have T : TR a b c1 m' := DT_TR D ha2 hb1 c1_11 c1_12 t25 t26 (fun j hj => by rw [t137 j hj, sp_n (by decide)]) (fun j hj => by rw [t138 j hj, sp_n (by decide)]) (fun j hj => by rw [t139 j hj, sp_n (by decide)])
    obtain ⟨c2, b1, b2, b3, _⟩ := beg_in 8 0 c1 T (by decide) (by decide)
    have b1' : f0_begin_c2 24 10 8 0 c1 = _ := b1
    rw [b1']
    have T2 : TR a b c2 m' := TR_fr T (b2 11 (by decide)) (b2 12 (by decide)) rfl rfl rfl rfl rfl
    unfold f0_goHome f5_forget f10_forget
    dsimp only
    rw [(rul_c T2).2.1]
    generalize hc : sp (sp (sp (sp (sp (sp (sp (sp (sp (sp (sp (sp (sp c2 24 1 (m' 137 1)) 24 6 0) 24 7 0) 24 8 0) 24 4 (-1)) 24 2 0) 24 3 0) 24 5 0) 26 4 0) 26 5 0) 26 6 0) 33 2 0) 33 3 0 = c'
    have ca : ∀ k, k ≠ 1 → k ≠ 11 → k ≠ 12 → k ≠ 24 → k ≠ 25 → k ≠ 26 → k ≠ 33 → c' k = rc.2 k := fun k x1 x2 x3 x4 x5 x6 x7 => by
      rw [← hc, sp_n x7, sp_n x7, sp_n x6, sp_n x6, sp_n x6, sp_n x4, sp_n x4, sp_n x4, sp_n x4, sp_n x4, sp_n x4, sp_n x4, sp_n x4, b2 k x5, c1a k x1 x2 x3]
    have cb : ∀ k, k ≠ 24 → k ≠ 26 → k ≠ 33 → c' k = c2 k := fun k x4 x6 x7 => by
      rw [← hc, sp_n x7, sp_n x7, sp_n x6, sp_n x6, sp_n x6, sp_n x4, sp_n x4, sp_n x4, sp_n x4, sp_n x4, sp_n x4, sp_n x4, sp_n x4]
    have T3 : TR a b c' m' := TR_fr T2 (cb 11 (by decide) (by decide) (by decide)) (cb 12 (by decide) (by decide) (by decide)) rfl rfl rfl rfl rfl
    have w24 : ∀ j, c' 24 j = (sp (sp (sp (sp (sp (sp (sp (sp c2 24 1 (m' 137 1)) 24 6 0) 24 7 0) 24 8 0) 24 4 (-1)) 24 2 0) 24 3 0) 24 5 0) 24 j := fun j => by
      rw [← hc, sp_n (by decide), sp_n (by decide), sp_n (by decide), sp_n (by decide), sp_n (by decide)]
    have c11' : c' 1 1 = 0 := by rw [cb 1 (by decide) (by decide) (by decide), b2 1 (by decide)]; exact c1_1
    have m2' : m' 123 2 = 0 := by rw [tj 2 (by decide) (by decide) (by decide) (by decide) (by decide) (by decide), sp_r]
    have mj : ∀ j, j ≠ 2 → j ≠ 25 → j ≠ 26 → j ≠ 32 → j ≠ 43 → j ≠ 48 → j ≠ 50 → m' 123 j = rm.2 123 j := fun j x0 x1 x2 x3 x4 x5 x6 => by rw [tj j x1 x2 x3 x4 x5 x6, sp_k x0]
    have ma : ∀ k, k ≠ 123 → k ≠ 137 → k ≠ 138 → k ≠ 139 → k ≠ 140 → m' k = rm.2 k := fun k x1 x2 x3 x4 x5 => by rw [ta k x1 x2 x3 x4 x5, sp_n x1]
    have hres : f8_houses 10 c' = nI a := hou_c T3
    have g0 : ∀ h, h < a → m' 140 h = m' 138 (4 * h + 2) := fun h hh => by rw [t140 h hh, t138 _ (by omega)]
    have DD : DN a c' m' := by
      refine ⟨fun h hh => ⟨?_, ?_⟩, ⟨?_, ?_⟩, ⟨?_, ?_⟩, ⟨?_, ?_⟩, fun _ => ⟨?_, ?_⟩, fun e => by omega, ?_, ⟨?_, ?_⟩, ?_, ?_⟩
      · rw [cb 25 (by decide) (by decide) (by decide), b3 h (Nat.zero_le _) hh, g0 h hh]
      · rw [g0 h hh]; exact (T3.2.2.2.2.2.2.2.2.2.2.2.1 h hh).2.2.1
      · rw [w24, sp_k (by decide), sp_k (by decide), sp_k (by decide), sp_k (by decide), sp_k (by decide), sp_k (by decide), sp_k (by decide), sp_r, t7, t137 1 (by decide)]
      · rw [t7, ← t137 1 (by decide)]; exact bnd_le T3.2.2.2.2.2.2.2.2.2.2.1.2.1 (by decide) (by decide)
      · rw [w24, sp_k (by decide), sp_k (by decide), sp_r, t0 8 (by decide) (by decide) (by decide)]
      · rw [t0 8 (by decide) (by decide) (by decide)]; exact ⟨by decide, by decide⟩
      · rw [w24, sp_k (by decide), sp_r, t0 9 (by decide) (by decide) (by decide)]
      · rw [t0 9 (by decide) (by decide) (by decide)]; exact ⟨by decide, by decide⟩
      · rw [w24, sp_k (by decide), sp_k (by decide), sp_k (by decide), sp_r, t10]
      · rw [t10]; exact Or.inl rfl
      · rw [w24, sp_r, t0 11 (by decide) (by decide) (by decide)]
      · rw [w24, sp_k (by decide), sp_k (by decide), sp_k (by decide), sp_k (by decide), sp_k (by decide), sp_k (by decide), sp_r, t0 12 (by decide) (by decide) (by decide)]
      · rw [t0 12 (by decide) (by decide) (by decide)]; exact ⟨by decide, by decide⟩
      · rw [w24, sp_k (by decide), sp_k (by decide), sp_k (by decide), sp_k (by decide), sp_k (by decide), sp_r, t0 13 (by decide) (by decide) (by decide)]
      · rw [t0 11 (by decide) (by decide) (by decide)]; exact ⟨0, by decide, rfl⟩
    have e248 : c' 24 8 = nI 0 := by rw [w24, sp_k (by decide), sp_k (by decide), sp_k (by decide), sp_k (by decide), sp_r]; rfl
    have e14 : m' 140 14 = nI (min 60 0) := by rw [t0 14 (by decide) (by decide) (by decide)]; rfl
    have LL' : LR LL2 hd2 c' m' := LR_fr J2.2.2.1 (fun k x1 x2 => ca k (by omega) (by omega) (by omega) (by omega) (by omega) (by omega) (by omega)) (by rw [ca 13 (by decide) (by decide) (by decide) (by decide) (by decide) (by decide) (by decide)]) (by rw [ca 13 (by decide) (by decide) (by decide) (by decide) (by decide) (by decide) (by decide)]) (fun k x1 x2 _ => ma k (by omega) (by omega) (by omega) (by omega) (by omega)) (mj 13 (by decide) (by decide) (by decide) (by decide) (by decide) (by decide) (by decide)) (mj 29 (by decide) (by decide) (by decide) (by decide) (by decide) (by decide) (by decide))
    have FF : FTH c' m' := FTH_fr J2.2.2.2.2.2.2.2.1 (by rw [ca 0 (by decide) (by decide) (by decide) (by decide) (by decide) (by decide) (by decide)]) (ca 39 (by decide) (by decide) (by decide) (by decide) (by decide) (by decide) (by decide)) (mj 30 (by decide) (by decide) (by decide) (by decide) (by decide) (by decide) (by decide)) (ma 141 (by decide) (by decide) (by decide) (by decide) (by decide))
    have k264 : c' 26 4 = nI 0 := by rw [← hc, sp_n (by decide), sp_n (by decide), sp_k (by decide), sp_k (by decide), sp_r]; rfl
    have k265 : c' 26 5 = nI 0 := by rw [← hc, sp_n (by decide), sp_n (by decide), sp_k (by decide), sp_r]; rfl
    have k266 : c' 26 6 = 0 := by rw [← hc, sp_n (by decide), sp_n (by decide), sp_r]
    have k332 : c' 33 2 = nI 0 := by rw [← hc, sp_k (by decide), sp_r]; rfl
    have k333 : c' 33 3 = nI 0 := by rw [← hc, sp_r]; rfl
    refine ⟨hres, ⟨o, t2, trivial⟩, ?_⟩
    dsimp only
    refine IX0_inv (?_ : IX0 G c' m' a b LL2 hd2 0 0 0 (fun _ => 0))
    exact ⟨TP_nil (c := c) (m := m) c11' m2', T3, LL', DN_DAY DD e248 e14, fun j q hj _ => absurd hj (by omega), ⟨by decide, by decide, k264, t32, k265, rfl, fun i j _ _ => ⟨Nat.le_refl _, Nat.zero_le _⟩, fun i hi => absurd hi (Nat.not_lt_zero _)⟩, Or.inl ⟨k266, t50⟩, FF, Nat.zero_le _, ⟨0, by decide, k332, t43, fun i hi => absurd hi (Nat.not_lt_zero _)⟩, ⟨0, by decide, k333, t48, fun i hi => absurd hi (Nat.not_lt_zero _)⟩⟩
  · have n1 : ¬ rm.1 = -1 := by rw [r2]; exact nI_ne_m1 (by omega)
    rw [if_neg (show ¬ rc.1 = true by rw [r1]; exact Bool.false_ne_true), if_neg n1, if_neg n1]
    exact ⟨rfl, ⟨o, trivial⟩, V⟩
theorem t_text {G : Nat} {c m : SI} (I : INV G c m) (x : Int32) : RUN G (f11_text c x) (f12_text m x) (o12_text m x) := by
  by_cases q0 : x = 0
  · subst q0; exact text_town I
  · by_cases q1 : x = 1
    · subst q1; exact text_law I
    · unfold f11_text f12_text o12_text
      rw [if_neg q0, if_neg q0, if_neg q0, if_neg q1, if_neg q1, if_neg q1]
      exact ⟨rfl, trivial, I⟩
