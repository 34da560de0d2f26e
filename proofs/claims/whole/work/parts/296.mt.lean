/-! reading a town: a clause opened, with what is usual; the model's loop by cases -/
def kM (κ : Nat) : Nat := if κ = 0 then 1 else if κ = 1 then 7 else 5
def kB (κ : Nat) : Nat := if κ = 0 then 0 else if κ = 1 then 3 else 31
theorem k_open : ∀ κ, κ < 3 → f11_cellS 1 (nI κ) = nI (kM κ) ∧ f11_cellS 2 (nI κ) = nI (kB κ) := by decide +kernel
theorem usu_m {κ A F n : Nat} (hκ : κ < 3) (hF : F + kN κ ≤ n) (hn : n < 1000) : ∀ (fu v : Nat) (m : SI), v ≤ kN κ → kN κ < v + fu → ∃ m', f12_items_c3 A n (nI (kS κ)) (nI F) (nI (kN κ)) fu (nI v) m = gK A n (nI (kS κ)) (nI F) (nI (kN κ)) (fu1 ((Int32.toInt ((f12_look m').2 123 2) - Int32.toInt ((f12_look m').2 123 3)).toNat + 1)) 0 m' ∧ (oK A n (nI (kS κ)) (nI F) (nI (kN κ)) (fu1 ((Int32.toInt ((f12_look m').2 123 2) - Int32.toInt ((f12_look m').2 123 3)).toNat + 1)) 0 m' → o12_items_c3 A n (nI (kS κ)) (nI F) (nI (kN κ)) fu (nI v) m) ∧ (∀ a, a ≠ A → m' a = m a) ∧ (∀ k, v ≤ k → k < kN κ → m' A (F + k) = nI (kU κ k)) ∧ (∀ i, i < F + v ∨ F + kN κ ≤ i → m' A i = m A i) := by
  have n4 := (k_items κ hκ).2.2.1
  intro fu
  induction fu with
  | zero => intro v m h1 h2; omega
  | succ fu ih =>
    intro v m h1 h2
    rw [f12_items_c3, o12_items_c3]
    by_cases q : v = kN κ
    · have le : nI (kN κ) ≤ nI v := nI_le (by omega) (by omega)
      rw [if_pos le, if_pos le]
      exact ⟨m, rfl, fun o => o, fun _ _ => rfl, fun k x y => by omega, fun _ _ => rfl⟩
    · have nle : ¬ nI (kN κ) ≤ nI v := nI_ge (by omega) (by omega)
      have eu := (k_bounds κ hκ v (by omega) (by omega)).2.2.2.2.2.1
      rw [if_neg nle, if_neg nle, nI_add, nI_clamp (by omega), eu, show nI v + 1 = nI (v + 1) from nI_add v 1]
      obtain ⟨m', i1, i2, i3, i4, i5⟩ := ih (v + 1) (sp m A (F + v) (nI (kU κ v))) (by omega) (by omega)
      refine ⟨m', i1, fun o => ⟨vp_in_nI (by omega) (by omega), i2 o⟩, fun a x => by rw [i3 a x, sp_n x], fun k x y => ?_, fun i x => by rw [i5 i (by omega), sp_k (by omega)]⟩
      by_cases e : k = v
      · subst e
        rw [i5 _ (by omega), sp_r]
      · exact i4 k (by omega) y
theorem usu_c {κ S : Nat} (hκ : κ < 3) (hS : S + kN κ ≤ 36) : ∀ (fu v : Nat) (c : SI), v ≤ kN κ → kN κ < v + fu → ∃ c', f8_putUsual_c2 4 (nI κ) (nI S) fu (nI v) c = c' ∧ (∀ a, a ≠ 5 → c' a = c a) ∧ (∀ k, v ≤ k → k < kN κ → c' 5 (S + k) = nI (kU κ k)) ∧ (∀ i, i < S + v ∨ S + kN κ ≤ i → c' 5 i = c 5 i) := by
  obtain ⟨n3, n2, n4, n1⟩ := k_items κ hκ
  intro fu
  induction fu with
  | zero => intro v c h1 h2; omega
  | succ fu ih =>
    intro v c h1 h2
    rw [f8_putUsual_c2, n3]
    by_cases q : v = kN κ
    · rw [if_pos (nI_le (by omega) (by omega))]
      exact ⟨c, rfl, fun _ _ => rfl, fun k x y => by omega, fun _ _ => rfl⟩
    · have eu := (k_bounds κ hκ v (by omega) (by omega)).2.2.1
      rw [if_neg (nI_ge (by omega) (by omega)), n2, nI_add, nI_add, eu, show nI v + 1 = nI (v + 1) from nI_add v 1]
      have ep : f8_put 4 c (nI (S + v)) (nI (kU κ v)) = sp c 5 (S + v) (nI (kU κ v)) := set_at (k := 5) (n := 36) (by omega) (by decide)
      dsimp only
      rw [ep]
      obtain ⟨c', i1, i3, i4, i5⟩ := ih (v + 1) (sp c 5 (S + v) (nI (kU κ v))) (by omega) (by omega)
      refine ⟨c', i1, fun a x => by rw [i3 a x, sp_n x], fun k x y => ?_, fun i x => by rw [i5 i (by omega), sp_k (by omega)]⟩
      by_cases e : k = v
      · subst e
        rw [i5 _ (by omega), sp_r]
      · exact i4 k (by omega) y
theorem put_usual {κ S : Nat} {c : SI} (hκ : κ < 3) (hS : S + kN κ ≤ 36) : ∃ c', f8_putUsual 4 c (nI κ) (nI S) = c' ∧ (∀ a, a ≠ 5 → c' a = c a) ∧ (∀ k, k < kN κ → c' 5 (S + k) = nI (kU κ k)) ∧ (∀ i, i < S ∨ S + kN κ ≤ i → c' 5 i = c 5 i) := by
  obtain ⟨n3, n2, n4, n1⟩ := k_items κ hκ
  unfold f8_putUsual
  rw [n3, fu_bd (by omega)]
  obtain ⟨c', i1, i2, i3, i4⟩ := usu_c (S := S) hκ hS (kN κ + 1) 0 c (Nat.zero_le _) (by omega)
  exact ⟨c', i1, i2, fun k hk => i3 k (Nat.zero_le _) hk, fun i x => i4 i (by omega)⟩
theorem open_c {κ t S : Nat} {c : SI} (hκ : κ < 3) (ht : c 6 κ = nI t) (t9 : t ≤ 7) (hS : S = kB κ + t * kN κ) : (kM κ ≤ t ∧ f8_open 4 c (nI κ) = (-1, c)) ∨ (t < kM κ ∧ S + kN κ ≤ 36 ∧ ∃ c', f8_open 4 c (nI κ) = (nI S, c') ∧ (∀ a, a ≠ 5 → a ≠ 6 → c' a = c a) ∧ (∀ k, k < kN κ → c' 5 (S + k) = nI (kU κ k)) ∧ (∀ i, i < S ∨ S + kN κ ≤ i → c' 5 i = c 5 i) ∧ c' 6 κ = nI (t + 1) ∧ (∀ j, j ≠ κ → c' 6 j = c 6 j)) := by
  obtain ⟨n3, n2, n4, n1⟩ := k_items κ hκ
  obtain ⟨o1, o2⟩ := k_open κ hκ
  have hM : kM κ ≤ 7 := by unfold kM; split <;> (try split) <;> omega
  have hb : t < kM κ → S + kN κ ≤ 36 := by
    intro q
    rw [hS]
    unfold kM at q
    unfold kB kN
    rcases (by omega : κ = 0 ∨ κ = 1 ∨ κ = 2) with rfl | rfl | rfl
    · simp only [if_true] at q ⊢
      omega
    · rw [if_neg (by decide), if_pos rfl] at q
      rw [if_neg (by decide), if_pos rfl, if_neg (by decide), if_pos rfl]
      omega
    · rw [if_neg (by decide), if_neg (by decide)] at q
      rw [if_neg (by decide), if_neg (by decide), if_neg (by decide), if_neg (by decide)]
      omega
  have ec : ∀ s : SI, f11_cell 6 3 s (nI κ) = s 6 κ := fun s => cell_at (k := 6) (n := 3) hκ (by decide)
  have eS : nI (kB κ) + nI t * nI (kN κ) = nI S := by rw [show nI t * nI (kN κ) = nI (t * kN κ) from pk_mul _ _, nI_add, hS]
  unfold f8_open
  rw [if_neg (nI_pos (by omega)), if_neg (show ¬ (3 : Int32) ≤ nI κ from nI_ge (b := 3) hκ (by decide)), o1, o2, n3]
  have ec0 : f11_cell (4 + 2) 3 c (nI κ) = nI t := (ec c).trans ht
  rw [ec0, eS]
  by_cases q : t < kM κ
  · right
    rw [if_pos (nI_lt q (by omega))]
    obtain ⟨c1, p1, p2, p3, p4⟩ := put_usual (S := S) (c := c) hκ (hb q)
    have ec1 : f11_cell (4 + 2) 3 c1 (nI κ) = nI t := by rw [← ht, ← p2 6 (by decide)]; exact ec c1
    have es : ∀ z, f11_setCell (4 + 2) 3 c1 (nI κ) z = sp c1 6 κ z := fun z => set_at (k := 6) (n := 3) hκ (by decide)
    rw [p1]
    dsimp only
    rw [ec1, es, show nI t + 1 = nI (t + 1) from nI_add t 1]
    exact ⟨q, hb q, _, rfl, fun a x y => by rw [sp_n y, p2 a x], fun k hk => by rw [sp_n (by decide)]; exact p3 k hk, fun i x => by rw [sp_n (by decide)]; exact p4 i x, sp_r, fun j x => by rw [sp_k x, p2 6 (by decide)]⟩
  · left
    rw [if_neg (nI_nlt (by omega) (by omega))]
    exact ⟨by omega, rfl⟩
theorem open_no (c : SI) : f8_open 4 c (-1) = (-1, c) := by
  unfold f8_open
  rw [if_pos (by decide)]
theorem index_k (x : Int32) : (x = 115 ∧ f11_indexOfS 0 x = nI 0) ∨ (x = 104 ∧ f11_indexOfS 0 x = nI 1) ∨ (x = 98 ∧ f11_indexOfS 0 x = nI 2) ∨ (x ≠ 115 ∧ x ≠ 104 ∧ x ≠ 98 ∧ f11_indexOfS 0 x = -1) := by
  have hz : (Int32.ofNat (zL 0)) = nI 3 := by decide +kernel
  have z0 : zF 0 (Int32.toNatClampNeg (nI 0)) = 115 := by decide +kernel
  have z1 : zF 0 (Int32.toNatClampNeg (nI 1)) = 104 := by decide +kernel
  have z2 : zF 0 (Int32.toNatClampNeg (nI 2)) = 98 := by decide +kernel
  have e : f11_indexOfS 0 x = if 115 = x then nI 0 else if 104 = x then nI 1 else if 98 = x then nI 2 else -1 := by
    unfold f11_indexOfS
    rw [hz, fu_bd (by decide)]
    show f11_indexOfS_c2 0 x (3 + 1) (nI 0) = _
    rw [f11_indexOfS_c2, hz, if_neg (show ¬ nI 3 ≤ nI 0 by decide), z0, show nI 0 + 1 = nI 1 by decide]
    rw [f11_indexOfS_c2, hz, if_neg (show ¬ nI 3 ≤ nI 1 by decide), z1, show nI 1 + 1 = nI 2 by decide]
    rw [f11_indexOfS_c2, hz, if_neg (show ¬ nI 3 ≤ nI 2 by decide), z2, show nI 2 + 1 = nI 3 by decide]
    rw [f11_indexOfS_c2, hz, if_pos (show nI 3 ≤ nI 3 by decide)]
  rw [e]
  by_cases q0 : x = 115
  · subst q0; exact Or.inl ⟨rfl, rfl⟩
  by_cases q1 : x = 104
  · subst q1; exact Or.inr (Or.inl ⟨rfl, rfl⟩)
  by_cases q2 : x = 98
  · subst q2; exact Or.inr (Or.inr (Or.inl ⟨rfl, rfl⟩))
  rw [if_neg (fun h => q0 h.symm), if_neg (fun h => q1 h.symm), if_neg (fun h => q2 h.symm)]
  exact Or.inr (Or.inr (Or.inr ⟨q0, q1, q2, rfl⟩))
theorem sp_self (σ : SI) (k j : Nat) : sp σ k j (σ k j) = σ := by
  funext a
  by_cases h : a = k
  · subst h
    funext i
    by_cases hi : i = j
    · subst hi; exact sp_r
    · exact sp_k hi
  · exact sp_n h
noncomputable def TL (K : Bool → Bool → SI → Int32 × SI) (fu : Nat) (v : Bool) (s : SI) : Int32 × SI := if s 123 4 = -1 then (if (f12_look s).1 = 59 then f12_readTown_c49 K fu v true (sp (f12_look s).2 123 3 ((f12_look s).2 123 3 + 1)) else f12_readTown_c49 K fu v false (f12_look s).2) else f12_readTown_c49 K fu v false s
def oTL (oK : Bool → Bool → SI → Prop) (fu : Nat) (v : Bool) (s : SI) : Prop := if s 123 4 = -1 then (o12_look s ∧ (if (f12_look s).1 = 59 then o12_readTown_c49 oK fu v true (sp (f12_look s).2 123 3 ((f12_look s).2 123 3 + 1)) else o12_readTown_c49 oK fu v false (f12_look s).2)) else o12_readTown_c49 oK fu v false s
theorem sp_0 (σ : SI) (k j : Nat) : sp σ k j (σ k j + 0) = σ := by rw [Int32.add_zero, sp_self]
theorem rt_A {K : Bool → Bool → SI → Int32 × SI} {oK' : Bool → Bool → SI → Prop} {fu : Nat} {m m1 : SI} (w : m 123 4 = -1) (e : f12_look m = (115, m1)) (o : o12_look m) : f12_readTown_c49 K (fu + 1) false true m = TL K fu true (f12_items 134 3 (sp m1 123 3 (m1 123 3 + 1)) 115 0 3) ∧ (o12_items 134 3 (sp m1 123 3 (m1 123 3 + 1)) 115 0 3 → oTL oK' fu true (f12_items 134 3 (sp m1 123 3 (m1 123 3 + 1)) 115 0 3) → o12_readTown_c49 oK' (fu + 1) false true m) := by
  rw [f12_readTown_c49, o12_readTown_c49, if_pos rfl, if_pos rfl, if_pos w, if_pos w, e]
  dsimp only
  rw [if_pos rfl, if_pos rfl, if_neg Bool.false_ne_true, if_neg Bool.false_ne_true]
  generalize f12_items 134 3 (sp m1 123 3 (m1 123 3 + 1)) 115 0 3 = s
  rw [sp_0, sp_0]
  unfold TL oTL
  exact ⟨rfl, fun a b => ⟨o, a, b⟩⟩
theorem rt_B {K : Bool → Bool → SI → Int32 × SI} {oK' : Bool → Bool → SI → Prop} {fu : Nat} {v : Bool} {m m1 : SI} {a : Nat} (w : m 123 4 = -1) (e : f12_look m = (104, m1)) (o : o12_look m) (ha : m1 123 20 = nI a) (a7 : a < 7) : f12_readTown_c49 K (fu + 1) v true m = TL K fu v (sp (f12_items 135 28 (sp m1 123 3 (m1 123 3 + 1)) 104 (nI (4 * a)) 4) 123 20 ((f12_items 135 28 (sp m1 123 3 (m1 123 3 + 1)) 104 (nI (4 * a)) 4) 123 20 + 1)) ∧ (o12_items 135 28 (sp m1 123 3 (m1 123 3 + 1)) 104 (nI (4 * a)) 4 → oTL oK' fu v (sp (f12_items 135 28 (sp m1 123 3 (m1 123 3 + 1)) 104 (nI (4 * a)) 4) 123 20 ((f12_items 135 28 (sp m1 123 3 (m1 123 3 + 1)) 104 (nI (4 * a)) 4) 123 20 + 1)) → o12_readTown_c49 oK' (fu + 1) v true m) := by
  rw [f12_readTown_c49, o12_readTown_c49, if_pos rfl, if_pos rfl, if_pos w, if_pos w, e]
  dsimp only
  have n1 : ¬ (104 : Int32) = 115 := by decide
  have n2 : ¬ (7 : Int32) ≤ m1 123 20 := by rw [ha]; exact nI_ge (b := 7) a7 (by decide)
  have ea : (4 : Int32) * nI a = nI (4 * a) := by rw [show (4 : Int32) = nI 4 from rfl]; exact pk_mul _ _
  rw [if_neg n1, if_neg n1, if_pos rfl, if_pos rfl, if_neg n2, if_neg n2]
  have hI : f12_items 135 28 (sp m1 123 3 (m1 123 3 + 1)) 104 (nI (4 * a)) 4 = f12_items 135 28 (sp m1 123 3 (m1 123 3 + 1)) 104 ((4 : Int32) * m1 123 20) 4 := by rw [ha, ea]
  have hO : o12_items 135 28 (sp m1 123 3 (m1 123 3 + 1)) 104 (nI (4 * a)) 4 → o12_items 135 28 (sp m1 123 3 (m1 123 3 + 1)) 104 ((4 : Int32) * m1 123 20) 4 := fun h => by rw [ha, ea]; exact h
  rw [hI]
  generalize f12_items 135 28 (sp m1 123 3 (m1 123 3 + 1)) 104 ((4 : Int32) * m1 123 20) 4 = s
  have e4 : (sp s 123 20 (s 123 20 + 1)) 123 4 = s 123 4 := sp_k (by decide)
  have e3 : s 123 3 = (sp s 123 20 (s 123 20 + 1)) 123 3 := (sp_k (by decide)).symm
  rw [← e4, e3]
  generalize sp s 123 20 (s 123 20 + 1) = s2
  rw [sp_0, sp_0]
  unfold TL oTL
  exact ⟨rfl, fun a b => ⟨o, hO a, b⟩⟩
theorem rt_C {K : Bool → Bool → SI → Int32 × SI} {oK' : Bool → Bool → SI → Prop} {fu : Nat} {v : Bool} {m m1 : SI} {b : Nat} (w : m 123 4 = -1) (e : f12_look m = (98, m1)) (o : o12_look m) (hb : m1 123 21 = nI b) (b5 : b < 5) : f12_readTown_c49 K (fu + 1) v true m = TL K fu v (sp (f12_items 136 5 (sp m1 123 3 (m1 123 3 + 1)) 98 (nI b) 1) 123 21 ((f12_items 136 5 (sp m1 123 3 (m1 123 3 + 1)) 98 (nI b) 1) 123 21 + 1)) ∧ (o12_items 136 5 (sp m1 123 3 (m1 123 3 + 1)) 98 (nI b) 1 → oTL oK' fu v (sp (f12_items 136 5 (sp m1 123 3 (m1 123 3 + 1)) 98 (nI b) 1) 123 21 ((f12_items 136 5 (sp m1 123 3 (m1 123 3 + 1)) 98 (nI b) 1) 123 21 + 1)) → o12_readTown_c49 oK' (fu + 1) v true m) := by
  rw [f12_readTown_c49, o12_readTown_c49, if_pos rfl, if_pos rfl, if_pos w, if_pos w, e]
  dsimp only
  have n1 : ¬ (98 : Int32) = 115 := by decide
  have n2 : ¬ (98 : Int32) = 104 := by decide
  have n3 : ¬ (5 : Int32) ≤ m1 123 21 := by rw [hb]; exact nI_ge (b := 5) b5 (by decide)
  rw [if_neg n1, if_neg n1, if_neg n2, if_neg n2, if_pos rfl, if_pos rfl, if_neg n3, if_neg n3]
  have hI : f12_items 136 5 (sp m1 123 3 (m1 123 3 + 1)) 98 (nI b) 1 = f12_items 136 5 (sp m1 123 3 (m1 123 3 + 1)) 98 (m1 123 21) 1 := by rw [hb]
  have hO : o12_items 136 5 (sp m1 123 3 (m1 123 3 + 1)) 98 (nI b) 1 → o12_items 136 5 (sp m1 123 3 (m1 123 3 + 1)) 98 (m1 123 21) 1 := fun h => by rw [hb]; exact h
  rw [hI]
  generalize f12_items 136 5 (sp m1 123 3 (m1 123 3 + 1)) 98 (m1 123 21) 1 = s
  have e4 : (sp s 123 21 (s 123 21 + 1)) 123 4 = s 123 4 := sp_k (by decide)
  have e3 : s 123 3 = (sp s 123 21 (s 123 21 + 1)) 123 3 := (sp_k (by decide)).symm
  rw [← e4, e3]
  generalize sp s 123 21 (s 123 21 + 1) = s2
  rw [sp_0, sp_0]
  unfold TL oTL
  exact ⟨rfl, fun a b => ⟨o, hO a, b⟩⟩
theorem rt_D {K : Bool → Bool → SI → Int32 × SI} {oK' : Bool → Bool → SI → Prop} {fu : Nat} {v : Bool} {m m1 : SI} {x : Int32} (w : m 123 4 = -1) (e : f12_look m = (x, m1)) (o : o12_look m) (h1 : x = 115 → v = true) (h2 : x = 104 → (7 : Int32) ≤ m1 123 20) (h3 : x = 98 → (5 : Int32) ≤ m1 123 21) : f12_readTown_c49 K (fu + 1) v true m = TL K fu v (f12_bad m1) ∧ (oTL oK' fu v (f12_bad m1) → o12_readTown_c49 oK' (fu + 1) v true m) := by
  rw [f12_readTown_c49, o12_readTown_c49, if_pos rfl, if_pos rfl, if_pos w, if_pos w, e]
  dsimp only
  generalize f12_bad m1 = s
  rw [sp_0, sp_0]
  by_cases q1 : x = 115
  · have hv := h1 q1
    subst q1
    have n2 : ¬ (115 : Int32) = 104 := by decide
    have n3 : ¬ (115 : Int32) = 98 := by decide
    rw [if_pos rfl, if_pos rfl, if_pos hv, if_pos hv, if_neg n2, if_neg n2, if_neg n3, if_neg n3]
    unfold TL oTL
    exact ⟨rfl, fun b => ⟨o, b⟩⟩
  · rw [if_neg q1, if_neg q1]
    by_cases q2 : x = 104
    · have hv := h2 q2
      subst q2
      have n3 : ¬ (104 : Int32) = 98 := by decide
      rw [if_pos rfl, if_pos rfl, if_pos hv, if_pos hv, if_neg n3, if_neg n3]
      unfold TL oTL
      exact ⟨rfl, fun b => ⟨o, b⟩⟩
    · rw [if_neg q2, if_neg q2]
      by_cases q3 : x = 98
      · have hv := h3 q3
        subst q3
        rw [if_pos rfl, if_pos rfl, if_pos hv, if_pos hv]
        unfold TL oTL
        exact ⟨rfl, fun b => ⟨o, b⟩⟩
      · rw [if_neg q3, if_neg q3]
        unfold TL oTL
        exact ⟨rfl, fun b => ⟨o, b⟩⟩
