/-! both sides lay the same order -/
theorem ORD_skip {J : Nat} {sk : Nat → Prop} {g : Nat → Nat} {n : Nat} {r : Nat → Nat} (h : ORD J sk g n r) (hs : sk J ∨ g J = 0) : ORD (J + 1) sk g n r := by
  obtain ⟨a1, a2, a3, a4⟩ := h
  refine ⟨by omega, a2, fun i hi => ⟨by have := (a3 i hi).1; omega, (a3 i hi).2⟩, fun k hk k1 k2 => ?_⟩
  by_cases e : k = J
  · subst e
    rcases hs with hs | hs
    · exact absurd hs k1
    · omega
  · exact a4 k (by omega) k1 k2
def insr (w h : Nat) (r : Nat → Nat) : Nat → Nat := fun i => if i < w then r i else if i = w then h else r (i - 1)
theorem insr_lt {w h i : Nat} {r : Nat → Nat} (h1 : i < w) : insr w h r i = r i := by unfold insr; rw [if_pos h1]
theorem insr_eq {w h : Nat} {r : Nat → Nat} : insr w h r w = h := by unfold insr; rw [if_neg (by omega), if_pos rfl]
theorem insr_gt {w h i : Nat} {r : Nat → Nat} (h1 : w ≤ i) : insr w h r (i + 1) = r i := by unfold insr; rw [if_neg (by omega), if_neg (by omega), Nat.add_sub_cancel]
theorem ORD_put {J : Nat} {sk : Nat → Prop} {g : Nat → Nat} {n w : Nat} {r : Nat → Nat} (hJ : J < 7) (h : ORD J sk g n r) (hs : ¬ sk J) (hg : 0 < g J) (hw : w ≤ n) (h1 : ∀ i, w ≤ i → i < n → g J < g (r i)) (h2 : w = 0 ∨ g (r (w - 1)) ≤ g J) : ORD (J + 1) sk g (n + 1) (insr w J r) := by
  obtain ⟨a1, a2, a3, a4⟩ := h
  have lowk : ∀ i, i < w → 8 * g (r i) + r i < 8 * g J + J := by
    intro i hi
    have hr := (a3 i (by omega)).1
    rcases h2 with h2 | h2
    · omega
    · by_cases e : i = w - 1
      · subst e; omega
      · have := a2 i (w - 1) (by omega) (by omega)
        have hr2 := (a3 (w - 1) (by omega)).1
        omega
  have highk : ∀ i, w ≤ i → i < n → 8 * g J + J < 8 * g (r i) + r i := by
    intro i p q
    have := h1 i p q
    omega
  have sort : ∀ i j, i < j → j < n + 1 → 8 * g (insr w J r i) + insr w J r i < 8 * g (insr w J r j) + insr w J r j := by
    intro i j hij hj
    by_cases c1 : j < w
    · rw [insr_lt c1, insr_lt (by omega)]; exact a2 i j hij (by omega)
    · by_cases c2 : j = w
      · subst c2; rw [insr_eq, insr_lt hij]; exact lowk i hij
      · obtain ⟨j', rfl⟩ : ∃ j', j = j' + 1 := ⟨j - 1, by omega⟩
        rw [insr_gt (by omega)]
        by_cases c3 : i < w
        · rw [insr_lt c3]; exact a2 i j' (by omega) (by omega)
        · by_cases c4 : i = w
          · subst c4; rw [insr_eq]; exact highk j' (by omega) (by omega)
          · obtain ⟨i', rfl⟩ : ∃ i', i = i' + 1 := ⟨i - 1, by omega⟩
            rw [insr_gt (by omega)]; exact a2 i' j' (by omega) (by omega)
  refine ⟨by omega, sort, fun i hi => ?_, fun k hk k1 k2 => ?_⟩
  · by_cases c1 : i < w
    · rw [insr_lt c1]; exact ⟨by have := (a3 i (by omega)).1; omega, (a3 i (by omega)).2⟩
    · by_cases c2 : i = w
      · subst c2; rw [insr_eq]; exact ⟨by omega, hs, hg⟩
      · obtain ⟨i', rfl⟩ : ∃ i', i = i' + 1 := ⟨i - 1, by omega⟩
        rw [insr_gt (by omega)]; exact ⟨by have := (a3 i' (by omega)).1; omega, (a3 i' (by omega)).2⟩
  · by_cases e : k = J
    · subst e; exact ⟨w, by omega, insr_eq⟩
    · obtain ⟨i, hi, ei⟩ := a4 k (by omega) k1 k2
      by_cases c1 : i < w
      · exact ⟨i, by omega, by rw [insr_lt c1]; exact ei⟩
      · exact ⟨i + 1, by omega, by rw [insr_gt (by omega)]; exact ei⟩
theorem put_step {J : Nat} {sk : Nat → Prop} {g : Nat → Nat} {n : Nat} {r : Nat → Nat} {c : SI} (hJ : J < 7) (h : ORD J sk g n r) (hR : RW c n r g) (hg : ∀ k, g k ≤ 30) (hs : ¬ sk J) : ∃ n' r' c', f6_put c (nI J) (nI (g J)) = c' ∧ ORD (J + 1) sk g n' r' ∧ RW c' n' r' g ∧ RF c c' := by
  have gJ := hg J
  unfold f6_put
  by_cases q : g J = 0
  · rw [q, if_pos (show nI 0 ≤ 0 by decide)]
    exact ⟨n, r, c, rfl, ORD_skip h (Or.inr q), hR, fun _ _ _ _ => rfl⟩
  · have hn : n ≤ J := h.1
    rw [if_neg (nI_nle (by omega) (by omega)), hR.1, if_pos (show nI n < 7 from nI_lt (b := 7) (by omega) (by decide))]
    have ef : fu1 ((Int32.toInt (nI n)).toNat) = n + 1 := by rw [fu1_eq, nI_toInt (by omega)]; omega
    rw [ef]
    obtain ⟨w, c', w1, w2, w3, w4, w5, w6, w7, w8, w9⟩ := put_in (n := n) (r := r) (g := g) (h := J) (by omega) (fun i hi => hg _) gJ (n + 1) n c (Nat.le_refl _) (by omega) hR.1 hR.2 (fun i h1 h2 => by omega)
    refine ⟨n + 1, insr w J r, c', w2, ORD_put hJ h hs (by omega) w1 (fun i p q => (w7 i p q).2.2) w8, ⟨w3, fun i hi => ?_⟩, w9⟩
    by_cases c1 : i < w
    · rw [insr_lt c1]; exact w4 i c1
    · by_cases c2 : i = w
      · subst c2; rw [insr_eq]; exact ⟨w5, w6⟩
      · obtain ⟨i', rfl⟩ : ∃ i', i = i' + 1 := ⟨i - 1, by omega⟩
        rw [insr_gt (by omega)]
        exact ⟨(w7 i' (by omega) (by omega)).1, (w7 i' (by omega) (by omega)).2.1⟩
theorem ORD_nil {sk : Nat → Prop} {g r : Nat → Nat} : ORD 0 sk g 0 r := ⟨Nat.le_refl _, fun i j h1 h2 => by omega, fun i hi => by omega, fun h hh => by omega⟩
def cnt (p : Nat → Bool) : Nat → Nat
  | 0 => 0
  | n + 1 => cnt p n + (if p n = true then 1 else 0)
theorem cnt_le (p : Nat → Bool) : ∀ n, cnt p n ≤ n := by
  intro n
  induction n with
  | zero => exact Nat.le_refl _
  | succ n ih =>
    rw [cnt]
    split <;> omega
theorem cnt_0 {p : Nat → Bool} : ∀ n, cnt p n = 0 → ∀ k, k < n → p k = false := by
  intro n
  induction n with
  | zero => intro _ k hk; omega
  | succ n ih =>
    intro h k hk
    rw [cnt] at h
    by_cases e : k = n
    · subst e
      by_cases q : p k = true
      · rw [if_pos q] at h; omega
      · exact Bool.eq_false_iff.mpr q
    · exact ih (by omega) k (by omega)
theorem cnt_mono {p q : Nat → Bool} : ∀ n, (∀ k, k < n → q k = true → p k = true) → cnt q n ≤ cnt p n := by
  intro n
  induction n with
  | zero => intro _; exact Nat.le_refl _
  | succ n ih =>
    intro h
    rw [cnt, cnt]
    have := ih (fun k hk => h k (by omega))
    by_cases a : q n = true
    · rw [if_pos a, if_pos (h n (by omega) a)]; omega
    · rw [if_neg a]
      split <;> omega
theorem cnt_less {p q : Nat → Bool} {b : Nat} : ∀ n, b < n → (∀ k, k < n → q k = true → p k = true) → p b = true → q b = false → cnt q n + 1 ≤ cnt p n := by
  intro n
  induction n with
  | zero => intro h; omega
  | succ n ih =>
    intro hb h h1 h2
    rw [cnt, cnt]
    by_cases e : b = n
    · subst e
      rw [h1, h2, if_neg Bool.false_ne_true, if_pos rfl]
      have := cnt_mono b (fun k hk => h k (by omega))
      omega
    · have := ih (by omega) (fun k hk => h k (by omega)) h1 h2
      by_cases a : q n = true
      · rw [if_pos a, if_pos (h n (by omega) a)]; omega
      · rw [if_neg a]
        split <;> omega
def cand (x : Int32) (g : Nat → Nat) (k : Nat) : Prop := bt x k = false ∧ 0 < g k
theorem pass_in {H B : Nat} {c m : SI} {f : Bool} {z x v3 : Int32} {g : Nat → Nat} (T : TR H B c m) (hg : ∀ k, k < H → f12_griefOf m (nI k) f = nI (g k) ∧ o12_griefOf m (nI k) f) (gb : ∀ k, g k ≤ 30) (K : Int32 → Int32 → Int32 × SI) (oK : Int32 → Int32 → Prop) : ∀ (fu j : Nat) (v : Int32), j ≤ H → H < j + fu → ((v = -1 ∧ ∀ k, k < j → ¬ cand x g k) ∨ (∃ b, b < j ∧ v = nI b ∧ cand x g b ∧ ∀ k, k < j → cand x g k → 8 * g b + b ≤ 8 * g k + k)) → ∃ y, f12_layOrder_c19 m f z v3 x K fu v (nI j) = K y (nI H) ∧ (oK y (nI H) → o12_layOrder_c19 m f z v3 x oK fu v (nI j)) ∧ ((y = -1 ∧ ∀ k, k < H → ¬ cand x g k) ∨ (∃ b, b < H ∧ y = nI b ∧ cand x g b ∧ ∀ k, k < H → cand x g k → 8 * g b + b ≤ 8 * g k + k)) := by
  have hH := T.1
  intro fu
  induction fu with
  | zero => intro j v h1 h2; omega
  | succ fu ih =>
    intro j v h1 h2 hv
    rw [f12_layOrder_c19, o12_layOrder_c19, hou_m T]
    by_cases q : j = H
    · subst q
      rw [if_pos (nI_le (Nat.le_refl _) (by omega)), if_pos (nI_le (Nat.le_refl _) (by omega))]
      exact ⟨v, rfl, fun o => o, hv⟩
    · have hj : j < H := by omega
      obtain ⟨e1, o1⟩ := hg j hj
      rw [if_neg (nI_ge hj (by omega)), if_neg (nI_ge hj (by omega)), has_bt x (by omega), nI_1, e1]
      by_cases u : bt x j = true
      · rw [if_pos u, if_pos u]
        refine ih (j + 1) v (by omega) (by omega) ?_
        have nc : ¬ cand x g j := fun a => by rw [a.1] at u; exact Bool.false_ne_true u
        rcases hv with ⟨a, b⟩ | ⟨b, b1, b2, b3, b4⟩
        · exact Or.inl ⟨a, fun k hk => by
            by_cases e : k = j
            · subst e; exact nc
            · exact b k (by omega)⟩
        · exact Or.inr ⟨b, by omega, b2, b3, fun k hk a => by
            by_cases e : k = j
            · subst e; exact absurd a nc
            · exact b4 k (by omega) a⟩
      · rw [if_neg u, if_neg u]
        have uf : bt x j = false := Bool.eq_false_iff.mpr u
        have gj := gb j
        by_cases w : g j = 0
        · rw [w, if_pos (show nI 0 ≤ 0 by decide), if_pos (show nI 0 ≤ 0 by decide)]
          have nc : ¬ cand x g j := fun a => by have := a.2; omega
          obtain ⟨y, y1, y2, y3⟩ := ih (j + 1) v (by omega) (by omega) (by
            rcases hv with ⟨a, b⟩ | ⟨b, b1, b2, b3, b4⟩
            · exact Or.inl ⟨a, fun k hk => by
                by_cases e : k = j
                · subst e; exact nc
                · exact b k (by omega)⟩
            · exact Or.inr ⟨b, by omega, b2, b3, fun k hk a => by
                by_cases e : k = j
                · subst e; exact absurd a nc
                · exact b4 k (by omega) a⟩)
          exact ⟨y, y1, fun o => ⟨o1, y2 o⟩, y3⟩
        · have cj : cand x g j := ⟨uf, by omega⟩
          rw [if_neg (nI_nle (by omega) (by omega)), if_neg (nI_nle (by omega) (by omega))]
          rcases hv with ⟨rfl, b⟩ | ⟨b, b1, rfl, b3, b4⟩
          · rw [if_pos rfl, if_pos rfl]
            obtain ⟨y, y1, y2, y3⟩ := ih (j + 1) (nI j) (by omega) (by omega) (Or.inr ⟨j, by omega, rfl, cj, fun k hk a => by
              by_cases e : k = j
              · subst e; exact Nat.le_refl _
              · exact absurd a (b k (by omega))⟩)
            exact ⟨y, y1, fun o => ⟨o1, y2 o⟩, y3⟩
          · obtain ⟨e2, o2⟩ := hg b (by omega)
            have gbb := gb b
            rw [if_neg (nI_ne_m1 (by omega)), if_neg (nI_ne_m1 (by omega)), e2]
            by_cases t : g b ≤ g j
            · rw [if_pos (nI_le t (by omega)), if_pos (nI_le t (by omega))]
              obtain ⟨y, y1, y2, y3⟩ := ih (j + 1) (nI b) (by omega) (by omega) (Or.inr ⟨b, by omega, rfl, b3, fun k hk a => by
                by_cases e : k = j
                · subst e; omega
                · exact b4 k (by omega) a⟩)
              exact ⟨y, y1, fun o => ⟨o1, o1, o2, y2 o⟩, y3⟩
            · rw [if_neg (nI_ge (by omega) (by omega)), if_neg (nI_ge (by omega) (by omega))]
              obtain ⟨y, y1, y2, y3⟩ := ih (j + 1) (nI j) (by omega) (by omega) (Or.inr ⟨j, by omega, rfl, cj, fun k hk a => by
                by_cases e : k = j
                · subst e; exact Nat.le_refl _
                · have := b4 k (by omega) a
                  omega⟩)
              exact ⟨y, y1, fun o => ⟨o1, o1, o2, y2 o⟩, y3⟩
