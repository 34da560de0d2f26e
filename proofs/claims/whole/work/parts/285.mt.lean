/-! acts: refusals, days copied, kept -/
theorem ref_both {G : Nat} {c m : SI} {s : Nat} (I : INV G c m) (hs : s < 5) : ∃ c' m', f11_refused c (nI s) = (-1, c') ∧ f12_isRefused m (nI s) = (true, m') ∧ o12_isRefused m (nI s) ∧ INV G c' m' := by
  obtain ⟨H, B, LL, hd, g, n, x, gs, J⟩ := I
  have J : IX0 G c m H B LL hd g n x gs := J
  have hF : FTH c m := J.2.2.2.2.2.2.2.1
  have ne : ¬ nI s = -1 := nI_ne_m1 (by omega)
  unfold f11_refused f12_isRefused o12_isRefused
  rw [if_neg (nI_pos (by omega)), if_neg (show ¬ (5 : Int32) ≤ nI s from nI_ge (b := 5) hs (by decide)), nI_clamp (by omega)]
  simp only [if_neg ne]
  refine ⟨_, _, rfl, rfl, ⟨vp_in_nI hs (by decide), vp_in_nI hs (by decide), trivial⟩, ⟨H, B, LL, hd, g, n, x, gs, ?_⟩⟩
  refine IX_fth J (Nat.le_refl _) (fun a h => sp_n (by omega)) (by rw [sp_n (by decide)]) (by rw [sp_n (by decide)]) (by rw [sp_n (by decide)]) (fun a h => sp_n (by omega)) (fun j h => by rw [sp_n (by decide)]) ⟨by rw [sp_n (by decide), sp_n (by decide)]; exact hF.1, by rw [sp_n (by decide)]; exact hF.2.1, fun i hi => ?_⟩
  by_cases e : i = s
  · subst e
    rw [sp_r, sp_r, hF.2.2 i hi]
  · rw [sp_k e, sp_k e]; exact hF.2.2 i hi
theorem ref_none (m : SI) : f12_isRefused m (-1) = (false, m) ∧ o12_isRefused m (-1) := by
  unfold f12_isRefused o12_isRefused
  simp only [if_true]
  exact ⟨trivial, trivial⟩
noncomputable def cst (k k1 j : Nat) (s : SI) : SI := sp s k j (s k1 j)
theorem cst_n {k k1 j a : Nat} {s : SI} (h : a ≠ k) : cst k k1 j s a = s a := sp_n h
theorem cst_r {k k1 j : Nat} {s : SI} : cst k k1 j s k j = s k1 j := sp_r
theorem cst_k {k k1 j i : Nat} {s : SI} (h : i ≠ j) : cst k k1 j s k i = s k i := sp_k h
theorem copy_eq (k k1 : Nat) (σ : SI) : f0_copy k k1 σ = cst k k1 8 (cst k k1 7 (cst k k1 6 (cst k k1 5 (cst k k1 4 (cst k k1 3 (cst k k1 2 (cst k k1 1 (su σ (k + 1) (va_cpy (σ (k1 + 1)) (σ (k + 1)) 0 0 7))))))))) := rfl
theorem cpy_at {α : Type} {f g : Nat → α} {n j : Nat} (h : j < n) : va_cpy f g 0 0 n j = f j := by
  unfold va_cpy
  rw [if_pos ⟨Nat.zero_le _, by omega⟩, Nat.zero_add, Nat.sub_zero]
theorem copy_day {k k1 : Nat} (σ : SI) (h1 : k ≠ k1) (h2 : k + 1 ≠ k1) : (∀ a, a ≠ k → a ≠ k + 1 → f0_copy k k1 σ a = σ a) ∧ (∀ j, j < 7 → f0_copy k k1 σ (k + 1) j = σ (k1 + 1) j) ∧ (∀ j, 1 ≤ j → j ≤ 8 → f0_copy k k1 σ k j = σ k1 j) := by
  rw [copy_eq]
  refine ⟨fun a x y => ?_, fun j hj => ?_, fun j hj hj2 => ?_⟩
  · rw [cst_n x, cst_n x, cst_n x, cst_n x, cst_n x, cst_n x, cst_n x, cst_n x, su_n _ _ y]
  · have x : k + 1 ≠ k := by omega
    rw [cst_n x, cst_n x, cst_n x, cst_n x, cst_n x, cst_n x, cst_n x, cst_n x, su_s, cpy_at hj]
  · have x : k1 ≠ k := fun e => h1 e.symm
    have y : k1 ≠ k + 1 := fun e => h2 e.symm
    rcases (by omega : j = 1 ∨ j = 2 ∨ j = 3 ∨ j = 4 ∨ j = 5 ∨ j = 6 ∨ j = 7 ∨ j = 8) with rfl | rfl | rfl | rfl | rfl | rfl | rfl | rfl
    · rw [cst_k (by decide), cst_k (by decide), cst_k (by decide), cst_k (by decide), cst_k (by decide), cst_k (by decide), cst_k (by decide), cst_r, su_n _ _ y]
    · rw [cst_k (by decide), cst_k (by decide), cst_k (by decide), cst_k (by decide), cst_k (by decide), cst_k (by decide), cst_r, cst_n x, su_n _ _ y]
    · rw [cst_k (by decide), cst_k (by decide), cst_k (by decide), cst_k (by decide), cst_k (by decide), cst_r, cst_n x, cst_n x, su_n _ _ y]
    · rw [cst_k (by decide), cst_k (by decide), cst_k (by decide), cst_k (by decide), cst_r, cst_n x, cst_n x, cst_n x, su_n _ _ y]
    · rw [cst_k (by decide), cst_k (by decide), cst_k (by decide), cst_r, cst_n x, cst_n x, cst_n x, cst_n x, su_n _ _ y]
    · rw [cst_k (by decide), cst_k (by decide), cst_r, cst_n x, cst_n x, cst_n x, cst_n x, cst_n x, su_n _ _ y]
    · rw [cst_k (by decide), cst_r, cst_n x, cst_n x, cst_n x, cst_n x, cst_n x, cst_n x, su_n _ _ y]
    · rw [cst_r, cst_n x, cst_n x, cst_n x, cst_n x, cst_n x, cst_n x, cst_n x, su_n _ _ y]
/-- a day told by another cell, of the same numbers -/
theorem DAY_as {H g k k1 o o1 : Nat} {c c' : SI} {f f' : Nat → Int32} (hH : H ≤ 7) (h : DAY H g c k1 f o1) (h1 : ∀ j, j < 7 → c' (k + 1) j = c (k1 + 1) j) (h2 : ∀ j, 1 ≤ j → j ≤ 8 → c' k j = c k1 j) (h3 : ∀ j, j < 255 → f' (o + j) = f (o1 + j)) : DAY H g c' k f' o := by
  unfold DAY at h ⊢
  rw [h2 1 (by decide) (by decide), h2 2 (by decide) (by decide), h2 3 (by decide) (by decide), h2 4 (by decide) (by decide), h2 5 (by decide) (by decide), h2 6 (by decide) (by decide), h2 7 (by decide) (by decide), h2 8 (by decide) (by decide), h3 7 (by decide), h3 8 (by decide), h3 9 (by decide), h3 10 (by decide), h3 11 (by decide), h3 12 (by decide), h3 13 (by decide), h3 14 (by decide)]
  exact ⟨fun i hi => by rw [h3 i (by omega), h1 i (by omega)]; exact h.1 i hi, h.2⟩
theorem LOG_as {g o o1 : Nat} {l l' f f' : Nat → Int32} (h : LOG g l f o1) (hl : ∀ j, j < 400 → l' j = l j) (h3 : ∀ j, j < 255 → f' (o + j) = f (o1 + j)) : LOG g l' f' o := by
  intro j q hj hq
  have hr : (g - min 60 g + j) % 100 < 100 := Nat.mod_lt _ (by decide)
  rw [hl _ (by omega), show o + 15 + 4 * j + q = o + (15 + 4 * j + q) by omega, h3 _ (by omega), h j q hj hq, show o1 + 15 + 4 * j + q = o1 + (15 + 4 * j + q) by omega]
theorem cap40 {n : Nat} (hn : n ≤ 40) : (if nI n + 1 < (40 : Int32) then nI n + 1 else (40 : Int32)) = nI (min (n + 1) 40) := by
  rw [nI_1]
  by_cases q : n + 1 < 40
  · rw [if_pos (show nI (n + 1) < 40 from nI_lt (b := 40) q (by decide)), Nat.min_eq_left (by omega)]
  · rw [if_neg (show ¬ nI (n + 1) < 40 from nI_nlt (b := 40) (by omega) (by omega)), Nat.min_eq_right (by omega)]
    rfl
theorem dayAt_x {x : Nat} (hx : x < 40) : f5_dayAt (nI x) = some (43 + 2 * x) := by
  unfold f5_dayAt
  rw [if_neg (nI_pos (by omega)), if_neg (show ¬ (40 : Int32) ≤ nI x from nI_ge (b := 40) hx (by decide)), nI_clamp (by omega)]
theorem keep_c {c : SI} {n x : Nat} (hn : n ≤ 40) (hx : x < 40) (e4 : c 26 4 = nI n) (e5 : c 26 5 = nI x) : ∃ c', f5_keep 24 c = c' ∧ c' 26 4 = nI (min (n + 1) 40) ∧ c' 26 5 = nI ((x + 1) % 40) ∧ (∀ j, j ≠ 4 → j ≠ 5 → c' 26 j = c 26 j) ∧ (∀ a, a ≠ 26 → a ≠ 43 + 2 * x → a ≠ 44 + 2 * x → c' a = c a) ∧ (∀ j, j < 7 → c' (44 + 2 * x) j = c 25 j) ∧ (∀ j, 1 ≤ j → j ≤ 8 → c' (43 + 2 * x) j = c 24 j) := by
  obtain ⟨C1, C2, C3⟩ := copy_day (k := 43 + 2 * x) (k1 := 24) c (by omega) (by omega)
  unfold f5_keep
  rw [e5, oq_some (dayAt_x hx)]
  generalize f0_copy (43 + 2 * x) 24 c = s at C1 C2 C3
  have s26 : s 26 = c 26 := C1 26 (by omega) (by omega)
  have key : ∀ w, w = nI ((x + 1) % 40) → ∃ c', sp (sp s 26 5 w) 26 4 (if s 26 4 + 1 < 40 then s 26 4 + 1 else 40) = c' ∧ c' 26 4 = nI (min (n + 1) 40) ∧ c' 26 5 = nI ((x + 1) % 40) ∧ (∀ j, j ≠ 4 → j ≠ 5 → c' 26 j = c 26 j) ∧ (∀ a, a ≠ 26 → a ≠ 43 + 2 * x → a ≠ 44 + 2 * x → c' a = c a) ∧ (∀ j, j < 7 → c' (44 + 2 * x) j = c 25 j) ∧ (∀ j, 1 ≤ j → j ≤ 8 → c' (43 + 2 * x) j = c 24 j) := by
    intro w hw
    refine ⟨_, rfl, ?_, ?_, fun j h1 h2 => ?_, fun a h1 h2 h3 => ?_, fun j hj => ?_, fun j h1 h2 => ?_⟩
    · rw [sp_r, s26, e4, cap40 hn]
    · rw [sp_k (by decide), sp_r, hw]
    · rw [sp_k h1, sp_k h2, s26]
    · rw [sp_n h1, sp_n h1, C1 a h2 (by omega)]
    · rw [sp_n (by omega), sp_n (by omega), show 44 + 2 * x = 43 + 2 * x + 1 by omega]; exact C2 j hj
    · rw [sp_n (by omega), sp_n (by omega)]; exact C3 j h1 h2
  dsimp only
  rw [s26, e5]
  rw [s26] at key
  by_cases q : x < 39
  · rw [if_pos (show nI x < 39 from nI_lt (b := 39) q (by decide))]
    exact key _ (by rw [nI_1, Nat.mod_eq_of_lt (by omega)])
  · rw [if_neg (show ¬ nI x < 39 from nI_nlt (b := 39) (by omega) (by omega))]
    have : x = 39 := by omega
    subst this
    exact key _ rfl
theorem keep_54 {a : Nat} (ha : a < 40) : ∀ (fu v : Nat) (m : SI), v ≤ 255 → 255 < v + fu → m 123 32 = nI a → ∃ m', f12_keep_c54 fu (nI v) m = m' ∧ o12_keep_c54 fu (nI v) m ∧ (∀ b, b ≠ 142 → b ≠ 123 → m' b = m b) ∧ (∀ j, j ≠ 32 → m' 123 j = m 123 j) ∧ m' 123 32 = nI (a + 1) ∧ (∀ j, v ≤ j → j < 255 → m' 142 (255 * a + j) = m 140 j) ∧ (∀ i, i < 255 * a + v → m' 142 i = m 142 i) := by
  intro fu
  induction fu with
  | zero => intro v m h1 h2; omega
  | succ fu ih =>
    intro v m h1 h2 h3
    rw [f12_keep_c54, o12_keep_c54]
    by_cases q : v = 255
    · subst q
      have le : (255 : Int32) ≤ nI 255 := by decide
      rw [if_pos le, if_pos le]
      refine ⟨_, rfl, trivial, fun b _ y => sp_n y, fun j y => sp_k y, ?_, fun j x y => by omega, fun i _ => by rw [sp_n (by decide)]⟩
      rw [sp_r, h3, nI_1]
    · have nle : ¬ (255 : Int32) ≤ nI v := nI_ge (b := 255) (by omega) (by decide)
      have ix : (255 : Int32) * nI a + nI v = nI (255 * a + v) := by rw [show (255 : Int32) = nI 255 from rfl, show nI 255 * nI a = nI (255 * a) from pk_mul _ _, nI_add]
      rw [if_neg nle, if_neg nle, h3, ix, nI_clamp (by omega), nI_clamp (by omega), nI_1]
      obtain ⟨m', i1, i2, i3, i4, i5, i6, i7⟩ := ih (v + 1) (sp m 142 (255 * a + v) (m 140 v)) (by omega) (by omega) (by rw [sp_n (by decide)]; exact h3)
      refine ⟨m', i1, ⟨vp_in_nI (by omega) (by decide), vp_in_nI (by omega) (by decide), i2⟩, fun b x y => ?_, fun j y => ?_, i5, fun j x y => ?_, fun i x => ?_⟩
      · rw [i3 b x y, sp_n x]
      · rw [i4 j y, sp_n (by decide)]
      · by_cases e : j = v
        · subst e
          rw [i7 _ (by omega), sp_r]
        · rw [i6 j (by omega) y, sp_n (by decide)]
      · rw [i7 i (by omega), sp_k (by omega)]
theorem keep_13 : ∀ (fu v : Nat) (m : SI), 255 ≤ v → v ≤ 10200 → 10200 < v + fu → ∃ m1, f12_keep_c13 fu (nI v) m = f12_keep_c54 256 (nI 0) (sp m1 123 32 (m1 123 32 - 1)) ∧ (o12_keep_c54 256 (nI 0) (sp m1 123 32 (m1 123 32 - 1)) → o12_keep_c13 fu (nI v) m) ∧ (∀ b, b ≠ 142 → m1 b = m b) ∧ (∀ i, v ≤ i → i < 10200 → m1 142 (i - 255) = m 142 i) ∧ (∀ i, i < v - 255 → m1 142 i = m 142 i) := by
  intro fu
  induction fu with
  | zero => intro v m h0 h1 h2; omega
  | succ fu ih =>
    intro v m h0 h1 h2
    rw [f12_keep_c13, o12_keep_c13]
    by_cases q : v = 10200
    · subst q
      have le : (10200 : Int32) ≤ nI 10200 := by decide
      have ef : fu1 ((Int32.toInt (255 : Int32) - Int32.toInt (0 : Int32)).toNat) = 256 := fu_bd (a := 255) (by decide)
      rw [if_pos le, if_pos le, ef]
      exact ⟨m, rfl, fun o => o, fun _ _ => rfl, fun i x y => by omega, fun _ _ => rfl⟩
    · have nle : ¬ (10200 : Int32) ≤ nI v := nI_ge (b := 10200) (by omega) (by decide)
      have ix : nI v - (255 : Int32) = nI (v - 255) := nI_sub (b := 255) h0
      rw [if_neg nle, if_neg nle, ix, nI_clamp (by omega), nI_clamp (by omega), nI_1]
      obtain ⟨m1, i1, i2, i3, i4, i5⟩ := ih (v + 1) (sp m 142 (v - 255) (m 142 v)) (by omega) (by omega) (by omega)
      refine ⟨m1, i1, fun o => ⟨vp_in_nI (by omega) (by decide), vp_in_nI (by omega) (by decide), i2 o⟩, fun b x => ?_, fun i x y => ?_, fun i x => ?_⟩
      · rw [i3 b x, sp_n x]
      · by_cases e : i = v
        · subst e
          rw [i5 _ (by omega), sp_r]
        · rw [i4 i (by omega) y, sp_k (by omega)]
      · have ne : i ≠ v - 255 := by omega
        exact (i5 i (Nat.lt_of_lt_of_le x (Nat.sub_le_sub_right (Nat.le_succ v) 255))).trans (sp_k ne)
theorem keep_m {m : SI} {n : Nat} (hn : n ≤ 40) (e : m 123 32 = nI n) : ∃ m', f12_keep m = m' ∧ o12_keep m ∧ (∀ b, b ≠ 142 → b ≠ 123 → m' b = m b) ∧ (∀ j, j ≠ 32 → m' 123 j = m 123 j) ∧ m' 123 32 = nI (min (n + 1) 40) ∧ (∀ j, j < 255 → m' 142 (255 * (min (n + 1) 40 - 1) + j) = m 140 j) ∧ (∀ i j, i < min (n + 1) 40 - 1 → j < 255 → m' 142 (255 * i + j) = m 142 (255 * (i + (n + 1 - min (n + 1) 40)) + j)) := by
  have ef : fu1 ((Int32.toInt (255 : Int32) - Int32.toInt (0 : Int32)).toNat) = 256 := fu_bd (a := 255) (by decide)
  unfold f12_keep o12_keep
  by_cases q : n = 40
  · subst q
    have e40 : m 123 32 = 40 := e
    have efl : fu1 ((Int32.toInt (10200 : Int32) - Int32.toInt (255 : Int32)).toNat) = 9946 := by rw [fu1_eq]; rfl
    rw [if_pos e40, if_pos e40, efl]
    obtain ⟨m1, i1, i2, i3, i4, i5⟩ := keep_13 9946 255 m (by decide) (by decide) (by decide)
    have es : (sp m1 123 32 (m1 123 32 - 1)) 123 32 = nI 39 := by rw [sp_r, i3 123 (by decide), e40]; rfl
    obtain ⟨m', k1, k2, k3, k4, k5, k6, k7⟩ := keep_54 (a := 39) (by decide) 256 0 _ (by decide) (by decide) es
    refine ⟨m', i1.trans k1, i2 k2, fun b x y => ?_, fun j x => ?_, k5, fun j hj => ?_, fun i j hi hj => ?_⟩
    · rw [k3 b x y, sp_n y, i3 b x]
    · rw [k4 j x, sp_k x, i3 123 (by decide)]
    · rw [show min (40 + 1) 40 - 1 = 39 from rfl, k6 j (Nat.zero_le _) hj, sp_n (by decide), i3 140 (by decide)]
    · have hi : i < 39 := hi
      rw [k7 _ (by omega), sp_n (by decide), show 255 * i + j = 255 * (i + 1) + j - 255 by omega, i4 _ (by omega) (by omega)]
      rfl
  · have ne : ¬ m 123 32 = 40 := fun h => q ((nI_eq (a := n) (b := 40) (by omega) (by decide)).mp (e.symm.trans h))
    rw [if_neg ne, if_neg ne, ef]
    obtain ⟨m', k1, k2, k3, k4, k5, k6, k7⟩ := keep_54 (a := n) (by omega) 256 0 m (by decide) (by decide) e
    have hm : min (n + 1) 40 = n + 1 := Nat.min_eq_left (by omega)
    rw [hm]
    refine ⟨m', k1, k2, k3, k4, k5, fun j hj => ?_, fun i j hi hj => ?_⟩
    · rw [Nat.add_sub_cancel, k6 j (Nat.zero_le _) hj]
    · rw [Nat.add_sub_cancel] at hi
      have : 255 * i + j < 255 * n := by omega
      rw [k7 _ (by omega), Nat.sub_self, Nat.add_zero]
def gsK (gs : Nat → Nat) (g n : Nat) : Nat → Nat := fun i => if i < min (n + 1) 40 then gs (i + (n + 1 - min (n + 1) 40)) else g
theorem keep_both {G : Nat} {c m : SI} {H B : Nat} {LL : List LW} {hd : Int32} {g n x : Nat} {gs : Nat → Nat} (J : IX0 G c m H B LL hd g n x gs) : ∃ c' m' n' x' gs', f5_keep 24 c = c' ∧ f12_keep m = m' ∧ o12_keep m ∧ IX0 G c' m' H B LL hd g n' x' gs' ∧ 1 ≤ n' ∧ gs' (n' - 1) = g ∧ (∀ a, a ≠ 26 → ¬ (43 ≤ a ∧ a ≤ 122) → c' a = c a) ∧ (∀ b, b ≠ 142 → b ≠ 123 → m' b = m b) ∧ (∀ j, j ≠ 32 → m' 123 j = m 123 j) := by
  obtain ⟨h1, hT, h3, hD, hL, hK, h7, h8, hg, h10⟩ := J
  have J : IX0 G c m H B LL hd g n x gs := ⟨h1, hT, h3, hD, hL, hK, h7, h8, hg, h10⟩
  have hH := hT.1
  obtain ⟨k1, k2, k3, k4, k5, k6, k7, k8⟩ := hK
  obtain ⟨c', c1, c2, c3, c4, c5, c6, c7⟩ := keep_c k1 k2 k3 k5
  obtain ⟨m', m1, m2, m3, m4, m5, m6, m7⟩ := keep_m k1 k4
  have hmn : min (n + 1) 40 ≤ 40 ∧ 1 ≤ min (n + 1) 40 ∧ min (n + 1) 40 ≤ n + 1 ∧ n ≤ min (n + 1) 40 := by omega
  generalize hn' : min (n + 1) 40 = n' at *
  obtain ⟨q1, q2, q3, q4⟩ := hmn
  have hgs : ∀ i, gsK gs g n i = if i < n' then gs (i + (n + 1 - n')) else g := fun i => by unfold gsK; rw [hn']
  have glast : gsK gs g n (n' - 1) = g := by
    rw [hgs, if_pos (by omega), show n' - 1 + (n + 1 - n') = n by omega, k6]
  refine ⟨c', m', n', (x + 1) % 40, gsK gs g n, c1, m1, m2, ?_, q2, glast, fun a a1 a2 => c5 a a1 (by omega) (by omega), m3, m4⟩
  have e24 : c' 24 = c 24 := c5 24 (by decide) (by omega) (by omega)
  have e25 : c' 25 = c 25 := c5 25 (by decide) (by omega) (by omega)
  have e28 : c' 28 = c 28 := c5 28 (by decide) (by omega) (by omega)
  have e140 : m' 140 = m 140 := m3 140 (by decide) (by decide)
  refine IX_day J (Nat.le_refl _) (fun a ha => c5 a (by omega) (by omega) (by omega)) (by rw [c5 1 (by decide) (by omega) (by omega)]) (by rw [c5 13 (by decide) (by omega) (by omega)]) (by rw [c5 13 (by decide) (by omega) (by omega)]) (by rw [c5 0 (by decide) (by omega) (by omega)]) (c4 6 (by decide) (by decide)) (fun a ha => m3 a (by omega) (by omega)) (fun j hj => m4 j (by omega)) (DAY_f2 hD e24 e25 e140) (by rw [e28, e140]; exact hL) ?_ hg
  refine ⟨q1, Nat.mod_lt _ (by decide), c2, m5, c3, ?_, fun i j hij hj => ?_, fun i hi => ?_⟩
  · rw [hgs, if_neg (by omega)]
  · have up : ∀ i, i ≤ n' → gsK gs g n i = gs (min (i + (n + 1 - n')) n) := fun i hi => by
      rw [hgs]
      by_cases u : i < n'
      · rw [if_pos u, Nat.min_eq_left (by omega)]
      · rw [if_neg u, Nat.min_eq_right (by omega), k6]
    rw [up i (by omega), up j hj]
    obtain ⟨a1, a2⟩ := k7 (min (i + (n + 1 - n')) n) (min (j + (n + 1 - n')) n) (by omega) (by omega)
    exact ⟨a1, by omega⟩
  · have hr : (x + 40 - n + (i + (n + 1 - n'))) % 40 < 40 := Nat.mod_lt _ (by decide)
    rw [hgs, if_pos hi, e28]
    by_cases u : i = n' - 1
    · subst u
      have es : ((x + 1) % 40 + 40 - n' + (n' - 1)) % 40 = x := by omega
      rw [show n' - 1 + (n + 1 - n') = n by omega, k6, es]
      exact ⟨DAY_as hH hD (fun j hj => by rw [show 43 + 2 * x + 1 = 44 + 2 * x by omega]; exact c6 j hj) c7 (fun j hj => by rw [m6 j hj, Nat.zero_add]), LOG_as hL (fun _ _ => rfl) (fun j hj => by rw [m6 j hj, Nat.zero_add])⟩
    · have es : ((x + 1) % 40 + 40 - n' + i) % 40 = (x + 40 - n + (i + (n + 1 - n'))) % 40 := by omega
      have ne : (x + 40 - n + (i + (n + 1 - n'))) % 40 ≠ x := by omega
      obtain ⟨d1, d2⟩ := k8 (i + (n + 1 - n')) (by omega)
      rw [es]
      exact ⟨DAY_as hH d1 (fun j hj => by rw [c5 _ (by omega) (by omega) (by omega)]) (fun j _ _ => by rw [c5 _ (by omega) (by omega) (by omega)]) (fun j hj => m7 i j (by omega) hj), LOG_as d2 (fun _ _ => rfl) (fun j hj => m7 i j (by omega) hj)⟩
