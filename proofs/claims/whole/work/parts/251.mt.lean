/-! where both readers of a law stand, and what a step emits -/
def PS (t d : Nat) (c m : SI) : Prop := HP c m ∧ m 123 5 = nI d ∧ m 123 14 = nI t ∧ t < 5 ∧ d ≤ 6 ∧ c 8 1 = nI (ql c) ∧ ql c ≤ 240 ∧ m 127 t = nI (rl t m) ∧ rl t m ≤ hd c
def CF (q : Nat) (c c' : SI) : Prop := (∀ a, a ≠ 1 → a ≠ 8 → a ≠ 9 → c' a = c a) ∧ (∀ j, j ≠ 2 → j ≠ 3 → c' 1 j = c 1 j) ∧ (∀ j, j ≠ 1 → c' 8 j = c 8 j) ∧ (∀ k, k < q → c' 9 k = c 9 k)
def MF (t r : Nat) (m m' : SI) : Prop := (∀ a, a ≠ 123 → a ≠ 125 → a ≠ 126 → a ≠ 127 → m' a = m a) ∧ (∀ j, j ≠ 3 → j ≠ 4 → j ≠ 5 → m' 123 j = m 123 j) ∧ (∀ j, j ≠ t → m' 127 j = m 127 j) ∧ (∀ k, k < 520 * t + r ∨ 520 * t + 520 ≤ k → m' 125 k = m 125 k ∧ m' 126 k = m 126 k)
def EM (t d : Nat) (c m c' m' : SI) (seg : List (Nat × Nat)) : Prop := PS t d c' m' ∧ ql c' = ql c + seg.length ∧ rl t m' = rl t m + seg.length ∧ CF (ql c) c c' ∧ MF t (rl t m) m m' ∧ hd c ≤ hd c' ∧ (∀ j x, seg[j]? = some x → c' 9 (ql c + j) = ce x ∧ m' 125 (520 * t + (rl t m + j)) = nI x.1 ∧ m' 126 (520 * t + (rl t m + j)) = nI x.2)
def FS (t d s : Nat) (c m m' : SI) : Prop := ∃ w a r : Nat, w ≤ 240 ∧ m' 123 4 = nI w ∧ m' 123 3 = nI a ∧ m' 127 t = nI r ∧ a + d ≤ ln c + 8 ∧ rl t m ≤ r ∧ r + hd c + s ≤ a + rl t m ∧ m' 123 14 = nI t ∧ MF t (rl t m) m m'
def BAD (t d : Nat) (c m c' m' : SI) : Prop := FS t d 0 c m m' ∧ c' 1 3 = m' 123 4 ∧ CF 0 c c'
theorem CF_tr {q q' : Nat} {c c1 c2 : SI} (h1 : CF q c c1) (h2 : CF q' c1 c2) (h : q ≤ q') : CF q c c2 :=
  ⟨fun a x y z => (h2.1 a x y z).trans (h1.1 a x y z), fun j x y => (h2.2.1 j x y).trans (h1.2.1 j x y), fun j x => (h2.2.2.1 j x).trans (h1.2.2.1 j x), fun k x => (h2.2.2.2 k (by omega)).trans (h1.2.2.2 k x)⟩
theorem MF_tr {t r r' : Nat} {m m1 m2 : SI} (h1 : MF t r m m1) (h2 : MF t r' m1 m2) (h : r ≤ r') : MF t r m m2 :=
  ⟨fun a x y z w => (h2.1 a x y z w).trans (h1.1 a x y z w), fun j x y z => (h2.2.1 j x y z).trans (h1.2.1 j x y z), fun j x => (h2.2.2.1 j x).trans (h1.2.2.1 j x), fun k x => ⟨(h2.2.2.2 k (by omega)).1.trans (h1.2.2.2 k x).1, (h2.2.2.2 k (by omega)).2.trans (h1.2.2.2 k x).2⟩⟩
theorem CF_rf (q : Nat) (c : SI) : CF q c c := ⟨fun _ _ _ _ => rfl, fun _ _ _ => rfl, fun _ _ => rfl, fun _ _ => rfl⟩
theorem MF_rf (t r : Nat) (m : SI) : MF t r m m := ⟨fun _ _ _ _ _ => rfl, fun _ _ _ _ => rfl, fun _ _ => rfl, fun _ _ => ⟨rfl, rfl⟩⟩
theorem CF_ln {q : Nat} {c c' : SI} (h : CF q c c') : ln c' = ln c := by unfold ln; rw [h.2.1 1 (by decide) (by decide)]
theorem EM_ln {t d : Nat} {c m c' m' : SI} {seg : List (Nat × Nat)} (h : EM t d c m c' m' seg) : ln c' = ln c := CF_ln h.2.2.2.1
theorem EM_tr {t d1 d2 : Nat} {c m c1 m1 c2 m2 : SI} {s1 s2 : List (Nat × Nat)} (h1 : EM t d1 c m c1 m1 s1) (h2 : EM t d2 c1 m1 c2 m2 s2) : EM t d2 c m c2 m2 (s1 ++ s2) := by
  obtain ⟨a1, a2, a3, a4, a5, a6, a7⟩ := h1
  obtain ⟨b1, b2, b3, b4, b5, b6, b7⟩ := h2
  refine ⟨b1, by rw [List.length_append]; omega, by rw [List.length_append]; omega, CF_tr a4 b4 (by omega), MF_tr a5 b5 (by omega), by omega, fun j x hx => ?_⟩
  by_cases hj : j < s1.length
  · rw [List.getElem?_append_left hj] at hx
    obtain ⟨y1, y2, y3⟩ := a7 j x hx
    have z1 := b4.2.2.2 (ql c + j) (by omega)
    have hr : rl t m2 ≤ 240 := by have := b1.2.2.2.2.2.2.2.2; have := b1.1.2.2.2.1; have := b1.1.1.2.2.1; omega
    have z2 := b5.2.2.2 (520 * t + (rl t m + j)) (Or.inl (by omega))
    exact ⟨z1.trans y1, z2.1.trans y2, z2.2.trans y3⟩
  · rw [List.getElem?_append_right (by omega)] at hx
    obtain ⟨y1, y2, y3⟩ := b7 _ x hx
    rw [a2] at y1
    rw [a3] at y2 y3
    rw [show ql c + s1.length + (j - s1.length) = ql c + j by omega] at y1
    rw [show rl t m + s1.length + (j - s1.length) = rl t m + j by omega] at y2 y3
    exact ⟨y1, y2, y3⟩
theorem MV_EM {t d : Nat} {c m c' m' : SI} {p : Nat} (h : PS t d c m) (v : MV c m c' m' p) (h1 : hd c ≤ p) (h2 : p ≤ ln c) : EM t d c m c' m' [] ∧ hd c' = p := by
  obtain ⟨a1, a2, a3, a4, a5, a6, a7, a8, a9⟩ := h
  obtain ⟨b1, b2, b3⟩ := MV_HP a1 v h2
  obtain ⟨⟨v1, v2, v3⟩, v4, v5, v6⟩ := v
  have e1 : ql c' = ql c := by unfold ql; rw [v1 8 (by decide)]
  have e2 : rl t m' = rl t m := by unfold rl; rw [v4 127 (by decide)]
  refine ⟨⟨⟨b1, by rw [v5 5 (by decide)]; exact a2, by rw [v5 14 (by decide)]; exact a3, a4, a5, by rw [e1, v1 8 (by decide)]; exact a6, by omega, by rw [e2, v4 127 (by decide)]; exact a8, by omega⟩, e1, e2, ⟨fun a x _ _ => v1 a x, fun j x _ => v2 j x, fun j _ => by rw [v1 8 (by decide)], fun k _ => by rw [v1 9 (by decide)]⟩, ⟨fun a x _ _ _ => v4 a x, fun j x _ _ => v5 j x, fun j _ => by rw [v4 127 (by decide)], fun k _ => ⟨by rw [v4 125 (by decide)], by rw [v4 126 (by decide)]⟩⟩, by omega, fun j x hx => by cases hx⟩, b2⟩
theorem upd_s (f : Nat → Int32) (k : Nat) (x : Int32) : upd f k x k = x := if_pos rfl
theorem upd_n (f : Nat → Int32) {k j : Nat} (x : Int32) (h : j ≠ k) : upd f k x j = f j := if_neg h
theorem sp_k {σ : SI} {k j i : Nat} {x : Int32} (h : i ≠ j) : sp σ k j x k i = σ k i := by rw [sp_s, upd_n _ _ h]
theorem put_ix {t r : Nat} (ht : t < 5) (hr : r < 520) : (520 : Int32) * nI t + nI r = nI (520 * t + r) := by
  rw [show (520 : Int32) = nI 520 from rfl, pk_mul, nI_add]
theorem put_gen {t r : Nat} {m : SI} (h14 : m 123 14 = nI t) (ht : t < 5) (h127 : m 127 t = nI r) (hr : r < 520) (a b : Int32) : o12_put m a b ∧ f12_put m a b = sp (sp (sp m 125 (520 * t + r) a) 126 (520 * t + r) b) 127 t (nI (r + 1)) := by
  have hT : (nI t).toNatClampNeg = t := nI_clamp (by omega)
  have hI : (nI (520 * t + r)).toNatClampNeg = 520 * t + r := nI_clamp (by omega)
  have e1 : ∀ x, sp m 125 (520 * t + r) x 123 14 = nI t := fun x => by rw [sp_n (by decide)]; exact h14
  have e2 : ∀ x, sp m 125 (520 * t + r) x 127 t = nI r := fun x => by rw [sp_n (by decide)]; exact h127
  unfold o12_put f12_put
  simp only [h14, hT, h127, put_ix ht hr, hI]
  refine ⟨⟨vp_in_nI ht (by decide), vp_in_nI (by omega) (by decide), vp_in_nI ht (by decide), vp_in_nI (by omega) (by decide), vp_in_nI ht (by decide), vp_in_nI ht (by decide), trivial⟩, ?_⟩
  rw [nI_1]
theorem MF_put {t r r0 : Nat} (m : SI) (a b x : Int32) (hr : r < 520) (h0 : r0 ≤ r) : MF t r0 m (sp (sp (sp m 125 (520 * t + r) a) 126 (520 * t + r) b) 127 t x) := by
  refine ⟨fun a h1 h2 h3 h4 => ?_, fun j _ _ _ => ?_, fun j hj => ?_, fun k hk => ⟨?_, ?_⟩⟩
  · rw [sp_n h4, sp_n h3, sp_n h2]
  · rw [sp_n (by decide), sp_n (by decide), sp_n (by decide)]
  · rw [sp_k hj, sp_n (by decide), sp_n (by decide)]
  · rw [sp_n (by decide), sp_n (by decide), sp_k (by omega)]
  · rw [sp_n (by decide), sp_k (by omega), sp_n (by decide)]
theorem add_put {t d : Nat} {c m : SI} (h : PS t d c m) (hq : ql c < 240) (hr : rl t m < hd c) (x : Nat × Nat) : o12_put m (nI x.1) (nI x.2) ∧ EM t d c m (f1_add 8 c (ce x)) (f12_put m (nI x.1) (nI x.2)) [x] := by
  obtain ⟨a1, a2, a3, a4, a5, a6, a7, a8, a9⟩ := h
  have hL := a1.1.2.2.1
  have hH := a1.2.2.2.1
  obtain ⟨o1, o2⟩ := put_gen a3 a4 a8 (by omega) (nI x.1) (nI x.2)
  refine ⟨o1, ?_⟩
  rw [o2]
  have e : f1_add 8 c (ce x) = sp (sp c 9 (ql c) (ce x)) 8 1 (nI (ql c + 1)) := by
    unfold f1_add
    simp only [a6]
    rw [if_neg (nI_pos (by omega)), if_neg (show ¬ (240 : Int32) ≤ nI (ql c) from nI_ge (b := 240) (by omega) (by decide)), nI_clamp (by omega), sp_n (by decide), a6, nI_1]
  rw [e]
  generalize hc' : sp (sp c 9 (ql c) (ce x)) 8 1 (nI (ql c + 1)) = c'
  generalize hm' : sp (sp (sp m 125 (520 * t + rl t m) (nI x.1)) 126 (520 * t + rl t m) (nI x.2)) 127 t (nI (rl t m + 1)) = m'
  have c1 : ∀ a, a ≠ 8 → a ≠ 9 → c' a = c a := fun a h1 h2 => by rw [← hc', sp_n h1, sp_n h2]
  have c2 : c' 8 1 = nI (ql c + 1) := by rw [← hc', sp_r]
  have m1 : m' 123 = m 123 := by rw [← hm', sp_n (by decide), sp_n (by decide), sp_n (by decide)]
  have m2 : m' 127 t = nI (rl t m + 1) := by rw [← hm', sp_r]
  have m3 : m' 124 = m 124 := by rw [← hm', sp_n (by decide), sp_n (by decide), sp_n (by decide)]
  have q1 : ql c' = ql c + 1 := ql_of c2 (by omega)
  have q2 : rl t m' = rl t m + 1 := rl_of m2 (by omega)
  have q3 : hd c' = hd c := by unfold hd; rw [c1 1 (by decide) (by decide)]
  have q4 : ln c' = ln c := by unfold ln; rw [c1 1 (by decide) (by decide)]
  refine ⟨⟨⟨⟨?_, ?_, by omega, fun i hi => ?_⟩, ?_, ?_, by omega, ?_⟩, ?_, ?_, a4, a5, by rw [q1]; exact c2, by omega, by rw [q2]; exact m2, by omega⟩, q1, q2, ⟨fun a h1 h2 h3 => c1 a h2 h3, fun j _ _ => by rw [c1 1 (by decide) (by decide)], fun j hj => ?_, fun k hk => ?_⟩, by rw [← hm']; exact MF_put m _ _ _ (by omega) (Nat.le_refl _), by omega, fun j y hy => ?_⟩
  · rw [q4, c1 1 (by decide) (by decide)]; exact a1.1.1
  · rw [q4, m1]; exact a1.1.2.1
  · rw [q4] at hi; rw [c1 2 (by decide) (by decide), m3]; exact a1.1.2.2.2 i hi
  · rw [q3, c1 1 (by decide) (by decide)]; exact a1.2.1
  · rw [q3, m1]; exact a1.2.2.1
  · rw [m1]; exact a1.2.2.2.2
  · rw [m1]; exact a2
  · rw [m1]; exact a3
  · rw [← hc', sp_k hj, sp_n (by decide)]
  · rw [← hc', sp_n (by decide), sp_k (by omega)]
  · have hj : j < 1 := (List.getElem?_eq_some_iff.mp hy).1
    obtain rfl : j = 0 := by omega
    cases hy
    refine ⟨?_, ?_, ?_⟩
    · rw [← hc', sp_n (by decide)]; exact sp_r
    · rw [← hm', sp_n (by decide), sp_n (by decide)]; exact sp_r
    · rw [← hm', sp_n (by decide)]; exact sp_r
theorem FS_base {t d s k : Nat} {c m c1 m1 m' : SI} {d1 : Nat} {seg : List (Nat × Nat)} (e : EM t d1 c m c1 m1 seg) (hk : hd c + seg.length + k ≤ hd c1) (h : FS t d s c1 m1 m') : FS t d (s + k) c m m' := by
  obtain ⟨w, a, r, h1, h2, h3, h4, h5, h6, h7, h8, h9⟩ := h
  have e1 := EM_ln e
  have e2 := e.2.2.1
  exact ⟨w, a, r, h1, h2, h3, h4, by omega, by omega, by omega, h8, MF_tr e.2.2.2.2.1 h9 (by omega)⟩
theorem FS_less {t d s s' : Nat} {c m m' : SI} (h : FS t d s c m m') (hs : s' ≤ s) : FS t d s' c m m' := by
  obtain ⟨w, a, r, h1, h2, h3, h4, h5, h6, h7, h8, h9⟩ := h
  exact ⟨w, a, r, h1, h2, h3, h4, h5, h6, by omega, h8, h9⟩
theorem FS_ne {t d s : Nat} {c m m' : SI} (h : FS t d s c m m') : ¬ m' 123 4 = -1 := by
  obtain ⟨w, a, r, h1, h2, -⟩ := h
  rw [h2]; exact nI_ne_m1 (by omega)
theorem FS_put {t d s : Nat} {c m m' : SI} (hL : ln c ≤ 240) (hp : rl t m ≤ hd c) (ht : t < 5) (h : FS t d (s + 1) c m m') (a b : Int32) : o12_put m' a b ∧ FS t d s c m (f12_put m' a b) ∧ (f12_put m' a b) 123 = m' 123 := by
  obtain ⟨w, p, r, h1, h2, h3, h4, h5, h6, h7, h8, h9⟩ := h
  obtain ⟨o1, o2⟩ := put_gen h8 ht h4 (by omega) a b
  have e : (f12_put m' a b) 123 = m' 123 := by rw [o2, sp_n (by decide), sp_n (by decide), sp_n (by decide)]
  refine ⟨o1, ⟨w, p, r + 1, h1, by rw [e]; exact h2, by rw [e]; exact h3, by rw [o2, sp_r], h5, by omega, by omega, by rw [e]; exact h8, ?_⟩, e⟩
  rw [o2]
  exact MF_tr h9 (MF_put m' _ _ _ (by omega) h6) (Nat.le_refl _)
theorem BAD_base {t d d1 : Nat} {c m c1 m1 c2 m2 : SI} {seg : List (Nat × Nat)} (e : EM t d1 c m c1 m1 seg) (hk : hd c + seg.length ≤ hd c1) (h : BAD t d c1 m1 c2 m2) : BAD t d c m c2 m2 := by
  obtain ⟨h1, h2, h3⟩ := h
  exact ⟨FS_less (FS_base (k := 0) e (by omega) h1) (Nat.zero_le _), h2, ⟨fun a x y z => (h3.1 a x y z).trans (e.2.2.2.1.1 a x y z), fun j x y => (h3.2.1 j x y).trans (e.2.2.2.1.2.1 j x y), fun j x => (h3.2.2.1 j x).trans (e.2.2.2.1.2.2.1 j x), fun k hk => absurd hk (Nat.not_lt_zero k)⟩⟩
/-- both find here a sign that cannot stand -/
theorem fail_here {t d : Nat} {c m : SI} (h : PS t d c m) : (f7_fails c).1 = false ∧ BAD t d c m (f7_fails c).2 (f12_bad m) := by
  obtain ⟨a1, a2, a3, a4, a5, a6, a7, a8, a9⟩ := h
  have hL := a1.1.2.2.1
  have hH := a1.2.2.2.1
  rw [fails_at a1, bad_at a1]
  refine ⟨rfl, ?_⟩
  show BAD t d c m (sp c 1 3 (nI (hd c))) (sp m 123 4 (nI (hd c)))
  refine ⟨⟨hd c, hd c, rl t m, by omega, sp_r, ?_, ?_, by omega, Nat.le_refl _, by omega, ?_, ⟨fun a h1 h2 h3 h4 => sp_n h1, fun j h1 h2 h3 => sp_k h2, fun j _ => by rw [sp_n (by decide)], fun k _ => ⟨by rw [sp_n (by decide)], by rw [sp_n (by decide)]⟩⟩⟩, ?_, ⟨fun a h1 h2 h3 => sp_n h1, fun j h1 h2 => sp_k h2, fun j _ => by rw [sp_n (by decide)], fun k hk => absurd hk (Nat.not_lt_zero k)⟩⟩
  · rw [sp_k (by decide)]; exact a1.2.2.1
  · rw [sp_n (by decide)]; exact a8
  · rw [sp_k (by decide)]; exact a3
  · rw [sp_r, sp_r]
theorem peek_id {c m : SI} (h : HP c m) (hx : xh c ≠ 32) : f7_peek c = (xh c, c) ∧ f12_look m = (xh c, m) ∧ o12_look m := by
  obtain ⟨s1, s2, s3⟩ := sah h
  have hL := h.1.2.2.1
  have hH := h.2.2.2.1
  have hpo : ¬ c 1 2 < 0 := by rw [h.2.1]; exact nI_pos (by omega)
  unfold f7_peek f12_look o12_look
  rw [fu1_eq, fu1_eq, f7_peek_c0, f12_look_c0, o12_look_c0, s2, if_neg hpo, if_neg hx, if_neg hx]
  refine ⟨?_, rfl, s3, s3, trivial⟩
  rcases xh_cases h with ⟨q, -⟩ | ⟨q, e⟩
  · rw [if_neg (by rw [h.1.1, h.2.1]; exact nI_ge q (by omega)), if_neg (show ¬ (240 : Int32) ≤ c 1 2 by rw [h.2.1]; exact nI_ge (b := 240) (by omega) (by decide)), show c 2 (Int32.toNatClampNeg (c 1 2)) = xh c by rw [h.2.1, nI_clamp (by omega)]; exact (if_pos q : xh c = c 2 (hd c)).symm, if_neg hx]
  · rw [if_pos (by rw [h.1.1, h.2.1, q]; exact nI_le (Nat.le_refl _) (by omega)), e]
/-! a number of four digits at most -/
def NF (c m c' m' : SI) (p : Nat) : Prop := ((∀ a, a ≠ 1 → c' a = c a) ∧ (∀ j, j ≠ 2 → j ≠ 3 → c' 1 j = c 1 j) ∧ c' 1 3 = nI p) ∧ (∀ a, a ≠ 123 → m' a = m a) ∧ (∀ j, j ≠ 3 → j ≠ 4 → m' 123 j = m 123 j) ∧ m' 123 3 = nI p ∧ m' 123 4 = nI p
theorem NF_tr {c m c1 m1 c2 m2 : SI} {p q : Nat} (h1 : MV c m c1 m1 p) (h2 : NF c1 m1 c2 m2 q) : NF c m c2 m2 q := by
  obtain ⟨⟨a1, a2, a3⟩, a4, a5, a6⟩ := h1
  obtain ⟨⟨b1, b2, b3⟩, b4, b5, b6, b7⟩ := h2
  exact ⟨⟨fun a h => (b1 a h).trans (a1 a h), fun j h h' => (b2 j h h').trans (a2 j h), b3⟩, fun a h => (b4 a h).trans (a4 a h), fun j h h' => (b5 j h h').trans (a5 j h), b6, b7⟩
theorem NF_here {c m : SI} (h : HP c m) : NF c m (f7_fails c).2 (f12_bad m) (hd c) := by
  rw [fails_at h, bad_at h]
  show NF c m (sp c 1 3 (nI (hd c))) (sp m 123 4 (nI (hd c))) (hd c)
  exact ⟨⟨fun a x => sp_n x, fun j x y => sp_k y, sp_r⟩, fun a x => sp_n x, fun j x y => sp_k y, by rw [sp_k (by decide)]; exact h.2.2.1, sp_r⟩
theorem val_c {V s : Nat} (hs : 48 ≤ s) (hs2 : s ≤ 57) : ((nI V * (10 : Int32)) + nI s) - 48 = nI (10 * V + s - 48) := by
  rw [show (10 : Int32) = nI 10 from rfl, show (48 : Int32) = nI 48 from rfl, pk_mul, nI_add, pk_sub (by omega), Nat.mul_comm]
theorem val_m {V s : Nat} (hs : 48 ≤ s) (hs2 : s ≤ 57) : (((10 : Int32) * nI V) + nI s) - 48 = nI (10 * V + s - 48) := by
  rw [show (10 : Int32) = nI 10 from rfl, show (48 : Int32) = nI 48 from rfl, pk_mul, nI_add, pk_sub (by omega)]
theorem num4_ind : ∀ (k taken V : Nat) (c m : SI) (v2 : Int32) (fu fu' : Nat), taken + k = 4 → HP c m → V < 10 ^ taken → (v2 = nI V ∨ (taken = 0 ∧ V = 0 ∧ v2 = -1 ∧ f11_isDigit (xh c) = true)) → k + 1 < fu → k < fu' →
    ∃ (W p : Nat) (c' m' : SI), f12_plainNumber_c4 fu' (nI V) (nI taken) m = (nI W, m') ∧ o12_plainNumber_c4 fu' (nI V) (nI taken) m ∧ W < 10000 ∧ hd c ≤ p ∧ p ≤ ln c ∧ (f11_isDigit (xh c) = true → k ≠ 0 → hd c < p) ∧ ((f7_takeNumber_c21 4 fu v2 (nI taken) c = (nI W, c') ∧ MV c m c' m' p) ∨ (f7_takeNumber_c21 4 fu v2 (nI taken) c = (-1, c') ∧ NF c m c' m' p)) := by
  intro k
  induction k with
  | zero =>
    intro taken V c m v2 fu fu' ht h hV hv hf hf'
    obtain rfl : taken = 4 := by omega
    obtain rfl : v2 = nI V := by rcases hv with e | e; exact e; omega
    obtain ⟨f, rfl, hf1⟩ := fu_pos (show 1 < fu from hf)
    obtain ⟨f1, rfl, -⟩ := fu_pos (show 0 < f by omega)
    obtain ⟨f2, rfl, -⟩ := fu_pos hf'
    obtain ⟨s1, s2, s3⟩ := sah h
    have hH := h.2.2.2.1
    rw [f12_plainNumber_c4, if_pos (show (4 : Int32) ≤ nI 4 by decide), o12_plainNumber_c4, if_pos (show (4 : Int32) ≤ nI 4 by decide), s2, isDigit_same, f7_takeNumber_c21, if_neg (show ¬ (4 : Int32) < nI 4 by decide), s1]
    by_cases hx : f11_isDigit (xh c) = true
    · rw [if_pos hx, if_pos hx, if_pos hx, if_pos (show (4 : Int32) ≤ nI 4 by decide), f7_takeNumber_c21, if_pos (show (4 : Int32) < nI 4 + 1 by decide)]
      exact ⟨V, hd c, (f7_fails c).2, f12_bad m, rfl, ⟨s3, trivial⟩, hV, Nat.le_refl _, hH, fun _ q => absurd rfl q, Or.inr ⟨rfl, NF_here h⟩⟩
    · rw [if_neg hx, if_neg hx, if_neg hx]
      exact ⟨V, hd c, c, m, rfl, ⟨s3, trivial⟩, hV, Nat.le_refl _, hH, fun q => absurd q hx, Or.inl ⟨rfl, MV_rf h⟩⟩
  | succ k ih =>
    intro taken V c m v2 fu fu' ht h hV hv hf hf'
    obtain ⟨f, rfl, hf1⟩ := fu_pos (show k + 2 < fu from hf)
    obtain ⟨f2, rfl, hf2⟩ := fu_pos hf'
    obtain ⟨s1, s2, s3⟩ := sah h
    have hH := h.2.2.2.1
    have q1 : ¬ (4 : Int32) ≤ nI taken := nI_ge (b := 4) (by omega) (by decide)
    have q2 : ¬ (4 : Int32) < nI taken := nI_nlt (a := 4) (by omega) (by decide)
    rw [f12_plainNumber_c4, if_neg q1, o12_plainNumber_c4, if_neg q1, s2, isDigit_same, f7_takeNumber_c21, if_neg q2, s1]
    by_cases hx : f11_isDigit (xh c) = true
    · rw [if_pos hx, if_pos hx, if_pos hx, if_neg q1]
      obtain ⟨s, hs1, hs2, es⟩ := digit_of hx
      have hne : xh c ≠ -1 := by rw [es]; exact nI_ne_m1 (by omega)
      obtain ⟨v, hlt⟩ := pass h hne
      obtain ⟨h', e1, e2⟩ := MV_HP h v hlt
      have hW : 10 * V + s - 48 < 10 ^ (taken + 1) := by rw [Nat.pow_succ]; omega
      have ev : (((if v2 < (0 : Int32) then (0 : Int32) else v2) * (10 : Int32)) + xh c) - (48 : Int32) = nI (10 * V + s - 48) := by
        rw [es]
        rcases hv with rfl | ⟨-, rfl, rfl, -⟩
        · have : V < 10000 := Nat.lt_of_lt_of_le hV (Nat.pow_le_pow_right (by decide) (show taken ≤ 4 by omega))
          rw [if_neg (nI_pos (by omega)), val_c hs1 hs2]
        · rw [if_pos (by decide)]
          exact val_c (V := 0) hs1 hs2
      have em : (((10 : Int32) * nI V) + xh c) - (48 : Int32) = nI (10 * V + s - 48) := by rw [es]; exact val_m hs1 hs2
      obtain ⟨W, p, c', m', r1, r2, r3, r4, r5, r6, r7⟩ := ih (taken + 1) (10 * V + s - 48) _ _ (nI (10 * V + s - 48)) f f2 (by omega) h' hW (Or.inl rfl) (by omega) (by omega)
      rw [ev, em]
      rw [nI_succ] at r1 r2 r7
      refine ⟨W, p, c', m', r1, ⟨s3, s3, r2⟩, r3, by omega, by omega, fun _ _ => by omega, ?_⟩
      rcases r7 with ⟨r7, r8⟩ | ⟨r7, r8⟩
      · exact Or.inl ⟨r7, MV_tr v r8⟩
      · exact Or.inr ⟨r7, NF_tr v r8⟩
    · rw [if_neg hx, if_neg hx, if_neg hx, if_neg hx, if_neg hx]
      obtain rfl : v2 = nI V := by rcases hv with e | ⟨-, -, -, e⟩; exact e; exact absurd e hx
      exact ⟨V, hd c, c, m, rfl, ⟨s3, s3, trivial⟩, Nat.lt_of_lt_of_le hV (Nat.pow_le_pow_right (by decide) (show taken ≤ 4 by omega)), Nat.le_refl _, hH, fun q => absurd q hx, Or.inl ⟨rfl, MV_rf h⟩⟩
theorem num4 {c m : SI} (h : HP c m) (hx : f11_isDigit (xh c) = true) : ∃ (W p : Nat) (c' m' : SI), f12_plainNumber m = (nI W, m') ∧ o12_plainNumber m ∧ W < 10000 ∧ hd c < p ∧ p ≤ ln c ∧ ((f7_takeNumber c 4 = (nI W, c') ∧ MV c m c' m' p) ∨ (f7_takeNumber c 4 = (-1, c') ∧ NF c m c' m' p)) := by
  obtain ⟨s, hs1, hs2, es⟩ := digit_of hx
  have hne : xh c ≠ 32 := by rw [es]; intro q; rw [show (32 : Int32) = nI 32 from rfl, nI_eq (by omega) (by decide)] at q; omega
  obtain ⟨W, p, c', m', r1, r2, r3, r4, r5, r6, r7⟩ := num4_ind 4 0 0 c m (-1) (fu1 ((Int32.toInt 4 + 1 - Int32.toInt 0).toNat)) (fu1 ((Int32.toInt 4 - Int32.toInt 0).toNat)) rfl h (by decide) (Or.inr ⟨rfl, rfl, rfl, hx⟩) (by rw [fu1_eq]; decide) (by rw [fu1_eq]; decide)
  unfold f12_plainNumber o12_plainNumber f7_takeNumber
  simp only [(peek_id h hne).1]
  rw [if_pos hx]
  exact ⟨W, p, c', m', r1, r2, r3, r6 hx (by decide), r5, r7⟩
