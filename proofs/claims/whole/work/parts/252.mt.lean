/-! atoms, brackets, rows of signs -/
def SIM (t d M : Nat) (s0 : List Bool) (b : Bool) (F : SI → Bool × SI) (oG : SI → Prop) (G : SI → SI) : Prop :=
  ∀ c m, PS t d c m → ql c + 2 ≤ hd c → oG m ∧ (((F c).1 = true ∧ ∃ seg, EM t d c m (F c).2 (G m) seg ∧ hd c + seg.length ≤ hd (F c).2 ∧ tyc M seg s0 = some [b]) ∨ ((F c).1 = false ∧ BAD t d c m (F c).2 (G m)))
theorem sp_comm {σ : SI} {k i j : Nat} {x y : Int32} (h : i ≠ j) : sp (sp σ k i x) k j y = sp (sp σ k j y) k i x := by
  funext a
  by_cases ha : a = k
  · subst ha
    rw [sp_s, sp_s, sp_s, sp_s]
    funext q
    unfold upd
    by_cases h1 : q = j
    · subst h1
      rw [if_pos rfl, if_neg (Ne.symm h), if_pos rfl]
    · rw [if_neg h1]
      by_cases h2 : q = i
      · rw [if_pos h2, if_pos h2]
      · rw [if_neg h2, if_neg h2, if_neg h1]
  · rw [sp_n ha, sp_n ha, sp_n ha, sp_n ha]
theorem EM_deep {t d d' : Nat} {c m c' m' : SI} {seg : List (Nat × Nat)} (h : EM t d c m c' m' seg) (hd' : d' ≤ 6) : EM t d' c m c' (sp m' 123 5 (nI d')) seg := by
  obtain ⟨⟨⟨⟨a1, a2, a3, a4⟩, a5, a6, a7, a8⟩, a9, b1, b2, b3, b4, b5, b6, b7⟩, e1, e2, e3, e4, e5, e6⟩ := h
  have k1 : ∀ j, j ≠ 5 → sp m' 123 5 (nI d') 123 j = m' 123 j := fun j h => sp_k h
  have k2 : ∀ a, a ≠ 123 → sp m' 123 5 (nI d') a = m' a := fun a h => sp_n h
  have r1 : rl t (sp m' 123 5 (nI d')) = rl t m' := by unfold rl; rw [k2 127 (by decide)]
  refine ⟨⟨⟨⟨a1, by rw [k1 2 (by decide)]; exact a2, a3, fun i hi => by rw [k2 124 (by decide)]; exact a4 i hi⟩, a5, by rw [k1 3 (by decide)]; exact a6, a7, by rw [k1 4 (by decide)]; exact a8⟩, sp_r, by rw [k1 14 (by decide)]; exact b1, b2, hd', b4, b5, by rw [r1, k2 127 (by decide)]; exact b6, by omega⟩, e1, by omega, e3, ⟨fun a x y z w => (k2 a x).trans (e4.1 a x y z w), fun j x y z => (k1 j z).trans (e4.2.1 j x y z), fun j x => by rw [k2 127 (by decide)]; exact e4.2.2.1 j x, fun k x => ⟨by rw [k2 125 (by decide)]; exact (e4.2.2.2 k x).1, by rw [k2 126 (by decide)]; exact (e4.2.2.2 k x).2⟩⟩, e5, fun j x hx => ⟨(e6 j x hx).1, by rw [k2 125 (by decide)]; exact (e6 j x hx).2.1, by rw [k2 126 (by decide)]; exact (e6 j x hx).2.2⟩⟩
theorem FS_at {t d s : Nat} {c m m' : SI} (x5 : Int32) (h : FS t (d + 1) s c m m') : FS t d s c m (sp (sp m' 123 3 (m' 123 3 + 1)) 123 5 x5) ∧ (sp (sp m' 123 3 (m' 123 3 + 1)) 123 5 x5) 123 4 = m' 123 4 := by
  obtain ⟨w, a, r, h1, h2, h3, h4, h5, h6, h7, h8, h9⟩ := h
  have k1 : ∀ j, j ≠ 3 → j ≠ 5 → (sp (sp m' 123 3 (m' 123 3 + 1)) 123 5 x5) 123 j = m' 123 j := fun j h h' => by rw [sp_k h', sp_k h]
  have k2 : ∀ a, a ≠ 123 → (sp (sp m' 123 3 (m' 123 3 + 1)) 123 5 x5) a = m' a := fun a h => by rw [sp_n h, sp_n h]
  refine ⟨⟨w, a + 1, r, h1, by rw [k1 4 (by decide) (by decide)]; exact h2, by rw [sp_k (by decide), sp_r, h3, nI_1], by rw [k2 127 (by decide)]; exact h4, by omega, h6, by omega, by rw [k1 14 (by decide) (by decide)]; exact h8, ⟨fun a x y z w => (k2 a x).trans (h9.1 a x y z w), fun j x y z => (k1 j x z).trans (h9.2.1 j x y z), fun j x => by rw [k2 127 (by decide)]; exact h9.2.2.1 j x, fun k x => ⟨by rw [k2 125 (by decide)]; exact (h9.2.2.2 k x).1, by rw [k2 126 (by decide)]; exact (h9.2.2.2 k x).2⟩⟩⟩, k1 4 (by decide) (by decide)⟩
theorem open_ok {t d : Nat} {c m : SI} (h : PS t d c m) (hx : xh c ≠ -1) (hd6 : d < 6) : EM t (d + 1) c m (f7_pass c) (f12_opens m) [] ∧ hd (f7_pass c) = hd c + 1 ∧ f12_opens m 123 4 = -1 := by
  obtain ⟨v, hl⟩ := pass h.1 hx
  obtain ⟨e, e1⟩ := MV_EM h v (by omega) hl
  have e2 := EM_deep e (d' := d + 1) (by omega)
  have q : f12_opens m = sp (sp m 123 3 (m 123 3 + 1)) 123 5 (nI (d + 1)) := by
    unfold f12_opens
    rw [if_neg (by rw [h.2.1]; intro q; rw [show (6 : Int32) = nI 6 from rfl, nI_eq (by omega) (by decide)] at q; omega)]
    dsimp only
    rw [h.2.1, nI_1, sp_comm (by decide)]
  rw [q]
  exact ⟨e2, e1, e2.1.1.2.2.2.2⟩
theorem open_bad {t : Nat} {c m : SI} (h : PS t 6 c m) (hx : xh c ≠ -1) : BAD t 6 c m (f7_fails c).2 (f12_opens m) := by
  obtain ⟨v, hl⟩ := pass h.1 hx
  have hL := h.1.1.2.2.1
  rw [fails_at h.1]
  have q : f12_opens m = sp (sp (sp m 123 4 (nI (hd c))) 123 5 (nI 7)) 123 3 (nI (hd c + 1)) := by
    unfold f12_opens
    rw [if_pos (show m 123 5 = 6 from h.2.1), bad_at h.1]
    dsimp only
    rw [sp_k (by decide), sp_k (by decide), h.2.1, h.1.2.2.1, nI_1, nI_1]
  rw [q]
  show BAD t 6 c m (sp c 1 3 (nI (hd c))) _
  refine ⟨⟨hd c, hd c + 1, rl t m, by omega, ?_, sp_r, ?_, by omega, Nat.le_refl _, by omega, ?_, ⟨fun a x _ _ _ => by rw [sp_n x, sp_n x, sp_n x], fun j x y z => by rw [sp_k x, sp_k z, sp_k y], fun j _ => by rw [sp_n (by decide), sp_n (by decide), sp_n (by decide)], fun k _ => ⟨by rw [sp_n (by decide), sp_n (by decide), sp_n (by decide)], by rw [sp_n (by decide), sp_n (by decide), sp_n (by decide)]⟩⟩⟩, ?_, ⟨fun a h1 h2 h3 => sp_n h1, fun j h1 h2 => sp_k h2, fun j _ => ?_, fun k hk => absurd hk (Nat.not_lt_zero k)⟩⟩
  · rw [sp_k (by decide), sp_k (by decide), sp_r]
  · rw [sp_n (by decide), sp_n (by decide), sp_n (by decide)]; exact h.2.2.2.2.2.2.2.1
  · rw [sp_k (by decide), sp_k (by decide), sp_k (by decide)]; exact h.2.2.1
  · show sp c 1 3 (nI (hd c)) 1 3 = _
    rw [sp_r, sp_k (by decide), sp_k (by decide), sp_r]
  · show sp c 1 3 (nI (hd c)) 8 j = _
    rw [sp_n (by decide)]
/-- c is the sign that must stand here -/
theorem takes_at {c m : SI} (h : HP c m) (x : Int32) : ∃ (c1 m1 : SI) (p : Nat), f12_look m = (xh c1, m1) ∧ MV c m c1 m1 p ∧ hd c ≤ p ∧ p ≤ ln c ∧ o12_look m ∧ HP c1 m1 ∧ hd c1 = p ∧ ln c1 = ln c ∧ ((xh c1 = x ∧ f7_takes c x = (true, f7_pass c1)) ∨ (xh c1 ≠ x ∧ f7_takes c x = f7_fails c1)) := by
  obtain ⟨c1, m1, p, r1, r2, r3, r4, r5, r6, r7, r8, r9, r10⟩ := peek h
  refine ⟨c1, m1, p, r2, r3, r4, r5, r6, r8, r9, r10, ?_⟩
  unfold f7_takes
  simp only [r1]
  by_cases q : xh c1 = x
  · exact Or.inl ⟨q, by rw [if_pos q]⟩
  · exact Or.inr ⟨q, by rw [if_neg q]⟩
theorem close_ok {t d : Nat} {c m : SI} (h : PS t (d + 1) c m) {x : Int32} (hx : x ≠ -1) : o12_closes m x ∧ (((f7_takes c x).1 = true ∧ EM t d c m (f7_takes c x).2 (f12_closes m x) [] ∧ hd c + 1 ≤ hd (f7_takes c x).2) ∨ ((f7_takes c x).1 = false ∧ BAD t d c m (f7_takes c x).2 (f12_closes m x))) := by
  obtain ⟨c1, m1, p, r2, r3, r4, r5, r6, r8, r9, r10, r11⟩ := takes_at h.1 x
  have hw := h.1.2.2.2.2
  obtain ⟨e0, e0h⟩ := MV_EM h r3 r4 r5
  have hD := h.2.2.2.2.1
  unfold o12_closes f12_closes
  rw [if_pos hw, if_pos hw, r2]
  dsimp only
  rcases r11 with ⟨q, r11⟩ | ⟨q, r11⟩
  · rw [r11, if_pos q, if_pos q]
    refine ⟨⟨r6, trivial⟩, Or.inl ⟨rfl, ?_⟩⟩
    obtain ⟨v, hl⟩ := pass r8 (by rw [q]; exact hx)
    obtain ⟨e1, e1h⟩ := MV_EM e0.1 v (by omega) hl
    have e2 := EM_deep (EM_tr e0 e1) (d' := d) (by omega)
    rw [e0.1.2.1, nI_pred]
    exact ⟨e2, by show hd c + 1 ≤ hd (f7_pass c1); omega⟩
  · rw [r11, if_neg q, if_neg q]
    obtain ⟨f1, f2⟩ := fail_here e0.1
    refine ⟨⟨r6, trivial⟩, Or.inr ⟨f1, ?_⟩⟩
    obtain ⟨g1, g2, g3⟩ := BAD_base e0 (by rw [List.length_nil]; omega) f2
    obtain ⟨k1, k2⟩ := FS_at (f12_bad m1 123 5 - 1) g1
    exact ⟨k1, g2.trans k2.symm, g3⟩
theorem close_bad {t d s : Nat} {c m m' : SI} (h : FS t (d + 1) s c m m') (x : Int32) : o12_closes m' x ∧ FS t d s c m (f12_closes m' x) ∧ f12_closes m' x 123 4 = m' 123 4 := by
  have hw := FS_ne h
  unfold o12_closes f12_closes
  rw [if_neg hw, if_neg hw]
  exact ⟨trivial, FS_at _ h⟩
theorem ty_num {M W : Nat} (hW : W < 10000) (hM : 1 ≤ M) : tyc M [(0, W)] [] = some [false] := by
  show (stp M (0, W) []).bind (tyc M []) = _
  unfold stp
  rw [if_pos rfl, if_pos ⟨hW, hM⟩]
  rfl
theorem ty_let {M v : Nat} (hv : v < 6) (hM : 1 ≤ M) : tyc M [(1, v)] [] = some [false] := by
  show (stp M (1, v) []).bind (tyc M []) = _
  unfold stp
  rw [if_neg (show ¬ (1 : Nat) = 0 by decide), if_pos rfl, if_pos ⟨hv, hM⟩]
  rfl
theorem letter_y {x : Int32} (h : f3_isLetter x = true) : ∃ v : Nat, v < 6 ∧ f12_letterOf x = nI v ∧ ce (1, v) = -x ∧ x ≠ -1 := by
  unfold f3_isLetter at h
  unfold f12_letterOf
  by_cases h1 : x = 103
  · subst h1; exact ⟨0, by decide, rfl, rfl, by decide⟩
  rw [if_neg h1] at h ⊢
  by_cases h2 : x = 113
  · subst h2; exact ⟨1, by decide, rfl, rfl, by decide⟩
  rw [if_neg h2] at h ⊢
  by_cases h3 : x = 116
  · subst h3; exact ⟨2, by decide, rfl, rfl, by decide⟩
  rw [if_neg h3] at h ⊢
  by_cases h4 : x = 110
  · subst h4; exact ⟨3, by decide, rfl, rfl, by decide⟩
  rw [if_neg h4] at h ⊢
  by_cases h5 : x = 100
  · subst h5; exact ⟨4, by decide, rfl, rfl, by decide⟩
  rw [if_neg h5] at h ⊢
  by_cases h6 : x = 121
  · subst h6; exact ⟨5, by decide, rfl, rfl, by decide⟩
  rw [if_neg h6] at h
  cases h
theorem letter_n {x : Int32} (h : ¬ f3_isLetter x = true) : f12_letterOf x = -1 := by
  unfold f3_isLetter at h
  unfold f12_letterOf
  by_cases h1 : x = 103
  · rw [if_pos h1] at h; exact absurd rfl h
  rw [if_neg h1] at h ⊢
  by_cases h2 : x = 113
  · rw [if_pos h2] at h; exact absurd rfl h
  rw [if_neg h2] at h ⊢
  by_cases h3 : x = 116
  · rw [if_pos h3] at h; exact absurd rfl h
  rw [if_neg h3] at h ⊢
  by_cases h4 : x = 110
  · rw [if_pos h4] at h; exact absurd rfl h
  rw [if_neg h4] at h ⊢
  by_cases h5 : x = 100
  · rw [if_pos h5] at h; exact absurd rfl h
  rw [if_neg h5] at h ⊢
  by_cases h6 : x = 121
  · rw [if_pos h6] at h; exact absurd rfl h
  rw [if_neg h6]
theorem CF_add (c : SI) (x : Int32) : CF 0 c (f1_add 8 c x) := by
  unfold f1_add
  by_cases h1 : c 8 1 < 0
  · rw [if_pos h1]; exact CF_rf 0 c
  rw [if_neg h1]
  by_cases h2 : 240 ≤ c 8 1
  · rw [if_pos h2]; exact CF_rf 0 c
  rw [if_neg h2]
  show CF 0 c (sp (sp c 9 _ x) 8 1 _)
  exact ⟨fun a h1 h2 h3 => by rw [sp_n h2, sp_n h3], fun j _ _ => by rw [sp_n (by decide), sp_n (by decide)], fun j hj => by rw [sp_k hj, sp_n (by decide)], fun k hk => absurd hk (Nat.not_lt_zero k)⟩
theorem add_1 (c : SI) (x : Int32) : f1_add 8 c x 1 = c 1 := by
  unfold f1_add
  split
  · rfl
  split
  · rfl
  show sp (sp c 9 _ x) 8 1 _ 1 = _
  rw [sp_n (by decide), sp_n (by decide)]
theorem NF_FS {t d : Nat} {c m c' m' : SI} {p : Nat} (h : PS t d c m) (v : NF c m c' m' p) (h1 : hd c < p) (h2 : p ≤ ln c) : FS t d 1 c m m' ∧ c' 1 3 = m' 123 4 ∧ CF 0 c c' := by
  obtain ⟨a1, a2, a3, a4, a5, a6, a7, a8, a9⟩ := h
  obtain ⟨⟨v1, v2, v3⟩, v4, v5, v6, v7⟩ := v
  have hL := a1.1.2.2.1
  exact ⟨⟨p, p, rl t m, by omega, v7, v6, by rw [v4 127 (by decide)]; exact a8, by omega, Nat.le_refl _, by omega, by rw [v5 14 (by decide) (by decide)]; exact a3, ⟨fun a x _ _ _ => v4 a x, fun j x y _ => v5 j x y, fun j _ => by rw [v4 127 (by decide)], fun k _ => ⟨by rw [v4 125 (by decide)], by rw [v4 126 (by decide)]⟩⟩⟩, v3.trans v7.symm, ⟨fun a x _ _ => v1 a x, fun j x y => v2 j x y, fun j _ => by rw [v1 8 (by decide)], fun k hk => absurd hk (Nat.not_lt_zero k)⟩⟩
theorem atom_sim {t d : Nat} {S : SI → Int32 → Bool × SI} {oS : SI → Prop} {Sm : SI → SI} (hS : d < 6 → SIM t (d + 1) (1 + 2 * (6 - d)) [] false (fun c => S c (nI (d + 1))) oS Sm) : SIM t d (1 + 2 * (6 - d)) [] false (fun c => f3_readsAtom S c (nI d)) (o12_atom Sm oS) (f12_atom Sm) := by
  intro c m h hs
  obtain ⟨c1, m1, p, r1, r2, r3, r4, r5, r6, r7, r8, r9, r10⟩ := peek h.1
  obtain ⟨e0, e0h⟩ := MV_EM h r3 r4 r5
  have hL := h.1.1.2.2.1
  have hd6 := h.2.2.2.2.1
  have hq0 : ql c1 = ql c := e0.2.1
  have hr0 : rl t m1 = rl t m := e0.2.2.1
  have hr1 : rl t m ≤ hd c := h.2.2.2.2.2.2.2.2
  dsimp only
  unfold f3_readsAtom f12_atom o12_atom
  simp only [r1, r2, isDigit_same]
  by_cases x1 : f11_isDigit (xh c1) = true
  · rw [if_pos x1, if_pos x1, if_pos x1]
    obtain ⟨W, p2, c2, m2, a1, a2, a3, a4, a5, a6⟩ := num4 r8 x1
    rw [r10] at a5
    simp only [a1]
    rcases a6 with ⟨a6, v⟩ | ⟨a6, v⟩
    · obtain ⟨e1, e1h⟩ := MV_EM e0.1 v (by omega) (by omega)
      have hq1 : ql c2 = ql c1 := e1.2.1
      have hr2 : rl t m2 = rl t m1 := e1.2.2.1
      obtain ⟨o, e2⟩ := add_put e1.1 (by omega) (by omega) (0, W)
      rw [a6]
      dsimp only
      rw [if_neg (nI_ne_m1 (by omega))]
      refine ⟨⟨r6, a2, o, trivial⟩, Or.inl ⟨rfl, [(0, W)], EM_tr (EM_tr e0 e1) e2, ?_, ty_num a3 (by omega)⟩⟩
      have := e2.2.2.2.2.2.1
      show hd c + 1 ≤ hd (f1_add 8 c2 (ce (0, W)))
      omega
    · obtain ⟨f1, f2, f3⟩ := NF_FS e0.1 v (by omega) (by omega)
      obtain ⟨g1, g2, g3⟩ := FS_put (by omega) (by omega) h.2.2.2.1 f1 0 (nI W)
      rw [a6]
      dsimp only
      rw [if_pos rfl]
      refine ⟨⟨r6, a2, g1, trivial⟩, Or.inr ⟨rfl, BAD_base e0 (by rw [List.length_nil]; omega) ⟨g2, ?_, CF_tr f3 (CF_add _ _) (Nat.le_refl _)⟩⟩⟩
      show f1_add 8 c2 (-1) 1 3 = f12_put m2 0 (nI W) 123 4
      rw [g3, add_1]
      exact f2
  · rw [if_neg x1, if_neg x1, if_neg x1]
    by_cases x2 : f3_isLetter (xh c1) = true
    · obtain ⟨v, hv, hv2, hv3, hv4⟩ := letter_y x2
      rw [if_pos x2, if_neg (by rw [hv2]; exact nI_ne_m1 (by omega)), if_neg (by rw [hv2]; exact nI_ne_m1 (by omega)), hv2, ← hv3]
      obtain ⟨v1, hl⟩ := pass r8 hv4
      obtain ⟨e1, e1h⟩ := MV_EM e0.1 v1 (by omega) hl
      have hq1 : ql (f7_pass c1) = ql c1 := e1.2.1
      have hr2 : rl t (sp m1 123 3 (m1 123 3 + 1)) = rl t m1 := e1.2.2.1
      obtain ⟨o, e2⟩ := add_put e1.1 (by omega) (by omega) (1, v)
      refine ⟨⟨r6, o, trivial⟩, Or.inl ⟨rfl, [(1, v)], EM_tr (EM_tr e0 e1) e2, ?_, ty_let hv (by omega)⟩⟩
      have := e2.2.2.2.2.2.1
      show hd c + 1 ≤ hd (f1_add 8 (f7_pass c1) (ce (1, v)))
      omega
    · rw [if_neg x2, if_pos (letter_n x2), if_pos (letter_n x2)]
      by_cases x3 : xh c1 = 91
      · rw [if_pos x3, if_pos x3, if_pos x3]
        have hne : xh c1 ≠ -1 := by rw [x3]; decide
        by_cases x4 : d < 6
        · rw [if_pos (show nI d < 6 from nI_lt x4 (by decide))]
          obtain ⟨e1, e1h, w1⟩ := open_ok e0.1 hne x4
          have hq1 : ql (f7_pass c1) = ql c1 := e1.2.1
          rw [if_pos w1, if_pos w1, show nI d + 1 = nI (d + 1) from nI_1 d]
          obtain ⟨oo, q⟩ := hS x4 _ _ e1.1 (by omega)
          dsimp only at q
          rcases q with ⟨q1, seg, q2, q3, q4⟩ | ⟨q1, q2⟩
          · rw [if_pos q1]
            obtain ⟨k1, k2⟩ := close_ok q2.1 (x := 93) (by decide)
            rcases k2 with ⟨k2, k3, k4⟩ | ⟨k2, k3⟩
            · rw [if_pos k2]
              refine ⟨⟨r6, oo, k1, trivial⟩, Or.inl ⟨rfl, seg, ?_, ?_, q4⟩⟩
              · have := EM_tr (EM_tr (EM_tr e0 e1) q2) k3
                rw [List.append_nil] at this
                exact this
              · show _ ≤ hd (f7_takes _ 93).2
                omega
            · rw [if_neg (by rw [k2]; exact Bool.false_ne_true)]
              have hl := q2.2.1
              exact ⟨⟨r6, oo, k1, trivial⟩, Or.inr ⟨rfl, BAD_base (EM_tr (EM_tr e0 e1) q2) (by rw [List.nil_append, List.nil_append]; omega) k3⟩⟩
          · rw [if_neg (by rw [q1]; exact Bool.false_ne_true)]
            obtain ⟨f1, f2, f3⟩ := q2
            obtain ⟨k1, k2, k3⟩ := close_bad f1 93
            exact ⟨⟨r6, oo, k1, trivial⟩, Or.inr ⟨rfl, BAD_base (EM_tr e0 e1) (by rw [List.nil_append, List.length_nil]; omega) ⟨k2, f2.trans k3.symm, f3⟩⟩⟩
        · obtain rfl : d = 6 := by omega
          rw [if_neg (show ¬ nI 6 < 6 by decide)]
          have b := open_bad e0.1 hne
          rw [if_neg (FS_ne b.1), if_neg (FS_ne b.1)]
          refine ⟨⟨r6, trivial⟩, Or.inr ⟨?_, BAD_base e0 (by rw [List.length_nil]; omega) b⟩⟩
          rw [fails_at r8]
      · rw [if_neg x3, if_neg x3, if_neg x3]
        obtain ⟨f1, f2⟩ := fail_here e0.1
        exact ⟨⟨r6, trivial⟩, Or.inr ⟨f1, BAD_base e0 (by rw [List.length_nil]; omega) f2⟩⟩
