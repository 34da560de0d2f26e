/-! reading a town: a whole clause -/
theorem IR_keep {κ S A F : Nat} {c m c' m' : SI} (h : IR κ S A F c m) (hc : ∀ k, k < kN κ → c' 5 (S + k) = c 5 (S + k)) (hm : ∀ k, k < kN κ → m' A (F + k) = m A (F + k)) : IR κ S A F c' m' := fun k hk => by
  rw [hc k hk, hm k hk]
  exact h k hk
theorem HP_fld {c m : SI} {j : Nat} {z : Int32} (h : HP c m) (h2 : j ≠ 2) (h3 : j ≠ 3) (h4 : j ≠ 4) : HP c (sp m 123 j z) := by
  unfold HP TP at h ⊢
  rw [sp_k h2.symm, sp_k h3.symm, sp_k h4.symm, sp_n (show 124 ≠ 123 by decide)]
  exact h
theorem c48_peek {k S x y : Int32} {fc : Nat} {c c1 : SI} (h1 : f7_peek c = (y, c1)) (h2 : f7_peek c1 = (y, c1)) : f9_readsClause_c48 k S (fc + 1) x 0 c = f9_readsClause_c48 k S (fc + 1) x 0 c1 := by
  rw [f9_readsClause_c48, f9_readsClause_c48, if_neg (show ¬ (4 : Int32) < 0 by decide), if_neg (show ¬ (4 : Int32) < 0 by decide), h1, h2]
theorem gK_look {A n fu : Nat} {ks F N x y : Int32} {m m1 : SI} (h1 : f12_look m = (y, m1)) (h2 : f12_look m1 = (y, m1)) : gK A n ks F N fu x m = gK A n ks F N fu x m1 := by
  unfold gK
  rw [h1, h2]
theorem oK_look {A n fu : Nat} {ks F N x y : Int32} {m m1 : SI} (h1 : f12_look m = (y, m1)) (h2 : f12_look m1 = (y, m1)) (o : o12_look m) (h : oK A n ks F N fu x m1) : oK A n ks F N fu x m := by
  unfold oK at h ⊢
  rw [h1]
  rw [h2] at h
  exact ⟨o, h.2⟩
def CKR (κ S A F t : Nat) (c m : SI) (r : Bool × SI) (m' : SI) : Prop := ((∀ a, a ≠ 1 → a ≠ 5 → a ≠ 6 → r.2 a = c a) ∧ (∀ j, j ≠ 2 → j ≠ 3 → r.2 1 j = c 1 j) ∧ (∀ i, i < S ∨ S + kN κ ≤ i → r.2 5 i = c 5 i) ∧ r.2 6 κ = nI (t + 1) ∧ (∀ j, j ≠ κ → r.2 6 j = c 6 j)) ∧ ((∀ a, a ≠ 123 → a ≠ A → m' a = m a) ∧ (∀ j, j ≠ 3 → j ≠ 4 → m' 123 j = m 123 j) ∧ (∀ i, i < F ∨ F + kN κ ≤ i → m' A i = m A i)) ∧ ((r.1 = true ∧ HP r.2 m' ∧ hd c < hd r.2 ∧ ln r.2 = ln c ∧ IR κ S A F r.2 m' ∧ (xh r.2 = -1 ∨ xh r.2 = 59)) ∨ (r.1 = false ∧ ∃ cm, HP cm m' ∧ ln cm = ln c ∧ xh cm ≠ -1 ∧ xh cm ≠ 59 ∧ xh cm ≠ 32 ∧ r.2 1 3 = nI (hd cm)) ∨ (r.1 = false ∧ ∃ w, w ≤ ln c ∧ r.2 1 3 = nI w ∧ m' 123 4 = nI w))
theorem cl_k {κ t S A F n p : Nat} {c m c1 m1 : SI} (hκ : κ < 3) (hA : A ≠ 123) (hA2 : A ≠ 124) (hF : F + kN κ ≤ n) (hn : n < 1000) (h : HP c m) (r1 : f7_peek c = (xh c1, c1)) (r3 : MV c m c1 m1 p) (r4 : hd c ≤ p) (r8 : HP c1 m1) (r9 : hd c1 = p) (r10 : ln c1 = ln c) (hx : xh c1 ≠ -1) (hi : f11_indexOfS 0 (xh c1) = nI κ) (ht : c 6 κ = nI t) (t7 : t < kM κ) (t9 : t ≤ 7) (hS : S = kB κ + t * kN κ) : ∃ m', CKR κ S A F t c m (f9_readsClause c) m' ∧ f12_items A n (sp m1 123 3 (m1 123 3 + 1)) (nI (kS κ)) (nI F) (nI (kN κ)) = m' ∧ o12_items A n (sp m1 123 3 (m1 123 3 + 1)) (nI (kS κ)) (nI F) (nI (kN κ)) := by
  obtain ⟨n3, n2, n4, n1⟩ := k_items κ hκ
  have hL := h.1.2.2.1
  have ht1 : c1 6 κ = nI t := by rw [r3.1.1 6 (by decide)]; exact ht
  rcases open_c hκ ht1 t9 hS with ⟨q, _⟩ | ⟨_, q2, c2, q3, q4, q5, q6, q7, q8⟩
  · omega
  have eK : fu1 ((Int32.toInt (4 : Int32) + 1 - Int32.toInt (0 : Int32)).toNat) = 5 + 1 := fu_bdE (a := 4) (by decide)
  have nS : ¬ nI S = -1 := nI_ne_m1 (by omega)
  unfold f9_readsClause
  rw [r1]
  dsimp only
  rw [hi, q3]
  dsimp only
  rw [if_neg nS, eK]
  obtain ⟨H2, e2, l2, x2⟩ := HP_of (c' := c2) (m' := m1) r8 (q4 1 (by decide) (by decide)) (q4 2 (by decide) (by decide)) rfl rfl
  obtain ⟨w3, p3⟩ := pass H2 (by rw [x2]; exact hx)
  obtain ⟨H3, e3, l3⟩ := MV_HP H2 w3 p3
  have c3a : ∀ a, a ≠ 1 → f7_pass c2 a = c2 a := w3.1.1
  have c3j : ∀ j, j ≠ 2 → f7_pass c2 1 j = c2 1 j := w3.1.2.1
  generalize f7_pass c2 = c3 at H3 e3 l3 c3a c3j
  have m3a : ∀ a, a ≠ 123 → (sp m1 123 3 (m1 123 3 + 1)) a = m1 a := w3.2.1
  have m3j : ∀ j, j ≠ 3 → (sp m1 123 3 (m1 123 3 + 1)) 123 j = m1 123 j := w3.2.2.1
  generalize sp m1 123 3 (m1 123 3 + 1) = m3 at H3 m3a m3j
  obtain ⟨m4, u1, u2, u3, u4, u5⟩ := usu_m (A := A) (F := F) (n := n) hκ hF hn (kN κ + 1) 0 m3 (Nat.zero_le _) (by omega)
  obtain ⟨H4, e4, l4, x4⟩ := HP_of (c' := c3) (m' := m4) H3 rfl rfl (u3 123 (fun e => hA e.symm)) (u3 124 (fun e => hA2 e.symm))
  have I4 : IR κ S A F c3 m4 := fun k hk => by
    have b := k_bounds κ hκ k (by omega) hk
    rw [c3a 5 (by decide), q5 k hk, u4 k (Nat.zero_le _) hk]
    exact ⟨rfl, kU κ k, rfl, b.2.2.2.2.2.2.1, b.2.2.2.2.2.2.2.1⟩
  obtain ⟨c5, m5, p5, s1, s2, s3, s4, s5, s6, s7, s8, s9, s10⟩ := peek H4
  obtain ⟨y1, y2, y3⟩ := peek_id s8 s7
  have f5 : IFr κ S A F c3 m4 c5 m5 := MV_IFr hA s3
  have I5 : IR κ S A F c5 m5 := fun k hk => by rw [s3.1.1 5 (by decide), s3.2.1 A hA]; exact I4 k hk
  have efu : fu1 ((Int32.toInt ((f12_look m4).2 123 2) - Int32.toInt ((f12_look m4).2 123 3)).toNat + 1) = ln c5 - hd c5 + 2 := by
    have hL5 := s8.1.2.2.1
    rw [s2]
    dsimp only
    rw [s8.1.2.1, s8.2.2.1, toNat_sub_nI (by omega) (by have := s8.2.2.2.1; omega), fu1_eq]
  obtain ⟨E, oE⟩ := items_in (N := nI (kN κ)) hκ hA hA2 q2 hF hn 6 (ln c5 - hd c5 + 2) 0 0 c5 m5 s8 I5 (Nat.zero_le _) (by decide) (Nat.le_refl _)
  have ec : f9_readsClause_c48 (nI κ) (nI S) (5 + 1) 0 0 c3 = f9_readsClause_c48 (nI κ) (nI S) 6 0 (nI 0) c5 := c48_peek s1 y1
  have u1' : f12_items A n m3 (nI (kS κ)) (nI F) (nI (kN κ)) = gK A n (nI (kS κ)) (nI F) (nI (kN κ)) (ln c5 - hd c5 + 2) 0 m5 := by
    unfold f12_items
    rw [fu_bd (show kN κ < 2 ^ 31 by omega)]
    rw [efu] at u1
    exact u1.trans (gK_look s2 y2)
  have o1 : o12_items A n m3 (nI (kS κ)) (nI F) (nI (kN κ)) := by
    unfold o12_items
    rw [fu_bd (show kN κ < 2 ^ 31 by omega)]
    rw [efu] at u2
    exact u2 (oK_look s2 y2 s6 oE)
  rw [ec]
  refine ⟨gK A n (nI (kS κ)) (nI F) (nI (kN κ)) (ln c5 - hd c5 + 2) 0 m5, ?_, u1', o1⟩
  obtain ⟨g1, g2⟩ := IEND_base f5 (by omega) s10 E
  obtain ⟨⟨z1, z2, z3⟩, z4, z5, z6⟩ := g1
  have lc : ln c3 = ln c := by rw [l3, l2, r10]
  have hc3 : hd c < hd c3 := by rw [e3, e2, r9]; omega
  refine ⟨⟨fun a w1 w2 w3' => ?_, fun j w1 w2 => ?_, fun i w1 => ?_, ?_, fun j w1 => ?_⟩, ⟨fun a w1 w2 => ?_, fun j w1 w2 => ?_, fun i w1 => ?_⟩, ?_⟩
  · rw [z1 a w1 w2, c3a a w1, q4 a w2 w3', r3.1.1 a w1]
  · rw [z2 j w1 w2, c3j j w1, q4 1 (by decide) (by decide), r3.1.2.1 j w1]
  · rw [z3 i w1, c3a 5 (by decide), q6 i w1, r3.1.1 5 (by decide)]
  · rw [z1 6 (by decide) (by decide), c3a 6 (by decide), q7]
  · rw [z1 6 (by decide) (by decide), c3a 6 (by decide), q8 j w1, r3.1.1 6 (by decide)]
  · rw [z4 a w1 w2, u3 a w2, m3a a w1, r3.2.1 a w1]
  · rw [z5 j w1 w2, u3 123 (fun e => hA e.symm), m3j j w1, r3.2.2.1 j w1]
  · rw [z6 i w1, u5 i (by omega), m3a A hA, r3.2.1 A hA]
  · rcases g2 with ⟨b1, b2, b3, b4, b5⟩ | ⟨b1, cm, b2, b3, b4⟩ | ⟨b1, w, b2, b3⟩
    · have ll : ln (f9_readsClause_c48 (nI κ) (nI S) 6 0 (nI 0) c5).2 = ln c := by
        rw [← lc]
        unfold ln
        rw [z2 1 (by decide) (by decide)]
      exact Or.inl ⟨b1, b2, by omega, ll, b4, b5⟩
    · exact Or.inr (Or.inl ⟨b1, cm, b2, b3.trans lc, b4⟩)
    · exact Or.inr (Or.inr ⟨b1, w, by omega, b3⟩)
def DT (r : Bool) (a b : Nat) (c m : SI) : Prop := c 6 0 = nI (if r = true then 1 else 0) ∧ c 6 1 = nI a ∧ c 6 2 = nI b ∧ m 123 20 = nI a ∧ m 123 21 = nI b ∧ a ≤ 7 ∧ b ≤ 5 ∧ IR 0 0 134 0 c m ∧ (∀ h, h < a → IR 1 (3 + 4 * h) 135 (4 * h) c m) ∧ (∀ i, i < b → IR 2 (31 + i) 136 i c m)
def TFr (c m c' m' : SI) : Prop := ((∀ a, a ≠ 1 → a ≠ 5 → a ≠ 6 → c' a = c a) ∧ (∀ j, j ≠ 2 → j ≠ 3 → c' 1 j = c 1 j)) ∧ (∀ a, a ≠ 123 → a ≠ 134 → a ≠ 135 → a ≠ 136 → m' a = m a) ∧ (∀ j, j ≠ 3 → j ≠ 4 → j ≠ 20 → j ≠ 21 → m' 123 j = m 123 j)
theorem TFr_rf (c m : SI) : TFr c m c m := ⟨⟨fun _ _ _ _ => rfl, fun _ _ _ => rfl⟩, fun _ _ _ _ _ => rfl, fun _ _ _ _ _ => rfl⟩
theorem TFr_tr {c m c1 m1 c2 m2 : SI} (h1 : TFr c m c1 m1) (h2 : TFr c1 m1 c2 m2) : TFr c m c2 m2 := by
  obtain ⟨⟨a1, a2⟩, a3, a4⟩ := h1
  obtain ⟨⟨b1, b2⟩, b3, b4⟩ := h2
  exact ⟨⟨fun a x y z => (b1 a x y z).trans (a1 a x y z), fun j x y => (b2 j x y).trans (a2 j x y)⟩, fun a x y z w => (b3 a x y z w).trans (a3 a x y z w), fun j x y z w => (b4 j x y z w).trans (a4 j x y z w)⟩
theorem MV_TFr {c m c' m' : SI} {p : Nat} (v : MV c m c' m' p) : TFr c m c' m' := ⟨⟨fun a x _ _ => v.1.1 a x, fun j x _ => v.1.2.1 j x⟩, fun a x _ _ _ => v.2.1 a x, fun j x _ _ _ => v.2.2.1 j x⟩
def CEND (c m : SI) (r : Bool × SI) (v : Bool) (s : SI) : Prop := TFr c m r.2 s ∧ ((r.1 = true ∧ HP r.2 s ∧ hd c < hd r.2 ∧ ln r.2 = ln c ∧ (∃ a b, DT v a b r.2 s) ∧ (xh r.2 = -1 ∨ xh r.2 = 59)) ∨ (r.1 = false ∧ ∃ cm, HP cm s ∧ ln cm = ln c ∧ xh cm ≠ -1 ∧ xh cm ≠ 59 ∧ xh cm ≠ 32 ∧ r.2 1 3 = nI (hd cm)) ∨ (r.1 = false ∧ ∃ w, w ≤ ln c ∧ r.2 1 3 = nI w ∧ s 123 4 = nI w))
theorem clause {K : Bool → Bool → SI → Int32 × SI} {oK' : Bool → Bool → SI → Prop} {fu a b : Nat} {v : Bool} {c m : SI} (h : HP c m) (D : DT v a b c m) : ∃ v' s, f12_readTown_c49 K (fu + 1) v true m = TL K fu v' s ∧ (oTL oK' fu v' s → o12_readTown_c49 oK' (fu + 1) v true m) ∧ CEND c m (f9_readsClause c) v' s := by
  obtain ⟨c1, m1, p, r1, r2, r3, r4, r5, r6, r7, r8, r9, r10⟩ := peek h
  have w : m 123 4 = -1 := h.2.2.2.2
  obtain ⟨d0, d1, d2, d3, d4, d5, d6, d7, d8, d9⟩ := D
  have k3 : m1 123 20 = nI a := by rw [r3.2.2.1 20 (by decide)]; exact d3
  have k4 : m1 123 21 = nI b := by rw [r3.2.2.1 21 (by decide)]; exact d4
  have bad : f9_readsClause c = f7_fails c1 ∨ (∃ c2, f9_readsClause c = f7_fails c2 ∧ c2 = c1) → CEND c m (f9_readsClause c) v (f12_bad m1) := by
    intro q
    have q' : f9_readsClause c = f7_fails c1 := by
      rcases q with q | ⟨c2, q, e⟩
      · exact q
      · rw [q, e]
    rw [q', fails_at r8, bad_at r8]
    have f : TFr c1 m1 (sp c1 1 3 (nI (hd c1))) (sp m1 123 4 (nI (hd c1))) := ⟨⟨fun a x _ _ => sp_n x, fun j _ y => sp_k y⟩, fun a x _ _ _ => sp_n x, fun j _ y _ _ => sp_k y⟩
    have g1 : (sp c1 1 3 (nI (hd c1))) 1 3 = nI (hd c1) := sp_r
    have g2 : (sp m1 123 4 (nI (hd c1))) 123 4 = nI (hd c1) := sp_r
    exact ⟨TFr_tr (MV_TFr r3) f, Or.inr (Or.inr ⟨rfl, hd c1, by omega, g1, g2⟩)⟩
  have shut : f8_open 4 c1 (f11_indexOfS 0 (xh c1)) = (-1, c1) → f9_readsClause c = f7_fails c1 := by
    intro q
    unfold f9_readsClause
    rw [r1]
    dsimp only
    rw [q]
    dsimp only
    rw [if_pos rfl]
  have c16 : ∀ j, c1 6 j = c 6 j := fun j => by rw [r3.1.1 6 (by decide)]
  rcases index_k (xh c1) with ⟨ex, ei⟩ | ⟨ex, ei⟩ | ⟨ex, ei⟩ | ⟨x1, x2, x3, ei⟩
  · by_cases hv : v = true
    · have e0 : c1 6 0 = nI 1 := by rw [c16 0, d0, if_pos hv]
      have sh : f8_open 4 c1 (nI 0) = (-1, c1) := by
        rcases open_c (κ := 0) (t := 1) (S := 3) (by decide) e0 (by decide) rfl with ⟨_, q⟩ | ⟨q, _⟩
        · exact q
        · exact absurd q (by decide)
      obtain ⟨t1, t2⟩ := rt_D (K := K) (oK' := oK') (fu := fu) (v := v) (m := m) w r2 r6 (fun _ => hv) (fun e => absurd (ex.symm.trans e) (by decide)) (fun e => absurd (ex.symm.trans e) (by decide))
      exact ⟨v, f12_bad m1, t1, t2, bad (Or.inl (shut (by rw [ei]; exact sh)))⟩
    · have hv0 : v = false := Bool.eq_false_iff.mpr hv
      subst hv0
      have e0 : c 6 0 = nI 0 := by rw [d0, if_neg Bool.false_ne_true]
      obtain ⟨m', g1, g2, g3⟩ := cl_k (κ := 0) (t := 0) (S := 0) (A := 134) (F := 0) (n := 3) (by decide) (by decide) (by decide) (by decide) (by decide) h r1 r3 r4 r8 r9 r10 (by rw [ex]; decide) ei e0 (by decide) (by decide) rfl
      rw [ex] at r2
      obtain ⟨t1, t2⟩ := rt_A (K := K) (oK' := oK') (fu := fu) (m := m) w r2 r6
      have g2' : f12_items 134 3 (sp m1 123 3 (m1 123 3 + 1)) 115 0 3 = m' := g2
      rw [g2'] at t1 t2
      refine ⟨true, m', t1, t2 g3, ?_⟩
      obtain ⟨⟨y1, y2, y3, y4, y5⟩, ⟨y6, y7, y8⟩, y9⟩ := g1
      refine ⟨⟨⟨y1, y2⟩, fun a x1 x2 _ _ => y6 a x1 x2, fun j x1 x2 _ _ => y7 j x1 x2⟩, ?_⟩
      rcases y9 with ⟨b1, b2, b3, b4, b5, b6⟩ | q | q
      · refine Or.inl ⟨b1, b2, b3, b4, ⟨a, b, y4, by rw [y5 1 (by decide)]; exact d1, by rw [y5 2 (by decide)]; exact d2, by rw [y7 20 (by decide) (by decide)]; exact d3, by rw [y7 21 (by decide) (by decide)]; exact d4, d5, d6, b5, fun i hi => IR_keep (d8 i hi) (fun k _ => y3 _ (Or.inr (by show 0 + 3 ≤ _; omega))) (fun k _ => by rw [y6 135 (by decide) (by decide)]), fun i hi => IR_keep (d9 i hi) (fun k _ => y3 _ (Or.inr (by show 0 + 3 ≤ _; omega))) (fun k _ => by rw [y6 136 (by decide) (by decide)])⟩, b6⟩
      · exact Or.inr (Or.inl q)
      · exact Or.inr (Or.inr q)
  · by_cases ha : a < 7
    · have e1 : c 6 1 = nI a := d1
      obtain ⟨m', g1, g2, g3⟩ := cl_k (κ := 1) (t := a) (S := 3 + 4 * a) (A := 135) (F := 4 * a) (n := 28) (by decide) (by decide) (by decide) (by show 4 * a + 4 ≤ 28; omega) (by decide) h r1 r3 r4 r8 r9 r10 (by rw [ex]; decide) ei e1 (by show a < 7; omega) (by omega) (by show 3 + 4 * a = 3 + a * 4; omega)
      rw [ex] at r2
      obtain ⟨t1, t2⟩ := rt_B (K := K) (oK' := oK') (fu := fu) (v := v) (m := m) w r2 r6 k3 ha
      have g2' : f12_items 135 28 (sp m1 123 3 (m1 123 3 + 1)) 104 (nI (4 * a)) 4 = m' := g2
      rw [g2'] at t1 t2
      obtain ⟨⟨y1, y2, y3, y4, y5⟩, ⟨y6, y7, y8⟩, y9⟩ := g1
      have m20 : m' 123 20 + 1 = nI (a + 1) := by rw [y7 20 (by decide) (by decide), d3]; exact nI_add a 1
      rw [m20] at t1 t2
      refine ⟨v, sp m' 123 20 (nI (a + 1)), t1, t2 g3, ?_⟩
      refine ⟨⟨⟨y1, y2⟩, fun a x1 _ x2 _ => by rw [sp_n x1]; exact y6 a x1 x2, fun j x1 x2 x3 _ => by rw [sp_k x3]; exact y7 j x1 x2⟩, ?_⟩
      rcases y9 with ⟨b1, b2, b3, b4, b5, b6⟩ | ⟨q1, cm, q2, q3⟩ | ⟨q1, w2, q2, q3, q4⟩
      · refine Or.inl ⟨b1, HP_fld b2 (by decide) (by decide) (by decide), b3, b4, ⟨a + 1, b, by rw [y5 0 (by decide)]; exact d0, y4, by rw [y5 2 (by decide)]; exact d2, sp_r, by rw [sp_k (by decide), y7 21 (by decide) (by decide)]; exact d4, by omega, d6, IR_keep d7 (fun k hk => y3 _ (Or.inl (by have : k < 3 := hk; omega))) (fun k _ => by rw [sp_n (by decide), y6 134 (by decide) (by decide)]), fun i hi => ?_, fun i hi => IR_keep (d9 i hi) (fun k _ => y3 _ (Or.inr (by show 3 + 4 * a + 4 ≤ _; omega))) (fun k _ => by rw [sp_n (by decide), y6 136 (by decide) (by decide)])⟩, b6⟩
        by_cases e : i = a
        · subst e
          exact IR_keep b5 (fun _ _ => rfl) (fun k _ => by rw [sp_n (by decide)])
        · exact IR_keep (d8 i (by omega)) (fun k hk => y3 _ (Or.inl (by have : k < 4 := hk; omega))) (fun k hk => by rw [sp_n (by decide)]; exact y8 _ (Or.inl (by have : k < 4 := hk; omega)))
      · exact Or.inr (Or.inl ⟨q1, cm, HP_fld q2 (by decide) (by decide) (by decide), q3⟩)
      · exact Or.inr (Or.inr ⟨q1, w2, q2, q3, by rw [sp_k (by decide)]; exact q4⟩)
    · have e1 : c1 6 1 = nI a := (c16 1).trans d1
      have sh : f8_open 4 c1 (nI 1) = (-1, c1) := by
        rcases open_c (κ := 1) (t := a) (S := 3 + a * 4) (by decide) e1 (by omega) rfl with ⟨_, q⟩ | ⟨q, _⟩
        · exact q
        · exact absurd q (by show ¬ a < 7; omega)
      obtain ⟨t1, t2⟩ := rt_D (K := K) (oK' := oK') (fu := fu) (v := v) (m := m) w r2 r6 (fun e => absurd (ex.symm.trans e) (by decide)) (fun _ => by rw [k3]; exact nI_le (a := 7) (by omega) (by omega)) (fun e => absurd (ex.symm.trans e) (by decide))
      exact ⟨v, f12_bad m1, t1, t2, bad (Or.inl (shut (by rw [ei]; exact sh)))⟩
  · by_cases hb : b < 5
    · have e2 : c 6 2 = nI b := d2
      obtain ⟨m', g1, g2, g3⟩ := cl_k (κ := 2) (t := b) (S := 31 + b) (A := 136) (F := b) (n := 5) (by decide) (by decide) (by decide) (by show b + 1 ≤ 5; omega) (by decide) h r1 r3 r4 r8 r9 r10 (by rw [ex]; decide) ei e2 (by show b < 5; omega) (by omega) (by show 31 + b = 31 + b * 1; omega)
      rw [ex] at r2
      obtain ⟨t1, t2⟩ := rt_C (K := K) (oK' := oK') (fu := fu) (v := v) (m := m) w r2 r6 k4 hb
      have g2' : f12_items 136 5 (sp m1 123 3 (m1 123 3 + 1)) 98 (nI b) 1 = m' := g2
      rw [g2'] at t1 t2
      obtain ⟨⟨y1, y2, y3, y4, y5⟩, ⟨y6, y7, y8⟩, y9⟩ := g1
      have m21 : m' 123 21 + 1 = nI (b + 1) := by rw [y7 21 (by decide) (by decide), d4]; exact nI_add b 1
      rw [m21] at t1 t2
      refine ⟨v, sp m' 123 21 (nI (b + 1)), t1, t2 g3, ?_⟩
      refine ⟨⟨⟨y1, y2⟩, fun a x1 _ _ x2 => by rw [sp_n x1]; exact y6 a x1 x2, fun j x1 x2 _ x3 => by rw [sp_k x3]; exact y7 j x1 x2⟩, ?_⟩
      rcases y9 with ⟨b1, b2, b3, b4, b5, b6⟩ | ⟨q1, cm, q2, q3⟩ | ⟨q1, w2, q2, q3, q4⟩
      · refine Or.inl ⟨b1, HP_fld b2 (by decide) (by decide) (by decide), b3, b4, ⟨a, b + 1, by rw [y5 0 (by decide)]; exact d0, by rw [y5 1 (by decide)]; exact d1, y4, by rw [sp_k (by decide), y7 20 (by decide) (by decide)]; exact d3, sp_r, d5, by omega, IR_keep d7 (fun k hk => y3 _ (Or.inl (by have : k < 3 := hk; omega))) (fun k _ => by rw [sp_n (by decide), y6 134 (by decide) (by decide)]), fun i hi => IR_keep (d8 i hi) (fun k hk => y3 _ (Or.inl (by have : k < 4 := hk; omega))) (fun k _ => by rw [sp_n (by decide), y6 135 (by decide) (by decide)]), fun i hi => ?_⟩, b6⟩
        by_cases e : i = b
        · subst e
          exact IR_keep b5 (fun _ _ => rfl) (fun k _ => by rw [sp_n (by decide)])
        · exact IR_keep (d9 i (by omega)) (fun k hk => y3 _ (Or.inl (by have : k < 1 := hk; omega))) (fun k hk => by rw [sp_n (by decide)]; exact y8 _ (Or.inl (by have : k < 1 := hk; omega)))
      · exact Or.inr (Or.inl ⟨q1, cm, HP_fld q2 (by decide) (by decide) (by decide), q3⟩)
      · exact Or.inr (Or.inr ⟨q1, w2, q2, q3, by rw [sp_k (by decide)]; exact q4⟩)
    · have e2 : c1 6 2 = nI b := (c16 2).trans d2
      have sh : f8_open 4 c1 (nI 2) = (-1, c1) := by
        rcases open_c (κ := 2) (t := b) (S := 31 + b * 1) (by decide) e2 (by omega) rfl with ⟨_, q⟩ | ⟨q, _⟩
        · exact q
        · exact absurd q (by show ¬ b < 5; omega)
      obtain ⟨t1, t2⟩ := rt_D (K := K) (oK' := oK') (fu := fu) (v := v) (m := m) w r2 r6 (fun e => absurd (ex.symm.trans e) (by decide)) (fun e => absurd (ex.symm.trans e) (by decide)) (fun _ => by rw [k4]; exact nI_le (a := 5) (by omega) (by omega))
      exact ⟨v, f12_bad m1, t1, t2, bad (Or.inl (shut (by rw [ei]; exact sh)))⟩
  · obtain ⟨t1, t2⟩ := rt_D (K := K) (oK' := oK') (fu := fu) (v := v) (m := m) w r2 r6 (fun e => absurd e x1) (fun e => absurd e x2) (fun e => absurd e x3)
    exact ⟨v, f12_bad m1, t1, t2, bad (Or.inl (shut (by rw [ei]; exact open_no c1)))⟩
