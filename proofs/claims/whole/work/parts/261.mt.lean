/-! a law worked out by the model; how long he stands -/
theorem o_worked (op : Int32) (a b : Int64) : o12_worked op a b := by
  unfold o12_worked
  split
  · trivial
  split
  · trivial
  split
  · trivial
  split
  · split
    · trivial
    · rename_i h
      exact ⟨fun q => h (lg_cmp_eq _ _ |>.mpr q), trivial⟩
  split
  · split <;> trivial
  split
  · split <;> trivial
  split
  · split <;> trivial
  split
  · split
    · trivial
    · split <;> trivial
  · split
    · split <;> trivial
    · trivial
theorem m1_nI (n : Nat) : nI (n + 1) + (-1) = nI n := pk_m1 n
theorem run_m {M e : Nat} {x1 x2 x3 : Int32} {ℓ : Nat → Int32} (hM : M ≤ 80) (he : (520 : Int32) * x1 + x3 = nI e) (he2 : e ≤ 2600) : ∀ (l : List (Nat × Nat)) (s s' : List Bool) (v : List Int32) (pos : Nat) (m : SI) (fu : Nat), tyc M l s = some s' → (∀ j, j < 6 → R6 (ℓ j)) → v.length ≤ 80 → TY s v → SK (m 133) v → (∀ j, j < 6 → m 132 j = ℓ j) → pos + l.length = e → l.length < fu → (∀ j x, l[j]? = some x → m 125 (pos + j) = nI x.1 ∧ m 126 (pos + j) = nI x.2) →
    ∃ m', f12_workOut_c12 x1 x2 x3 fu (nI v.length) (nI pos) m = (m' 133 0, m') ∧ o12_workOut_c12 x1 x2 x3 fu (nI v.length) (nI pos) m ∧ (∀ a, a ≠ 133 → m' a = m a) ∧ SK (m' 133) (evs ℓ l v) ∧ TY s' (evs ℓ l v) := by
  intro l
  induction l with
  | nil =>
    intro s s' v pos m fu h hl h80 hv hs hL hp hf hx
    cases h
    obtain ⟨f, rfl, -⟩ := fu_pos hf
    have e1 : pos = e := hp
    have c1 : (520 : Int32) * x1 + x3 ≤ nI pos := by rw [he, e1]; exact nI_le (Nat.le_refl _) (by omega)
    rw [f12_workOut_c12, o12_workOut_c12, if_pos c1, if_pos c1]
    exact ⟨m, rfl, trivial, fun _ _ => rfl, hs, hv⟩
  | cons t l ih =>
    intro s s' v pos m fu h hl h80 hv hs hL hp hf hx
    obtain ⟨f, rfl, -⟩ := fu_pos (Nat.lt_of_le_of_lt (Nat.zero_le _) hf)
    rw [List.length_cons] at hp hf
    obtain ⟨s1, h1, h2⟩ := tyc_cons h
    have hlen := TY_len s v hv
    have hv1 := ev1_ty h1 hv hl
    have c1 : ¬ (520 : Int32) * x1 + x3 ≤ nI pos := by rw [he]; exact nI_ge (by omega) (by omega)
    obtain ⟨g1, g2⟩ := hx 0 t rfl
    rw [Nat.add_zero] at g1 g2
    have hpc : (nI pos).toNatClampNeg = pos := nI_clamp (by omega)
    have vp : vp_in (nI pos) 2600 := vp_in_nI (by omega) (by decide)
    have fin : ∀ m1 : SI, (ev1 ℓ t v).length ≤ 80 → (∀ a, a ≠ 133 → m1 a = m a) → SK (m1 133) (ev1 ℓ t v) → ∃ m', f12_workOut_c12 x1 x2 x3 f (nI (ev1 ℓ t v).length) (nI (pos + 1)) m1 = (m' 133 0, m') ∧ o12_workOut_c12 x1 x2 x3 f (nI (ev1 ℓ t v).length) (nI (pos + 1)) m1 ∧ (∀ a, a ≠ 133 → m' a = m a) ∧ SK (m' 133) (evs ℓ (t :: l) v) ∧ TY s' (evs ℓ (t :: l) v) := by
      intro m1 k0 k1 k2
      obtain ⟨m', r1, r2, r3, r4, r5⟩ := ih s1 s' (ev1 ℓ t v) (pos + 1) m1 f h2 hl k0 hv1 k2 (fun j hj => by rw [k1 132 (by decide)]; exact hL j hj) (by omega) (by omega) (fun j x hj => by rw [k1 125 (by decide), k1 126 (by decide), show pos + 1 + j = pos + (j + 1) by omega]; exact hx (j + 1) x hj)
      exact ⟨m', r1, r2, fun a ha => (r3 a ha).trans (k1 a ha), r4, r5⟩
    have bin : ∀ (o : Nat) (x y : Int32) (v' : List Int32), t = (o, 0) → ¬ nI o = 0 → ¬ nI o = 1 → ¬ nI o = 9 → v = x :: y :: v' → ev1 ℓ t v = wk o y x :: v' → ∃ m', f12_workOut_c12 x1 x2 x3 (f + 1) (nI v.length) (nI pos) m = (m' 133 0, m') ∧ o12_workOut_c12 x1 x2 x3 (f + 1) (nI v.length) (nI pos) m ∧ (∀ a, a ≠ 133 → m' a = m a) ∧ SK (m' 133) (evs ℓ (t :: l) v) ∧ TY s' (evs ℓ (t :: l) v) := by
      intro o x y v' ht z z1 z2 hvv he1
      subst hvv
      have ht1 : t.1 = o := by rw [ht]
      rw [List.length_cons, List.length_cons] at h80 ⊢
      have ec : (nI v'.length).toNatClampNeg = v'.length := nI_clamp (by omega)
      have ec1 : (nI (v'.length + 1)).toNatClampNeg = v'.length + 1 := nI_clamp (by omega)
      obtain ⟨hs1, hs2, hs3⟩ := hs
      rw [List.length_cons] at hs1
      have g1' : m 125 pos = nI o := by rw [g1, ht1]
      rw [f12_workOut_c12, o12_workOut_c12, if_neg c1, if_neg c1, hpc, g1']
      dsimp only
      rw [if_neg z, if_neg z1, if_neg z2, if_neg z, if_neg z1, if_neg z2, m1_nI, nI_pred, ec, ec1, hs1, hs2, nI_1 pos]
      rw [he1] at fin
      obtain ⟨m', r1, r2, r3⟩ := fin (sp m 133 v'.length (wk o y x)) (by rw [List.length_cons]; omega) (fun a ha => sp_n ha) (by rw [sp_s]; exact SK_push hs3)
      rw [List.length_cons] at r1 r2
      exact ⟨m', r1, ⟨vp, vp, vp, vp, vp_in_nI (by omega) (by decide), vp_in_nI (by omega) (by decide), o_worked _ _ _, vp_in_nI (by omega) (by decide), r2⟩, r3⟩
    have bin2 : ∀ (o : Nat) (a b : Bool) (r : List Bool), t = (o, 0) → ¬ nI o = 0 → ¬ nI o = 1 → ¬ nI o = 9 → s = a :: b :: r → (∀ x y v', ev1 ℓ (o, 0) (x :: y :: v') = wk o y x :: v') → ∃ m', f12_workOut_c12 x1 x2 x3 (f + 1) (nI v.length) (nI pos) m = (m' 133 0, m') ∧ o12_workOut_c12 x1 x2 x3 (f + 1) (nI v.length) (nI pos) m ∧ (∀ a, a ≠ 133 → m' a = m a) ∧ SK (m' 133) (evs ℓ (t :: l) v) ∧ TY s' (evs ℓ (t :: l) v) := by
      intro o a b r ht z z1 z2 hsr hev
      rw [hsr] at hv
      rcases hvv : v with _ | ⟨x, _ | ⟨y, v'⟩⟩
      · rw [hvv] at hv; exact hv.elim
      · rw [hvv] at hv; exact hv.2.2.elim
      · rw [← hvv]
        exact bin o x y v' ht z z1 z2 hvv (by rw [hvv, ht]; exact hev x y v')
    rcases stp_cases h1 with q | q | q | ⟨ht, a, b, r, rfl, rfl⟩ | ⟨ht, a, b, r, rfl, rfl⟩ | ⟨ht, r, rfl, rfl⟩
    · obtain ⟨h0, q1, q2, rfl⟩ := q
      rw [f12_workOut_c12, o12_workOut_c12, if_neg c1, if_neg c1, hpc, g1, g2]
      dsimp only
      have z : nI t.1 = 0 := by rw [h0]; rfl
      have ec : (nI v.length).toNatClampNeg = v.length := nI_clamp (by omega)
      rw [if_pos z, if_pos z, if_pos z, if_pos z, ec, nI_1, nI_1]
      have e1 : ev1 ℓ t v = nI t.2 :: v := by unfold ev1; rw [if_pos h0]
      rw [e1] at fin
      obtain ⟨m', r1, r2, r3⟩ := fin (sp m 133 v.length (nI t.2)) (by rw [List.length_cons]; omega) (fun a ha => sp_n ha) (by rw [sp_s]; exact SK_push hs)
      exact ⟨m', r1, ⟨vp, vp, vp, vp_in_nI (by omega) (by decide), r2⟩, r3⟩
    · obtain ⟨h0, q1, q2, rfl⟩ := q
      rw [f12_workOut_c12, o12_workOut_c12, if_neg c1, if_neg c1, hpc, g1, g2]
      dsimp only
      have z : ¬ nI t.1 = 0 := by rw [h0]; decide
      have z1 : nI t.1 = 1 := by rw [h0]; rfl
      have ec : (nI v.length).toNatClampNeg = v.length := nI_clamp (by omega)
      have e2 : (nI t.2).toNatClampNeg = t.2 := nI_clamp (by omega)
      rw [if_neg z, if_pos z1, if_neg z, if_neg z, if_pos z1, if_neg z, ec, e2, nI_1, nI_1, hL _ q1]
      have e1 : ev1 ℓ t v = ℓ t.2 :: v := by unfold ev1; rw [if_neg (by omega), if_pos h0]
      rw [e1] at fin
      obtain ⟨m', r1, r2, r3⟩ := fin (sp m 133 v.length (ℓ t.2)) (by rw [List.length_cons]; omega) (fun a ha => sp_n ha) (by rw [sp_s]; exact SK_push hs)
      exact ⟨m', r1, ⟨vp, vp, vp, vp, vp_in_nI q1 (by decide), vp_in_nI (by omega) (by decide), r2⟩, r3⟩
    · obtain ⟨rfl, r, rfl, rfl⟩ := q
      rw [f12_workOut_c12, o12_workOut_c12, if_neg c1, if_neg c1, hpc, g1, g2]
      dsimp only
      rcases v with _ | ⟨x, v⟩
      · exact hv.elim
      · rw [List.length_cons] at hlen ⊢
        have hlv : v.length < 80 := by rw [List.length_cons] at h80; omega
        have z : ¬ nI 9 = 0 := by decide
        have z1 : ¬ nI 9 = 1 := by decide
        have z2 : nI 9 = 9 := rfl
        have ec : (nI v.length).toNatClampNeg = v.length := nI_clamp (by omega)
        rw [if_neg z, if_neg z1, if_pos z2, if_neg z, if_neg z1, if_pos z2, nI_pred, ec, hs.1, nI_1 pos]
        have e1 : ev1 ℓ (9, 0) (x :: v) = ((1 : Int32) - x) :: v := rfl
        rw [e1] at fin
        obtain ⟨m', r1, r2, r3⟩ := fin (sp m 133 v.length ((1 : Int32) - x)) (by rw [List.length_cons] at h80 ⊢; omega) (fun a ha => sp_n ha) (by rw [sp_s]; exact SK_push hs.2)
        rw [List.length_cons] at r1 r2
        exact ⟨m', r1, ⟨vp, vp, vp, vp_in_nI hlv (by decide), vp_in_nI hlv (by decide), r2⟩, r3⟩
    · rcases ht with ht | ht | ht | ht
      · exact bin2 2 a b r ht (by decide) (by decide) (by decide) rfl (fun _ _ _ => rfl)
      · exact bin2 3 a b r ht (by decide) (by decide) (by decide) rfl (fun _ _ _ => rfl)
      · exact bin2 4 a b r ht (by decide) (by decide) (by decide) rfl (fun _ _ _ => rfl)
      · exact bin2 5 a b r ht (by decide) (by decide) (by decide) rfl (fun _ _ _ => rfl)
    · rcases ht with ht | ht | ht
      · exact bin2 6 a b r ht (by decide) (by decide) (by decide) rfl (fun _ _ _ => rfl)
      · exact bin2 7 a b r ht (by decide) (by decide) (by decide) rfl (fun _ _ _ => rfl)
      · exact bin2 8 a b r ht (by decide) (by decide) (by decide) rfl (fun _ _ _ => rfl)
    · rcases ht with ht | ht
      · exact bin2 10 true true r ht (by decide) (by decide) (by decide) rfl (fun _ _ _ => rfl)
      · exact bin2 11 true true r ht (by decide) (by decide) (by decide) rfl (fun _ _ _ => rfl)
theorem workOut_m {t a : Nat} {b : Bool} {l : List (Nat × Nat)} {m : SI} {ℓ : Nat → Int32} (ht : t < 5) (ha : a + l.length ≤ 520) (ty : tyc 18 l [] = some [b]) (hl : ∀ j, j < 6 → R6 (ℓ j)) (hL : ∀ j, j < 6 → m 132 j = ℓ j) (tok : ∀ j x, l[j]? = some x → m 125 (520 * t + (a + j)) = nI x.1 ∧ m 126 (520 * t + (a + j)) = nI x.2) : ∃ m', f12_workOut m (nI t) (nI a) (nI (a + l.length)) = (tp (evs ℓ l []), m') ∧ o12_workOut m (nI t) (nI a) (nI (a + l.length)) ∧ (∀ a, a ≠ 133 → m' a = m a) := by
  have e1 : (520 : Int32) * nI t + nI a = nI (520 * t + a) := put_ix ht (by have := tyc_pos ty; omega)
  have e2 : (520 : Int32) * nI t + nI (a + l.length) = nI (520 * t + (a + l.length)) := by rw [show (520 : Int32) = nI 520 from rfl, pk_mul, nI_add]
  obtain ⟨m', r1, r2, r3, r4, r5⟩ := run_m (M := 18) (e := 520 * t + (a + l.length)) (x1 := nI t) (x2 := nI a) (x3 := nI (a + l.length)) (by decide) e2 (by omega) l [] [b] [] (520 * t + a) m (fu1 ((Int32.toInt (((520 : Int32) * nI t) + nI (a + l.length)) - Int32.toInt (((520 : Int32) * nI t) + nI a)).toNat)) ty hl (Nat.zero_le _) trivial trivial hL (by omega) (by rw [fu1_eq, e1, e2, toNat_sub_nI (by omega) (by omega)]; omega) (fun j x hj => by rw [show 520 * t + a + j = 520 * t + (a + j) by omega]; exact tok j x hj)
  unfold f12_workOut o12_workOut
  rw [e1] at r1 r2 ⊢
  obtain ⟨x, ex⟩ := TY_one r5
  rw [ex] at r4
  refine ⟨m', r1.trans ?_, r2, r3⟩
  rw [ex]
  exact congrArg (fun z => (z, m')) r4.1
theorem tkL_split {L : LW} {k : Nat} {q : List (Nat × Nat) × List (Nat × Nat)} (h : L[k]? = some q) : tkL L = tkL (L.take k) ++ ((q.1 ++ q.2) ++ tkL (L.drop (k + 1))) := by
  have hk := (List.getElem?_eq_some_iff.mp h).1
  have e : L = L.take k ++ (q :: L.drop (k + 1)) := by
    have h2 : L.drop k = q :: L.drop (k + 1) := by
      rw [List.drop_eq_getElem_cons hk]
      congr 1
      exact (List.getElem?_eq_some_iff.mp h).2
    rw [← h2, List.take_append_drop]
  conv => lhs; rw [e]
  unfold tkL
  rw [List.flatMap_append]
  simp
theorem tkL_le {L : LW} {k : Nat} {q : List (Nat × Nat) × List (Nat × Nat)} (h : L[k]? = some q) : (tkL (L.take k)).length + (q.1 ++ q.2).length ≤ (tkL L).length := by
  have := congrArg List.length (tkL_split h)
  simp only [List.length_append] at this ⊢
  omega
theorem worthOf_m {t : Nat} {L : LW} {cc : Nat → Int32} {ℓ : Nat → Int32} (ht : t < 5) (hT : (tkL L).length ≤ 240) (h80 : L.length ≤ 80) (hl : ∀ j, j < 6 → R6 (ℓ j)) : ∀ (L2 : LW) (k : Nat) (m : SI) (fu : Nat), LD t L cc m → (∀ j, j < 6 → m 132 j = ℓ j) → (∀ i q, L2[i]? = some q → L[k + i]? = some q) → k + L2.length = L.length → L2.length < fu → ∃ m', f12_worthOf_c6 (nI t) fu (nI (140 * t + k)) m = (wL ℓ L2, m') ∧ o12_worthOf_c6 (nI t) fu (nI (140 * t + k)) m ∧ (∀ a, a ≠ 133 → m' a = m a) := by
  intro L2
  have hTn : (nI t).toNatClampNeg = t := nI_clamp (by omega)
  have v5 : vp_in (nI t) 5 := vp_in_nI ht (by decide)
  induction L2 with
  | nil =>
    intro k m fu hD hL hs hk hf
    obtain ⟨f, rfl, -⟩ := fu_pos hf
    have hk : k = L.length := hk
    have e : (140 : Int32) * nI t + m 128 t = nI (140 * t + L.length) := by rw [hD.2.1, show (140 : Int32) = nI 140 from rfl, pk_mul, nI_add]
    rw [f12_worthOf_c6, o12_worthOf_c6, hTn, e, hk, if_pos (nI_le (Nat.le_refl _) (by omega)), if_pos (nI_le (Nat.le_refl _) (by omega))]
    exact ⟨m, rfl, ⟨v5, trivial⟩, fun _ _ => rfl⟩
  | cons q L2 ih =>
    intro k m fu hD hL hs hk hf
    obtain ⟨f, rfl, -⟩ := fu_pos (Nat.lt_of_le_of_lt (Nat.zero_le _) hf)
    rw [List.length_cons] at hk hf
    have hq : L[k]? = some q := hs 0 q rfl
    have e : (140 : Int32) * nI t + m 128 t = nI (140 * t + L.length) := by rw [hD.2.1, show (140 : Int32) = nI 140 from rfl, pk_mul, nI_add]
    obtain ⟨d1, d2, d3, d4, d5⟩ := id hD
    obtain ⟨a1, a2, a3⟩ := d4 k q hq
    obtain ⟨t1, t2⟩ := d5 q (List.mem_of_getElem? hq)
    have hle := tkL_le hq
    have hsp := tkL_split hq
    have hKc : (nI (140 * t + k)).toNatClampNeg = 140 * t + k := nI_clamp (by omega)
    have vK : vp_in (nI (140 * t + k)) 700 := vp_in_nI (by omega) (by decide)
    have tok : ∀ j x, (q.1 ++ q.2)[j]? = some x → m 125 (520 * t + ((tkL (L.take k)).length + j)) = nI x.1 ∧ m 126 (520 * t + ((tkL (L.take k)).length + j)) = nI x.2 := by
      intro j x hj
      refine d3 _ x ?_
      rw [hsp, List.getElem?_append_right (by omega), show (tkL (L.take k)).length + j - (tkL (L.take k)).length = j by omega, List.getElem?_append_left (List.getElem?_eq_some_iff.mp hj).1]
      exact hj
    have tok2 : ∀ (m1 : SI), (∀ a, a ≠ 133 → m1 a = m a) → ∀ j x, q.2[j]? = some x → m1 125 (520 * t + ((tkL (L.take k)).length + q.1.length + j)) = nI x.1 ∧ m1 126 (520 * t + ((tkL (L.take k)).length + q.1.length + j)) = nI x.2 := by
      intro m1 hm j x hj
      rw [hm 125 (by decide), hm 126 (by decide)]
      have := tok (q.1.length + j) x (by rw [List.getElem?_append_right (by omega), show q.1.length + j - q.1.length = j by omega]; exact hj)
      rw [show (tkL (L.take k)).length + q.1.length + j = (tkL (L.take k)).length + (q.1.length + j) by omega]
      exact this
    rw [List.length_append] at hle a3
    rw [f12_worthOf_c6, o12_worthOf_c6, hTn, e, if_neg (nI_ge (by omega) (by omega)), if_neg (nI_ge (by omega) (by omega)), hKc, a1, a2, a3]
    rw [← Nat.add_assoc] at a3 ⊢
    by_cases hc : q.1 = []
    · have hz : nI (tkL (L.take k)).length = nI ((tkL (L.take k)).length + q.1.length) := by rw [hc]; rfl
      rw [if_pos hz, if_pos hz]
      obtain ⟨m', r1, r2, r3⟩ := workOut_m (ℓ := ℓ) ht (by omega) t2 hl hL (tok2 m (fun _ _ => rfl))
      refine ⟨m', ?_, ⟨v5, vK, vK, vK, vK, r2, trivial⟩, r3⟩
      rw [r1]
      conv => rhs; unfold wL
      rw [if_pos (Or.inl hc)]
    · have hz : ¬ nI (tkL (L.take k)).length = nI ((tkL (L.take k)).length + q.1.length) := by
        have hlp : q.1.length ≠ 0 := fun h0 => hc (List.length_eq_zero_iff.mp h0)
        exact ne_lit (by omega) (by omega) (by omega)
      rw [if_neg hz, if_neg hz]
      have t1 := t1.resolve_left hc
      obtain ⟨m1, r1, r2, r3⟩ := workOut_m (ℓ := ℓ) ht (by omega) t1 hl hL (fun j x hj => tok j x (by rw [List.getElem?_append_left (List.getElem?_eq_some_iff.mp hj).1]; exact hj))
      rw [r1]
      dsimp only
      by_cases hx : tp (evs ℓ q.1 []) = 0
      · rw [if_pos hx, if_pos hx, nI_1]
        have hD1 : LD t L cc m1 := ⟨d1, by rw [r3 128 (by decide)]; exact d2, by rw [r3 125 (by decide), r3 126 (by decide)]; exact d3, by rw [r3 129 (by decide), r3 130 (by decide), r3 131 (by decide)]; exact d4, d5⟩
        obtain ⟨m', s1, s2, s3⟩ := ih (k + 1) m1 f hD1 (fun j hj => by rw [r3 132 (by decide)]; exact hL j hj) (fun i q' hi => by rw [show k + 1 + i = k + (i + 1) by omega]; exact hs (i + 1) q' hi) (by omega) (by omega)
        refine ⟨m', ?_, ⟨v5, vK, vK, vK, vK, r2, s2⟩, fun a ha => (s3 a ha).trans (r3 a ha)⟩
        rw [show 140 * t + k + 1 = 140 * t + (k + 1) by omega, s1]
        conv => rhs; unfold wL
        rw [if_neg (by intro ho; rcases ho with ho | ho; exact hc ho; exact ho hx)]
      · rw [if_neg hx, if_neg hx, r3 130 (by decide), r3 131 (by decide), a2, a3]
        obtain ⟨m', s1, s2, s3⟩ := workOut_m (m := m1) (ℓ := ℓ) ht (by omega) t2 hl (fun j hj => by rw [r3 132 (by decide)]; exact hL j hj) (tok2 m1 r3)
        refine ⟨m', ?_, ⟨v5, vK, vK, vK, vK, r2, vK, vK, s2, trivial⟩, fun a ha => (s3 a ha).trans (r3 a ha)⟩
        rw [s1]
        conv => rhs; unfold wL
        rw [if_pos (Or.inr hx)]
