/-! a whole clause -/
def cw (cd sm : List (Nat × Nat)) : List Int32 := if cd = [] then sm.map ce else cd.map ce ++ (-63 : Int32) :: sm.map ce
def BOK (t k : Nat) (c m c' m' : SI) (cd sm : List (Nat × Nat)) : Prop := PS t 0 c' m' ∧ ql c' = ql c + (cw cd sm).length ∧ CF (ql c) c c' ∧ (∀ j x, (cw cd sm)[j]? = some x → c' 9 (ql c + j) = x) ∧ rl t m' = rl t m + (cd ++ sm).length ∧ (∀ j x, (cd ++ sm)[j]? = some x → m' 125 (520 * t + (rl t m + j)) = nI x.1 ∧ m' 126 (520 * t + (rl t m + j)) = nI x.2) ∧ m' 129 (140 * t + k) = m 129 (140 * t + k) ∧ m' 130 (140 * t + k) = (if cd = [] then m 129 (140 * t + k) else nI (rl t m + cd.length)) ∧ m' 131 (140 * t + k) = nI (rl t m + (cd ++ sm).length) ∧ m' 128 t = nI (k + 1) ∧ GF t (rl t m) (140 * t + k) m m' ∧ hd c + (cw cd sm).length ≤ hd c' ∧ (cd = [] ∨ tyc 18 cd [] = some [true]) ∧ tyc 18 sm [] = some [false]
theorem BOK_of {t k : Nat} {c m c1 m1 c' m' : SI} {cd sm : List (Nat × Nat)} (e : EM t 0 c m c1 m1 cd) (hp : hd c + cd.length ≤ hd c1) (ty : tyc 18 cd [] = some [true]) (T : TOK t k c1 m1 c' m' sm) : BOK t k c m c' m' cd sm := by
  obtain ⟨a1, a2, a3, a4, a5, a6, a7, a8, a9, b1, b2, b3, b4, b5⟩ := T
  have hne : cd ≠ [] := fun q => by rw [q] at ty; cases ty
  have ecw : cw cd sm = cd.map ce ++ (-63 : Int32) :: sm.map ce := if_neg hne
  have elen : (cw cd sm).length = cd.length + 1 + sm.length := by rw [ecw, List.length_append, List.length_cons, List.length_map, List.length_map]; omega
  have q1 := e.2.1
  have q2 := e.2.2.1
  have hr := a1.2.2.2.2.2.2.2.2
  have hL := a1.1.1.2.2.1
  have hH := a1.1.2.2.2.1
  refine ⟨a1, by omega, CF_tr e.2.2.2.1 a3 (by omega), fun j x hx => ?_, by rw [List.length_append]; omega, fun j x hx => ?_, ?_, ?_, ?_, b2, GF_tr (MF_GF _ e.2.2.2.2.1) b3 (by omega), by omega, Or.inr ty, tyc_mono b5 (by decide)⟩
  · rw [ecw] at hx
    by_cases hj : j < cd.length
    · rw [List.getElem?_append_left (by rw [List.length_map]; exact hj), List.getElem?_map] at hx
      cases hc : cd[j]? with
      | none => rw [hc] at hx; cases hx
      | some y =>
        rw [hc] at hx
        cases hx
        rw [a3.2.2.2 (ql c + j) (by omega)]
        exact (e.2.2.2.2.2.2 j y hc).1
    · rw [List.getElem?_append_right (by rw [List.length_map]; omega), List.length_map] at hx
      by_cases h0 : j = cd.length
      · rw [h0, Nat.sub_self] at hx
        cases hx
        rw [h0, ← q1]; exact a4
      · rw [show j - cd.length = (j - cd.length - 1) + 1 by omega, List.getElem?_cons_succ, List.getElem?_map] at hx
        cases hc : sm[j - cd.length - 1]? with
        | none => rw [hc] at hx; cases hx
        | some y =>
          rw [hc] at hx
          cases hx
          have := a5 _ y hc
          rw [show ql c1 + 1 + (j - cd.length - 1) = ql c + j by omega] at this
          exact this
  · by_cases hj : j < cd.length
    · rw [List.getElem?_append_left hj] at hx
      have := (e.2.2.2.2.2.2 j x hx).2
      have z := b3.2.2.2.1 (520 * t + (rl t m + j)) (Or.inl (by omega))
      exact ⟨z.1.trans this.1, z.2.trans this.2⟩
    · rw [List.getElem?_append_right (by omega)] at hx
      have := a7 _ x hx
      rw [show rl t m1 + (j - cd.length) = rl t m + j by omega] at this
      exact this
  · rw [a8, e.2.2.2.2.1.1 129 (by decide) (by decide) (by decide) (by decide)]
  · rw [if_neg hne, a9, q2]
  · rw [b1, q2, List.length_append]; congr 1; omega
theorem BOK_base {t k : Nat} {c m c1 m1 c' m' : SI} {cd sm : List (Nat × Nat)} (e : EM t 0 c m c1 m1 []) (B : BOK t k c1 m1 c' m' cd sm) : BOK t k c m c' m' cd sm := by
  obtain ⟨a1, a2, a3, a4, a5, a6, a7, a8, a9, b1, b2, b3, b4⟩ := B
  have q1 : ql c1 = ql c := e.2.1
  have q2 : rl t m1 = rl t m := e.2.2.1
  have q3 := e.2.2.2.2.2.1
  have e129 : m1 129 = m 129 := e.2.2.2.2.1.1 129 (by decide) (by decide) (by decide) (by decide)
  rw [q1] at a2 a3 a4
  rw [q2] at a5 a6 a8 a9 b2
  rw [e129] at a7 a8
  exact ⟨a1, a2, CF_tr e.2.2.2.1 a3 (Nat.le_refl _), a4, a5, a6, a7, a8, a9, b1, GF_tr (MF_GF _ e.2.2.2.2.1) b2 (Nat.le_refl _), by omega, b4⟩
theorem pair_eta (r : Bool × SI) : (if r.1 = true then (true, r.2) else (false, r.2)) = r := by
  obtain ⟨a, b⟩ := r
  cases a <;> rfl
noncomputable def cC (σ : SI) : Bool × SI := let r3 := (f3_cond σ (0 : Int32) false); if r3.1 = true then (let r4 := (f3_readsWorth r3.2); if r4.1 = true then (true, r4.2) else (false, r4.2)) else (false, r3.2)
noncomputable def cS (σ : SI) : Bool × SI := let r5 := (f3_sum σ (0 : Int32)); if r5.1 = true then (let r6 := (f7_peek r5.2); if (f3_isRelation r6.1) = true then (let r7 := (f3_readsRelation r6.2 (0 : Int32)); if r7.1 = true then (let r8 := (f3_cond r7.2 (0 : Int32) true); if r8.1 = true then (let r9 := (f3_readsWorth r8.2); if r9.1 = true then (true, r9.2) else (false, r9.2)) else (false, r8.2)) else (false, r7.2)) else (true, r6.2)) else (false, r5.2)
noncomputable def cB (σ : SI) : Bool × SI := let r2 := (f7_peek σ); if r2.1 = (33 : Int32) then cC r2.2 else (if r2.1 = (40 : Int32) then cC r2.2 else cS r2.2)
theorem condR_sim0 (t : Nat) : SIM t 0 18 [] true (fun c => f3_cond c 0 false) o12_conditionR f12_conditionR := by
  have h := condR_sim t
  rw [nI_0] at h
  exact h
theorem begunR_sim0 (t : Nat) : SIM t 0 18 [true] true (fun c => f3_cond c 0 true) (fun m => o12_goOnAndR m ∧ o12_goOnOrR (f12_goOnAndR m)) (fun m => f12_goOnOrR (f12_goOnAndR m)) := by
  have h := begunR_sim t
  rw [nI_0] at h
  exact h
theorem rel_sim0 (t : Nat) : SIM t 0 16 [false] true (fun c => f3_readsRelation c 0) o12_compare f12_compare := by
  have h := rel_sim t 0 (by decide)
  rw [nI_0] at h
  exact h
theorem BAD_tail {t k : Nat} {c m c1 m1 : SI} {E0 : Int32} (hE : E0 = nI (140 * t + k)) (hk : k < 140) (ht : t < 5) (h : BAD t 0 c m c1 m1) : oT E0 m1 ∧ BX t (140 * t + k) c m c1 (mT E0 m1) := by
  have hw := FS_ne h.1
  obtain ⟨⟨w, a, r, h1, h2, h3, h4, h5, h6, h7, h8, h9⟩, f2, f3⟩ := h
  obtain ⟨x1, x2, x3⟩ := tail_bad hE hk ht hw h8
  exact ⟨x1, ⟨w, h1, by rw [x2]; exact h2⟩, by rw [x2]; exact f2, f3, GF_tr (GF_le (MF_GF _ h9) (Nat.zero_le _)) x3 (Nat.le_refl _)⟩
theorem cond_tail {t k : Nat} {c m : SI} {E0 : Int32} (h : PS t 0 c m) (hs : ql c + 2 ≤ hd c) (hE : E0 = nI (140 * t + k)) (hk : k < 140) (hcl : m 128 t = nI k) : (o12_conditionR m ∧ oT E0 (f12_conditionR m)) ∧ (((cC c).1 = true ∧ ∃ cd sm, BOK t k c m (cC c).2 (mT E0 (f12_conditionR m)) cd sm) ∨ ((cC c).1 = false ∧ BX t (140 * t + k) c m (cC c).2 (mT E0 (f12_conditionR m)))) := by
  have ht := h.2.2.2.1
  obtain ⟨oo, q⟩ := condR_sim0 t c m h hs
  dsimp only at q
  unfold cC
  dsimp only
  rcases q with ⟨q1, cd, q2, q3, q4⟩ | ⟨q1, q2⟩
  · rw [if_pos q1, pair_eta]
    have a1 := q2.2.1
    obtain ⟨o, y⟩ := tail_sim (E0 := E0) q2.1 (by omega) hE hk (by rw [q2.2.2.2.2.1.1 128 (by decide) (by decide) (by decide) (by decide)]; exact hcl)
    refine ⟨⟨oo, o⟩, ?_⟩
    rcases y with ⟨y1, sm, y2⟩ | ⟨y1, y2⟩
    · exact Or.inl ⟨y1, cd, sm, BOK_of q2 q3 q4 y2⟩
    · exact Or.inr ⟨y1, BX_base (CF_0 q2.2.2.2.1) (MF_GF _ q2.2.2.2.2.1) y2⟩
  · have q1' : ¬ (f3_cond c 0 false).1 = true := by rw [q1]; exact Bool.false_ne_true
    rw [if_neg q1']
    obtain ⟨x1, x2⟩ := BAD_tail hE hk ht q2
    exact ⟨⟨oo, x1⟩, Or.inr ⟨rfl, x2⟩⟩
theorem sumw_tail {t k : Nat} {c m : SI} {E0 : Int32} (h : PS t 0 c m) (hs : ql c + 2 ≤ hd c) (hE : E0 = nI (140 * t + k)) (hk : k < 140) (hcl : m 128 t = nI k) : oS E0 m ∧ (((cS c).1 = true ∧ ∃ cd sm, BOK t k c m (cS c).2 (mS E0 m) cd sm) ∨ ((cS c).1 = false ∧ BX t (140 * t + k) c m (cS c).2 (mS E0 m))) := by
  have ht := h.2.2.2.1
  obtain ⟨oo, q⟩ := sum_sim0 t c m h hs
  dsimp only at q
  unfold cS oS mS
  dsimp only
  rcases q with ⟨q1, sg, q2, q3, q4⟩ | ⟨q1, q2⟩
  · have w := q2.1.1.2.2.2.2
    rw [if_pos q1, if_pos w, if_pos w]
    have a1 := q2.2.1
    have a2 := q2.2.2.1
    obtain ⟨c1, m1, p, r1, r2, r3, r4, r5, r6, r7, r8, r9, r10⟩ := peek q2.1.1
    obtain ⟨e0, e0h⟩ := MV_EM q2.1 r3 r4 r5
    have e01 := EM_tr q2 e0
    rw [List.append_nil] at e01
    have b1 := e01.2.1
    have hcl1 : m1 128 t = nI k := by rw [e01.2.2.2.2.1.1 128 (by decide) (by decide) (by decide) (by decide)]; exact hcl
    rw [r1, r2]
    dsimp only
    rw [sign_same]
    by_cases x : f3_isRelation (xh c1) = true
    · rw [if_pos x, if_pos x, if_pos x]
      obtain ⟨o2, y⟩ := rel_sim0 t c1 m1 e0.1 (by omega)
      dsimp only at y
      rcases y with ⟨y1, sg2, y2, y3, y4⟩ | ⟨y1, y2⟩
      · rw [if_pos y1]
        have b2 := y2.2.1
        obtain ⟨⟨o3, o4⟩, z⟩ := begunR_sim0 t _ _ y2.1 (by omega)
        dsimp only at z
        rcases z with ⟨z1, sg3, z2, z3, z4⟩ | ⟨z1, z2⟩
        · rw [if_pos z1, pair_eta]
          have b3 := z2.2.1
          have e := EM_tr (EM_tr e01 y2) z2
          obtain ⟨o5, v⟩ := tail_sim (E0 := E0) z2.1 (by omega) hE hk (by rw [e.2.2.2.2.1.1 128 (by decide) (by decide) (by decide) (by decide)]; exact hcl)
          refine ⟨⟨oo, r6, o2, o3, o4, o5⟩, ?_⟩
          have ty : tyc 18 (sg ++ sg2 ++ sg3) [] = some [true] := tyc_then (tyc_then (tyc_mono q4 (by decide)) (tyc_mono y4 (by decide))) z4
          have hp : hd c + (sg ++ sg2 ++ sg3).length ≤ hd (f3_cond (f3_readsRelation c1 0).2 0 true).2 := by rw [List.length_append, List.length_append]; omega
          rcases v with ⟨v1, sm, v2⟩ | ⟨v1, v2⟩
          · exact Or.inl ⟨v1, sg ++ sg2 ++ sg3, sm, BOK_of e hp ty v2⟩
          · exact Or.inr ⟨v1, BX_base (CF_0 e.2.2.2.1) (MF_GF _ e.2.2.2.2.1) v2⟩
        · have z1' : ¬ (f3_cond (f3_readsRelation c1 0).2 0 true).1 = true := by rw [z1]; exact Bool.false_ne_true
          rw [if_neg z1']
          obtain ⟨x1, x2⟩ := BAD_tail hE hk ht z2
          have e := EM_tr e01 y2
          exact ⟨⟨oo, r6, o2, o3, o4, x1⟩, Or.inr ⟨rfl, BX_base (CF_0 e.2.2.2.1) (MF_GF _ e.2.2.2.2.1) x2⟩⟩
      · have y1' : ¬ (f3_readsRelation c1 0).1 = true := by rw [y1]; exact Bool.false_ne_true
        rw [if_neg y1']
        have w2 := FS_ne y2.1
        obtain ⟨g1, g2⟩ := and_bad (fmUnitD (blk 8)) (omUnitD (blk 8)) (f12_compare m1) w2
        obtain ⟨g3, g4⟩ := or_bad (f12_goOnAnd (fmUnitD (blk 8))) (fmUnitD (blk 8)) (omUnitD (blk 8)) (o12_goOnAnd (fmUnitD (blk 8)) (omUnitD (blk 8))) (f12_compare m1) w2
        have g1 : f12_goOnAndR (f12_compare m1) = f12_compare m1 := g1
        have g3 : f12_goOnOrR (f12_compare m1) = f12_compare m1 := g3
        rw [g1, g3]
        obtain ⟨x1, x2⟩ := BAD_tail hE hk ht y2
        exact ⟨⟨oo, r6, o2, g2, g4, x1⟩, Or.inr ⟨rfl, BX_base (CF_0 e01.2.2.2.1) (MF_GF _ e01.2.2.2.2.1) x2⟩⟩
    · rw [if_neg x, if_neg x, if_neg x]
      have h14 : m1 123 14 = nI t := e01.1.2.2.1
      obtain ⟨n1, n2, n3⟩ := none_at hE hk ht h14
      refine ⟨⟨oo, r6, n1⟩, Or.inl ⟨rfl, [], sg, ?_⟩⟩
      have h127 : m1 127 t = nI (rl t m + sg.length) := by rw [e01.1.2.2.2.2.2.2.2.1, e01.2.2.1]
      rw [hcl1, h127, nI_1] at n2
      have n4 := n3 (rl t m)
      rw [n2] at n4 ⊢
      obtain ⟨p1, p2⟩ := PS_sp (a := 130) (k := 140 * t + k) (x := m1 129 (140 * t + k)) e01.1 (by decide) (by decide) (by decide)
      obtain ⟨p3, p4⟩ := PS_sp (a := 131) (k := 140 * t + k) (x := nI (rl t m + sg.length)) p1 (by decide) (by decide) (by decide)
      obtain ⟨p5, p6⟩ := PS_sp (a := 128) (k := t) (x := nI (k + 1)) p3 (by decide) (by decide) (by decide)
      have e129 : m1 129 = m 129 := e01.2.2.2.2.1.1 129 (by decide) (by decide) (by decide) (by decide)
      refine ⟨p5, ?_, e01.2.2.2.1, fun j y hy => ?_, ?_, fun j y hy => ?_, ?_, ?_, ?_, sp_r, GF_tr (MF_GF _ e01.2.2.2.2.1) n4 (Nat.le_refl _), ?_, Or.inl rfl, tyc_mono q4 (by decide)⟩
      · rw [show cw [] sg = sg.map ce from if_pos rfl, List.length_map]; omega
      · rw [show cw [] sg = sg.map ce from if_pos rfl, List.getElem?_map] at hy
        cases hc : sg[j]? with
        | none => rw [hc] at hy; cases hy
        | some z =>
          rw [hc] at hy
          cases hy
          exact (e01.2.2.2.2.2.2 j z hc).1
      · rw [List.nil_append]; have := e01.2.2.1; omega
      · rw [List.nil_append] at hy
        rw [sp_n (by decide), sp_n (by decide), sp_n (by decide), sp_n (by decide), sp_n (by decide), sp_n (by decide)]
        exact (e01.2.2.2.2.2.2 j y hy).2
      · rw [sp_n (by decide), sp_n (by decide), sp_n (by decide), e129]
      · rw [if_pos rfl, sp_n (by decide), sp_n (by decide), sp_r, e129]
      · rw [sp_n (by decide), sp_r, List.nil_append]
      · rw [show cw [] sg = sg.map ce from if_pos rfl, List.length_map]
        show hd c + sg.length ≤ hd c1
        have := e0.2.2.2.2.2.1
        omega
  · have q1' : ¬ (f3_sum c 0).1 = true := by rw [q1]; exact Bool.false_ne_true
    have w := FS_ne q2.1
    rw [if_neg q1', if_neg w, if_neg w]
    obtain ⟨⟨w0, a, r, h1, h2, h3, h4, h5, h6, h7, h8, h9⟩, f2, f3⟩ := q2
    obtain ⟨n1, n2, n3⟩ := none_at hE hk ht h8
    have e : mN E0 (f12_sumR m) 123 = f12_sumR m 123 := by rw [n2, sp_n (by decide), sp_n (by decide), sp_n (by decide)]
    exact ⟨⟨oo, n1⟩, Or.inr ⟨rfl, ⟨w0, h1, by rw [e]; exact h2⟩, by rw [e]; exact f2, f3, GF_tr (GF_le (MF_GF _ h9) (Nat.zero_le _)) (n3 0) (Nat.le_refl _)⟩⟩
theorem body_sim {t k : Nat} {c m : SI} {E0 : Int32} (h : PS t 0 c m) (hs : ql c + 2 ≤ hd c) (hE : E0 = nI (140 * t + k)) (hk : k < 140) (hcl : m 128 t = nI k) : oB E0 m ∧ (((cB c).1 = true ∧ ∃ cd sm, BOK t k c m (cB c).2 (mB E0 m) cd sm) ∨ ((cB c).1 = false ∧ BX t (140 * t + k) c m (cB c).2 (mB E0 m))) := by
  obtain ⟨c1, m1, p, r1, r2, r3, r4, r5, r6, r7, r8, r9, r10⟩ := peek h.1
  obtain ⟨e0, e0h⟩ := MV_EM h r3 r4 r5
  have hq0 : ql c1 = ql c := e0.2.1
  have hcl1 : m1 128 t = nI k := by rw [e0.2.2.2.2.1.1 128 (by decide) (by decide) (by decide) (by decide)]; exact hcl
  obtain ⟨i1, i2, i3⟩ := peek_id r8 r7
  unfold cB oB mB
  rw [r1, r2]
  dsimp only
  rw [i2]
  dsimp only
  by_cases x1 : xh c1 = 33
  · rw [if_pos x1, if_pos x1, if_pos x1]
    obtain ⟨⟨o1, o2⟩, y⟩ := cond_tail (E0 := E0) e0.1 (by omega) hE hk hcl1
    refine ⟨⟨r6, o1, o2⟩, ?_⟩
    rcases y with ⟨y1, cd, sm, y2⟩ | ⟨y1, y2⟩
    · exact Or.inl ⟨y1, cd, sm, BOK_base e0 y2⟩
    · exact Or.inr ⟨y1, BX_base (CF_0 e0.2.2.2.1) (MF_GF _ e0.2.2.2.2.1) y2⟩
  rw [if_neg x1, if_neg x1, if_neg x1]
  by_cases x2 : xh c1 = 40
  · rw [if_pos x2, if_pos x2, if_pos x2]
    obtain ⟨⟨o1, o2⟩, y⟩ := cond_tail (E0 := E0) e0.1 (by omega) hE hk hcl1
    refine ⟨⟨r6, i3, o1, o2⟩, ?_⟩
    rcases y with ⟨y1, cd, sm, y2⟩ | ⟨y1, y2⟩
    · exact Or.inl ⟨y1, cd, sm, BOK_base e0 y2⟩
    · exact Or.inr ⟨y1, BX_base (CF_0 e0.2.2.2.1) (MF_GF _ e0.2.2.2.2.1) y2⟩
  rw [if_neg x2, if_neg x2, if_neg x2]
  obtain ⟨o1, y⟩ := sumw_tail (E0 := E0) e0.1 (by omega) hE hk hcl1
  refine ⟨⟨r6, i3, o1⟩, ?_⟩
  rcases y with ⟨y1, cd, sm, y2⟩ | ⟨y1, y2⟩
  · exact Or.inl ⟨y1, cd, sm, BOK_base e0 y2⟩
  · exact Or.inr ⟨y1, BX_base (CF_0 e0.2.2.2.1) (MF_GF _ e0.2.2.2.2.1) y2⟩
