/-! the laws that were read, on both sides -/
abbrev LW : Type := List (List (Nat × Nat) × List (Nat × Nat))
def tkL (L : LW) : List (Nat × Nat) := L.flatMap (fun q => q.1 ++ q.2)
def cwL (L : LW) : List Int32 := L.flatMap (fun q => cw q.1 q.2 ++ [-59])
theorem tkL_app (L : LW) (a b : List (Nat × Nat)) : tkL (L ++ [(a, b)]) = tkL L ++ (a ++ b) := by unfold tkL; rw [List.flatMap_append]; simp
theorem cwL_app (L : LW) (a b : List (Nat × Nat)) : cwL (L ++ [(a, b)]) = cwL L ++ (cw a b ++ [-59]) := by unfold cwL; rw [List.flatMap_append]; simp
def LD (t : Nat) (L : LW) (cc : Nat → Int32) (m : SI) : Prop := (∀ j x, (cwL L)[j]? = some x → cc j = x) ∧ m 128 t = nI L.length ∧ (∀ j x, (tkL L)[j]? = some x → m 125 (520 * t + j) = nI x.1 ∧ m 126 (520 * t + j) = nI x.2) ∧ (∀ k q, L[k]? = some q → m 129 (140 * t + k) = nI (tkL (L.take k)).length ∧ m 130 (140 * t + k) = nI ((tkL (L.take k)).length + q.1.length) ∧ m 131 (140 * t + k) = nI ((tkL (L.take k)).length + (q.1 ++ q.2).length)) ∧ (∀ q ∈ L, (q.1 = [] ∨ tyc 18 q.1 [] = some [true]) ∧ tyc 18 q.2 [] = some [false])
theorem LD_step {t k : Nat} {L : LW} {c m c' m' : SI} {cd sm : List (Nat × Nat)} (h : LD t L (c 9) m) (hq : ql c = (cwL L).length) (hr : rl t m = (tkL L).length) (hk : L.length = k) (C : COK t k c m c' m' cd sm) (hq2 : ql c' < 240) : LD t (L ++ [(cd, sm)]) (f1_add 8 c' (-59) 9) m' ∧ ql (f1_add 8 c' (-59)) = (cwL (L ++ [(cd, sm)])).length ∧ rl t m' = (tkL (L ++ [(cd, sm)])).length ∧ PS t 0 (f1_add 8 c' (-59)) m' ∧ hd (f1_add 8 c' (-59)) = hd c' ∧ CF 0 c (f1_add 8 c' (-59)) := by
  obtain ⟨a1, a2, a3, a4, a5, a6, a7, a8, a9, b1, b2, b3, b4, b5⟩ := C
  obtain ⟨h1, h2, h3, h4, h5⟩ := h
  obtain ⟨x1, x2, x3, x4, x5⟩ := raw_add a1 hq2 (-59)
  refine ⟨⟨fun j x hx => ?_, ?_, fun j x hx => ?_, fun k' q hx => ?_, fun q hx => ?_⟩, ?_, ?_, x1, x5, CF_tr (CF_0 a3) (CF_0 x3) (Nat.le_refl _)⟩
  · rw [cwL_app] at hx
    by_cases j1 : j < (cwL L).length
    · rw [List.getElem?_append_left j1] at hx
      rw [x3.2.2.2 j (by omega), a3.2.2.2 j (by omega)]
      exact h1 j x hx
    · rw [List.getElem?_append_right (by omega)] at hx
      by_cases j2 : j - (cwL L).length < (cw cd sm).length
      · rw [List.getElem?_append_left j2] at hx
        have := a4 _ x hx
        rw [show ql c + (j - (cwL L).length) = j by omega] at this
        rw [x3.2.2.2 j (by omega)]
        exact this
      · rw [List.getElem?_append_right (by omega)] at hx
        have hz : j - (cwL L).length - (cw cd sm).length < 1 := (List.getElem?_eq_some_iff.mp hx).1
        rw [show j - (cwL L).length - (cw cd sm).length = 0 by omega] at hx
        cases hx
        rw [show j = ql c' by omega]
        exact x4
  · rw [b1, List.length_append, hk]; rfl
  · rw [tkL_app] at hx
    by_cases j1 : j < (tkL L).length
    · rw [List.getElem?_append_left j1] at hx
      have := h3 j x hx
      have z := b2.2.2.2.1 (520 * t + j) (Or.inl (by omega))
      exact ⟨z.1.trans this.1, z.2.trans this.2⟩
    · rw [List.getElem?_append_right (by omega)] at hx
      have := a6 _ x hx
      rw [show rl t m + (j - (tkL L).length) = j by omega] at this
      exact this
  · by_cases j1 : k' < k
    · rw [List.getElem?_append_left (by omega)] at hx
      have := h4 k' q hx
      have z := b2.2.2.2.2 (140 * t + k') (by omega)
      rw [List.take_append_of_le_length (by omega)]
      exact ⟨z.1.trans this.1, z.2.1.trans this.2.1, z.2.2.trans this.2.2⟩
    · rw [List.getElem?_append_right (by omega)] at hx
      have hz : k' - L.length < 1 := (List.getElem?_eq_some_iff.mp hx).1
      rw [show k' - L.length = 0 by omega] at hx
      cases hx
      obtain rfl : k' = k := by omega
      rw [← hk, List.take_left', ← hr]
      · rw [hk]; exact ⟨a7, a8, a9⟩
      · rfl
  · rcases List.mem_append.mp hx with hx | hx
    · exact h5 q hx
    · obtain rfl := List.mem_singleton.mp hx
      exact ⟨b4, b5⟩
  · rw [x2, a2, cwL_app, List.length_append, List.length_append, List.length_singleton]; omega
  · rw [a5, tkL_app, List.length_append (as := tkL L), hr]
def SLF (t : Nat) (m m' : SI) : Prop := (∀ a, a ≠ 123 → a ≠ 125 → a ≠ 126 → a ≠ 127 → a ≠ 128 → a ≠ 129 → a ≠ 130 → a ≠ 131 → m' a = m a) ∧ (∀ j, j ≠ 3 → j ≠ 4 → j ≠ 5 → j ≠ 14 → m' 123 j = m 123 j) ∧ (∀ j, j ≠ t → m' 127 j = m 127 j ∧ m' 128 j = m 128 j) ∧ (∀ k, k < 520 * t ∨ 520 * t + 520 ≤ k → m' 125 k = m 125 k ∧ m' 126 k = m 126 k) ∧ (∀ k, k < 140 * t ∨ 140 * t + 140 ≤ k → m' 129 k = m 129 k ∧ m' 130 k = m 130 k ∧ m' 131 k = m 131 k)
theorem SLF_rf (t : Nat) (m : SI) : SLF t m m := ⟨fun _ _ _ _ _ _ _ _ _ => rfl, fun _ _ _ _ _ => rfl, fun _ _ => ⟨rfl, rfl⟩, fun _ _ => ⟨rfl, rfl⟩, fun _ _ => ⟨rfl, rfl, rfl⟩⟩
theorem SLF_tr {t : Nat} {m m1 m2 : SI} (h1 : SLF t m m1) (h2 : SLF t m1 m2) : SLF t m m2 := by
  obtain ⟨a1, a2, a3, a4, a5⟩ := h1
  obtain ⟨b1, b2, b3, b4, b5⟩ := h2
  exact ⟨fun a x1 x2 x3 x4 x5 x6 x7 x8 => (b1 a x1 x2 x3 x4 x5 x6 x7 x8).trans (a1 a x1 x2 x3 x4 x5 x6 x7 x8), fun j x y z w => (b2 j x y z w).trans (a2 j x y z w), fun j x => ⟨(b3 j x).1.trans (a3 j x).1, (b3 j x).2.trans (a3 j x).2⟩, fun k x => ⟨(b4 k x).1.trans (a4 k x).1, (b4 k x).2.trans (a4 k x).2⟩, fun k x => ⟨(b5 k x).1.trans (a5 k x).1, (b5 k x).2.1.trans (a5 k x).2.1, (b5 k x).2.2.trans (a5 k x).2.2⟩⟩
theorem GF_SLF {t r k : Nat} {m m' : SI} (h : GF t r (140 * t + k) m m') (hk : k < 140) : SLF t m m' :=
  ⟨h.1, fun j x y z _ => h.2.1 j x y z, h.2.2.1, fun k' x => h.2.2.2.1 k' (by omega), fun k' x => h.2.2.2.2 k' (by omega)⟩
theorem EM_SLF {t d : Nat} {c m c' m' : SI} {seg : List (Nat × Nat)} (e : EM t d c m c' m' seg) : SLF t m m' := GF_SLF (k := 0) (GF_le (MF_GF _ e.2.2.2.2.1) (Nat.zero_le _)) (by decide)
theorem bad_SLF {t : Nat} {m : SI} : SLF t m (f12_bad m) := by
  have : ∀ x, SLF t m (sp m 123 4 x) := fun x => ⟨fun a h _ _ _ _ _ _ _ => sp_n h, fun j _ h _ _ => sp_k h, fun j _ => ⟨by rw [sp_n (by decide)], by rw [sp_n (by decide)]⟩, fun k _ => ⟨by rw [sp_n (by decide)], by rw [sp_n (by decide)]⟩, fun k _ => ⟨by rw [sp_n (by decide)], by rw [sp_n (by decide)], by rw [sp_n (by decide)]⟩⟩
  unfold f12_bad
  split <;> exact this _
noncomputable def bC (fu : Nat) (v : Int32) (c : SI) : Bool × SI := if (f7_peek c).1 = (-1 : Int32) then (true, (f7_peek c).2) else (if (f7_takes (f7_peek c).2 (59 : Int32)).1 = true then f3_reads_c16 fu v (f7_takes (f7_peek c).2 (59 : Int32)).2 else (false, (f7_takes (f7_peek c).2 (59 : Int32)).2))
theorem c16_eq (fu : Nat) (v : Int32) (c : SI) : f3_reads_c16 (fu + 1) v c = if (240 : Int32) ≤ v then f7_fails c else (if (f3_readsClause c).1 = true then bC fu (v + 1) (f1_add 8 (f3_readsClause c).2 (-59)) else (false, (f3_readsClause c).2)) := by
  rw [f3_reads_c16]
  rfl
theorem c9_eq (x : Int32) (fu : Nat) (m : SI) : f12_readLaw_c9 x (fu + 1) m = if m 123 4 = -1 then (if (f12_look m).1 = 59 then f12_readLaw_c9 x fu (f12_clause (sp (f12_look m).2 123 3 ((f12_look m).2 123 3 + 1))) else f12_atEnd (f12_look m).2) else f12_atEnd m := by
  rw [f12_readLaw_c9]
theorem o9_eq (x : Int32) (fu : Nat) (m : SI) : o12_readLaw_c9 x (fu + 1) m = if m 123 4 = -1 then (o12_look m ∧ (if (f12_look m).1 = 59 then (o12_clause (sp (f12_look m).2 123 3 ((f12_look m).2 123 3 + 1)) ∧ o12_readLaw_c9 x fu (f12_clause (sp (f12_look m).2 123 3 ((f12_look m).2 123 3 + 1)))) else (o12_atEnd (f12_look m).2 ∧ True))) else (o12_atEnd m ∧ True) := by
  rw [o12_readLaw_c9]
def LOK (t : Nat) (L : LW) (c m : SI) : Prop := LD t L (c 9) m ∧ c 8 1 = nI (cwL L).length ∧ (cwL L).length ≤ 240 ∧ (tkL L).length ≤ 240 ∧ L.length ≤ 80
theorem atEnd_bad (m : SI) (h : ¬ m 123 4 = -1) : f12_atEnd m = (m 123 4, m) ∧ o12_atEnd m := by
  unfold f12_atEnd o12_atEnd
  rw [if_neg h, if_neg h]
  exact ⟨rfl, trivial⟩
theorem atEnd_here {c m : SI} (h : HP c m) (hx : xh c ≠ 32) : f12_atEnd m = (if xh c = -1 then (-1, m) else ((f12_bad m) 123 4, f12_bad m)) ∧ o12_atEnd m := by
  have hw := h.2.2.2.2
  obtain ⟨i1, i2, i3⟩ := peek_id h hx
  unfold f12_atEnd o12_atEnd
  rw [if_pos hw, if_pos hw, i2]
  dsimp only
  by_cases x : xh c = -1
  · rw [if_pos x, if_pos x, if_pos x, hw]; exact ⟨rfl, i3, trivial⟩
  · rw [if_neg x, if_neg x, if_neg x]; exact ⟨rfl, i3, trivial⟩
def RES (t : Nat) (c m : SI) (r : Bool × SI) (r' : Int32 × SI) : Prop := CF 0 c r.2 ∧ SLF t m r'.2 ∧ ((r.1 = true ∧ r'.1 = -1 ∧ ∃ L, LOK t L r.2 r'.2) ∨ (r.1 = false ∧ ∃ w : Nat, w ≤ 240 ∧ r'.1 = nI w ∧ r.2 1 3 = nI w))
theorem RES_base {t : Nat} {c m c1 m1 : SI} {r : Bool × SI} {r' : Int32 × SI} (hc : CF 0 c c1) (hm : SLF t m m1) (h : RES t c1 m1 r r') : RES t c m r r' := ⟨CF_tr hc h.1 (Nat.le_refl _), SLF_tr hm h.2.1, h.2.2⟩
theorem reads_after (t : Nat) (x : Int32) : ∀ (n : Nat) (c m : SI) (L : LW) (fu fu' : Nat), ln c - hd c < n → n ≤ fu → n ≤ fu' → PS t 0 c m → LD t L (c 9) m → ql c = (cwL L).length → rl t m = (tkL L).length → ql c + 1 ≤ hd c → 3 * L.length ≤ hd c → o12_readLaw_c9 x fu' m ∧ RES t c m (bC fu (nI L.length) c) (f12_readLaw_c9 x fu' m) := by
  intro n
  induction n with
  | zero => intro c m L fu fu' h1; omega
  | succ n ih =>
    intro c m L fu fu' h1 h2 h3 h hD hq hr hs h3k
    obtain ⟨f, rfl, -⟩ := fu_pos (show 0 < fu by omega)
    obtain ⟨f', rfl, -⟩ := fu_pos (show 0 < fu' by omega)
    obtain ⟨c1, m1, p, r1, r2, r3, r4, r5, r6, r7, r8, r9, r10⟩ := peek h.1
    obtain ⟨e0, e0h⟩ := MV_EM h r3 r4 r5
    obtain ⟨i1, i2, i3⟩ := peek_id r8 r7
    have hw := h.1.2.2.2.2
    have hL := h.1.1.2.2.1
    have hH := h.1.2.2.2.1
    obtain ⟨d1, d2, d3, d4, d5⟩ := hD
    have c19 : c1 9 = c 9 := r3.1.1 9 (by decide)
    have mm : ∀ a, a ≠ 123 → m1 a = m a := r3.2.1
    have D1 : LD t L (c1 9) m1 := ⟨by rw [c19]; exact d1, by rw [mm 128 (by decide)]; exact d2, by rw [mm 125 (by decide), mm 126 (by decide)]; exact d3, by rw [mm 129 (by decide), mm 130 (by decide), mm 131 (by decide)]; exact d4, d5⟩
    have hq1 : ql c1 = ql c := e0.2.1
    have hr1 : rl t m1 = rl t m := e0.2.2.1
    unfold bC
    rw [c9_eq, o9_eq, if_pos hw, if_pos hw, r1, r2]
    dsimp only
    obtain ⟨t1, t2⟩ := atEnd_here r8 r7
    by_cases x1 : xh c1 = -1
    · rw [if_pos x1, if_neg (show ¬ xh c1 = 59 by rw [x1]; decide), if_neg (show ¬ xh c1 = 59 by rw [x1]; decide), t1, if_pos x1]
      refine ⟨⟨r6, t2, trivial⟩, CF_0 e0.2.2.2.1, EM_SLF e0, Or.inl ⟨rfl, rfl, L, D1, ?_, ?_, ?_, by omega⟩⟩
      · show c1 8 1 = _
        rw [e0.1.2.2.2.2.2.1, hq1, hq]
      · have := h.2.2.2.2.2.2.1; omega
      · have := h.2.2.2.2.2.2.2.2; omega
    · rw [if_neg x1]
      have tk : f7_takes c1 59 = if xh c1 = 59 then (true, f7_pass c1) else f7_fails c1 := by
        unfold f7_takes
        rw [i1]
      rw [tk]
      by_cases x2 : xh c1 = 59
      · rw [if_pos x2, if_pos x2, if_pos x2]
        dsimp only
        rw [if_pos rfl]
        obtain ⟨v, hl⟩ := pass r8 x1
        obtain ⟨e1, e1h⟩ := MV_EM e0.1 v (by omega) hl
        have e01 := EM_tr e0 e1
        have hq2 : ql (f7_pass c1) = ql c1 := e1.2.1
        have hr2 : rl t (sp m1 123 3 (m1 123 3 + 1)) = rl t m1 := e1.2.2.1
        have D2 : LD t L (f7_pass c1 9) (sp m1 123 3 (m1 123 3 + 1)) := by
          obtain ⟨d1, d2, d3, d4, d5⟩ := D1
          exact ⟨by rw [v.1.1 9 (by decide)]; exact d1, by rw [sp_n (by decide)]; exact d2, by rw [sp_n (by decide), sp_n (by decide)]; exact d3, by rw [sp_n (by decide), sp_n (by decide), sp_n (by decide)]; exact d4, d5⟩
        have nv : ¬ (240 : Int32) ≤ nI L.length := nI_ge (b := 240) (by omega) (by decide)
        rw [c16_eq, if_neg nv]
        obtain ⟨o, y⟩ := clause_sim (k := L.length) e1.1 (by omega) (by omega) D2.2.1
        rcases y with ⟨y1, cd, sm, C⟩ | ⟨y1, y2⟩
        · rw [if_pos y1, nI_1]
          have lsm := tyc_pos C.2.2.2.2.2.2.2.2.2.2.2.2.2
          have lcw : 1 ≤ (cw cd sm).length := by
            unfold cw
            split
            · rw [List.length_map]; exact lsm
            · rw [List.length_append, List.length_cons]; omega
          have hp := C.2.2.2.2.2.2.2.2.2.2.2.1
          have hq3 := C.2.1
          have hH3 := C.1.1.2.2.2.1
          have hl3 : ln (f3_readsClause (f7_pass c1)).2 = ln c := (CF_ln C.2.2.1).trans (EM_ln e01)
          obtain ⟨z1, z2, z3, z4, z5, z6⟩ := LD_step D2 (by omega) (by omega) rfl C (by omega)
          have hl4 : ln (f1_add 8 (f3_readsClause (f7_pass c1)).2 (-59)) = ln c := (CF_ln z6).trans (EM_ln e01)
          have hql : ql (f1_add 8 (f3_readsClause (f7_pass c1)).2 (-59)) = ql (f3_readsClause (f7_pass c1)).2 + 1 := by rw [z2, hq3, cwL_app, List.length_append, List.length_append, List.length_singleton]; omega
          have hll : (L ++ [(cd, sm)]).length = L.length + 1 := by rw [List.length_append]; rfl
          obtain ⟨w1, w2⟩ := ih _ _ (L ++ [(cd, sm)]) f f' (by omega) (by omega) (by omega) z4 z1 z2 z3 (by omega) (by omega)
          rw [hll] at w2
          exact ⟨⟨r6, o, w1⟩, RES_base (CF_tr (CF_0 e01.2.2.2.1) z6 (Nat.le_refl _)) (SLF_tr (EM_SLF e01) (GF_SLF (GF_le C.2.2.2.2.2.2.2.2.2.2.1 (Nat.zero_le _)) (by omega))) w2⟩
        · have y1' : ¬ (f3_readsClause (f7_pass c1)).1 = true := by rw [y1]; exact Bool.false_ne_true
          rw [if_neg y1']
          obtain ⟨⟨w, g1, g2⟩, g3, g4, g5⟩ := y2
          have hne : ¬ f12_clause (sp m1 123 3 (m1 123 3 + 1)) 123 4 = -1 := by rw [g2]; exact nI_ne_m1 (by omega)
          obtain ⟨k1, rfl, -⟩ := fu_pos (show 0 < f' by omega)
          obtain ⟨u1, u2⟩ := atEnd_bad _ hne
          rw [c9_eq, o9_eq, if_neg hne, if_neg hne, u1]
          exact ⟨⟨r6, o, u2, trivial⟩, CF_tr (CF_0 e01.2.2.2.1) g4 (Nat.le_refl _), SLF_tr (EM_SLF e01) (GF_SLF g5 (by omega)), Or.inr ⟨rfl, w, g1, g2, g3.trans g2⟩⟩
      · rw [if_neg x2, if_neg x2, if_neg x2, t1, if_neg x1, fails_at r8]
        dsimp only
        rw [if_neg (show ¬ false = true from Bool.false_ne_true), bad_at r8]
        have cf1 : CF 0 c1 (sp c1 1 3 (nI (hd c1))) := ⟨fun a h _ _ => sp_n h, fun j _ h => sp_k h, fun j _ => by rw [sp_n (by decide)], fun k hk => absurd hk (Nat.not_lt_zero k)⟩
        refine ⟨⟨r6, t2, trivial⟩, CF_tr (CF_0 e0.2.2.2.1) cf1 (Nat.le_refl _), SLF_tr (EM_SLF e0) (by rw [← bad_at r8]; exact bad_SLF), Or.inr ⟨rfl, hd c1, by omega, (show sp m1 123 4 (nI (hd c1)) 123 4 = _ from sp_r), (show sp c1 1 3 (nI (hd c1)) 1 3 = _ from sp_r)⟩⟩
theorem nI0 : (0 : Int32) = nI 0 := rfl
theorem reads_sim {t : Nat} {c m : SI} (hT : TP c m) (ht : t < 5) : o12_readLaw m (nI t) ∧ RES t c m (f3_reads c) (f12_readLaw m (nI t)) := by
  have hL := hT.2.2.1
  have hTn : (nI t).toNatClampNeg = t := nI_clamp (by omega)
  unfold f3_reads f12_readLaw o12_readLaw
  dsimp only
  generalize hc0 : f1_clear 8 (f7_rewind c) = c0
  generalize hm0 : f12_open m (nI t) = m0
  have c00 : c0 = sp (sp (sp c 1 2 0) 1 3 (-1)) 8 1 0 := by rw [← hc0]; rfl
  have m00 : m0 = sp (sp (sp (sp (sp (sp m 123 14 (nI t)) 123 3 0) 123 4 (-1)) 123 5 0) 127 t 0) 128 t 0 := by
    rw [← hm0]
    unfold f12_open
    rw [hTn]
  have cf0 : CF 0 c c0 := by
    rw [c00]
    exact ⟨fun a x y _ => by rw [sp_n y, sp_n x, sp_n x], fun j x y => by rw [sp_n (by decide), sp_k y, sp_k x], fun j x => by rw [sp_k x, sp_n (by decide), sp_n (by decide)], fun k hk => absurd hk (Nat.not_lt_zero k)⟩
  have m123 : ∀ j, j ≠ 14 → j ≠ 3 → j ≠ 4 → j ≠ 5 → m0 123 j = m 123 j := fun j a b d e => by
    rw [m00, sp_n (by decide), sp_n (by decide), sp_k e, sp_k d, sp_k b, sp_k a]
  have moth : ∀ a, a ≠ 123 → a ≠ 127 → a ≠ 128 → m0 a = m a := fun a x y z => by
    rw [m00, sp_n z, sp_n y, sp_n x, sp_n x, sp_n x, sp_n x]
  have s0 : SLF t m m0 := ⟨fun a x1 x2 x3 x4 x5 _ _ _ => moth a x1 x4 x5, fun j x y z w => m123 j w x y z, fun j hj => ⟨by rw [m00, sp_n (by decide), sp_k hj, sp_n (by decide), sp_n (by decide), sp_n (by decide), sp_n (by decide)], by rw [m00, sp_k hj, sp_n (by decide), sp_n (by decide), sp_n (by decide), sp_n (by decide), sp_n (by decide)]⟩, fun k _ => ⟨by rw [moth 125 (by decide) (by decide) (by decide)], by rw [moth 126 (by decide) (by decide) (by decide)]⟩, fun k _ => ⟨by rw [moth 129 (by decide) (by decide) (by decide)], by rw [moth 130 (by decide) (by decide) (by decide)], by rw [moth 131 (by decide) (by decide) (by decide)]⟩⟩
  have hd0 : c0 1 2 = nI 0 := by rw [c00, sp_n (by decide), sp_k (by decide), sp_r]; rfl
  have hdz : hd c0 = 0 := hd_of hd0 (by decide)
  have ql0 : c0 8 1 = nI 0 := by rw [c00, sp_r]; rfl
  have qlz : ql c0 = 0 := ql_of ql0 (by decide)
  have rl0 : m0 127 t = nI 0 := by rw [m00, sp_n (by decide), sp_r]; rfl
  have rlz : rl t m0 = 0 := rl_of rl0 (by decide)
  have l0 : ln c0 = ln c := CF_ln cf0
  have P0 : PS t 0 c0 m0 := by
    refine ⟨⟨⟨by rw [l0, cf0.2.1 1 (by decide) (by decide)]; exact hT.1, by rw [l0, m123 2 (by decide) (by decide) (by decide) (by decide)]; exact hT.2.1, by omega, fun i hi => ?_⟩, by rw [hdz]; exact hd0, ?_, by omega, ?_⟩, ?_, ?_, ht, by decide, by rw [qlz]; exact ql0, by omega, by rw [rlz]; exact rl0, by omega⟩
    · rw [l0] at hi
      rw [cf0.1 2 (by decide) (by decide) (by decide), moth 124 (by decide) (by decide) (by decide)]
      exact hT.2.2.2 i hi
    · rw [hdz, m00, sp_n (by decide), sp_n (by decide), sp_k (by decide), sp_k (by decide), sp_r]; rfl
    · rw [m00, sp_n (by decide), sp_n (by decide), sp_k (by decide), sp_r]
    · rw [m00, sp_n (by decide), sp_n (by decide), sp_r]; rfl
    · rw [m00, sp_n (by decide), sp_n (by decide), sp_k (by decide), sp_k (by decide), sp_k (by decide), sp_r]
  have m128 : m0 128 t = nI 0 := by rw [m00, sp_r]; rfl
  have oop : o12_open m (nI t) := by
    unfold o12_open
    exact ⟨vp_in_nI ht (by decide), vp_in_nI ht (by decide), trivial⟩
  have D0 : LD t [] (c0 9) m0 := ⟨fun j x hx => (by cases hx), m128, fun j x hx => (by cases hx), fun k q hx => (by cases hx), fun q hx => (by cases hx)⟩
  have e240 : (Int32.toInt (240 : Int32) - Int32.toInt (0 : Int32)).toNat = 240 := rfl
  rw [e240, fu1_eq 240, c16_eq, if_neg (show ¬ (240 : Int32) ≤ 0 by decide)]
  obtain ⟨o, y⟩ := clause_sim (k := 0) P0 (by omega) (by omega) m128
  rcases y with ⟨y1, cd, sm, C⟩ | ⟨y1, y2⟩
  · rw [if_pos y1]
    have lsm := tyc_pos C.2.2.2.2.2.2.2.2.2.2.2.2.2
    have lcw : 1 ≤ (cw cd sm).length := by
      unfold cw
      split
      · rw [List.length_map]; exact lsm
      · rw [List.length_append, List.length_cons]; omega
    have hp := C.2.2.2.2.2.2.2.2.2.2.2.1
    have hq3 := C.2.1
    have hH3 := C.1.1.2.2.2.1
    have hl3 : ln (f3_readsClause c0).2 = ln c := (CF_ln C.2.2.1).trans l0
    obtain ⟨z1, z2, z3, z4, z5, z6⟩ := LD_step D0 qlz rlz rfl C (by omega)
    have hl4 : ln (f1_add 8 (f3_readsClause c0).2 (-59)) = ln c := (CF_ln z6).trans l0
    have hql : ql (f1_add 8 (f3_readsClause c0).2 (-59)) = ql (f3_readsClause c0).2 + 1 := by rw [z2, hq3, cwL_app, List.length_append, List.length_append, List.length_singleton]; show (0 : Nat) + _ = _; omega
    have hfu : (Int32.toInt (f12_clause m0 123 2) - Int32.toInt (f12_clause m0 123 3)).toNat = ln c - hd (f3_readsClause c0).2 := by
      rw [C.1.1.1.2.1, C.1.1.2.2.1, hl3, toNat_sub_nI (by omega) (by omega)]
    rw [hfu, fu1_eq]
    obtain ⟨w1, w2⟩ := reads_after t (nI t) (ln c - hd (f3_readsClause c0).2 + 1) _ _ ([] ++ [(cd, sm)]) 240 (ln c - hd (f3_readsClause c0).2 + 1 + 1) (by omega) (by omega) (by omega) z4 z1 z2 z3 (by omega) (by show 3 * 1 ≤ _; omega)
    exact ⟨⟨oop, o, w1⟩, RES_base (CF_tr cf0 z6 (Nat.le_refl _)) (SLF_tr s0 (GF_SLF (GF_le C.2.2.2.2.2.2.2.2.2.2.1 (Nat.zero_le _)) (by decide))) w2⟩
  · have y1' : ¬ (f3_readsClause c0).1 = true := by rw [y1]; exact Bool.false_ne_true
    rw [if_neg y1']
    obtain ⟨⟨w, g1, g2⟩, g3, g4, g5⟩ := y2
    have hne : ¬ f12_clause m0 123 4 = -1 := by rw [g2]; exact nI_ne_m1 (by omega)
    obtain ⟨u1, u2⟩ := atEnd_bad _ hne
    rw [fu1_eq, c9_eq, o9_eq, if_neg hne, if_neg hne, u1]
    exact ⟨⟨oop, o, u2, trivial⟩, CF_tr cf0 g4 (Nat.le_refl _), SLF_tr s0 (GF_SLF g5 (by decide)), Or.inr ⟨rfl, w, g1, g2, g3.trans g2⟩⟩
