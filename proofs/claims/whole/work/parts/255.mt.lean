/-! clauses -/
theorem o_t {c x y : Prop} {i : Decidable c} (hc : c) (h : x) : @ite Prop c i x y := by rw [if_pos hc]; exact h
theorem o_f {c x y : Prop} {i : Decidable c} (hc : ¬ c) (h : y) : @ite Prop c i x y := by rw [if_neg hc]; exact h
def GF (t r K : Nat) (m m' : SI) : Prop := (∀ a, a ≠ 123 → a ≠ 125 → a ≠ 126 → a ≠ 127 → a ≠ 128 → a ≠ 129 → a ≠ 130 → a ≠ 131 → m' a = m a) ∧ (∀ j, j ≠ 3 → j ≠ 4 → j ≠ 5 → m' 123 j = m 123 j) ∧ (∀ j, j ≠ t → m' 127 j = m 127 j ∧ m' 128 j = m 128 j) ∧ (∀ k, k < 520 * t + r ∨ 520 * t + 520 ≤ k → m' 125 k = m 125 k ∧ m' 126 k = m 126 k) ∧ (∀ k, k ≠ K → m' 129 k = m 129 k ∧ m' 130 k = m 130 k ∧ m' 131 k = m 131 k)
theorem GF_tr {t r r' K : Nat} {m m1 m2 : SI} (h1 : GF t r K m m1) (h2 : GF t r' K m1 m2) (h : r ≤ r') : GF t r K m m2 := by
  obtain ⟨a1, a2, a3, a4, a5⟩ := h1
  obtain ⟨b1, b2, b3, b4, b5⟩ := h2
  exact ⟨fun a x1 x2 x3 x4 x5 x6 x7 x8 => (b1 a x1 x2 x3 x4 x5 x6 x7 x8).trans (a1 a x1 x2 x3 x4 x5 x6 x7 x8), fun j x y z => (b2 j x y z).trans (a2 j x y z), fun j x => ⟨(b3 j x).1.trans (a3 j x).1, (b3 j x).2.trans (a3 j x).2⟩, fun k x => ⟨(b4 k (by omega)).1.trans (a4 k x).1, (b4 k (by omega)).2.trans (a4 k x).2⟩, fun k x => ⟨(b5 k x).1.trans (a5 k x).1, (b5 k x).2.1.trans (a5 k x).2.1, (b5 k x).2.2.trans (a5 k x).2.2⟩⟩
theorem GF_le {t r r' K : Nat} {m m1 : SI} (h1 : GF t r' K m m1) (h : r ≤ r') : GF t r K m m1 :=
  ⟨h1.1, h1.2.1, h1.2.2.1, fun k x => h1.2.2.2.1 k (by omega), h1.2.2.2.2⟩
theorem MF_GF {t r : Nat} (K : Nat) {m m' : SI} (h : MF t r m m') : GF t r K m m' :=
  ⟨fun a x1 x2 x3 x4 _ _ _ _ => h.1 a x1 x2 x3 x4, h.2.1, fun j x => ⟨h.2.2.1 j x, by rw [h.1 128 (by decide) (by decide) (by decide) (by decide)]⟩, h.2.2.2, fun k _ => ⟨by rw [h.1 129 (by decide) (by decide) (by decide) (by decide)], by rw [h.1 130 (by decide) (by decide) (by decide) (by decide)], by rw [h.1 131 (by decide) (by decide) (by decide) (by decide)]⟩⟩
theorem GF_w {t r K a k : Nat} (m : SI) (x : Int32) (h : (a = 128 ∧ k = t) ∨ (k = K ∧ (a = 129 ∨ a = 130 ∨ a = 131))) : GF t r K m (sp m a k x) := by
  refine ⟨fun b _ _ _ _ h1 h2 h3 h4 => sp_n (by omega), fun j _ _ _ => by rw [sp_n (by omega)], fun j hj => ⟨by rw [sp_n (by omega)], ?_⟩, fun k' _ => ⟨by rw [sp_n (by omega)], by rw [sp_n (by omega)]⟩, fun k' hk => ⟨?_, ?_, ?_⟩⟩
  · rcases h with ⟨rfl, rfl⟩ | ⟨rfl, h⟩
    · exact sp_k hj
    · rw [sp_n (by omega)]
  · rcases h with ⟨rfl, rfl⟩ | ⟨rfl, h⟩
    · rw [sp_n (by decide)]
    · by_cases e : a = 129
      · subst e; exact sp_k hk
      · rw [sp_n (Ne.symm e)]
  · rcases h with ⟨rfl, rfl⟩ | ⟨rfl, h⟩
    · rw [sp_n (by decide)]
    · by_cases e : a = 130
      · subst e; exact sp_k hk
      · rw [sp_n (Ne.symm e)]
  · rcases h with ⟨rfl, rfl⟩ | ⟨rfl, h⟩
    · rw [sp_n (by decide)]
    · by_cases e : a = 131
      · subst e; exact sp_k hk
      · rw [sp_n (Ne.symm e)]
theorem PS_sp {t d a k : Nat} {c m : SI} {x : Int32} (h : PS t d c m) (h1 : a ≠ 123) (h2 : a ≠ 124) (h3 : a ≠ 127) : PS t d c (sp m a k x) ∧ rl t (sp m a k x) = rl t m := by
  obtain ⟨⟨⟨a1, a2, a3, a4⟩, a5, a6, a7, a8⟩, a9, b1, b2, b3, b4, b5, b6, b7⟩ := h
  have e : rl t (sp m a k x) = rl t m := by unfold rl; rw [sp_n (Ne.symm h3)]
  refine ⟨⟨⟨⟨a1, by rw [sp_n (Ne.symm h1)]; exact a2, a3, fun i hi => by rw [sp_n (Ne.symm h2)]; exact a4 i hi⟩, a5, by rw [sp_n (Ne.symm h1)]; exact a6, a7, by rw [sp_n (Ne.symm h1)]; exact a8⟩, by rw [sp_n (Ne.symm h1)]; exact a9, by rw [sp_n (Ne.symm h1)]; exact b1, b2, b3, b4, b5, by rw [e, sp_n (Ne.symm h3)]; exact b6, by rw [e]; exact b7⟩, e⟩
theorem raw_add {t d : Nat} {c m : SI} (h : PS t d c m) (hq : ql c < 240) (x : Int32) : PS t d (f1_add 8 c x) m ∧ ql (f1_add 8 c x) = ql c + 1 ∧ CF (ql c) c (f1_add 8 c x) ∧ f1_add 8 c x 9 (ql c) = x ∧ hd (f1_add 8 c x) = hd c := by
  obtain ⟨a1, a2, a3, a4, a5, a6, a7, a8, a9⟩ := h
  have hL := a1.1.2.2.1
  have hH := a1.2.2.2.1
  have e : f1_add 8 c x = sp (sp c 9 (ql c) x) 8 1 (nI (ql c + 1)) := by
    unfold f1_add
    simp only [a6]
    rw [if_neg (nI_pos (by omega)), if_neg (show ¬ (240 : Int32) ≤ nI (ql c) from nI_ge (b := 240) (by omega) (by decide)), nI_clamp (by omega), sp_n (by decide), a6, nI_1]
  rw [e]
  generalize hc' : sp (sp c 9 (ql c) x) 8 1 (nI (ql c + 1)) = c'
  have c1 : ∀ a, a ≠ 8 → a ≠ 9 → c' a = c a := fun a h1 h2 => by rw [← hc', sp_n h1, sp_n h2]
  have c2 : c' 8 1 = nI (ql c + 1) := by rw [← hc', sp_r]
  have q1 : ql c' = ql c + 1 := ql_of c2 (by omega)
  have q3 : hd c' = hd c := by unfold hd; rw [c1 1 (by decide) (by decide)]
  have q4 : ln c' = ln c := by unfold ln; rw [c1 1 (by decide) (by decide)]
  refine ⟨⟨⟨⟨?_, ?_, by omega, fun i hi => ?_⟩, ?_, ?_, by omega, a1.2.2.2.2⟩, a2, a3, a4, a5, by rw [q1]; exact c2, by omega, a8, by omega⟩, q1, ⟨fun a h1 h2 h3 => c1 a h2 h3, fun j _ _ => by rw [c1 1 (by decide) (by decide)], fun j hj => ?_, fun k hk => ?_⟩, ?_, q3⟩
  · rw [q4, c1 1 (by decide) (by decide)]; exact a1.1.1
  · rw [q4]; exact a1.1.2.1
  · rw [q4] at hi; rw [c1 2 (by decide) (by decide)]; exact a1.1.2.2.2 i hi
  · rw [q3, c1 1 (by decide) (by decide)]; exact a1.2.1
  · rw [q3]; exact a1.2.2.1
  · rw [← hc', sp_k hj, sp_n (by decide)]
  · rw [← hc', sp_n (by decide), sp_k (by omega)]
  · rw [← hc', sp_n (by decide)]; exact sp_r
def BX (t K : Nat) (c m c' m' : SI) : Prop := (∃ w : Nat, w ≤ 240 ∧ m' 123 4 = nI w) ∧ c' 1 3 = m' 123 4 ∧ CF 0 c c' ∧ GF t 0 K m m'
theorem BAD_BX {t d K : Nat} {c m c' m' : SI} (h : BAD t d c m c' m') : BX t K c m c' m' := by
  obtain ⟨⟨w, a, r, h1, h2, h3, h4, h5, h6, h7, h8, h9⟩, f2, f3⟩ := h
  exact ⟨⟨w, h1, h2⟩, f2, f3, GF_le (MF_GF K h9) (Nat.zero_le _)⟩
theorem BX_base {t K r : Nat} {c m c1 m1 c2 m2 : SI} (hc : CF 0 c c1) (hm : GF t r K m m1) (h : BX t K c1 m1 c2 m2) : BX t K c m c2 m2 :=
  ⟨h.1, h.2.1, CF_tr hc h.2.2.1 (Nat.le_refl _), GF_tr (GF_le hm (Nat.zero_le r)) h.2.2.2 (Nat.le_refl _)⟩
theorem CF_0 {q : Nat} {c c' : SI} (h : CF q c c') : CF 0 c c' := ⟨h.1, h.2.1, h.2.2.1, fun k hk => absurd hk (Nat.not_lt_zero k)⟩
noncomputable def mT (E0 : Int32) (s : SI) : SI := let s1 := sp s 130 (Int32.toNatClampNeg E0) (s 129 (Int32.toNatClampNeg E0)); if (s 123 4) = (-1 : Int32) then (let r := (f12_look s1); if r.1 = (63 : Int32) then (let a := sp r.2 123 3 ((r.2 123 3) + (1 : Int32)); let b := sp a 130 (Int32.toNatClampNeg E0) (r.2 127 (Int32.toNatClampNeg (r.2 123 14))); let d := (f12_sumR b); let e := sp d 131 (Int32.toNatClampNeg E0) (d 127 (Int32.toNatClampNeg (d 123 14))); let f := sp e 128 (Int32.toNatClampNeg (d 123 14)) ((d 128 (Int32.toNatClampNeg (d 123 14))) + (1 : Int32)); f) else (let z := (f12_bad r.2); z)) else (let e := sp s1 131 (Int32.toNatClampNeg E0) (s 127 (Int32.toNatClampNeg (s 123 14))); let f := sp e 128 (Int32.toNatClampNeg (s 123 14)) ((s 128 (Int32.toNatClampNeg (s 123 14))) + (1 : Int32)); f)
def oT (E0 : Int32) (s : SI) : Prop := (vp_in E0 700) ∧ ((vp_in E0 700) ∧ (let s1 := sp s 130 (Int32.toNatClampNeg E0) (s 129 (Int32.toNatClampNeg E0)); if (s 123 4) = (-1 : Int32) then ((o12_look s1) ∧ (let r := (f12_look s1); if r.1 = (63 : Int32) then (let a := sp r.2 123 3 ((r.2 123 3) + (1 : Int32)); (vp_in (r.2 123 14) 5) ∧ ((vp_in E0 700) ∧ (let b := sp a 130 (Int32.toNatClampNeg E0) (r.2 127 (Int32.toNatClampNeg (r.2 123 14))); (o12_sumR b) ∧ (let d := (f12_sumR b); (vp_in (d 123 14) 5) ∧ ((vp_in E0 700) ∧ (let e := sp d 131 (Int32.toNatClampNeg E0) (d 127 (Int32.toNatClampNeg (d 123 14))); (vp_in (d 123 14) 5) ∧ ((vp_in (d 123 14) 5) ∧ (let f := sp e 128 (Int32.toNatClampNeg (d 123 14)) ((d 128 (Int32.toNatClampNeg (d 123 14))) + (1 : Int32)); True)))))))) else (let z := (f12_bad r.2); True))) else ((vp_in (s 123 14) 5) ∧ ((vp_in E0 700) ∧ (let e := sp s1 131 (Int32.toNatClampNeg E0) (s 127 (Int32.toNatClampNeg (s 123 14))); (vp_in (s 123 14) 5) ∧ ((vp_in (s 123 14) 5) ∧ (let f := sp e 128 (Int32.toNatClampNeg (s 123 14)) ((s 128 (Int32.toNatClampNeg (s 123 14))) + (1 : Int32)); True)))))))
noncomputable def mN (E0 : Int32) (s : SI) : SI := let s1 := sp s 130 (Int32.toNatClampNeg E0) (s 129 (Int32.toNatClampNeg E0)); let e := sp s1 131 (Int32.toNatClampNeg E0) (s 127 (Int32.toNatClampNeg (s 123 14))); let f := sp e 128 (Int32.toNatClampNeg (s 123 14)) ((s 128 (Int32.toNatClampNeg (s 123 14))) + (1 : Int32)); f
def oN (E0 : Int32) (s : SI) : Prop := (vp_in E0 700) ∧ ((vp_in E0 700) ∧ (let s1 := sp s 130 (Int32.toNatClampNeg E0) (s 129 (Int32.toNatClampNeg E0)); (vp_in (s 123 14) 5) ∧ ((vp_in E0 700) ∧ (let e := sp s1 131 (Int32.toNatClampNeg E0) (s 127 (Int32.toNatClampNeg (s 123 14))); (vp_in (s 123 14) 5) ∧ ((vp_in (s 123 14) 5) ∧ (let f := sp e 128 (Int32.toNatClampNeg (s 123 14)) ((s 128 (Int32.toNatClampNeg (s 123 14))) + (1 : Int32)); True))))))
noncomputable def mS (E0 : Int32) (s : SI) : SI := let q := (f12_sumR s); if (q 123 4) = (-1 : Int32) then (let r := (f12_look q); if (f12_isSign r.1) = true then mT E0 (f12_goOnOrR (f12_goOnAndR (f12_compare r.2))) else mN E0 r.2) else mN E0 q
def oS (E0 : Int32) (s : SI) : Prop := (o12_sumR s) ∧ (let q := (f12_sumR s); if (q 123 4) = (-1 : Int32) then ((o12_look q) ∧ (let r := (f12_look q); if (f12_isSign r.1) = true then ((o12_compare r.2) ∧ ((o12_goOnAndR (f12_compare r.2)) ∧ ((o12_goOnOrR (f12_goOnAndR (f12_compare r.2))) ∧ oT E0 (f12_goOnOrR (f12_goOnAndR (f12_compare r.2)))))) else oN E0 r.2)) else oN E0 q)
noncomputable def mB (E0 : Int32) (s : SI) : SI := let r := (f12_look s); if r.1 = (33 : Int32) then mT E0 (f12_conditionR r.2) else (let r2 := (f12_look r.2); if r2.1 = (40 : Int32) then mT E0 (f12_conditionR r2.2) else mS E0 r2.2)
def oB (E0 : Int32) (s : SI) : Prop := (o12_look s) ∧ (let r := (f12_look s); if r.1 = (33 : Int32) then ((o12_conditionR r.2) ∧ oT E0 (f12_conditionR r.2)) else ((o12_look r.2) ∧ (let r2 := (f12_look r.2); if r2.1 = (40 : Int32) then ((o12_conditionR r2.2) ∧ oT E0 (f12_conditionR r2.2)) else oS E0 r2.2)))
def TOK (t k : Nat) (c m c' m' : SI) (sm : List (Nat × Nat)) : Prop := PS t 0 c' m' ∧ ql c' = ql c + 1 + sm.length ∧ CF (ql c) c c' ∧ c' 9 (ql c) = -63 ∧ (∀ j x, sm[j]? = some x → c' 9 (ql c + 1 + j) = ce x) ∧ rl t m' = rl t m + sm.length ∧ (∀ j x, sm[j]? = some x → m' 125 (520 * t + (rl t m + j)) = nI x.1 ∧ m' 126 (520 * t + (rl t m + j)) = nI x.2) ∧ m' 129 (140 * t + k) = m 129 (140 * t + k) ∧ m' 130 (140 * t + k) = nI (rl t m) ∧ m' 131 (140 * t + k) = nI (rl t m + sm.length) ∧ m' 128 t = nI (k + 1) ∧ GF t (rl t m) (140 * t + k) m m' ∧ hd c + 1 + sm.length ≤ hd c' ∧ tyc 15 sm [] = some [false]
theorem E0_in {t k : Nat} (ht : t < 5) (hk : k < 140) : vp_in (nI (140 * t + k)) 700 := vp_in_nI (by omega) (by decide)
theorem sum_sim0 (t : Nat) : SIM t 0 15 [] false (fun c => f3_sum c 0) o12_sumR f12_sumR := by
  have h := sum_sim t 0 (by decide)
  rw [nI_0] at h
  exact h
theorem tail_sim {t k : Nat} {c m : SI} {E0 : Int32} (h : PS t 0 c m) (hs : ql c + 2 ≤ hd c) (hE : E0 = nI (140 * t + k)) (hk : k < 140) (hcl : m 128 t = nI k) : oT E0 m ∧ (((f3_readsWorth c).1 = true ∧ ∃ sm, TOK t k c m (f3_readsWorth c).2 (mT E0 m) sm) ∨ ((f3_readsWorth c).1 = false ∧ BX t (140 * t + k) c m (f3_readsWorth c).2 (mT E0 m))) := by
  have ht := h.2.2.2.1
  have hin := E0_in ht hk
  have hK : (nI (140 * t + k)).toNatClampNeg = 140 * t + k := nI_clamp (by omega)
  have hT : (nI t).toNatClampNeg = t := nI_clamp (by omega)
  have hw := h.1.2.2.2.2
  have hL := h.1.1.2.2.1
  subst hE
  unfold oT mT f3_readsWorth
  rw [hK]
  dsimp only
  rw [if_pos hw, if_pos hw]
  generalize hma : sp m 130 (140 * t + k) (m 129 (140 * t + k)) = ma
  have gma : GF t (rl t m) (140 * t + k) m ma := by rw [← hma]; exact GF_w m _ (Or.inr ⟨rfl, by omega⟩)
  obtain ⟨pa, ra⟩ : PS t 0 c ma ∧ rl t ma = rl t m := by rw [← hma]; exact PS_sp h (by decide) (by decide) (by decide)
  obtain ⟨c1, m1, p, r2, r3, r4, r5, r6, r8, r9, r10, r11⟩ := takes_at pa.1 63
  obtain ⟨e0, e0h⟩ := MV_EM pa r3 r4 r5
  rw [r2]
  dsimp only
  have h14 : m1 123 14 = nI t := e0.1.2.2.1
  rw [h14, hT]
  rcases r11 with ⟨q, r11⟩ | ⟨q, r11⟩
  · rw [r11, if_pos q, if_pos q]
    dsimp only
    rw [if_pos rfl]
    obtain ⟨v, hl⟩ := pass r8 (by rw [q]; decide)
    obtain ⟨e1, e1h⟩ := MV_EM e0.1 v (by omega) hl
    have hq0 : ql c1 = ql c := e0.2.1
    have hq1 : ql (f7_pass c1) = ql c1 := e1.2.1
    have hr1 : rl t m1 = rl t ma := e0.2.2.1
    have hr2 : rl t (sp m1 123 3 (m1 123 3 + 1)) = rl t m1 := e1.2.2.1
    have h127 : m1 127 t = nI (rl t m) := by rw [e0.1.2.2.2.2.2.2.2.1, hr1, ra]
    generalize hb : sp (sp m1 123 3 (m1 123 3 + 1)) 130 (140 * t + k) (m1 127 t) = b
    obtain ⟨pb, rb⟩ : PS t 0 (f7_pass c1) b ∧ rl t b = rl t (sp m1 123 3 (m1 123 3 + 1)) := by rw [← hb]; exact PS_sp e1.1 (by decide) (by decide) (by decide)
    have gb : GF t (rl t m) (140 * t + k) ma b := by
      rw [← hb]
      exact GF_tr (GF_tr (GF_le (MF_GF _ e0.2.2.2.2.1) (by omega)) (GF_le (MF_GF _ e1.2.2.2.2.1) (by omega)) (Nat.le_refl _)) (GF_w _ _ (Or.inr ⟨rfl, by omega⟩)) (Nat.le_refl _)
    have b130 : b 130 (140 * t + k) = nI (rl t m) := by rw [← hb, sp_r, h127]
    have b129 : b 129 (140 * t + k) = m 129 (140 * t + k) := by rw [← hb, sp_n (by decide), sp_n (by decide), e0.2.2.2.2.1.1 129 (by decide) (by decide) (by decide) (by decide), ← hma, sp_n (by decide)]
    have b128 : b 128 t = nI k := by rw [← hb, sp_n (by decide), sp_n (by decide), e0.2.2.2.2.1.1 128 (by decide) (by decide) (by decide) (by decide), ← hma, sp_n (by decide)]; exact hcl
    obtain ⟨x1, x2, x3, x4, x5⟩ := raw_add pb (by omega) (-63)
    obtain ⟨oo, y⟩ := sum_sim0 t _ _ x1 (by omega)
    dsimp only at y
    have cf : CF (ql c) c (f7_pass c1) := CF_tr e0.2.2.2.1 e1.2.2.2.1 (by omega)
    have cf2 : CF (ql c) c (f1_add 8 (f7_pass c1) (-63)) := CF_tr cf x3 (by omega)
    rcases y with ⟨y1, sm, y2, y3, y4⟩ | ⟨y1, y2⟩
    · have d14 : f12_sumR b 123 14 = nI t := y2.1.2.2.1
      rw [d14, hT]
      have d127 : f12_sumR b 127 t = nI (rl t m + sm.length) := by rw [y2.1.2.2.2.2.2.2.2.1, y2.2.2.1, rb, hr2, hr1, ra]
      have d128 : f12_sumR b 128 t = nI k := by rw [y2.2.2.2.2.1.1 128 (by decide) (by decide) (by decide) (by decide)]; exact b128
      rw [d127, d128, nI_1]
      refine ⟨⟨hin, hin, r6, vp_in_nI ht (by decide), hin, oo, vp_in_nI ht (by decide), hin, vp_in_nI ht (by decide), vp_in_nI ht (by decide), trivial⟩, Or.inl ⟨y1, sm, ?_⟩⟩
      obtain ⟨z1, z2⟩ := PS_sp (a := 131) (k := 140 * t + k) (x := nI (rl t m + sm.length)) y2.1 (by decide) (by decide) (by decide)
      obtain ⟨z3, z4⟩ := PS_sp (a := 128) (k := t) (x := nI (k + 1)) z1 (by decide) (by decide) (by decide)
      have hq3 := y2.2.1
      have hr3 := y2.2.2.1
      refine ⟨z3, by omega, CF_tr cf2 y2.2.2.2.1 (by omega), ?_, fun j x hx => ?_, by omega, fun j x hx => ?_, ?_, ?_, ?_, sp_r, ?_, by omega, y4⟩
      · have x4' : f1_add 8 (f7_pass c1) (-63) 9 (ql c) = -63 := by rw [← hq0, ← hq1]; exact x4
        rw [y2.2.2.2.1.2.2.2 (ql c) (by omega)]; exact x4'
      · have := (y2.2.2.2.2.2.2 j x hx).1
        rw [show ql (f1_add 8 (f7_pass c1) (-63)) = ql c + 1 by omega] at this
        exact this
      · have := (y2.2.2.2.2.2.2 j x hx).2
        rw [show rl t b = rl t m by omega] at this
        rw [sp_n (by decide), sp_n (by decide), sp_n (by decide), sp_n (by decide)]
        exact this
      · rw [sp_n (by decide), sp_n (by decide), y2.2.2.2.2.1.1 129 (by decide) (by decide) (by decide) (by decide)]; exact b129
      · rw [sp_n (by decide), sp_n (by decide), y2.2.2.2.2.1.1 130 (by decide) (by decide) (by decide) (by decide)]; exact b130
      · rw [sp_n (by decide), sp_r]
      · have := y2.2.2.2.2.1
        rw [show rl t b = rl t m by omega] at this
        exact GF_tr (GF_tr (GF_tr (GF_tr gma gb (Nat.le_refl _)) (MF_GF _ this) (Nat.le_refl _)) (GF_w _ _ (Or.inr ⟨rfl, by omega⟩)) (Nat.le_refl _)) (GF_w _ _ (Or.inl ⟨rfl, rfl⟩)) (Nat.le_refl _)
    · obtain ⟨⟨w, a, r, h1, h2, h3, h4, h5, h6, h7, h8, h9⟩, f2, f3⟩ := y2
      rw [h8, hT]
      refine ⟨⟨hin, hin, r6, vp_in_nI ht (by decide), hin, oo, vp_in_nI ht (by decide), hin, vp_in_nI ht (by decide), vp_in_nI ht (by decide), trivial⟩, Or.inr ⟨y1, ⟨w, h1, ?_⟩, ?_, CF_tr (CF_0 cf2) f3 (Nat.le_refl _), ?_⟩⟩
      · rw [sp_n (by decide), sp_n (by decide)]; exact h2
      · rw [sp_n (by decide), sp_n (by decide)]; exact f2
      · exact GF_tr (GF_tr (GF_tr (GF_tr (GF_le gma (Nat.zero_le _)) (GF_le gb (Nat.zero_le _)) (Nat.le_refl _)) (GF_le (MF_GF _ h9) (Nat.zero_le _)) (Nat.le_refl _)) (GF_w _ _ (Or.inr ⟨rfl, by omega⟩)) (Nat.le_refl _)) (GF_w _ _ (Or.inl ⟨rfl, rfl⟩)) (Nat.le_refl _)
  · rw [r11, if_neg q, if_neg q]
    obtain ⟨f1, f2⟩ := fail_here e0.1
    have f1' : ¬ (f7_fails c1).1 = true := by rw [f1]; exact Bool.false_ne_true
    rw [if_neg f1']
    exact ⟨⟨hin, hin, r6, trivial⟩, Or.inr ⟨rfl, BX_base (CF_0 e0.2.2.2.1) (GF_tr gma (GF_le (MF_GF _ e0.2.2.2.2.1) (by have := e0.2.2.1; omega)) (Nat.le_refl _)) (BAD_BX f2)⟩⟩
theorem tail_bad {t k : Nat} {m : SI} {E0 : Int32} (hE : E0 = nI (140 * t + k)) (hk : k < 140) (ht : t < 5) (hw : ¬ m 123 4 = -1) (h14 : m 123 14 = nI t) : oT E0 m ∧ mT E0 m 123 = m 123 ∧ GF t 0 (140 * t + k) m (mT E0 m) := by
  have hin := E0_in ht hk
  have hK : (nI (140 * t + k)).toNatClampNeg = 140 * t + k := nI_clamp (by omega)
  have hT : (nI t).toNatClampNeg = t := nI_clamp (by omega)
  subst hE
  unfold oT mT
  rw [hK, h14, hT]
  dsimp only
  rw [if_neg hw, if_neg hw]
  refine ⟨⟨hin, hin, vp_in_nI ht (by decide), hin, vp_in_nI ht (by decide), vp_in_nI ht (by decide), trivial⟩, ?_, ?_⟩
  · rw [sp_n (by decide), sp_n (by decide), sp_n (by decide)]
  · exact GF_tr (GF_tr (GF_w _ _ (Or.inr ⟨rfl, by omega⟩)) (GF_w _ _ (Or.inr ⟨rfl, by omega⟩)) (Nat.le_refl _)) (GF_w _ _ (Or.inl ⟨rfl, rfl⟩)) (Nat.le_refl _)
theorem none_at {t k : Nat} {m : SI} {E0 : Int32} (hE : E0 = nI (140 * t + k)) (hk : k < 140) (ht : t < 5) (h14 : m 123 14 = nI t) : oN E0 m ∧ mN E0 m = sp (sp (sp m 130 (140 * t + k) (m 129 (140 * t + k))) 131 (140 * t + k) (m 127 t)) 128 t (m 128 t + 1) ∧ ∀ r, GF t r (140 * t + k) m (mN E0 m) := by
  have hin := E0_in ht hk
  have hK : (nI (140 * t + k)).toNatClampNeg = 140 * t + k := nI_clamp (by omega)
  have hT : (nI t).toNatClampNeg = t := nI_clamp (by omega)
  subst hE
  unfold oN mN
  rw [hK, h14, hT]
  dsimp only
  refine ⟨⟨hin, hin, vp_in_nI ht (by decide), hin, vp_in_nI ht (by decide), vp_in_nI ht (by decide), trivial⟩, rfl, fun r => ?_⟩
  exact GF_tr (GF_tr (GF_w _ _ (Or.inr ⟨rfl, by omega⟩)) (GF_w _ _ (Or.inr ⟨rfl, by omega⟩)) (Nat.le_refl _)) (GF_w _ _ (Or.inl ⟨rfl, rfl⟩)) (Nat.le_refl _)
