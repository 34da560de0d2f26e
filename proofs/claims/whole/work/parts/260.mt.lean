/-! a law worked out by the class -/
theorem r6_num {v : Nat} (h : v < 10000) : R6 (nI v) := by unfold R6; rw [nI_toInt (by omega)]; omega
theorem b_not {x : Int32} (h : x = 0 ∨ x = 1) : (1 : Int32) - x = 0 ∨ (1 : Int32) - x = 1 := by rcases h with rfl | rfl; exact Or.inr rfl; exact Or.inl rfl
theorem ev1_ty {M : Nat} {t : Nat × Nat} {s s' : List Bool} {v : List Int32} {l : Nat → Int32} (h : stp M t s = some s') (hv : TY s v) (hl : ∀ j, j < 6 → R6 (l j)) : TY s' (ev1 l t v) := by
  rcases stp_cases h with ⟨h0, h1, h2, rfl⟩ | ⟨h0, h1, h2, rfl⟩ | ⟨rfl, r, rfl, rfl⟩ | ⟨ht, a, b, r, rfl, rfl⟩ | ⟨ht, a, b, r, rfl, rfl⟩ | ⟨ht, r, rfl, rfl⟩
  · unfold ev1
    rw [if_pos h0]
    exact ⟨r6_num h1, fun q => absurd q Bool.false_ne_true, hv⟩
  · unfold ev1
    rw [if_neg (by omega), if_pos h0]
    exact ⟨hl _ h1, fun q => absurd q Bool.false_ne_true, hv⟩
  · rcases v with _ | ⟨x, v⟩
    · exact hv.elim
    · obtain ⟨h1, h2, h3⟩ := hv
      have := b_not (h2 rfl)
      exact ⟨r6_b this, fun _ => this, h3⟩
  · rcases v with _ | ⟨x, _ | ⟨y, v⟩⟩
    · exact hv.elim
    · exact hv.2.2.elim
    · obtain ⟨h1, h2, h3, h4, h5⟩ := hv
      rcases ht with rfl | rfl | rfl | rfl
      · exact ⟨(wk_2 y x).2, fun q => absurd q Bool.false_ne_true, h5⟩
      · exact ⟨(wk_3 y x).2, fun q => absurd q Bool.false_ne_true, h5⟩
      · exact ⟨(wk_4 y x).2, fun q => absurd q Bool.false_ne_true, h5⟩
      · exact ⟨(wk_5 h3).2, fun q => absurd q Bool.false_ne_true, h5⟩
  · rcases v with _ | ⟨x, _ | ⟨y, v⟩⟩
    · exact hv.elim
    · exact hv.2.2.elim
    · obtain ⟨h1, h2, h3, h4, h5⟩ := hv
      rcases ht with rfl | rfl | rfl
      · exact ⟨r6_b (wk_6 y x).2, fun _ => (wk_6 y x).2, h5⟩
      · exact ⟨r6_b (wk_7 y x).2, fun _ => (wk_7 y x).2, h5⟩
      · exact ⟨r6_b (wk_8 y x).2, fun _ => (wk_8 y x).2, h5⟩
  · rcases v with _ | ⟨x, _ | ⟨y, v⟩⟩
    · exact hv.elim
    · exact hv.2.2.elim
    · obtain ⟨h1, h2, h3, h4, h5⟩ := hv
      rcases ht with rfl | rfl
      · exact ⟨r6_b (wk_10 (h4 rfl) (h2 rfl)).2, fun _ => (wk_10 (h4 rfl) (h2 rfl)).2, h5⟩
      · exact ⟨r6_b (wk_11 (h4 rfl) (h2 rfl)).2, fun _ => (wk_11 (h4 rfl) (h2 rfl)).2, h5⟩
def CK (c : SI) (v : List Int32) : Prop := SK (c 15) v ∧ c 13 4 = nI v.length ∧ v.length ≤ 32
def KF (c c' : SI) : Prop := (∀ a, a ≠ 13 → a ≠ 15 → c' a = c a) ∧ (∀ j, j ≠ 4 → c' 13 j = c 13 j)
theorem KF_rf (c : SI) : KF c c := ⟨fun _ _ _ => rfl, fun _ _ => rfl⟩
theorem KF_tr {c c1 c2 : SI} (h1 : KF c c1) (h2 : KF c1 c2) : KF c c2 := ⟨fun a x y => (h2.1 a x y).trans (h1.1 a x y), fun j x => (h2.2 j x).trans (h1.2 j x)⟩
theorem push_ck {c : SI} {v : List Int32} (h : CK c v) (hl : v.length < 32) (x : Int32) : CK (f2_push c x) (x :: v) ∧ KF c (f2_push c x) := by
  obtain ⟨h1, h2, h3⟩ := h
  have e : f2_push c x = sp (sp c 15 v.length x) 13 4 (nI (v.length + 1)) := by
    unfold f2_push
    simp only [h2]
    rw [if_neg (nI_pos (by omega)), if_neg (show ¬ (32 : Int32) ≤ nI v.length from nI_ge (b := 32) hl (by decide)), nI_clamp (by omega), nI_1]
  rw [e]
  refine ⟨⟨?_, sp_r, by rw [List.length_cons]; omega⟩, fun a h h' => by rw [sp_n h, sp_n h'], fun j hj => by rw [sp_k hj, sp_n (by decide)]⟩
  rw [sp_n (by decide), sp_s]
  exact SK_push h1
theorem pop_ck {c : SI} {v : List Int32} {x : Int32} (h : CK c (x :: v)) : (f2_pop c).1 = x ∧ CK (f2_pop c).2 v ∧ KF c (f2_pop c).2 := by
  obtain ⟨h1, h2, h3⟩ := h
  rw [List.length_cons] at h2 h3
  have e : f2_pop c = (c 15 v.length, sp c 13 4 (nI v.length)) := by
    unfold f2_pop
    simp only [h2]
    rw [if_neg (nI_nle (by omega) (by omega)), if_pos (show nI (v.length + 1) ≤ (32 : Int32) from nI_le (b := 32) h3 (by decide)), nI_pred, nI_clamp (by omega)]
  rw [e]
  show c 15 v.length = x ∧ CK (sp c 13 4 (nI v.length)) v ∧ KF c (sp c 13 4 (nI v.length))
  refine ⟨h1.1, ⟨?_, sp_r, by omega⟩, fun a h h' => sp_n h, fun j hj => sp_k hj⟩
  rw [sp_n (by decide)]
  exact h1.2
def LC (c : SI) (l : Nat → Int32) : Prop := c 13 5 = l 0 ∧ c 13 6 = l 1 ∧ c 13 7 = l 2 ∧ c 13 8 = l 3 ∧ c 13 9 = l 4 ∧ c 13 10 = l 5
theorem LC_kf {c c' : SI} {l : Nat → Int32} (h : LC c l) (k : KF c c') : LC c' l := by
  obtain ⟨a, b, d, e, f, g⟩ := h
  exact ⟨by rw [k.2 5 (by decide)]; exact a, by rw [k.2 6 (by decide)]; exact b, by rw [k.2 7 (by decide)]; exact d, by rw [k.2 8 (by decide)]; exact e, by rw [k.2 9 (by decide)]; exact f, by rw [k.2 10 (by decide)]; exact g⟩
theorem work_bin {c : SI} {v : List Int32} {x y : Int32} (h : CK c (x :: y :: v)) (sg : Int32) : CK (f2_push (f2_pop (f2_pop c).2).2 (fW sg (f2_pop (f2_pop c).2).1 (f2_pop c).1)) (fW sg y x :: v) ∧ KF c (f2_push (f2_pop (f2_pop c).2).2 (fW sg (f2_pop (f2_pop c).2).1 (f2_pop c).1)) := by
  obtain ⟨a1, a2, a3⟩ := pop_ck h
  obtain ⟨b1, b2, b3⟩ := pop_ck a2
  rw [a1, b1]
  have hl := h.2.2
  rw [List.length_cons, List.length_cons] at hl
  obtain ⟨d1, d2⟩ := push_ck b2 (by omega) (fW sg y x)
  exact ⟨d1, KF_tr (KF_tr a3 b3) d2⟩
theorem work_tok {M : Nat} {t : Nat × Nat} {s s' : List Bool} {v : List Int32} {c : SI} {l : Nat → Int32} (h : stp M t s = some s') (hM : M ≤ 32) (hv : TY s v) (hc : CK c v) (hl : LC c l) (h0 : t.1 ≠ 0) : CK (f2_work c (-(ce t))) (ev1 l t v) ∧ KF c (f2_work c (-(ce t))) := by
  have hlen := TY_len s v hv
  rcases stp_cases h with ⟨q, -⟩ | ⟨q, h1, h2, rfl⟩ | ⟨rfl, r, rfl, rfl⟩ | ⟨ht, a, b, r, rfl, rfl⟩ | ⟨ht, a, b, r, rfl, rfl⟩ | ⟨ht, r, rfl, rfl⟩
  · exact absurd q h0
  · obtain ⟨t1, t2⟩ := t
    obtain rfl : t1 = 1 := q
    have hlt : v.length < 32 := by omega
    obtain ⟨a, b, d, e, f, g⟩ := hl
    have : t2 = 0 ∨ t2 = 1 ∨ t2 = 2 ∨ t2 = 3 ∨ t2 = 4 ∨ t2 = 5 := by dsimp only at h1; omega
    rcases this with rfl | rfl | rfl | rfl | rfl | rfl
    · show CK (f2_push c (c 13 5)) (l 0 :: v) ∧ _
      rw [← a]; exact push_ck hc hlt _
    · show CK (f2_push c (c 13 6)) (l 1 :: v) ∧ _
      rw [← b]; exact push_ck hc hlt _
    · show CK (f2_push c (c 13 7)) (l 2 :: v) ∧ _
      rw [← d]; exact push_ck hc hlt _
    · show CK (f2_push c (c 13 8)) (l 3 :: v) ∧ _
      rw [← e]; exact push_ck hc hlt _
    · show CK (f2_push c (c 13 9)) (l 4 :: v) ∧ _
      rw [← f]; exact push_ck hc hlt _
    · show CK (f2_push c (c 13 10)) (l 5 :: v) ∧ _
      rw [← g]; exact push_ck hc hlt _
  · rcases v with _ | ⟨x, v⟩
    · exact hv.elim
    · obtain ⟨a1, a2, a3⟩ := pop_ck hc
      have hl := hc.2.2
      rw [List.length_cons] at hl
      show CK (f2_push (f2_pop c).2 ((1 : Int32) - (f2_pop c).1)) (((1 : Int32) - x) :: v) ∧ KF c (f2_push (f2_pop c).2 ((1 : Int32) - (f2_pop c).1))
      rw [a1]
      obtain ⟨d1, d2⟩ := push_ck a2 (by omega) ((1 : Int32) - x)
      exact ⟨d1, KF_tr a3 d2⟩
  · rcases v with _ | ⟨x, _ | ⟨y, v⟩⟩
    · exact hv.elim
    · exact hv.2.2.elim
    · obtain ⟨h1, h2, h3, h4, h5⟩ := hv
      rcases ht with rfl | rfl | rfl | rfl
      · have := work_bin hc 43; rw [(wk_2 y x).1] at this; exact this
      · have := work_bin hc 45; rw [(wk_3 y x).1] at this; exact this
      · have := work_bin hc 42; rw [(wk_4 y x).1] at this; exact this
      · have := work_bin hc 47; rw [(wk_5 h3).1] at this; exact this
  · rcases v with _ | ⟨x, _ | ⟨y, v⟩⟩
    · exact hv.elim
    · exact hv.2.2.elim
    · rcases ht with rfl | rfl | rfl
      · have := work_bin hc 61; rw [(wk_6 y x).1] at this; exact this
      · have := work_bin hc 60; rw [(wk_7 y x).1] at this; exact this
      · have := work_bin hc 62; rw [(wk_8 y x).1] at this; exact this
  · rcases v with _ | ⟨x, _ | ⟨y, v⟩⟩
    · exact hv.elim
    · exact hv.2.2.elim
    · obtain ⟨h1, h2, h3, h4, h5⟩ := hv
      rcases ht with rfl | rfl
      · have := work_bin hc 38; rw [(wk_10 (h4 rfl) (h2 rfl)).1] at this; exact this
      · have := work_bin hc 124; rw [(wk_11 (h4 rfl) (h2 rfl)).1] at this; exact this
/-- a token's number: a number is not below 0, others are; none is ; or ? -/
theorem ce_num {t : Nat × Nat} (h : t.1 = 0) : ce t = nI t.2 := if_pos h
theorem ce_neg {M : Nat} {t : Nat × Nat} {s s' : List Bool} (h : stp M t s = some s') (h0 : t.1 ≠ 0) : ce t < 0 ∧ ce t ≠ -59 ∧ ce t ≠ -63 := by
  rcases stp_cases h with ⟨q, -⟩ | ⟨q, h1, -⟩ | ⟨rfl, -⟩ | ⟨ht, -⟩ | ⟨ht, -⟩ | ⟨ht, -⟩
  · exact absurd q h0
  · obtain ⟨t1, t2⟩ := t
    obtain rfl : t1 = 1 := q
    have : t2 = 0 ∨ t2 = 1 ∨ t2 = 2 ∨ t2 = 3 ∨ t2 = 4 ∨ t2 = 5 := by dsimp only at h1; omega
    rcases this with rfl | rfl | rfl | rfl | rfl | rfl <;> exact ⟨by decide, by decide, by decide⟩
  · exact ⟨by decide, by decide, by decide⟩
  · rcases ht with rfl | rfl | rfl | rfl <;> exact ⟨by decide, by decide, by decide⟩
  · rcases ht with rfl | rfl | rfl <;> exact ⟨by decide, by decide, by decide⟩
  · rcases ht with rfl | rfl <;> exact ⟨by decide, by decide, by decide⟩
theorem ce_ne {M : Nat} {t : Nat × Nat} {s s' : List Bool} (h : stp M t s = some s') : ce t ≠ -59 ∧ ce t ≠ -63 := by
  by_cases h0 : t.1 = 0
  · rw [ce_num h0]
    have : t.2 < 10000 := by
      rcases stp_cases h with ⟨-, q, -⟩ | ⟨q, -⟩ | ⟨rfl, -⟩ | ⟨ht, -⟩ | ⟨ht, -⟩ | ⟨ht, -⟩
      · exact q
      · omega
      · cases h0
      · rcases ht with rfl | rfl | rfl | rfl <;> cases h0
      · rcases ht with rfl | rfl | rfl <;> cases h0
      · rcases ht with rfl | rfl <;> cases h0
    have hp := nI_pos (n := t.2) (by omega)
    exact ⟨fun e => hp (by rw [e]; decide), fun e => hp (by rw [e]; decide)⟩
  · exact (ce_neg h h0).2
theorem sign_at {K i : Nat} {c : SI} (h : i < 240) : f1_signAt K c (nI i) = c (K + 1) i := by
  unfold f1_signAt f11_cell
  rw [if_neg (nI_pos (by omega)), if_neg (show ¬ Int32.ofNat 240 ≤ nI i from nI_ge (b := 240) h (by decide)), nI_clamp (by omega)]
theorem tyc_cons {M : Nat} {t : Nat × Nat} {l : List (Nat × Nat)} {s s' : List Bool} (h : tyc M (t :: l) s = some s') : ∃ s1, stp M t s = some s1 ∧ tyc M l s1 = some s' := by
  change (stp M t s).bind (tyc M l) = some s' at h
  cases hs : stp M t s with
  | none => rw [hs] at h; cases h
  | some s1 => rw [hs] at h; exact ⟨s1, rfl, h⟩
theorem run_c {K M len : Nat} {ℓ : Nat → Int32} (hM : M ≤ 32) (hlen : len ≤ 240) (k1 : K ≠ 13) (k2 : K ≠ 15) (k3 : K + 1 ≠ 13) (k4 : K + 1 ≠ 15) (hl : ∀ j, j < 6 → R6 (ℓ j)) : ∀ (l : List (Nat × Nat)) (s s' : List Bool) (v : List Int32) (i : Nat) (c : SI) (fu : Nat), tyc M l s = some s' → TY s v → CK c v → LC c ℓ → c K 1 = nI len → i + l.length ≤ len → (∀ j x, l[j]? = some x → c (K + 1) (i + j) = ce x) →
    ∃ c', f2_worthBy_c9 K (fu + l.length) 0 (nI i) c = f2_worthBy_c9 K fu 0 (nI (i + l.length)) c' ∧ CK c' (evs ℓ l v) ∧ KF c c' ∧ TY s' (evs ℓ l v) := by
  intro l
  induction l with
  | nil =>
    intro s s' v i c fu h hv hc hL hk hi hx
    cases h
    exact ⟨c, rfl, hc, KF_rf c, hv⟩
  | cons t l ih =>
    intro s s' v i c fu h hv hc hL hk hi hx
    obtain ⟨s1, h1, h2⟩ := tyc_cons h
    rw [List.length_cons] at hi
    have hs : f1_signAt K c (nI i) = ce t := by
      rw [sign_at (by omega)]
      exact hx 0 t rfl
    have hz : f1_size K c = nI len := hk
    have hne := ce_ne h1
    have hv1 := ev1_ty h1 hv hl
    have hlen2 := TY_len s v hv
    have step : ∃ c1, f2_worthBy_c9 K (fu + (t :: l).length) 0 (nI i) c = f2_worthBy_c9 K (fu + l.length) 0 (nI (i + 1)) c1 ∧ CK c1 (ev1 ℓ t v) ∧ KF c c1 := by
      rw [List.length_cons, ← Nat.add_assoc, f2_worthBy_c9, hz, if_neg (nI_ge (by omega) (by omega)), if_pos rfl, hs, if_neg hne.1, if_neg hne.2]
      by_cases h0 : t.1 = 0
      · have hp : ¬ ce t < 0 := by
          rw [ce_num h0]
          rcases stp_cases h1 with ⟨-, q, -⟩ | ⟨q, -⟩ | ⟨rfl, -⟩ | ⟨ht, -⟩ | ⟨ht, -⟩ | ⟨ht, -⟩
          · exact nI_pos (by omega)
          · omega
          · cases h0
          · rcases ht with rfl | rfl | rfl | rfl <;> cases h0
          · rcases ht with rfl | rfl | rfl <;> cases h0
          · rcases ht with rfl | rfl <;> cases h0
        have hlt : v.length < 32 := by
          rcases stp_cases h1 with ⟨-, -, q, -⟩ | ⟨q, -⟩ | ⟨rfl, -⟩ | ⟨ht, -⟩ | ⟨ht, -⟩ | ⟨ht, -⟩
          · omega
          · omega
          · cases h0
          · rcases ht with rfl | rfl | rfl | rfl <;> cases h0
          · rcases ht with rfl | rfl | rfl <;> cases h0
          · rcases ht with rfl | rfl <;> cases h0
        rw [if_neg hp, ce_num h0]
        obtain ⟨p1, p2⟩ := push_ck hc hlt (nI t.2)
        have e : ev1 ℓ t v = nI t.2 :: v := by unfold ev1; rw [if_pos h0]
        rw [e]
        exact ⟨_, by rw [nI_succ], p1, p2⟩
      · obtain ⟨p1, p2⟩ := work_tok h1 hM hv hc hL h0
        rw [if_pos (ce_neg h1 h0).1]
        exact ⟨_, by rw [nI_succ], p1, p2⟩
    obtain ⟨c1, e1, p1, p2⟩ := step
    have hk1 : c1 (K + 1) = c (K + 1) := p2.1 _ k3 k4
    obtain ⟨c', e2, q1, q2, q3⟩ := ih s1 s' (ev1 ℓ t v) (i + 1) c1 fu h2 hv1 p1 (LC_kf hL p2) (by rw [p2.1 _ k1 k2]; exact hk) (by omega) (fun j x hj => by rw [hk1, show i + 1 + j = i + (j + 1) by omega]; exact hx (j + 1) x hj)
    refine ⟨c', ?_, q1, KF_tr p2 q2, q3⟩
    rw [e1, e2, List.length_cons, show i + 1 + l.length = i + (l.length + 1) by omega]
theorem skip_c {K len : Nat} (hlen : len ≤ 240) : ∀ (l : List Int32) (i : Nat) (c : SI) (fu : Nat), (∀ x ∈ l, x ≠ -59) → c K 1 = nI len → i + l.length ≤ len → (∀ j x, l[j]? = some x → c (K + 1) (i + j) = x) → f2_worthBy_c9 K (fu + l.length) 1 (nI i) c = f2_worthBy_c9 K fu 1 (nI (i + l.length)) c := by
  intro l
  induction l with
  | nil => intro i c fu h hk hi hx; rfl
  | cons t l ih =>
    intro i c fu h hk hi hx
    rw [List.length_cons] at hi
    have hs : f1_signAt K c (nI i) = t := by rw [sign_at (by omega)]; exact hx 0 t rfl
    have hz : f1_size K c = nI len := hk
    rw [List.length_cons, ← Nat.add_assoc, f2_worthBy_c9, hz, if_neg (nI_ge (by omega) (by omega)), if_neg (by decide), hs, if_neg (h t List.mem_cons_self), ← nI_succ, ih (i + 1) c fu (fun x hx' => h x (List.mem_cons_of_mem _ hx')) hk (by omega) (fun j x hj => by rw [show i + 1 + j = i + (j + 1) by omega]; exact hx (j + 1) x hj), show i + 1 + l.length = i + (l.length + 1) by omega]
def tp (v : List Int32) : Int32 := v.headD 0
noncomputable def wL (ℓ : Nat → Int32) : LW → Int32
  | [] => 0
  | q :: r => if q.1 = [] ∨ ¬ tp (evs ℓ q.1 []) = 0 then tp (evs ℓ q.2 []) else wL ℓ r
def LWok (L : LW) : Prop := ∀ q ∈ L, (q.1 = [] ∨ tyc 18 q.1 [] = some [true]) ∧ tyc 18 q.2 [] = some [false]
theorem TY_one {b : Bool} {v : List Int32} (h : TY [b] v) : ∃ x, v = [x] := by
  rcases v with _ | ⟨x, _ | ⟨y, v⟩⟩
  · exact h.elim
  · exact ⟨x, rfl⟩
  · exact h.2.2.elim
theorem tyc_ne59 {M : Nat} : ∀ (l : List (Nat × Nat)) (s s' : List Bool), tyc M l s = some s' → ∀ x ∈ l.map ce, x ≠ -59 := by
  intro l
  induction l with
  | nil => intro s s' _ x hx; cases hx
  | cons t l ih =>
    intro s s' h x hx
    obtain ⟨s1, h1, h2⟩ := tyc_cons h
    rcases List.mem_cons.mp hx with rfl | hx
    · exact (ce_ne h1).1
    · exact ih s1 s' h2 x hx
theorem at_map {l : List (Nat × Nat)} {f : Nat → Int32} {i : Nat} (h : ∀ j x, (l.map ce)[j]? = some x → f (i + j) = x) : ∀ j x, l[j]? = some x → f (i + j) = ce x := fun j x hx => h j (ce x) (by rw [List.getElem?_map, hx]; rfl)
theorem at_left {a b : List Int32} {f : Nat → Int32} {i : Nat} (h : ∀ j x, (a ++ b)[j]? = some x → f (i + j) = x) : ∀ j x, a[j]? = some x → f (i + j) = x := fun j x hx => h j x (by rw [List.getElem?_append_left (List.getElem?_eq_some_iff.mp hx).1]; exact hx)
theorem at_right {a b : List Int32} {f : Nat → Int32} {i : Nat} (h : ∀ j x, (a ++ b)[j]? = some x → f (i + j) = x) : ∀ j x, b[j]? = some x → f (i + a.length + j) = x := fun j x hx => by
  rw [Nat.add_assoc]
  exact h _ x (by rw [List.getElem?_append_right (by omega), show a.length + j - a.length = j by omega]; exact hx)
theorem pop_end {K len i fu : Nat} {c : SI} {x : Int32} (hk : c K 1 = nI len) (hlen : len ≤ 240) (hi : i < len) (h59 : c (K + 1) i = -59) (hc : CK c [x]) : ∃ c', f2_worthBy_c9 K (fu + 1) 0 (nI i) c = (x, c') ∧ KF c c' := by
  obtain ⟨a1, a2, a3⟩ := pop_ck hc
  have hz : f1_size K c = nI len := hk
  rw [f2_worthBy_c9, hz, if_neg (nI_ge (by omega) (by omega)), if_pos rfl, sign_at (by omega), h59, if_pos rfl]
  exact ⟨(f2_pop c).2, by rw [← a1], a3⟩
theorem law_c {K len : Nat} {ℓ : Nat → Int32} (hlen : len ≤ 240) (k1 : K ≠ 13) (k2 : K ≠ 15) (k3 : K + 1 ≠ 13) (k4 : K + 1 ≠ 15) (hl : ∀ j, j < 6 → R6 (ℓ j)) : ∀ (L : LW) (i : Nat) (c : SI) (fu : Nat), LWok L → CK c [] → LC c ℓ → c K 1 = nI len → i + (cwL L).length = len → (cwL L).length < fu → (∀ j x, (cwL L)[j]? = some x → c (K + 1) (i + j) = x) → ∃ c', f2_worthBy_c9 K fu 0 (nI i) c = (wL ℓ L, c') ∧ KF c c' := by
  intro L
  induction L with
  | nil =>
    intro i c fu hok hc hL hk hi hf hx
    obtain ⟨f, rfl, -⟩ := fu_pos hf
    have hz : f1_size K c = nI len := hk
    have e : i = len := hi
    rw [f2_worthBy_c9, hz, e, if_pos (nI_le (Nat.le_refl _) (by omega))]
    exact ⟨c, rfl, KF_rf c⟩
  | cons q L ih =>
    intro i c fu hok hc hL hk hi hf hx
    obtain ⟨cd, sm⟩ := q
    have ecw : cwL ((cd, sm) :: L) = cw cd sm ++ ([-59] ++ cwL L) := by unfold cwL; simp
    have lcw : (cwL ((cd, sm) :: L)).length = (cw cd sm).length + (1 + (cwL L).length) := by rw [ecw, List.length_append, List.length_append]; rfl
    rw [lcw] at hi hf
    rw [ecw] at hx
    obtain ⟨hq1, hq2⟩ := hok _ List.mem_cons_self
    dsimp only at hq1 hq2
    have hxl := at_left hx
    have hxr := at_right hx
    by_cases hcd : cd = []
    · have ec : cw cd sm = sm.map ce := if_pos hcd
      rw [ec] at hxl hxr hi hf
      rw [List.length_map] at hxr hi hf
      obtain ⟨f, rfl⟩ : ∃ f, fu = f + 1 + sm.length := ⟨fu - 1 - sm.length, by omega⟩
      obtain ⟨c1, e1, p1, p2, p3⟩ := run_c (M := 18) (by decide) hlen k1 k2 k3 k4 hl sm [] [false] [] i c (f + 1) hq2 trivial hc hL hk (by omega) (at_map hxl)
      obtain ⟨x, ex⟩ := TY_one p3
      rw [ex] at p1
      obtain ⟨c2, e2, p4⟩ := pop_end (fu := f) (c := c1) (i := i + sm.length) (by rw [p2.1 _ k1 k2]; exact hk) hlen (by omega) (by rw [p2.1 _ k3 k4]; exact hxr 0 (-59) rfl) p1
      refine ⟨c2, ?_, KF_tr p2 p4⟩
      rw [e1, e2]
      show (x, c2) = (wL ℓ ((cd, sm) :: L), c2)
      unfold wL
      rw [if_pos (Or.inl hcd)]
      show (x, c2) = (tp (evs ℓ sm []), c2)
      rw [ex]; rfl
    · have ec : cw cd sm = cd.map ce ++ ((-63 : Int32) :: sm.map ce) := if_neg hcd
      rw [ec] at hxl hxr hi hf
      rw [List.length_append, List.length_cons, List.length_map, List.length_map] at hxr hi hf
      have hq1 : tyc 18 cd [] = some [true] := hq1.resolve_left hcd
      have hxa := at_left hxl
      have hxb := at_right hxl
      rw [List.length_map] at hxb
      obtain ⟨f, rfl⟩ : ∃ f, fu = f + 1 + sm.length + 1 + cd.length := ⟨fu - 1 - sm.length - 1 - cd.length, by omega⟩
      obtain ⟨c1, e1, p1, p2, p3⟩ := run_c (M := 18) (by decide) hlen k1 k2 k3 k4 hl cd [] [true] [] i c (f + 1 + sm.length + 1) hq1 trivial hc hL hk (by omega) (at_map hxa)
      obtain ⟨x, ex⟩ := TY_one p3
      rw [ex] at p1
      have hk1 : c1 K 1 = nI len := by rw [p2.1 _ k1 k2]; exact hk
      have hz1 : f1_size K c1 = nI len := hk1
      have h63 : c1 (K + 1) (i + cd.length) = -63 := by rw [p2.1 _ k3 k4]; exact hxb 0 (-63) rfl
      obtain ⟨a1, a2, a3⟩ := pop_ck p1
      have st : f2_worthBy_c9 K (f + 1 + sm.length + 1) 0 (nI (i + cd.length)) c1 = if x = 0 then f2_worthBy_c9 K (f + 1 + sm.length) 1 (nI (i + cd.length) + 1) (f2_pop c1).2 else f2_worthBy_c9 K (f + 1 + sm.length) 0 (nI (i + cd.length) + 1) (f2_pop c1).2 := by
        rw [f2_worthBy_c9, hz1, if_neg (nI_ge (by omega) (by omega)), if_pos rfl, sign_at (by omega), h63, if_neg (by decide), if_pos rfl]
        dsimp only
        rw [a1]
      have kf2 := KF_tr p2 a3
      have hk2 : (f2_pop c1).2 K 1 = nI len := by rw [kf2.1 _ k1 k2]; exact hk
      have hcc : (f2_pop c1).2 (K + 1) = c (K + 1) := kf2.1 _ k3 k4
      have hxs : ∀ j x, (sm.map ce)[j]? = some x → (f2_pop c1).2 (K + 1) (i + cd.length + 1 + j) = x := fun j x hj => by
        rw [hcc, show i + cd.length + 1 + j = i + cd.length + (j + 1) by omega]
        exact hxb (j + 1) x hj
      have h59 : (f2_pop c1).2 (K + 1) (i + cd.length + 1 + sm.length) = -59 := by
        have := hxr 0 (-59) rfl
        rw [hcc, show i + cd.length + 1 + sm.length = i + (cd.length + (sm.length + 1)) + 0 by omega]
        exact this
      by_cases hx0 : x = 0
      · rw [if_pos hx0, nI_1] at st
        have sk := skip_c (K := K) hlen (sm.map ce) (i + cd.length + 1) (f2_pop c1).2 (f + 1) (tyc_ne59 sm [] _ hq2) hk2 (by rw [List.length_map]; omega) hxs
        rw [List.length_map] at sk
        have sk2 : f2_worthBy_c9 K (f + 1) 1 (nI (i + cd.length + 1 + sm.length)) (f2_pop c1).2 = f2_worthBy_c9 K f 0 (nI (i + cd.length + 1 + sm.length) + 1) (f2_pop c1).2 := by
          have hz2 : f1_size K (f2_pop c1).2 = nI len := hk2
          rw [f2_worthBy_c9, hz2, if_neg (nI_ge (by omega) (by omega)), if_neg (by decide), sign_at (by omega), h59, if_pos rfl]
        rw [nI_1] at sk2
        obtain ⟨c2, e2, p4⟩ := ih (i + cd.length + 1 + sm.length + 1) (f2_pop c1).2 f (fun q hq => hok q (List.mem_cons_of_mem _ hq)) a2 (LC_kf hL kf2) hk2 (by omega) (by omega) (fun j y hj => by
          have := hxr (1 + j) y (by rw [List.getElem?_append_right (by show 1 ≤ 1 + j; omega)]; show (cwL L)[1 + j - 1]? = _; rw [show 1 + j - 1 = j by omega]; exact hj)
          rw [hcc, show i + cd.length + 1 + sm.length + 1 + j = i + (cd.length + (sm.length + 1)) + (1 + j) by omega]
          exact this)
        refine ⟨c2, ?_, KF_tr kf2 p4⟩
        rw [e1, st, sk, sk2, e2]
        show _ = (wL ℓ ((cd, sm) :: L), c2)
        conv => rhs; unfold wL
        rw [if_neg]
        intro hor
        rcases hor with h | h
        · exact hcd h
        · dsimp only at h; rw [ex] at h; exact h hx0
      · rw [if_neg hx0, nI_1] at st
        obtain ⟨c2, e2, p4, p5, p6⟩ := run_c (M := 18) (by decide) hlen k1 k2 k3 k4 hl sm [] [false] [] (i + cd.length + 1) (f2_pop c1).2 (f + 1) hq2 trivial a2 (LC_kf hL kf2) hk2 (by omega) (at_map hxs)
        obtain ⟨y, ey⟩ := TY_one p6
        rw [ey] at p4
        obtain ⟨c3, e3, p7⟩ := pop_end (fu := f) (c := c2) (i := i + cd.length + 1 + sm.length) (by rw [p5.1 _ k1 k2]; exact hk2) hlen (by omega) (by rw [p5.1 _ k3 k4]; exact h59) p4
        refine ⟨c3, ?_, KF_tr (KF_tr kf2 p5) p7⟩
        rw [e1, st, e2, e3]
        show (y, c3) = (wL ℓ ((cd, sm) :: L), c3)
        unfold wL
        rw [if_pos (Or.inr (by dsimp only; rw [ex]; exact hx0))]
        show (y, c3) = (tp (evs ℓ sm []), c3)
        rw [ey]; rfl
