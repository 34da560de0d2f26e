/-! reading a town: the items of a clause -/
def kS (κ : Nat) : Nat := if κ = 0 then 115 else if κ = 1 then 104 else 98
def kN (κ : Nat) : Nat := if κ = 0 then 3 else if κ = 1 then 4 else 1
def kF (κ : Nat) : Nat := if κ = 0 then 0 else if κ = 1 then 3 else 7
def kLo (κ k : Nat) : Nat := if κ = 0 then (if k = 0 then 1 else 0) else if κ = 1 then 0 else 1
def kHi (κ k : Nat) : Nat := if κ = 0 then (if k = 2 then 9 else 99) else if κ = 1 then (if k = 2 then 30 else if k = 3 then 1 else 9) else 40
def kU (κ k : Nat) : Nat := if κ = 0 then (if k = 0 then 60 else if k = 1 then 20 else 2) else if κ = 1 then (if k = 2 then 5 else 0) else 20
theorem k_items : ∀ κ, κ < 3 → f11_cellS 3 (nI κ) = nI (kN κ) ∧ f11_cellS 4 (nI κ) = nI (kF κ) ∧ kN κ ≤ 4 ∧ 1 ≤ kN κ := by decide +kernel
theorem k_b1 : ∀ κ, κ < 3 → ∀ k, k < 4 → k < kN κ → f11_cellS 6 (nI (kF κ + k)) = nI (kLo κ k) ∧ f11_cellS 7 (nI (kF κ + k)) = nI (kHi κ k) ∧ f11_cellS 8 (nI (kF κ + k)) = nI (kU κ k) := by decide +kernel
theorem k_b2 : ∀ κ, κ < 3 → ∀ k, k < 4 → k < kN κ → f12_lowest (nI (kS κ)) (nI k) = nI (kLo κ k) ∧ f12_highest (nI (kS κ)) (nI k) = nI (kHi κ k) ∧ f12_usual (nI (kS κ)) (nI k) = nI (kU κ k) := by decide +kernel
theorem k_b3 : ∀ κ, κ < 3 → ∀ k, k < 4 → k < kN κ → kLo κ k ≤ kU κ k ∧ kU κ k ≤ kHi κ k ∧ kHi κ k ≤ 99 := by decide +kernel
theorem k_bounds (κ : Nat) (h : κ < 3) (k : Nat) (h4 : k < 4) (hk : k < kN κ) : f11_cellS 6 (nI (kF κ + k)) = nI (kLo κ k) ∧ f11_cellS 7 (nI (kF κ + k)) = nI (kHi κ k) ∧ f11_cellS 8 (nI (kF κ + k)) = nI (kU κ k) ∧ f12_lowest (nI (kS κ)) (nI k) = nI (kLo κ k) ∧ f12_highest (nI (kS κ)) (nI k) = nI (kHi κ k) ∧ f12_usual (nI (kS κ)) (nI k) = nI (kU κ k) ∧ kLo κ k ≤ kU κ k ∧ kU κ k ≤ kHi κ k ∧ kHi κ k ≤ 99 := by
  obtain ⟨a1, a2, a3⟩ := k_b1 κ h k h4 hk
  obtain ⟨a4, a5, a6⟩ := k_b2 κ h k h4 hk
  exact ⟨a1, a2, a3, a4, a5, a6, k_b3 κ h k h4 hk⟩
theorem io_step (x0 x1 : Int32) {n f v fu : Nat} (h3 : f11_cellS 3 x0 = nI n) (h4 : f11_cellS 4 x0 = nI f) (hv : v < n) (hn : n < 100) : f9_itemOf_c2 x0 x1 (fu + 1) (nI v) = if f11_cellS 5 (nI (f + v)) = x1 then nI v else f9_itemOf_c2 x0 x1 fu (nI (v + 1)) := by
  rw [f9_itemOf_c2, h3, h4, if_neg (nI_ge hv (by omega)), nI_add, show nI v + 1 = nI (v + 1) from nI_add v 1]
theorem io_end (x0 x1 : Int32) {n fu : Nat} (h3 : f11_cellS 3 x0 = nI n) (hn : n < 100) : f9_itemOf_c2 x0 x1 (fu + 1) (nI n) = -1 := by
  rw [f9_itemOf_c2, h3, if_pos (nI_le (Nat.le_refl _) (by omega))]
def ITM (κ : Nat) (x : Int32) : Prop := (f9_itemOf (nI κ) x = -1 ∧ f12_itemOf (nI (kS κ)) x = -1) ∨ ∃ k, k < kN κ ∧ f9_itemOf (nI κ) x = nI k ∧ f12_itemOf (nI (kS κ)) x = nI k ∧ x ≠ -1 ∧ x ≠ 59
theorem item0 (x : Int32) : ITM 0 x := by
  have h3 : f11_cellS 3 (nI 0) = nI 3 := by decide +kernel
  have h4 : f11_cellS 4 (nI 0) = nI 0 := by decide +kernel
  have a0 : f11_cellS 5 (nI (0 + 0)) = 116 := by decide +kernel
  have a1 : f11_cellS 5 (nI (0 + 1)) = 99 := by decide +kernel
  have a2 : f11_cellS 5 (nI (0 + 2)) = 101 := by decide +kernel
  have e : f9_itemOf (nI 0) x = if 116 = x then nI 0 else if 99 = x then nI 1 else if 101 = x then nI 2 else -1 := by
    unfold f9_itemOf
    rw [h3, fu_bd (by decide)]
    have := io_step (nI 0) x (v := 0) (fu := 3) h3 h4 (by decide) (by decide)
    rw [io_step (nI 0) x (v := 1) (fu := 2) h3 h4 (by decide) (by decide), io_step (nI 0) x (v := 2) (fu := 1) h3 h4 (by decide) (by decide), io_end (nI 0) x (fu := 0) h3 (by decide), a0, a1, a2] at this
    exact this
  have e2 : f12_itemOf (nI (kS 0)) x = if x = 116 then 0 else if x = 99 then 1 else if x = 101 then 2 else -1 := by
    unfold f12_itemOf
    rw [if_neg (by decide), if_pos (by decide)]
  unfold ITM
  rw [e, e2]
  by_cases q0 : x = 116
  · subst q0; exact Or.inr ⟨0, by decide, rfl, rfl, by decide, by decide⟩
  by_cases q1 : x = 99
  · subst q1; exact Or.inr ⟨1, by decide, rfl, rfl, by decide, by decide⟩
  by_cases q2 : x = 101
  · subst q2; exact Or.inr ⟨2, by decide, rfl, rfl, by decide, by decide⟩
  rw [if_neg (fun h => q0 h.symm), if_neg (fun h => q1 h.symm), if_neg (fun h => q2 h.symm), if_neg q0, if_neg q1, if_neg q2]
  exact Or.inl ⟨rfl, rfl⟩
theorem item1 (x : Int32) : ITM 1 x := by
  have h3 : f11_cellS 3 (nI 1) = nI 4 := by decide +kernel
  have h4 : f11_cellS 4 (nI 1) = nI 3 := by decide +kernel
  have a0 : f11_cellS 5 (nI (3 + 0)) = 120 := by decide +kernel
  have a1 : f11_cellS 5 (nI (3 + 1)) = 121 := by decide +kernel
  have a2 : f11_cellS 5 (nI (3 + 2)) = 103 := by decide +kernel
  have a3 : f11_cellS 5 (nI (3 + 3)) = 113 := by decide +kernel
  have e : f9_itemOf (nI 1) x = if 120 = x then nI 0 else if 121 = x then nI 1 else if 103 = x then nI 2 else if 113 = x then nI 3 else -1 := by
    unfold f9_itemOf
    rw [h3, fu_bd (by decide)]
    have := io_step (nI 1) x (v := 0) (fu := 4) h3 h4 (by decide) (by decide)
    rw [io_step (nI 1) x (v := 1) (fu := 3) h3 h4 (by decide) (by decide), io_step (nI 1) x (v := 2) (fu := 2) h3 h4 (by decide) (by decide), io_step (nI 1) x (v := 3) (fu := 1) h3 h4 (by decide) (by decide), io_end (nI 1) x (fu := 0) h3 (by decide), a0, a1, a2, a3] at this
    exact this
  have e2 : f12_itemOf (nI (kS 1)) x = if x = 120 then 0 else if x = 121 then 1 else if x = 103 then 2 else if x = 113 then 3 else -1 := by
    unfold f12_itemOf
    rw [if_pos (by decide)]
  unfold ITM
  rw [e, e2]
  by_cases q0 : x = 120
  · subst q0; exact Or.inr ⟨0, by decide, rfl, rfl, by decide, by decide⟩
  by_cases q1 : x = 121
  · subst q1; exact Or.inr ⟨1, by decide, rfl, rfl, by decide, by decide⟩
  by_cases q2 : x = 103
  · subst q2; exact Or.inr ⟨2, by decide, rfl, rfl, by decide, by decide⟩
  by_cases q3 : x = 113
  · subst q3; exact Or.inr ⟨3, by decide, rfl, rfl, by decide, by decide⟩
  rw [if_neg (fun h => q0 h.symm), if_neg (fun h => q1 h.symm), if_neg (fun h => q2 h.symm), if_neg (fun h => q3 h.symm), if_neg q0, if_neg q1, if_neg q2, if_neg q3]
  exact Or.inl ⟨rfl, rfl⟩
theorem item2 (x : Int32) : ITM 2 x := by
  have h3 : f11_cellS 3 (nI 2) = nI 1 := by decide +kernel
  have h4 : f11_cellS 4 (nI 2) = nI 7 := by decide +kernel
  have a0 : f11_cellS 5 (nI (7 + 0)) = 115 := by decide +kernel
  have e : f9_itemOf (nI 2) x = if 115 = x then nI 0 else -1 := by
    unfold f9_itemOf
    rw [h3, fu_bd (by decide)]
    have := io_step (nI 2) x (v := 0) (fu := 1) h3 h4 (by decide) (by decide)
    rw [io_end (nI 2) x (fu := 0) h3 (by decide), a0] at this
    exact this
  have e2 : f12_itemOf (nI (kS 2)) x = if x = 115 then 0 else -1 := by
    unfold f12_itemOf
    rw [if_neg (by decide), if_neg (by decide)]
  unfold ITM
  rw [e, e2]
  by_cases q0 : x = 115
  · subst q0; exact Or.inr ⟨0, by decide, rfl, rfl, by decide, by decide⟩
  rw [if_neg (fun h => q0 h.symm), if_neg q0]
  exact Or.inl ⟨rfl, rfl⟩
theorem item_k {κ : Nat} (h : κ < 3) (x : Int32) : ITM κ x := by
  rcases (by omega : κ = 0 ∨ κ = 1 ∨ κ = 2) with rfl | rfl | rfl
  · exact item0 x
  · exact item1 x
  · exact item2 x
def IR (κ S A F : Nat) (c m : SI) : Prop := ∀ k, k < kN κ → c 5 (S + k) = m A (F + k) ∧ ∃ v, m A (F + k) = nI v ∧ kLo κ k ≤ v ∧ v ≤ kHi κ k
def IFr (κ S A F : Nat) (c m c' m' : SI) : Prop := ((∀ a, a ≠ 1 → a ≠ 5 → c' a = c a) ∧ (∀ j, j ≠ 2 → j ≠ 3 → c' 1 j = c 1 j) ∧ (∀ i, i < S ∨ S + kN κ ≤ i → c' 5 i = c 5 i)) ∧ (∀ a, a ≠ 123 → a ≠ A → m' a = m a) ∧ (∀ j, j ≠ 3 → j ≠ 4 → m' 123 j = m 123 j) ∧ (∀ i, i < F ∨ F + kN κ ≤ i → m' A i = m A i)
theorem IFr_tr {κ S A F : Nat} {c m c1 m1 c2 m2 : SI} (h1 : IFr κ S A F c m c1 m1) (h2 : IFr κ S A F c1 m1 c2 m2) : IFr κ S A F c m c2 m2 := by
  obtain ⟨⟨a1, a2, a3⟩, a4, a5, a6⟩ := h1
  obtain ⟨⟨b1, b2, b3⟩, b4, b5, b6⟩ := h2
  exact ⟨⟨fun a x y => (b1 a x y).trans (a1 a x y), fun j x y => (b2 j x y).trans (a2 j x y), fun i x => (b3 i x).trans (a3 i x)⟩, fun a x y => (b4 a x y).trans (a4 a x y), fun j x y => (b5 j x y).trans (a5 j x y), fun i x => (b6 i x).trans (a6 i x)⟩
theorem IFr_rf (κ S A F : Nat) (c m : SI) : IFr κ S A F c m c m := ⟨⟨fun _ _ _ => rfl, fun _ _ _ => rfl, fun _ _ => rfl⟩, fun _ _ _ => rfl, fun _ _ _ => rfl, fun _ _ => rfl⟩
theorem MV_IFr {κ S A F p : Nat} {c m c' m' : SI} (hA : A ≠ 123) (v : MV c m c' m' p) : IFr κ S A F c m c' m' := by
  obtain ⟨⟨x1, x2, x3⟩, y1, y2, y3⟩ := v
  exact ⟨⟨fun a x _ => x1 a x, fun j x _ => x2 j x, fun i _ => by rw [x1 5 (by decide)]⟩, fun a x _ => y1 a x, fun j x _ => y2 j x, fun i _ => by rw [y1 A hA]⟩
theorem HP_of {c m c' m' : SI} (h : HP c m) (c1 : c' 1 = c 1) (c2 : c' 2 = c 2) (m1 : m' 123 = m 123) (m2 : m' 124 = m 124) : HP c' m' ∧ hd c' = hd c ∧ ln c' = ln c ∧ xh c' = xh c := by
  have e1 : hd c' = hd c := by unfold hd; rw [c1]
  have e2 : ln c' = ln c := by unfold ln; rw [c1]
  refine ⟨?_, e1, e2, ?_⟩
  · unfold HP TP at h ⊢
    rw [e1, e2, c1, c2, m1, m2]
    exact h
  · unfold xh
    rw [e1, e2, c2]
/-- how the items of a clause end, on both sides -/
def IEND (κ S A F : Nat) (c m : SI) (r : Bool × SI) (m' : SI) : Prop := IFr κ S A F c m r.2 m' ∧ ((r.1 = true ∧ HP r.2 m' ∧ hd c ≤ hd r.2 ∧ IR κ S A F r.2 m' ∧ (xh r.2 = -1 ∨ xh r.2 = 59)) ∨ (r.1 = false ∧ ∃ cm, HP cm m' ∧ ln cm = ln c ∧ xh cm ≠ -1 ∧ xh cm ≠ 59 ∧ xh cm ≠ 32 ∧ r.2 1 3 = nI (hd cm)) ∨ (r.1 = false ∧ ∃ w, w ≤ ln c ∧ r.2 1 3 = nI w ∧ m' 123 4 = nI w))
theorem IEND_base {κ S A F : Nat} {c m c1 m1 : SI} {r : Bool × SI} {m' : SI} (f : IFr κ S A F c m c1 m1) (hh : hd c ≤ hd c1) (hl : ln c1 = ln c) (h : IEND κ S A F c1 m1 r m') : IEND κ S A F c m r m' := by
  obtain ⟨a, b⟩ := h
  refine ⟨IFr_tr f a, ?_⟩
  rcases b with ⟨b1, b2, b3, b4, b5⟩ | ⟨b1, cm, b2, b3, b4⟩ | ⟨b1, w, b2, b3⟩
  · exact Or.inl ⟨b1, b2, Nat.le_trans hh b3, b4, b5⟩
  · exact Or.inr (Or.inl ⟨b1, cm, b2, b3.trans hl, b4⟩)
  · exact Or.inr (Or.inr ⟨b1, w, by omega, b3⟩)
noncomputable def gK (A n : Nat) (ks F N : Int32) (fu : Nat) (x : Int32) (m : SI) : SI := f12_items_c41 A n ks F N (fun _ _ s => s) fu x (f12_itemOf ks (f12_look m).1) (f12_look m).2
def oK (A n : Nat) (ks F N : Int32) (fu : Nat) (x : Int32) (m : SI) : Prop := o12_look m ∧ o12_items_c41 A n ks F N (fun _ _ _ => True) fu x (f12_itemOf ks (f12_look m).1) (f12_look m).2
theorem items_in {κ S A F n : Nat} {N : Int32} (hκ : κ < 3) (hA : A ≠ 123) (hA2 : A ≠ 124) (hS : S + kN κ ≤ 36) (hF : F + kN κ ≤ n) (hn : n < 1000) : ∀ (fc fm v : Nat) (x : Int32) (c m : SI), HP c m → IR κ S A F c m → v ≤ cnt (bt x) (kN κ) → 4 < v + fc → ln c - hd c + 2 ≤ fm → IEND κ S A F c m (f9_readsClause_c48 (nI κ) (nI S) fc x (nI v) c) (gK A n (nI (kS κ)) (nI F) N fm x m) ∧ oK A n (nI (kS κ)) (nI F) N fm x m := by
  obtain ⟨n3, n4, n5, n6⟩ := k_items κ hκ
  intro fc
  induction fc with
  | zero => intro fm v x c m _ _ h1 h2; have := cnt_le (bt x) (kN κ); omega
  | succ fc ih =>
    intro fm v x c m h hI h1 h2 h3
    have hv : v ≤ 4 := by have := cnt_le (bt x) (kN κ); omega
    obtain ⟨c1, m1, p, r1, r2, r3, r4, r5, r6, r7, r8, r9, r10⟩ := peek h
    have hL := h.1.2.2.1
    obtain ⟨fm, rfl, _⟩ := fu_pos (n := 0) (fu := fm) (by omega)
    have f1 : IFr κ S A F c m c1 m1 := MV_IFr hA r3
    have I1 : IR κ S A F c1 m1 := fun k hk => by rw [r3.1.1 5 (by decide), r3.2.1 A hA]; exact hI k hk
    have w1 : m1 123 4 = -1 := r8.2.2.2.2
    unfold gK oK
    rw [f9_readsClause_c48, r1, r2]
    dsimp only
    rw [if_neg (show ¬ (4 : Int32) < nI v from nI_nlt (a := 4) (b := v) hv (by decide)), f12_items_c41, o12_items_c41, if_pos w1, if_pos w1]
    have fin0 : (xh c1 = -1 ∨ xh c1 = 59) → IEND κ S A F c m (true, c1) m1 := fun e => ⟨f1, Or.inl ⟨rfl, r8, (show hd c ≤ hd c1 by omega), I1, e⟩⟩
    have soft : xh c1 ≠ -1 → xh c1 ≠ 59 → IEND κ S A F c m (f7_fails c1) m1 := fun y1 y2 => by
      rw [fails_at r8]
      have fs : IFr κ S A F c1 m1 (sp c1 1 3 (nI (hd c1))) m1 := ⟨⟨fun a u _ => sp_n u, fun j _ w => sp_k w, fun i _ => by rw [sp_n (by decide)]⟩, fun _ _ _ => rfl, fun _ _ _ => rfl, fun _ _ => rfl⟩
      have fv : (sp c1 1 3 (nI (hd c1))) 1 3 = nI (hd c1) := sp_r
      exact ⟨IFr_tr f1 fs, Or.inr (Or.inl ⟨rfl, c1, r8, r10, y1, y2, r7, fv⟩)⟩
    rcases item_k hκ (xh c1) with ⟨t1, t2⟩ | ⟨k, hk, t1, t2, y1, y2⟩
    · rw [t1, t2, if_pos rfl, if_pos rfl, if_pos rfl]
      by_cases z1 : xh c1 = -1
      · rw [if_pos z1]; exact ⟨fin0 (Or.inl z1), r6, trivial⟩
      · rw [if_neg z1]
        by_cases z2 : xh c1 = 59
        · rw [if_pos z2]; exact ⟨fin0 (Or.inr z2), r6, trivial⟩
        · rw [if_neg z2]; exact ⟨soft z1 z2, r6, trivial⟩
    · have nk : ¬ nI k = -1 := nI_ne_m1 (by omega)
      have hb : f11_hasBit x (nI k) = bt x k := (bit_same (by omega)).trans (has_bt x (by omega))
      rw [if_neg y1, if_neg y2, t1, t2, if_neg nk, if_neg nk, if_neg nk, hb, has_bt x (by omega)]
      by_cases b : bt x k = true
      · rw [if_pos b, if_pos b, if_pos b]
        exact ⟨soft y1 y2, r6, trivial⟩
      · rw [if_neg b, if_neg b, if_neg b]
        obtain ⟨v2, q2, H2, e2, l2⟩ := MV_pass r3 r8 r9 y1
        have f2 : IFr κ S A F c m (f7_pass c1) (sp m1 123 3 (m1 123 3 + 1)) := MV_IFr hA v2
        have I2 : IR κ S A F (f7_pass c1) (sp m1 123 3 (m1 123 3 + 1)) := fun k hk => by rw [v2.1.1 5 (by decide), v2.2.1 A hA]; exact hI k hk
        generalize f7_pass c1 = c2 at v2 H2 e2 l2 f2 I2
        generalize sp m1 123 3 (m1 123 3 + 1) = m2 at v2 H2 f2 I2
        obtain ⟨b1, b2, b3, b4, b5, b6, b7, b8, b9⟩ := k_bounds κ hκ k (by omega) hk
        have lo9 : kLo κ k ≤ 99 := by omega
        have hsl : nI S + nI k = nI (S + k) := nI_add S k
        have hFk : nI F + nI k = nI (F + k) := nI_add F k
        obtain ⟨⟨c3, m3, vv, p3, g1, g2, g3, g4⟩, g5⟩ := num2 (bb := nI (kF κ + k)) (slot := S + k) H2 b1 b2 lo9 b9 (by omega)
        rw [n4, hsl, hFk, nI_add, b4, b5]
        dsimp only
        rw [g1]
        dsimp only
        rw [nI_clamp (show F + k < 2 ^ 31 by omega)]
        have vpF : vp_in (nI (F + k)) n := vp_in_nI (by omega) (by omega)
        rcases g4 with ⟨V, eV, V1, V2, V3, V4, V5⟩ | ⟨V1, V2⟩
        · rw [V5, eV]
          dsimp only
          rw [if_pos rfl]
          obtain ⟨H3, e3, l3⟩ := MV_HP H2 V4 g3
          obtain ⟨H4, e4, l4, x4⟩ := HP_of (c' := sp c3 5 (S + k) (nI V)) (m' := sp m3 A (F + k) (nI V)) H3 (sp_n (by decide)) (sp_n (by decide)) (sp_n (by omega)) (sp_n (by omega))
          have f3 : IFr κ S A F c2 m2 (sp c3 5 (S + k) (nI V)) (sp m3 A (F + k) (nI V)) := by
            refine IFr_tr (MV_IFr hA V4) ⟨⟨fun a _ u => sp_n u, fun j _ _ => by rw [sp_n (by decide)], fun i u => sp_k (by omega)⟩, fun a _ u => sp_n u, fun j _ _ => by rw [sp_n (fun e => hA e.symm)], fun i u => sp_k (by omega)⟩
          have I4 : IR κ S A F (sp c3 5 (S + k) (nI V)) (sp m3 A (F + k) (nI V)) := fun i hi => by
            by_cases e : i = k
            · subst e
              rw [sp_r, sp_r]
              exact ⟨rfl, V, rfl, V1, V2⟩
            · rw [sp_k (by omega), sp_k (by omega), V4.1.1 5 (by decide), V4.2.1 A hA]
              exact I2 i hi
          have w4 : (sp m3 A (F + k) (nI V)) 123 4 = -1 := H4.2.2.2.2
          rw [if_pos w4, if_pos w4, show nI v + 1 = nI (v + 1) from nI_add v 1]
          have cn : v + 1 ≤ cnt (bt (x ||| ((1 : Int32) <<< (nI k &&& 31)))) (kN κ) := by
            have := cnt_less (p := bt (x ||| ((1 : Int32) <<< (nI k &&& 31)))) (q := bt x) (b := k) (kN κ) hk (fun i hi q => by rw [or_bt x (by omega) (by omega), q]; rfl) (by rw [or_bt x (by omega) (by omega), decide_eq_true rfl, Bool.or_true]) (Bool.eq_false_iff.mpr b)
            omega
          obtain ⟨i1, i2⟩ := ih fm (v + 1) (x ||| ((1 : Int32) <<< (nI k &&& 31))) _ _ H4 I4 cn (by omega) (by omega)
          exact ⟨IEND_base (IFr_tr f2 f3) (by omega) (by omega) i1, r6, g5, vpF, i2⟩
        · rw [V1]
          dsimp only
          rw [if_neg Bool.false_ne_true]
          obtain ⟨⟨x1, x2, x3⟩, z1, z2, z3, z4⟩ := V2
          have w4 : (sp m3 A (F + k) vv) 123 4 = nI p3 := by rw [sp_n (fun e => hA e.symm)]; exact z4
          have nw : ¬ (sp m3 A (F + k) vv) 123 4 = -1 := by rw [w4]; exact nI_ne_m1 (by omega)
          obtain ⟨fm, rfl, _⟩ := fu_pos (n := 0) (fu := fm) (by have := xh_lt r8 y1; omega)
          rw [if_neg nw, if_neg nw, f12_items_c41, o12_items_c41, if_neg nw, if_neg nw]
          have f4 : IFr κ S A F c2 m2 c3 (sp m3 A (F + k) vv) := ⟨⟨fun a u _ => x1 a u, x2, fun i _ => by rw [x1 5 (by decide)]⟩, fun a u w => by rw [sp_n w, z1 a u], fun j u w => by rw [sp_n (fun e => hA e.symm), z2 j u w], fun i u => by rw [sp_k (by omega), z1 A hA]⟩
          exact ⟨⟨IFr_tr f2 f4, Or.inr (Or.inr ⟨rfl, p3, by omega, x3, w4⟩)⟩, r6, g5, vpF, trivial⟩
