/-! house, faith, law, end, log, stood, seen, shorter, waits -/
def Hok (σ : SI) (x1 x2 : Int32) : Prop := f8_isHouse 10 σ x1 = true ∧ ¬ x2 < 0 ∧ x2 ≤ 4
noncomputable def hv (σ : SI) (x1 x2 : Int32) : Int32 := if x2 = 0 then f8_xOf 10 σ x1 else if x2 = 1 then f8_yOf 10 σ x1 else if x2 = 2 then f0_grievanceOf 24 σ x1 else if x2 = 3 then (if f8_isThankful 10 σ x1 = true then 1 else 0) else (if f0_wasAt 24 σ x1 = true then 1 else 0)
theorem and1_or (x : Int32) : x &&& 1 = 0 ∨ x &&& 1 = 1 := by
  obtain ⟨n, hn, e⟩ := bnd_nI (hi := 1) (and_bnd (x := x) (k := 1) (by decide))
  have : n = 0 ∨ n = 1 := by omega
  rcases this with rfl | rfl
  · exact Or.inl e
  · exact Or.inr e
theorem t_house {G : Nat} {c m : SI} (I : INV G c m) (x y : Int32) : ∃ v m', f12_house m x y = (v, m') ∧ o12_house m x y ∧ INV G c m' ∧ (∀ a, a ≠ 123 → m' a = m a) ∧ ((Hok c x y ∧ m' 123 0 = 0 ∧ v = hv c x y) ∨ (¬ Hok c x y ∧ m' 123 0 = 1)) := by
  obtain ⟨H, B, LL, hd, T, L, D⟩ := INV_pick I
  have hH := T.1
  have inv : ∀ z, INV G c (sp m 123 0 z) := fun z => INV_k I (KC_rf c) ⟨fun a q => sp_n (by omega), fun j q => sp_k (by omega)⟩ (Nat.le_refl _)
  have frm : ∀ z a, a ≠ 123 → (sp m 123 0 z) a = m a := fun z a q => sp_n q
  unfold f12_house o12_house
  rcases hse_or T x with ⟨h, hh, rfl, y1, y2⟩ | ⟨y1, y2, _⟩
  · rw [y2, if_pos rfl, if_pos rfl]
    rcases in_nat (x := y) (k := 4) (by decide) with ⟨j, hj, rfl, i1, i2, i3, _⟩ | ⟨i1, i2⟩ | ⟨i1, i2, i3, i4⟩
    · rw [show f12_in (nI j) 0 4 = true from i1, if_pos rfl, if_pos rfl]
      have hok : Hok c (nI h) (nI j) := ⟨y1, i2, i3⟩
      have vp : vp_in (0 + nI h) 255 := by rw [z_add]; exact vp_in_nI (by omega) (by decide)
      have oj : j = 0 ∨ j = 1 ∨ j = 2 ∨ j = 3 ∨ j = 4 := by omega
      refine ⟨_, _, rfl, ?_, ?_, ?_, Or.inl ⟨hok, ?_, ?_⟩⟩
      · rcases oj with rfl | rfl | rfl | rfl | rfl
        · exact ⟨(of_at (m := sp m 123 0 0) (h := h) (j := 0) (by omega) (by decide)).2, trivial⟩
        · exact ⟨(of_at (m := sp m 123 0 0) (h := h) (j := 1) (by omega) (by decide)).2, trivial⟩
        · exact ⟨vp, trivial⟩
        · exact ⟨(of_at (m := sp m 123 0 0) (h := h) (j := 3) (by omega) (by decide)).2, trivial⟩
        · trivial
      · rcases oj with rfl | rfl | rfl | rfl | rfl <;> exact inv 0
      · rcases oj with rfl | rfl | rfl | rfl | rfl <;> exact frm 0
      · rcases oj with rfl | rfl | rfl | rfl | rfl <;> exact (sp_r : (sp m 123 0 0) 123 0 = 0)
      · have ofs : ∀ j, j < 4 → f12_of (sp m 123 0 0) (nI h) (nI j) = m 138 (4 * h + j) := fun j q => by rw [(of_at (m := sp m 123 0 0) (h := h) (by omega) q).1, sp_n (by decide)]
        rcases oj with rfl | rfl | rfl | rfl | rfl
        · exact (ofs 0 (by decide)).trans (ofH T hh (by decide : 0 < 4)).symm
        · exact (ofs 1 (by decide)).trans (ofH T hh (by decide : 1 < 4)).symm
        · show m 140 ((0 + nI h).toNatClampNeg) = f0_grievanceOf 24 c (nI h)
          rw [z_add, nI_clamp (by omega), grief_c (by omega), (D.1 h hh).1]
        · show f12_of (sp m 123 0 0) (nI h) (nI 3) = if f8_isThankful 10 c (nI h) = true then 1 else 0
          have e := ofH T hh (by decide : 3 < 4)
          rw [ofs 3 (by decide)]
          unfold f8_isThankful
          rw [show f8_ofHouse 10 c (nI h) 3 = m 138 (4 * h + 3) from e]
          rcases (T.2.2.2.2.2.2.2.2.2.2.2.1 h hh).2.2.2 with q | q <;> rw [q] <;> rfl
        · show (m 140 11 >>> (nI h &&& 31)) &&& 1 = if f11_hasBit (c 24 5) (nI h) = true then 1 else 0
          rw [D.2.2.2.2.2.2.1, bit_same (by omega)]
          unfold f12_has
          rcases and1_or (m 140 11 >>> (nI h &&& 31)) with q | q <;> rw [q] <;> rfl
    · rw [show f12_in y 0 4 = false from i1, if_neg Bool.false_ne_true, if_neg Bool.false_ne_true]
      exact ⟨_, _, rfl, trivial, inv 1, frm 1, Or.inr ⟨fun q => q.2.1 i2, sp_r⟩⟩
    · rw [show f12_in y 0 4 = false from i1, if_neg Bool.false_ne_true, if_neg Bool.false_ne_true]
      exact ⟨_, _, rfl, trivial, inv 1, frm 1, Or.inr ⟨fun q => i3 q.2.2, sp_r⟩⟩
  · rw [y2, if_neg Bool.false_ne_true, if_neg Bool.false_ne_true]
    refine ⟨_, _, rfl, trivial, inv 1, frm 1, Or.inr ⟨fun q => ?_, sp_r⟩⟩
    have q1 := q.1
    rw [y1] at q1
    exact Bool.false_ne_true q1
theorem t_faith {G : Nat} {c m : SI} (I : INV G c m) (x : Int32) : RUNb G (f11_faith c x) (f12_faith m x) True := by
  obtain ⟨H, B, LL, hd, g, n, x', gs, J⟩ := I
  have h8 := J.2.2.2.2.2.2.2.1
  unfold f11_faith f12_faith
  rcases in_nat (x := x) (k := 9) (by decide) with ⟨j, hj, rfl, i1, i2, i3, i4⟩ | ⟨i1, i2⟩ | ⟨i1, i2, i3, i4⟩
  · rw [show f12_in (nI j) 0 9 = true from i1, if_pos rfl, if_neg i2, if_neg (show ¬ (9 : Int32) < nI j from i4), h8.1]
    by_cases e : nI j = m 123 30
    · rw [if_pos e, if_pos e]
      exact ⟨rfl, trivial, IX0_inv J⟩
    · rw [if_neg e, if_neg e]
      have K : INV G (sp c 0 14 (nI j)) (sp m 123 30 (nI j)) := by
        refine IX0_inv (IX_fth J (Nat.le_refl _) (fun a q => sp_n (by omega)) (by rw [sp_n (by decide)]) (by rw [sp_n (by decide)]) (by rw [sp_n (by decide)]) (fun a q => sp_n (by omega)) (fun a q => sp_k (by omega)) ?_)
        refine ⟨?_, ?_, fun i hi => ?_⟩
        · rw [sp_r, sp_r]
        · rw [sp_r]; exact nI_bnd (by omega) (by omega)
        · rw [sp_n (by decide), sp_n (by decide)]; exact h8.2.2 i hi
      exact ⟨rfl, trivial, K⟩
  · rw [show f12_in x 0 9 = false from i1, if_neg Bool.false_ne_true, if_pos i2]
    exact ⟨rfl, trivial, IX0_inv J⟩
  · rw [show f12_in x 0 9 = false from i1, if_neg Bool.false_ne_true, if_neg i2, if_pos (show (9 : Int32) < x from i4)]
    exact ⟨rfl, trivial, IX0_inv J⟩
theorem t_end {G : Nat} {c m : SI} (I : INV G c m) (x : Int32) : RUNb G (f11_end c x) (f12_end m x) True := by
  obtain ⟨H, B, LL, hd, g, n, x', gs, J⟩ := I
  have h1 := J.1
  obtain ⟨t1, t2, t3, t4⟩ := h1
  unfold f11_end f12_end f7_size f7_cut
  by_cases e : x < 0
  · rw [if_pos e, if_pos e]
    exact ⟨rfl, trivial, IX0_inv J⟩
  · rw [if_neg e, if_neg e, t1, t2]
    obtain ⟨j, hj, rfl⟩ := nI_of e
    by_cases q : j ≤ ln c
    · rw [if_pos (nI_le q (by omega)), if_pos (nI_le q (by omega)), if_neg e, if_neg (nI_nlt q (by omega))]
      have K : INV G (sp c 1 1 (nI j)) (sp m 123 2 (nI j)) := by
        refine IX0_inv (IX_tp J (Nat.le_refl _) (fun a q => sp_n (by omega)) (by rw [sp_n (by decide)]) (by rw [sp_n (by decide)]) (by rw [sp_n (by decide)]) (fun a q => sp_n (by omega)) (fun a q => sp_k (by omega)) ?_)
        have el : ln (sp c 1 1 (nI j)) = j := by unfold ln; rw [sp_r, nI_clamp hj]
        refine ⟨?_, ?_, ?_, fun i hi => ?_⟩
        · rw [el, sp_r]
        · rw [el, sp_r]
        · rw [el]; omega
        · rw [el] at hi
          rw [sp_n (by decide), sp_n (by decide)]
          exact t4 i (by omega)
      exact ⟨rfl, trivial, K⟩
    · rw [if_neg (nI_ge (by omega) hj), if_neg (nI_ge (by omega) hj), if_neg e]
      exact ⟨rfl, trivial, IX0_inv J⟩
theorem t_law {G : Nat} {c m : SI} (I : INV G c m) (x : Int32) : RUNb G (f11_law c x) (f12_law m x) True := by
  obtain ⟨H, B, LL, hd, g, n, x', gs, J⟩ := I
  have L := J.2.2.1
  obtain ⟨l1, l2, l3, l4, l5, l6, l7⟩ := L
  unfold f11_law f2_choose f12_law f12_in
  rw [l2, l3]
  have up : ∀ z : Int32, (z = -1 ∨ ∃ k, k < LL.length ∧ z = nI k) → INV G (sp c 13 3 z) (sp m 123 29 z) := by
    intro z hz
    refine IX0_inv (IX_lr (hd' := z) (LL' := LL) J (Nat.le_refl _) (fun a q => sp_n (by omega)) (by rw [sp_n (by decide)]) (by rw [sp_n (by decide)]) (fun a q => sp_n (by omega)) (fun a q => sp_k (by omega)) ?_)
    refine ⟨l1, by rw [sp_k (by decide)]; exact l2, by rw [sp_k (by decide)]; exact l3, sp_r, sp_r, hz, fun k L hk => ?_⟩
    have hk4 : k < LL.length := (List.getElem?_eq_some_iff.mp hk).1
    obtain ⟨d1, d2⟩ := l7 k L hk
    rw [sp_n (by omega), sp_n (by omega)]
    refine ⟨?_, d2⟩
    unfold LD at d1 ⊢
    rw [sp_n (by decide), sp_n (by decide), sp_n (by decide), sp_n (by decide), sp_n (by decide), sp_n (by decide)]
    exact d1
  by_cases e : x < -1
  · rw [if_pos e, if_pos e]
    exact ⟨rfl, trivial, IX0_inv J⟩
  · rw [if_neg e, if_neg e]
    by_cases e1 : x = -1
    · subst e1
      have a1 : (-1 : Int32) < nI LL.length := by
        rw [lt_ti, nI_toInt (by omega), ti_m1]; omega
      have a2 : ¬ nI LL.length - 1 < -1 := by
        have r : (nI LL.length - 1).toInt = (LL.length : Int) - 1 := by rw [ti_sub' (by rw [nI_toInt (by omega), ti_1]; omega) (by rw [nI_toInt (by omega), ti_1]; omega), nI_toInt (by omega), ti_1]
        rw [lt_ti, r, ti_m1]; omega
      rw [if_pos a1, if_neg a2, if_pos rfl]
      exact ⟨rfl, trivial, up _ (Or.inl rfl)⟩
    · have e0 : ¬ x < 0 := by
        intro q
        rw [lt_ti, show (0 : Int32).toInt = 0 from rfl] at q
        rw [lt_ti, ti_m1] at e
        exact e1 (Int32.toInt_inj.mp (by rw [ti_m1]; omega))
      obtain ⟨k, hk, rfl⟩ := nI_of e0
      by_cases q : k < LL.length
      · rw [show nI LL.length - 1 = nI (LL.length - 1) from nI_sub (b := 1) (by omega), if_pos (nI_lt q (by omega)), if_neg (nI_nlt (by omega) (by omega)), if_pos rfl]
        exact ⟨rfl, trivial, up _ (Or.inr ⟨k, q, rfl⟩)⟩
      · have a2 : nI LL.length - 1 < nI k := by
          have r : (nI LL.length - 1).toInt = (LL.length : Int) - 1 := by rw [ti_sub' (by rw [nI_toInt (by omega), ti_1]; omega) (by rw [nI_toInt (by omega), ti_1]; omega), nI_toInt (by omega), ti_1]
          rw [lt_ti, r, nI_toInt hk]; omega
        rw [if_neg (nI_nlt (by omega) hk), if_pos a2]
        exact ⟨rfl, trivial, IX0_inv J⟩
