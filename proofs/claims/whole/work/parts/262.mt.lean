/-! the town told on both sides; how long he stands, on both sides one number -/
def Bnd (x : Int32) (lo hi : Int) : Prop := lo ≤ x.toInt ∧ x.toInt ≤ hi
def TR (H B : Nat) (c m : SI) : Prop := H ≤ 7 ∧ B ≤ 5 ∧ (H ≠ 0 → 2 ≤ H ∧ 1 ≤ B) ∧ c 12 1 = nI H ∧ m 123 25 = nI H ∧ c 12 2 = nI B ∧ m 123 26 = nI B ∧ (∀ j, j < 3 → c 11 j = m 137 j) ∧ (∀ h j, h < H → j < 4 → c 11 (3 + 4 * h + j) = m 138 (4 * h + j)) ∧ (∀ b, b < B → c 11 (31 + b) = m 139 b) ∧ (Bnd (m 137 0) 0 99 ∧ Bnd (m 137 1) 0 99 ∧ Bnd (m 137 2) 0 9) ∧ (∀ h, h < H → Bnd (m 138 (4 * h)) 0 9 ∧ Bnd (m 138 (4 * h + 1)) 0 9 ∧ Bnd (m 138 (4 * h + 2)) 0 30 ∧ (m 138 (4 * h + 3) = 0 ∨ m 138 (4 * h + 3) = 1)) ∧ (∀ b, b < B → Bnd (m 139 b) 1 40)
def LR (LL : List LW) (hd : Int32) (c m : SI) : Prop := LL.length ≤ 4 ∧ c 13 2 = nI LL.length ∧ m 123 13 = nI LL.length ∧ c 13 3 = hd ∧ m 123 29 = hd ∧ (hd = -1 ∨ ∃ k, k < LL.length ∧ hd = nI k) ∧ ∀ k L, LL[k]? = some L → LD k L (c (17 + 2 * k)) m ∧ c (16 + 2 * k) 1 = nI (cwL L).length ∧ (cwL L).length ≤ 240 ∧ (tkL L).length ≤ 240 ∧ L.length ≤ 80
def lets (g : Int32) (th : Bool) (t n d y : Int32) : Nat → Int32 := fun j => if j = 0 then g else if j = 1 then (if th = true then 1 else 0) else if j = 2 then t else if j = 3 then n else if j = 4 then d else y
noncomputable def SV (LL : List LW) (hd : Int32) (th : Bool) (g t n d y : Int32) : Int32 := if hd = -1 then (if th = true then 1 else g / 2 + 1) else f11_within (wL (lets g th t n d y) (LL.getD hd.toNatClampNeg [])).toInt64 0 60
theorem lets_r6 {g t n d y : Int32} {th : Bool} (h1 : R6 g) (h2 : R6 t) (h3 : R6 n) (h4 : R6 d) (h5 : R6 y) : ∀ j, j < 6 → R6 (lets g th t n d y j) := by
  intro j hj
  unfold lets
  split
  · exact h1
  split
  · split
    · exact r6_1
    · exact r6_0
  split
  · exact h2
  split
  · exact h3
  split
  · exact h4
  · exact h5
def SC (c c' : SI) : Prop := (∀ a, a ≠ 13 → a ≠ 15 → c' a = c a) ∧ c' 13 2 = c 13 2 ∧ c' 13 3 = c 13 3
theorem SC_rf (c : SI) : SC c c := ⟨fun _ _ _ => rfl, rfl, rfl⟩
theorem SC_tr {c c1 c2 : SI} (h1 : SC c c1) (h2 : SC c1 c2) : SC c c2 := ⟨fun a x y => (h2.1 a x y).trans (h1.1 a x y), h2.2.1.trans h1.2.1, h2.2.2.trans h1.2.2⟩
theorem law_at {k : Nat} (h : k < 4) : f2_lawAt (nI k) = some (16 + 2 * k) := by
  unfold f2_lawAt
  rw [if_neg (nI_pos (by omega)), if_neg (show ¬ (4 : Int32) ≤ nI k from nI_ge (b := 4) h (by decide)), nI_clamp (by omega)]
theorem LD_ok {t : Nat} {L : LW} {cc : Nat → Int32} {m : SI} (h : LD t L cc m) : LWok L := h.2.2.2.2
theorem getD_at {LL : List LW} {k : Nat} {L : LW} (h : LL[k]? = some L) : LL.getD (nI k).toNatClampNeg [] = L ∨ ¬ k < 2 ^ 31 := by
  by_cases hk : k < 2 ^ 31
  · left
    rw [nI_clamp hk, List.getD_eq_getElem?_getD, h]; rfl
  · exact Or.inr hk
theorem stand_c {LL : List LW} {hd g t n d y : Int32} {th : Bool} {c m : SI} (h : LR LL hd c m) (h1 : R6 g) (h2 : R6 t) (h3 : R6 n) (h4 : R6 d) (h5 : R6 y) : ∃ c', f2_standing c g th t n d y = (SV LL hd th g t n d y, c') ∧ SC c c' := by
  obtain ⟨a1, a2, a3, a4, a5, a6, a7⟩ := h
  unfold f2_standing SV
  rw [a4]
  rcases a6 with rfl | ⟨k, hk, rfl⟩
  · rw [if_pos rfl]
    refine ⟨c, ?_, SC_rf c⟩
    show (if th = true then _ else _) = _
    cases th <;> rfl
  · rw [law_at (by omega), if_neg (nI_ne_m1 (by omega))]
    obtain ⟨L, hLk⟩ : ∃ L, LL[k]? = some L := ⟨LL[k], List.getElem?_eq_getElem hk⟩
    obtain ⟨d1, d2, d3, d4, d5⟩ := a7 k L hLk
    have eL : LL.getD (nI k).toNatClampNeg [] = L := (getD_at hLk).resolve_right (by omega)
    rw [eL]
    show ∃ c', (if th = true then _ else _) = _ ∧ _
    have key : ∀ q : Int32, q = (if th = true then (1 : Int32) else 0) → ∃ c', f2_worthBy (16 + 2 * k) (sp (sp (sp (sp (sp (sp c 13 5 g) 13 6 q) 13 7 t) 13 8 n) 13 9 d) 13 10 y) = (wL (lets g th t n d y) L, c') ∧ SC c c' := by
      intro q hq
      unfold f2_worthBy
      generalize hs : sp (sp (sp (sp (sp (sp (sp c 13 5 g) 13 6 q) 13 7 t) 13 8 n) 13 9 d) 13 10 y) 13 4 0 = s0
      dsimp only
      have o1 : ∀ a, a ≠ 13 → s0 a = c a := fun a ha => by rw [← hs, sp_n ha, sp_n ha, sp_n ha, sp_n ha, sp_n ha, sp_n ha, sp_n ha]
      have o2 : ∀ j, j < 4 → s0 13 j = c 13 j := fun j hj => by
        rw [← hs, sp_k (by omega), sp_k (by omega), sp_k (by omega), sp_k (by omega), sp_k (by omega), sp_k (by omega), sp_k (by omega)]
      have k5 : s0 13 5 = g := by rw [← hs, sp_k (by decide), sp_k (by decide), sp_k (by decide), sp_k (by decide), sp_k (by decide), sp_k (by decide), sp_r]
      have k6 : s0 13 6 = q := by rw [← hs, sp_k (by decide), sp_k (by decide), sp_k (by decide), sp_k (by decide), sp_k (by decide), sp_r]
      have k7 : s0 13 7 = t := by rw [← hs, sp_k (by decide), sp_k (by decide), sp_k (by decide), sp_k (by decide), sp_r]
      have k8 : s0 13 8 = n := by rw [← hs, sp_k (by decide), sp_k (by decide), sp_k (by decide), sp_r]
      have k9 : s0 13 9 = d := by rw [← hs, sp_k (by decide), sp_k (by decide), sp_r]
      have k10 : s0 13 10 = y := by rw [← hs, sp_k (by decide), sp_r]
      have k4 : s0 13 4 = 0 := by rw [← hs, sp_r]
      have hz : s0 (16 + 2 * k) 1 = nI (cwL L).length := by rw [o1 _ (by omega)]; exact d2
      have hz2 : f1_size (16 + 2 * k) s0 = nI (cwL L).length := hz
      have efu : (Int32.toInt (nI (cwL L).length) - Int32.toInt (0 : Int32)).toNat = (cwL L).length := by
        have := toNat_sub_nI (a := (cwL L).length) (b := 0) (by omega) (by decide)
        rw [nI_0] at this
        rw [this]; rfl
      rw [hz2, efu, fu1_eq]
      obtain ⟨c', e, kf⟩ := law_c (K := 16 + 2 * k) (len := (cwL L).length) (ℓ := lets g th t n d y) d3 (by omega) (by omega) (by omega) (by omega) (lets_r6 h1 h2 h3 h4 h5) L 0 s0 ((cwL L).length + 1) (LD_ok d1) ⟨trivial, k4, Nat.zero_le _⟩ ⟨k5, k6.trans hq, k7, k8, k9, k10⟩ hz (Nat.zero_add _) (Nat.lt_succ_self _) (fun j x hj => by rw [o1 _ (by omega), Nat.zero_add, show 16 + 2 * k + 1 = 17 + 2 * k by omega]; exact d1.1 j x hj)
      exact ⟨c', e, fun a x y => (kf.1 a x y).trans (o1 a x), (kf.2 2 (by decide)).trans (o2 2 (by decide)), (kf.2 3 (by decide)).trans (o2 3 (by decide))⟩
    cases th with
    | true =>
      rw [if_pos rfl]
      obtain ⟨c', e, sc⟩ := key 1 rfl
      rw [e]
      exact ⟨c', rfl, sc⟩
    | false =>
      rw [if_neg Bool.false_ne_true]
      obtain ⟨c', e, sc⟩ := key 0 rfl
      rw [e]
      exact ⟨c', rfl, sc⟩
theorem cl60_same (v : Int32) : (if (0 : Int32) < (if v < (60 : Int32) then v else (60 : Int32)) then (if v < (60 : Int32) then v else (60 : Int32)) else (0 : Int32)) = f11_within v.toInt64 0 60 := by
  have t60 : (60 : Int32).toInt = 60 := rfl
  have t0 : (0 : Int32).toInt = 0 := rfl
  have r := ti_rng v
  unfold f11_within
  simp only [lg_cmp_ge, lg_cmp_le, i64_le, i64_toInt, lt_ti]
  rw [t60, t0]
  by_cases h1 : v.toInt < 60
  · rw [if_pos h1]
    by_cases h2 : 0 ≤ v.toInt
    · rw [if_pos h2, if_pos (by omega : v.toInt ≤ 60)]
      have e : v.toInt64.toInt32 = v := Int32.toInt32_toInt64 v
      rw [e]
      by_cases h3 : 0 < v.toInt
      · rw [if_pos h3]
      · rw [if_neg h3]
        exact Int32.toInt_inj.mp (by rw [t0]; omega)
    · rw [if_neg h2, if_neg (by omega)]
  · rw [if_neg h1, if_pos (by rw [t60]; decide), if_pos (by omega)]
    by_cases h3 : v.toInt ≤ 60
    · rw [if_pos h3, Int32.toInt32_toInt64]
      exact Int32.toInt_inj.mp (by rw [t60]; omega)
    · rw [if_neg h3]
theorem within60 (v : Int32) : Bnd (f11_within v.toInt64 0 60) 0 60 := by
  rw [← cl60_same]
  have t60 : (60 : Int32).toInt = 60 := rfl
  have t0 : (0 : Int32).toInt = 0 := rfl
  unfold Bnd
  by_cases h1 : v < 60
  · rw [if_pos h1]
    rw [lt_ti, t60] at h1
    by_cases h2 : 0 < v
    · rw [if_pos h2]
      rw [lt_ti, t0] at h2
      omega
    · rw [if_neg h2, t0]; decide
  · rw [if_neg h1, if_pos (by decide), t60]; decide
theorem half_g {g : Int32} (h : Bnd g 0 100) : (g / 2 + 1).toInt = g.toInt / 2 + 1 ∧ Bnd (g / 2 + 1) 1 60 := by
  obtain ⟨h1, h2⟩ := h
  have e1 : (g / 2).toInt = g.toInt / 2 := by
    have t2 : (2 : Int32).toInt = 2 := rfl
    have h0 : g.toInt.tdiv 2 = g.toInt / 2 := Int.tdiv_eq_ediv_of_nonneg h1
    rw [Int32.toInt_div, t2, h0, bm_id (by omega) (by omega)]
  have e2 : (g / 2 + 1).toInt = g.toInt / 2 + 1 := by rw [ti_add' (by rw [e1, ti_1]; omega) (by rw [e1, ti_1]; omega), e1, ti_1]
  refine ⟨e2, ?_⟩
  unfold Bnd
  rw [e2]
  omega
theorem cl60_id {v : Int32} (h : Bnd v 0 60) : f11_within v.toInt64 0 60 = v := by
  rw [← cl60_same]
  obtain ⟨h1, h2⟩ := h
  have t60 : (60 : Int32).toInt = 60 := rfl
  have t0 : (0 : Int32).toInt = 0 := rfl
  by_cases h3 : v < 60
  · rw [if_pos h3]
    by_cases h4 : 0 < v
    · rw [if_pos h4]
    · rw [if_neg h4]
      rw [lt_ti, t0] at h4
      exact Int32.toInt_inj.mp (by rw [t0]; omega)
  · rw [if_neg h3, if_pos (by decide)]
    rw [lt_ti, t60] at h3
    exact Int32.toInt_inj.mp (by rw [t60]; omega)
theorem SV_bnd {LL : List LW} {hd g t n d y : Int32} {th : Bool} (h : Bnd g 0 100) : Bnd (SV LL hd th g t n d y) 0 60 := by
  unfold SV
  split
  · split
    · exact ⟨by decide, by decide⟩
    · obtain ⟨a, b⟩ := (half_g h).2
      exact ⟨by omega, by omega⟩
  · exact within60 _
theorem of_at {m : SI} {h j : Nat} (hh : h < 7) (hj : j < 4) : f12_of m (nI h) (nI j) = m 138 (4 * h + j) ∧ o12_of m (nI h) (nI j) := by
  have e : ((4 : Int32) * nI h) + nI j = nI (4 * h + j) := by rw [show (4 : Int32) = nI 4 from rfl, pk_mul, nI_add]
  unfold f12_of o12_of
  rw [e, nI_clamp (by omega)]
  exact ⟨rfl, vp_in_nI (by omega) (by decide), trivial⟩
theorem stand_m {LL : List LW} {hd g t n d : Int32} {c m : SI} {h : Nat} (hh : h < 7) (hq : m 138 (4 * h + 3) = 0 ∨ m 138 (4 * h + 3) = 1) (hLR : LR LL hd c m) (h0 : Bnd g 0 100) (h2 : R6 t) (h3 : R6 n) (h4 : R6 d) (h5 : R6 (m 140 12)) : ∃ m', f12_standsBy m (nI h) g t n d = (SV LL hd (f12_isThankful m (nI h)) g t n d (m 140 12), m') ∧ o12_standsBy m (nI h) g t n d ∧ (∀ a, a ≠ 132 → a ≠ 133 → m' a = m a) := by
  have h1 : R6 g := ⟨by have := h0.1; omega, by have := h0.2; omega⟩
  obtain ⟨a1, a2, a3, a4, a5, a6, a7⟩ := hLR
  obtain ⟨of1, of2⟩ := of_at (m := m) hh (show 3 < 4 by decide)
  have oth : o12_isThankful m (nI h) := by
    unfold o12_isThankful
    refine ⟨of2, ?_⟩
    split <;> trivial
  have eq1 : (if f12_isThankful m (nI h) = true then (1 : Int32) else 0) = m 138 (4 * h + 3) := by
    have of1' : f12_of m (nI h) 3 = m 138 (4 * h + 3) := of1
    unfold f12_isThankful
    rw [of1']
    rcases hq with q | q <;> rw [q] <;> rfl
  have fin : ∀ v : Int32, (if (0 : Int32) < (if v < (60 : Int32) then v else (60 : Int32)) then (if v < (60 : Int32) then v else (60 : Int32)) else (0 : Int32)) = f11_within v.toInt64 0 60 := cl60_same
  unfold f12_standsBy o12_standsBy SV
  rw [a5]
  rcases a6 with rfl | ⟨k, hk, rfl⟩
  · rw [if_pos rfl, if_pos rfl, if_pos rfl]
    refine ⟨m, ?_, ⟨oth, by split <;> trivial⟩, fun _ _ _ => rfl⟩
    by_cases hth : f12_isThankful m (nI h) = true
    · rw [if_pos hth, if_pos hth]; rfl
    · rw [if_neg hth, if_neg hth, fin, cl60_id]
      obtain ⟨x, y⟩ := (half_g h0).2
      exact ⟨by omega, y⟩
  · have hne : ¬ nI k = -1 := nI_ne_m1 (by omega)
    rw [if_neg hne, if_neg hne, if_neg hne]
    obtain ⟨L, hLk⟩ : ∃ L, LL[k]? = some L := ⟨LL[k], List.getElem?_eq_getElem hk⟩
    obtain ⟨d1, d2, d3, d4, d5⟩ := a7 k L hLk
    have eL : LL.getD (nI k).toNatClampNeg [] = L := (getD_at hLk).resolve_right (by omega)
    rw [eL]
    generalize hth : f12_isThankful m (nI h) = th
    rw [hth] at eq1
    have e3 : f12_of (sp m 132 0 g) (nI h) 3 = m 138 (4 * h + 3) := by
      obtain ⟨q1, q2⟩ := of_at (m := sp m 132 0 g) hh (show 3 < 4 by decide)
      rw [sp_n (by decide)] at q1
      exact q1
    have o3 : o12_of (sp m 132 0 g) (nI h) 3 := (of_at (m := sp m 132 0 g) hh (show 3 < 4 by decide)).2
    dsimp only
    rw [e3]
    generalize hs : sp (sp (sp (sp (sp (sp m 132 0 g) 132 1 (m 138 (4 * h + 3))) 132 2 t) 132 3 n) 132 4 d) 132 5 (m 140 12) = s0
    have o1 : ∀ a, a ≠ 132 → s0 a = m a := fun a ha => by rw [← hs, sp_n ha, sp_n ha, sp_n ha, sp_n ha, sp_n ha, sp_n ha]
    have hl : ∀ j, j < 6 → s0 132 j = lets g th t n d (m 140 12) j := by
      intro j hj
      have : j = 0 ∨ j = 1 ∨ j = 2 ∨ j = 3 ∨ j = 4 ∨ j = 5 := by omega
      rw [← hs]
      rcases this with rfl | rfl | rfl | rfl | rfl | rfl
      · rw [sp_k (by decide), sp_k (by decide), sp_k (by decide), sp_k (by decide), sp_k (by decide), sp_r]; rfl
      · rw [sp_k (by decide), sp_k (by decide), sp_k (by decide), sp_k (by decide), sp_r, ← eq1]; rfl
      · rw [sp_k (by decide), sp_k (by decide), sp_k (by decide), sp_r]; rfl
      · rw [sp_k (by decide), sp_k (by decide), sp_r]; rfl
      · rw [sp_k (by decide), sp_r]; rfl
      · rw [sp_r]; rfl
    have hD : LD k L (c (17 + 2 * k)) s0 := ⟨d1.1, by rw [o1 128 (by decide)]; exact d1.2.1, by rw [o1 125 (by decide), o1 126 (by decide)]; exact d1.2.2.1, by rw [o1 129 (by decide), o1 130 (by decide), o1 131 (by decide)]; exact d1.2.2.2.1, d1.2.2.2.2⟩
    have hTn : (nI k).toNatClampNeg = k := nI_clamp (by omega)
    have e140 : (140 : Int32) * nI k = nI (140 * k + 0) := by rw [show (140 : Int32) = nI 140 from rfl, pk_mul]; rfl
    have e128 : (140 : Int32) * nI k + s0 128 k = nI (140 * k + L.length) := by rw [hD.2.1, show (140 : Int32) = nI 140 from rfl, pk_mul, nI_add]
    obtain ⟨m', r1, r2, r3⟩ := worthOf_m (t := k) (ℓ := lets g th t n d (m 140 12)) (by omega) d4 d5 (lets_r6 h1 h2 h3 h4 h5) L 0 s0 (fu1 ((Int32.toInt (((140 : Int32) * nI k) + (s0 128 (Int32.toNatClampNeg (nI k)))) - Int32.toInt ((140 : Int32) * nI k)).toNat)) hD hl (fun i q hi => by rw [Nat.zero_add]; exact hi) (Nat.zero_add _) (by rw [fu1_eq, hTn, e128, e140, toNat_sub_nI (by omega) (by omega)]; omega)
    have w1 : f12_worthOf s0 (nI k) = (wL (lets g th t n d (m 140 12)) L, m') := by unfold f12_worthOf; rw [e140] at r1 ⊢; exact r1
    have w2 : o12_worthOf s0 (nI k) := by unfold o12_worthOf; rw [e140] at r2 ⊢; exact r2
    rw [w1]
    dsimp only
    rw [fin]
    refine ⟨m', by cases th <;> rfl, ⟨oth, ?_⟩, fun a x y => (r3 a y).trans (o1 a x)⟩
    split
    · exact ⟨o3, w2, trivial⟩
    · exact ⟨o3, w2, trivial⟩
