/-! the day on both sides; the litter that comes to a door -/
def WS (x : Int32) : Prop := ∃ w : Nat, w < 128 ∧ x = nI w
def DAY (H g : Nat) (c : SI) (k : Nat) (f : Nat → Int32) (o : Nat) : Prop := (∀ h, h < H → c (k + 1) h = f (o + h) ∧ Bnd (f (o + h)) 0 30) ∧ (c k 1 = f (o + 7) ∧ Bnd (f (o + 7)) 0 999) ∧ (c k 2 = f (o + 8) ∧ Bnd (f (o + 8)) 0 99) ∧ (c k 3 = f (o + 9) ∧ Bnd (f (o + 9)) 0 200) ∧ (H ≠ 0 → c k 4 = f (o + 10) ∧ Pos H (f (o + 10))) ∧ (H = 0 → c k 4 = -1) ∧ c k 5 = f (o + 11) ∧ (c k 6 = f (o + 12) ∧ Bnd (f (o + 12)) 0 999) ∧ c k 7 = f (o + 13) ∧ c k 8 = nI g ∧ f (o + 14) = nI (min 60 g) ∧ WS (f (o + 11))
def LOG (g : Nat) (l : Nat → Int32) (f : Nat → Int32) (o : Nat) : Prop := ∀ j q, j < min 60 g → q < 4 → l (((g - min 60 g + j) % 100) * 4 + q) = f (o + 15 + 4 * j + q)
theorem DAY_fr {H g : Nat} {c c' : SI} {k : Nat} {f f' : Nat → Int32} {o : Nat} (h : DAY H g c k f o) (h1 : c' k = c k) (h2 : c' (k + 1) = c (k + 1)) (h3 : ∀ j, j < 255 → f' (o + j) = f (o + j)) (hH : H ≤ 7) : DAY H g c' k f' o := by
  unfold DAY at h ⊢
  rw [h1, h2, h3 7 (by decide), h3 8 (by decide), h3 9 (by decide), h3 10 (by decide), h3 11 (by decide), h3 12 (by decide), h3 13 (by decide), h3 14 (by decide)]
  exact ⟨fun i hi => by rw [h3 i (by omega)]; exact h.1 i hi, h.2⟩
def DN (H : Nat) (c m : SI) : Prop := (∀ h, h < H → c 25 h = m 140 h ∧ Bnd (m 140 h) 0 30) ∧ (c 24 1 = m 140 7 ∧ Bnd (m 140 7) 0 999) ∧ (c 24 2 = m 140 8 ∧ Bnd (m 140 8) 0 99) ∧ (c 24 3 = m 140 9 ∧ Bnd (m 140 9) 0 200) ∧ (H ≠ 0 → c 24 4 = m 140 10 ∧ Pos H (m 140 10)) ∧ (H = 0 → c 24 4 = -1) ∧ c 24 5 = m 140 11 ∧ (c 24 6 = m 140 12 ∧ Bnd (m 140 12) 0 999) ∧ c 24 7 = m 140 13 ∧ WS (m 140 11)
theorem DAY_DN {H g : Nat} {c m : SI} (h : DAY H g c 24 (m 140) 0) : DN H c m := by
  obtain ⟨a1, a2, a3, a4, a5, a6, a7, a8, a9, _, _, a12⟩ := h
  exact ⟨fun i hi => by have := a1 i hi; rwa [Nat.zero_add] at this, a2, a3, a4, a5, a6, a7, a8, a9, a12⟩
theorem DN_DAY {H g : Nat} {c m : SI} (h : DN H c m) (h1 : c 24 8 = nI g) (h2 : m 140 14 = nI (min 60 g)) : DAY H g c 24 (m 140) 0 := by
  obtain ⟨a1, a2, a3, a4, a5, a6, a7, a8, a9, a10⟩ := h
  exact ⟨fun i hi => by rw [Nat.zero_add]; exact a1 i hi, a2, a3, a4, a5, a6, a7, a8, a9, h1, h2, a10⟩
theorem DN_MB {H : Nat} {c m : SI} (h : DN H c m) (hH : H ≠ 0) : MB H m := ⟨fun i hi => (h.1 i hi).2, h.2.2.1.2, h.2.2.2.1.2, (h.2.2.2.2.1 hH).2, h.2.2.2.2.2.2.2.1.2⟩
def SX (c c' : SI) : Prop := (∀ a, a ≠ 13 → a ≠ 15 → a ≠ 32 → a ≠ 36 → a ≠ 37 → a ≠ 38 → a ≠ 40 → a ≠ 41 → a ≠ 42 → c' a = c a) ∧ c' 13 2 = c 13 2 ∧ c' 13 3 = c 13 3
theorem SX_rf (c : SI) : SX c c := ⟨fun _ _ _ _ _ _ _ _ _ _ => rfl, rfl, rfl⟩
theorem SX_tr {c c1 c2 : SI} (h1 : SX c c1) (h2 : SX c1 c2) : SX c c2 := ⟨fun a x1 x2 x3 x4 x5 x6 x7 x8 x9 => (h2.1 a x1 x2 x3 x4 x5 x6 x7 x8 x9).trans (h1.1 a x1 x2 x3 x4 x5 x6 x7 x8 x9), h2.2.1.trans h1.2.1, h2.2.2.trans h1.2.2⟩
theorem SC_SX {c c' : SI} (h : SC c c') : SX c c' := ⟨fun a x1 x2 _ _ _ _ _ _ _ => h.1 a x1 x2, h.2⟩
theorem SX_sp {c : SI} {k j : Nat} {x : Int32} (h : k = 32 ∨ k = 36 ∨ k = 37 ∨ k = 38 ∨ k = 40 ∨ k = 41 ∨ k = 42) : SX c (sp c k j x) := by
  refine ⟨fun a _ _ h1 h2 h3 h4 h5 h6 h7 => sp_n (by omega), ?_, ?_⟩
  · rw [sp_n (by omega)]
  · rw [sp_n (by omega)]
theorem TR_sx {H B : Nat} {c m c' : SI} (h : TR H B c m) (S : SX c c') : TR H B c' m := TR_fr h (S.1 _ (by decide) (by decide) (by decide) (by decide) (by decide) (by decide) (by decide) (by decide) (by decide)) (S.1 _ (by decide) (by decide) (by decide) (by decide) (by decide) (by decide) (by decide) (by decide) (by decide)) rfl rfl rfl rfl rfl
theorem LR_sx {LL : List LW} {hd : Int32} {c m c' : SI} (h : LR LL hd c m) (S : SX c c') : LR LL hd c' m := LR_fr h (fun a x y => S.1 a (by omega) (by omega) (by omega) (by omega) (by omega) (by omega) (by omega) (by omega) (by omega)) S.2.1 S.2.2 (fun _ _ _ _ => rfl) rfl rfl
theorem sx24 {c c' : SI} (S : SX c c') : c' 24 = c 24 := S.1 _ (by decide) (by decide) (by decide) (by decide) (by decide) (by decide) (by decide) (by decide) (by decide)
theorem sx25 {c c' : SI} (S : SX c c') : c' 25 = c 25 := S.1 _ (by decide) (by decide) (by decide) (by decide) (by decide) (by decide) (by decide) (by decide) (by decide)
theorem DN_fr {H : Nat} {c m c' m' : SI} (h : DN H c m) (h1 : c' 24 = c 24) (h2 : c' 25 = c 25) (h3 : m' 140 = m 140) : DN H c' m' := by unfold DN; rw [h1, h2, h3]; exact h
theorem grief_c {c : SI} {h : Nat} (hh : h < 7) : f0_grievanceOf 24 c (nI h) = c 25 h := cell_at (k := 25) (n := 7) hh (by decide)
theorem standsNow_c {LL : List LW} {hd : Int32} {H B h : Nat} {c m : SI} {g : Int32} (T : TR H B c m) (L : LR LL hd c m) (D : DN H c m) (hh : h < H) (hg : Bnd g 0 100) : ∃ c', f11_standsNow c (nI h) g = (sN LL hd m h g 0, c') ∧ SC c c' := by
  have hH := T.1
  have hz : H ≠ 0 := by omega
  have M := DN_MB D hz
  obtain ⟨a1, a2, a3, a4, a5, a6, a7, a8, a9⟩ := D
  have ed : f11_stepsTo c (nI h) = sD m h := by
    unfold f11_stepsTo sD
    rw [(a5 hz).1]
    exact (dist T (a5 hz).2 hh).1
  unfold f11_standsNow f0_doors
  rw [ed, a3.1, a7, a8.1, (thank_c T hh).1]
  obtain ⟨c', e, S⟩ := stand_c (LL := LL) (hd := hd) (th := f12_isThankful m (nI h)) (g := g) (t := m 140 8 + sD m h) (n := fbitCount (m 140 11)) (d := sD m h) (y := m 140 12) L (bnd_r6 hg (by decide) (by decide)) (bnd_r6 (tD_bnd T M hh).2 (by decide) (by decide)) (bnd_r6 (doors_bnd _) (by decide) (by decide)) (bnd_r6 (sD_bnd T M hh) (by decide) (by decide)) (bnd_r6 a8.2 (by decide) (by decide))
  refine ⟨c', ?_, S⟩
  unfold sN
  rw [Int32.add_zero, e]
def LIT (H : Nat) (c m : SI) : Prop := c 32 3 = m 140 10 ∧ c 32 4 = m 140 8 ∧ c 32 5 = m 140 9 ∧ c 32 6 = m 140 11 ∧ c 24 6 = m 140 12 ∧ ∀ h, h < H → ¬ f12_has (m 140 11) (nI h) = true → c 25 h = m 140 h
def LTS (c c' : SI) : Prop := (∀ a, a ≠ 13 → a ≠ 15 → a ≠ 32 → c' a = c a) ∧ c' 13 2 = c 13 2 ∧ c' 13 3 = c 13 3 ∧ (∀ j, j ≠ 3 → j ≠ 4 → j ≠ 5 → j ≠ 6 → j ≠ 7 → j ≠ 8 → c' 32 j = c 32 j)
theorem LTS_SX {c c' : SI} (h : LTS c c') : SX c c' := ⟨fun a x1 x2 x3 _ _ _ _ _ _ => h.1 a x1 x2 x3, h.2.1, h.2.2.1⟩
theorem SC_LTS {c c' : SI} (h : SC c c') : LTS c c' := ⟨fun a x1 x2 _ => h.1 a x1 x2, h.2.1, h.2.2, fun j _ _ _ _ _ _ => by rw [h.1 32 (by decide) (by decide)]⟩
theorem wn_cases (LL : List LW) (hd : Int32) (m : SI) (h : Nat) : (wn LL hd m h = -1 ∧ ¬ m 140 10 = nI h ∧ ¬ f12_has (m 140 11) (nI h) = true ∧ ¬ m 137 0 < sE LL hd m h ∧ m 140 9 + sD m h ≤ f12_allStrength m) ∨ (wn LL hd m h = 2 ∧ (m 140 10 = nI h ∨ f12_has (m 140 11) (nI h) = true)) ∨ (wn LL hd m h = 4 ∧ ¬ m 140 10 = nI h ∧ ¬ f12_has (m 140 11) (nI h) = true ∧ (m 137 0 < sE LL hd m h ∨ ¬ m 140 9 + sD m h ≤ f12_allStrength m)) := by
  unfold wn
  by_cases a1 : m 140 10 = nI h
  · rw [if_pos a1]; exact Or.inr (Or.inl ⟨rfl, Or.inl a1⟩)
  · rw [if_neg a1]
    by_cases a2 : f12_has (m 140 11) (nI h) = true
    · rw [if_pos a2]; exact Or.inr (Or.inl ⟨rfl, Or.inr a2⟩)
    · rw [if_neg a2]
      by_cases a3 : m 137 0 < sE LL hd m h
      · rw [if_pos a3]; exact Or.inr (Or.inr ⟨rfl, a1, a2, Or.inl a3⟩)
      · rw [if_neg a3]
        by_cases a4 : m 140 9 + sD m h ≤ f12_allStrength m
        · rw [if_pos a4]; exact Or.inl ⟨rfl, a1, a2, a3, a4⟩
        · rw [if_neg a4]; exact Or.inr (Or.inr ⟨rfl, a1, a2, Or.inr a4⟩)
theorem comes_c {LL : List LW} {hd : Int32} {H B h : Nat} {c m : SI} (T : TR H B c m) (L : LR LL hd c m) (M : MB H m) (I : LIT H c m) (hh : h < H) : ∃ c', LTS c c' ∧ ((wn LL hd m h = -1 ∧ f4_comesTo c (nI h) = (true, c') ∧ c' 32 3 = nI h ∧ c' 32 4 = sE LL hd m h ∧ c' 32 5 = m 140 9 + sD m h ∧ c' 32 6 = (m 140 11 ||| ((1 : Int32) <<< (nI h &&& 31))) ∧ c' 32 7 = st LL hd m h ∧ c' 32 8 = cz LL hd m h) ∨ (wn LL hd m h ≠ -1 ∧ f4_comesTo c (nI h) = (false, c') ∧ c' 32 = c 32)) := by
  have hH := T.1
  obtain ⟨i1, i2, i3, i4, i5, i6⟩ := I
  have eq31 : f11_hasBit (c 32 6) (nI h) = f12_has (m 140 11) (nI h) := by rw [i4]; exact bit_same (by omega)
  have ed : f8_distance 10 c (c 32 3) (nI h) = sD m h := by rw [i1]; exact (dist T M.2.2.2.1 hh).1
  unfold f4_comesTo
  rw [if_pos (isH_c T hh).1, eq31, ed]
  rcases wn_cases LL hd m h with ⟨w, n1, n2, n3, n4⟩ | ⟨w, n1⟩ | ⟨w, n1, n2, n3⟩
  all_goals rw [w]
  · rw [if_neg (fun e => n1 (i1.symm.trans e.symm)), if_neg n2]
    obtain ⟨c1, e, S⟩ := stand_c (LL := LL) (hd := hd) (th := f12_isThankful m (nI h)) (g := m 140 h) (t := m 140 8 + sD m h) (n := fbitCount (m 140 11)) (d := sD m h) (y := m 140 12) L (bnd_r6 (M.1 h hh) (by decide) (by decide)) (bnd_r6 (tD_bnd T M hh).2 (by decide) (by decide)) (bnd_r6 (doors_bnd _) (by decide) (by decide)) (bnd_r6 (sD_bnd T M hh) (by decide) (by decide)) (bnd_r6 M.2.2.2.2 (by decide) (by decide))
    have es : SV LL hd (f12_isThankful m (nI h)) (m 140 h) (m 140 8 + sD m h) (fbitCount (m 140 11)) (sD m h) (m 140 12) = st LL hd m h := by unfold st sN; rw [Int32.add_zero]
    rw [grief_c (by omega), (thank_c T hh).1, i2, i4, i5, i6 h hh n2, e, es]
    dsimp only
    have T1 := TR_sc T S
    have e32 : c1 32 = c 32 := S.1 32 (by decide) (by decide)
    simp only [(rul_c T1).1, (str_c T1).1, e32, i2, i3, i4]
    rw [if_neg (show ¬ m 137 0 < (m 140 8 + sD m h) + st LL hd m h from n3), if_pos n4]
    unfold f4_stay
    dsimp only
    generalize hs : sp (sp (sp (sp (sp c1 32 3 (nI h)) 32 4 ((m 140 8 + sD m h) + st LL hd m h)) 32 5 (m 140 9 + sD m h)) 32 6 (m 140 11 ||| ((1 : Int32) <<< (nI h &&& 31)))) 32 7 (st LL hd m h) = s2
    have f3 : s2 32 3 = nI h := by rw [← hs, sp_k (by decide), sp_k (by decide), sp_k (by decide), sp_k (by decide), sp_r]
    have f4 : s2 32 4 = sE LL hd m h := by rw [← hs, sp_k (by decide), sp_k (by decide), sp_k (by decide), sp_r]; rfl
    have f5 : s2 32 5 = m 140 9 + sD m h := by rw [← hs, sp_k (by decide), sp_k (by decide), sp_r]
    have f6 : s2 32 6 = (m 140 11 ||| ((1 : Int32) <<< (nI h &&& 31))) := by rw [← hs, sp_k (by decide), sp_r]
    have f7 : s2 32 7 = st LL hd m h := by rw [← hs, sp_r]
    have fo : ∀ a, a ≠ 13 → a ≠ 15 → a ≠ 32 → s2 a = c a := fun a x y z => by rw [← hs, sp_n z, sp_n z, sp_n z, sp_n z, sp_n z, S.1 a x y]
    have f13 : s2 13 = c1 13 := by rw [← hs, sp_n (by decide), sp_n (by decide), sp_n (by decide), sp_n (by decide), sp_n (by decide)]
    have fj : ∀ j, j ≠ 3 → j ≠ 4 → j ≠ 5 → j ≠ 6 → j ≠ 7 → s2 32 j = c 32 j := fun j x1 x2 x3 x4 x5 => by rw [← hs, sp_k x5, sp_k x4, sp_k x3, sp_k x2, sp_k x1, S.1 32 (by decide) (by decide)]
    have fin : ∀ z, LTS c (sp s2 32 8 z) := fun z => ⟨fun a x y w => by rw [sp_n w, fo a x y w], by rw [sp_n (by decide), f13, S.2.1], by rw [sp_n (by decide), f13, S.2.2], fun j x1 x2 x3 x4 x5 x6 => by rw [sp_k x6, fj j x1 x2 x3 x4 x5]⟩
    have key : ∀ z, z = cz LL hd m h → ∃ c', LTS c c' ∧ ((True ∧ ((true, sp s2 32 8 z) : Bool × SI) = (true, c') ∧ c' 32 3 = nI h ∧ c' 32 4 = sE LL hd m h ∧ c' 32 5 = m 140 9 + sD m h ∧ c' 32 6 = (m 140 11 ||| ((1 : Int32) <<< (nI h &&& 31))) ∧ c' 32 7 = st LL hd m h ∧ c' 32 8 = cz LL hd m h) ∨ ((-1 : Int32) ≠ -1 ∧ ((true, sp s2 32 8 z) : Bool × SI) = (false, c') ∧ c' 32 = c 32)) := by
      intro z hz
      refine ⟨sp s2 32 8 z, fin z, Or.inl ⟨trivial, rfl, ?_, ?_, ?_, ?_, ?_, ?_⟩⟩
      · rw [sp_k (by decide), f3]
      · rw [sp_k (by decide), f4]
      · rw [sp_k (by decide), f5]
      · rw [sp_k (by decide), f6]
      · rw [sp_k (by decide), f7]
      · rw [sp_r, hz]
    by_cases t : f12_isThankful m (nI h) = true
    · rw [if_pos t]
      exact key 0 (by unfold cz; rw [if_pos t])
    · rw [if_neg t]
      exact key _ (by unfold cz; rw [if_neg t])
  · refine ⟨c, SC_LTS (SC_rf c), Or.inr ⟨by decide, ?_, rfl⟩⟩
    rcases n1 with n1 | n1
    · rw [if_pos (n1.symm.trans i1.symm)]
    · rw [if_pos n1]
      split <;> rfl
  · rw [if_neg (fun e => n1 (i1.symm.trans e.symm)), if_neg n2]
    obtain ⟨c1, e, S⟩ := stand_c (LL := LL) (hd := hd) (th := f12_isThankful m (nI h)) (g := m 140 h) (t := m 140 8 + sD m h) (n := fbitCount (m 140 11)) (d := sD m h) (y := m 140 12) L (bnd_r6 (M.1 h hh) (by decide) (by decide)) (bnd_r6 (tD_bnd T M hh).2 (by decide) (by decide)) (bnd_r6 (doors_bnd _) (by decide) (by decide)) (bnd_r6 (sD_bnd T M hh) (by decide) (by decide)) (bnd_r6 M.2.2.2.2 (by decide) (by decide))
    have es : SV LL hd (f12_isThankful m (nI h)) (m 140 h) (m 140 8 + sD m h) (fbitCount (m 140 11)) (sD m h) (m 140 12) = st LL hd m h := by unfold st sN; rw [Int32.add_zero]
    rw [grief_c (by omega), (thank_c T hh).1, i2, i4, i5, i6 h hh n2, e, es]
    dsimp only
    have T1 := TR_sc T S
    have e32 : c1 32 = c 32 := S.1 32 (by decide) (by decide)
    simp only [(rul_c T1).1, (str_c T1).1, e32, i2, i3, i4]
    refine ⟨c1, SC_LTS S, Or.inr ⟨by decide, ?_, S.1 32 (by decide) (by decide)⟩⟩
    by_cases q : m 137 0 < sE LL hd m h
    · rw [if_pos (show m 137 0 < (m 140 8 + sD m h) + st LL hd m h from q)]
    · rw [if_neg (show ¬ m 137 0 < (m 140 8 + sD m h) + st LL hd m h from q)]
      rcases n3 with n3 | n3
      · exact absurd n3 q
      · rw [if_neg n3]
theorem comes_no {H B : Nat} {c m : SI} {x : Int32} (h : f8_isHouse 10 c x = false) : f4_comesTo c x = (false, c) := by
  unfold f4_comesTo
  rw [h, if_neg Bool.false_ne_true]
