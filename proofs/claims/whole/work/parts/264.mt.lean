/-! standing now, the end of it, being carried: the model's side in one value each -/
def FM (m m' : SI) : Prop := ∀ a, a ≠ 132 → a ≠ 133 → m' a = m a
theorem FM_rf (m : SI) : FM m m := fun _ _ _ => rfl
theorem FM_tr {m m1 m2 : SI} (h1 : FM m m1) (h2 : FM m1 m2) : FM m m2 := fun a x y => (h2 a x y).trans (h1 a x y)
theorem TR_fr {H B : Nat} {c m c' m' : SI} (h : TR H B c m) (h1 : c' 11 = c 11) (h2 : c' 12 = c 12) (m1 : m' 123 25 = m 123 25) (m2 : m' 123 26 = m 123 26) (m3 : m' 137 = m 137) (m4 : m' 138 = m 138) (m5 : m' 139 = m 139) : TR H B c' m' := by
  unfold TR
  rw [h1, h2, m1, m2, m3, m4, m5]
  exact h
theorem LR_fr {LL : List LW} {hd : Int32} {c m c' m' : SI} (h : LR LL hd c m) (hc : ∀ a, 16 ≤ a → a ≤ 23 → c' a = c a) (h2 : c' 13 2 = c 13 2) (h3 : c' 13 3 = c 13 3) (hm : ∀ a, 125 ≤ a → a ≤ 131 → a ≠ 127 → m' a = m a) (m1 : m' 123 13 = m 123 13) (m2 : m' 123 29 = m 123 29) : LR LL hd c' m' := by
  obtain ⟨a1, a2, a3, a4, a5, a6, a7⟩ := h
  refine ⟨a1, h2.trans a2, m1.trans a3, h3.trans a4, m2.trans a5, a6, fun k L hk => ?_⟩
  have hk4 : k < LL.length := (List.getElem?_eq_some_iff.mp hk).1
  obtain ⟨d1, d2⟩ := a7 k L hk
  rw [hc (17 + 2 * k) (by omega) (by omega), hc (16 + 2 * k) (by omega) (by omega)]
  refine ⟨?_, d2⟩
  unfold LD at d1 ⊢
  rw [hm 125 (by decide) (by decide) (by decide), hm 126 (by decide) (by decide) (by decide), hm 128 (by decide) (by decide) (by decide), hm 129 (by decide) (by decide) (by decide), hm 130 (by decide) (by decide) (by decide), hm 131 (by decide) (by decide) (by decide)]
  exact d1
theorem TR_fm {H B : Nat} {c m m' : SI} (h : TR H B c m) (F : FM m m') : TR H B c m' := TR_fr h rfl rfl (by rw [F 123 (by decide) (by decide)]) (by rw [F 123 (by decide) (by decide)]) (F _ (by decide) (by decide)) (F _ (by decide) (by decide)) (F _ (by decide) (by decide))
theorem LR_fm {LL : List LW} {hd : Int32} {c m m' : SI} (h : LR LL hd c m) (F : FM m m') : LR LL hd c m' := LR_fr h (fun _ _ _ => rfl) rfl rfl (fun a x y _ => F a (by omega) (by omega)) (by rw [F 123 (by decide) (by decide)]) (by rw [F 123 (by decide) (by decide)])
theorem TR_sc {H B : Nat} {c m c' : SI} (h : TR H B c m) (S : SC c c') : TR H B c' m := TR_fr h (S.1 _ (by decide) (by decide)) (S.1 _ (by decide) (by decide)) rfl rfl rfl rfl rfl
theorem LR_sc {LL : List LW} {hd : Int32} {c m c' : SI} (h : LR LL hd c m) (S : SC c c') : LR LL hd c' m := LR_fr h (fun a x y => S.1 a (by omega) (by omega)) S.2.1 S.2.2 (fun _ _ _ _ => rfl) rfl rfl
def MB (H : Nat) (m : SI) : Prop := (∀ h, h < H → Bnd (m 140 h) 0 30) ∧ Bnd (m 140 8) 0 99 ∧ Bnd (m 140 9) 0 200 ∧ Pos H (m 140 10) ∧ Bnd (m 140 12) 0 999
theorem MB_fr {H : Nat} {m m' : SI} (h : MB H m) (e : m' 140 = m 140) : MB H m' := by unfold MB; rw [e]; exact h
theorem steps_fr {m m' : SI} (e : m' 138 = m 138) (p x : Int32) : f12_stepsTo m' p x = f12_stepsTo m p x := by unfold f12_stepsTo f12_of; rw [e]
theorem thank_fr {m m' : SI} (e : m' 138 = m 138) (x : Int32) : f12_isThankful m' x = f12_isThankful m x := by unfold f12_isThankful f12_of; rw [e]
theorem str_fr {m m' : SI} (e1 : m' 123 26 = m 123 26) (e2 : m' 139 = m 139) : f12_allStrength m' = f12_allStrength m := by
  have k : ∀ (fu : Nat) (a b : Int32), f12_allStrength_c4 m' fu a b = f12_allStrength_c4 m fu a b := by
    intro fu
    induction fu with
    | zero => intro a b; rfl
    | succ fu ih => intro a b; rw [f12_allStrength_c4, f12_allStrength_c4, e1, e2, ih]
  unfold f12_allStrength
  rw [k, e1]
noncomputable def sD (m : SI) (h : Nat) : Int32 := f12_stepsTo m (m 140 10) (nI h)
noncomputable def sN (LL : List LW) (hd : Int32) (m : SI) (h : Nat) (g w : Int32) : Int32 := SV LL hd (f12_isThankful m (nI h)) g ((m 140 8 + sD m h) + w) (fbitCount (m 140 11)) (sD m h) (m 140 12)
noncomputable def st (LL : List LW) (hd : Int32) (m : SI) (h : Nat) : Int32 := sN LL hd m h (m 140 h) 0
noncomputable def sE (LL : List LW) (hd : Int32) (m : SI) (h : Nat) : Int32 := (m 140 8 + sD m h) + st LL hd m h
noncomputable def cz (LL : List LW) (hd : Int32) (m : SI) (h : Nat) : Int32 := if f12_isThankful m (nI h) = true then 0 else (if st LL hd m h < m 140 h then st LL hd m h else m 140 h)
noncomputable def wn (LL : List LW) (hd : Int32) (m : SI) (h : Nat) : Int32 := if m 140 10 = nI h then 2 else (if f12_has (m 140 11) (nI h) = true then 2 else (if m 137 0 < sE LL hd m h then 4 else (if m 140 9 + sD m h ≤ f12_allStrength m then -1 else 4)))
theorem sN_fr {LL : List LW} {hd : Int32} {m m' : SI} {h : Nat} {g w : Int32} (e1 : m' 138 = m 138) (e2 : m' 140 = m 140) : sD m' h = sD m h ∧ sN LL hd m' h g w = sN LL hd m h g w := by
  unfold sN sD
  rw [steps_fr e1, thank_fr e1, e2]
  exact ⟨rfl, rfl⟩
theorem st_fr {LL : List LW} {hd : Int32} {m m' : SI} {h : Nat} (e1 : m' 138 = m 138) (e2 : m' 140 = m 140) : st LL hd m' h = st LL hd m h ∧ sE LL hd m' h = sE LL hd m h ∧ cz LL hd m' h = cz LL hd m h := by
  have a : st LL hd m' h = st LL hd m h := by unfold st; rw [(sN_fr e1 e2).2, e2]
  unfold sE cz
  rw [a, (sN_fr (LL := LL) (hd := hd) (g := 0) (w := 0) e1 e2).1, thank_fr e1, e2]
  exact ⟨rfl, rfl, rfl⟩
theorem sD_bnd {H B h : Nat} {c m : SI} (T : TR H B c m) (M : MB H m) (hh : h < H) : Bnd (sD m h) 0 18 := (dist T M.2.2.2.1 hh).2.2
theorem tD_bnd {H B h : Nat} {c m : SI} (T : TR H B c m) (M : MB H m) (hh : h < H) : (m 140 8 + sD m h).toInt = (m 140 8).toInt + (sD m h).toInt ∧ Bnd (m 140 8 + sD m h) 0 117 := by
  obtain ⟨a1, a2⟩ := sD_bnd T M hh
  obtain ⟨b1, b2⟩ := M.2.1
  have e : (m 140 8 + sD m h).toInt = (m 140 8).toInt + (sD m h).toInt := ti_add' (by omega) (by omega)
  refine ⟨e, ?_⟩
  unfold Bnd
  rw [e]
  omega
theorem bnd_le {x : Int32} {a b a' b' : Int} (h : Bnd x a b) (h1 : a' ≤ a) (h2 : b ≤ b') : Bnd x a' b' := ⟨by have := h.1; omega, by have := h.2; omega⟩
theorem st_bnd {LL : List LW} {hd : Int32} {H B h : Nat} {m : SI} (M : MB H m) (hh : h < H) : Bnd (st LL hd m h) 0 60 := SV_bnd (bnd_le (M.1 h hh) (by decide) (by decide))
theorem sE_bnd {LL : List LW} {hd : Int32} {H B h : Nat} {c m : SI} (T : TR H B c m) (M : MB H m) (hh : h < H) : (sE LL hd m h).toInt = (m 140 8).toInt + (sD m h).toInt + (st LL hd m h).toInt ∧ Bnd (sE LL hd m h) 0 177 := by
  obtain ⟨e, a1, a2⟩ := tD_bnd T M hh
  obtain ⟨b1, b2⟩ := st_bnd (LL := LL) (hd := hd) (B := B) M hh
  have e2 : (sE LL hd m h).toInt = (m 140 8).toInt + (sD m h).toInt + (st LL hd m h).toInt := by
    unfold sE
    rw [ti_add' (by omega) (by omega), e]
  refine ⟨e2, ?_⟩
  unfold Bnd
  omega
theorem stepsNow_m {H B h : Nat} {c m : SI} (T : TR H B c m) (M : MB H m) (hh : h < H) : f12_stepsNow m (nI h) = sD m h ∧ o12_stepsNow m (nI h) := ⟨rfl, (dist T M.2.2.2.1 hh).2.1, trivial⟩
theorem standsIf_m {LL : List LW} {hd : Int32} {H B h : Nat} {c m : SI} {g w : Int32} (T : TR H B c m) (L : LR LL hd c m) (M : MB H m) (hh : h < H) (hg : Bnd g 0 100) (hw : R6 ((m 140 8 + sD m h) + w)) : ∃ m', f12_standsIf m (nI h) g w = (sN LL hd m h g w, m') ∧ o12_standsIf m (nI h) g w ∧ FM m m' := by
  have oS := (stepsNow_m T M hh).2
  have q4 := (T.2.2.2.2.2.2.2.2.2.2.2.1 h hh).2.2.2
  obtain ⟨m', e, o, F⟩ := stand_m (LL := LL) (hd := hd) (c := c) (h := h) (by have := T.1; omega) q4 L hg hw (bnd_r6 (doors_bnd (m 140 11)) (by decide) (by decide)) (bnd_r6 (sD_bnd T M hh) (by decide) (by decide)) (bnd_r6 M.2.2.2.2 (by decide) (by decide))
  exact ⟨m', e, ⟨oS, oS, o, trivial⟩, F⟩
theorem z_add (x : Int32) : 0 + x = x := Int32.zero_add x
theorem standsNow_m {LL : List LW} {hd : Int32} {H B h : Nat} {c m : SI} (T : TR H B c m) (L : LR LL hd c m) (M : MB H m) (hh : h < H) : ∃ m', f12_standsNow m (nI h) = (st LL hd m h, m') ∧ o12_standsNow m (nI h) ∧ FM m m' := by
  have hH := T.1
  have hw : R6 ((m 140 8 + sD m h) + 0) := by rw [Int32.add_zero]; exact bnd_r6 (tD_bnd T M hh).2 (by decide) (by decide)
  obtain ⟨m', e, o, F⟩ := standsIf_m (LL := LL) (hd := hd) (w := 0) T L M hh (bnd_le (M.1 h hh) (by decide) (by decide)) hw
  unfold f12_standsNow o12_standsNow
  rw [z_add, nI_clamp (by omega)]
  exact ⟨m', e, ⟨vp_in_nI (by omega) (by decide), o, trivial⟩, F⟩
theorem endOf_m {LL : List LW} {hd : Int32} {H B h : Nat} {c m : SI} (T : TR H B c m) (L : LR LL hd c m) (M : MB H m) (hh : h < H) : ∃ m', f12_endOf m (nI h) = (sE LL hd m h, m') ∧ o12_endOf m (nI h) ∧ FM m m' := by
  obtain ⟨m', e, o, F⟩ := standsNow_m (LL := LL) (hd := hd) T L M hh
  have oS := (stepsNow_m T M hh).2
  unfold f12_endOf o12_endOf
  rw [e]
  exact ⟨m', rfl, ⟨oS, o, trivial⟩, F⟩
theorem easesNow_m {LL : List LW} {hd : Int32} {H B h : Nat} {c m : SI} (T : TR H B c m) (L : LR LL hd c m) (M : MB H m) (hh : h < H) : ∃ m', f12_easesNow m (nI h) = (cz LL hd m h, m') ∧ o12_easesNow m (nI h) ∧ FM m m' := by
  have hH := T.1
  have oT := (thank_c T hh).2
  unfold f12_easesNow o12_easesNow cz
  by_cases t : f12_isThankful m (nI h) = true
  · rw [if_pos t, if_pos t, if_pos t]
    exact ⟨m, rfl, ⟨oT, trivial⟩, FM_rf m⟩
  · rw [if_neg t, if_neg t, if_neg t, z_add, nI_clamp (by omega)]
    obtain ⟨m', e, o, F⟩ := standsNow_m (LL := LL) (hd := hd) T L M hh
    rw [e]
    exact ⟨m', rfl, ⟨oT, vp_in_nI (by omega) (by decide), o, trivial⟩, F⟩
theorem whyNot_m {LL : List LW} {hd : Int32} {H B h : Nat} {c m : SI} (T : TR H B c m) (L : LR LL hd c m) (M : MB H m) (hh : h < H) : ∃ m', f12_whyNot m (nI h) = (wn LL hd m h, m') ∧ o12_whyNot m (nI h) ∧ FM m m' := by
  have hH := T.1
  obtain ⟨m', e, o, F⟩ := endOf_m (LL := LL) (hd := hd) T L M hh
  have T' := TR_fm T F
  have M' := MB_fr M (F 140 (by decide) (by decide))
  unfold f12_whyNot o12_whyNot wn
  rw [if_pos (isH_c T hh).2, if_pos (isH_c T hh).2, e]
  dsimp only
  have e1 : f12_stepsNow m' (nI h) = sD m h := (sN_fr (LL := LL) (hd := hd) (g := 0) (w := 0) (F 138 (by decide) (by decide)) (F 140 (by decide) (by decide))).1
  have o1 := (stepsNow_m T' M' hh).2
  have o2 := (str_c T').2.1
  have e2 : f12_allStrength m' = f12_allStrength m := str_fr (m := m) (m' := m') (by rw [F 123 (by decide) (by decide)]) (F 139 (by decide) (by decide))
  simp only [e2, e1, F 137 (by decide) (by decide), F 140 (by decide) (by decide)]
  refine ⟨m', ?_, ⟨o, ?_⟩, F⟩
  · by_cases a1 : m 140 10 = nI h
    · simp only [if_pos a1]
      split
      · rfl
      · split <;> rfl
    · simp only [if_neg a1]
      by_cases a2 : f12_has (m 140 11) (nI h) = true
      · simp only [if_pos a2]
        split
        · rfl
        · split <;> rfl
      · simp only [if_neg a2]
        split
        · rfl
        · split <;> rfl
  · split
    · split
      · trivial
      · split <;> trivial
    · refine ⟨o1, o2, ?_⟩
      split
      · split
        · trivial
        · split <;> trivial
      · split
        · trivial
        · split <;> trivial
theorem whyNot_no {H B : Nat} {c m : SI} {x : Int32} (h : f12_isHouse m x = false) : f12_whyNot m x = (0, m) ∧ o12_whyNot m x := by
  unfold f12_whyNot o12_whyNot
  rw [h, if_neg Bool.false_ne_true, if_neg Bool.false_ne_true]
  exact ⟨rfl, trivial⟩
def CN (LL : List LW) (hd : Int32) (h : Nat) (m m' : SI) : Prop := (∀ a, a ≠ 132 → a ≠ 133 → a ≠ 140 → m' a = m a) ∧ m' 140 h = m 140 h - cz LL hd m h ∧ m' 140 8 = sE LL hd m h ∧ m' 140 9 = m 140 9 + sD m h ∧ m' 140 10 = nI h ∧ m' 140 11 = (m 140 11 ||| ((1 : Int32) <<< (nI h &&& 31))) ∧ m' 140 13 = m 140 13 + cz LL hd m h ∧ (∀ j, j ≠ h → j ≠ 8 → j ≠ 9 → j ≠ 10 → j ≠ 11 → j ≠ 13 → m' 140 j = m 140 j)
theorem carryNow_m {LL : List LW} {hd : Int32} {H B h : Nat} {c m : SI} (T : TR H B c m) (L : LR LL hd c m) (M : MB H m) (hh : h < H) : ∃ m', f12_carryNow m (nI h) = (cz LL hd m h, m') ∧ o12_carryNow m (nI h) ∧ CN LL hd h m m' := by
  have hH := T.1
  obtain ⟨m1, e1, o1, F1⟩ := easesNow_m (LL := LL) (hd := hd) T L M hh
  have T1 := TR_fm T F1
  have L1 := LR_fm L F1
  have M1 := MB_fr M (F1 140 (by decide) (by decide))
  obtain ⟨m2, e2, o2, F2⟩ := endOf_m (LL := LL) (hd := hd) T1 L1 M1 hh
  have F := FM_tr F1 F2
  have ss := sN_fr (LL := LL) (hd := hd) (h := h) (g := 0) (w := 0) (F1 138 (by decide) (by decide)) (F1 140 (by decide) (by decide))
  have tt := st_fr (LL := LL) (hd := hd) (h := h) (F1 138 (by decide) (by decide)) (F1 140 (by decide) (by decide))
  have o3 := (stepsNow_m T1 M1 hh).2
  have e3 : f12_stepsNow m1 (nI h) = sD m h := ss.1
  have vp : vp_in (nI h) 255 := vp_in_nI (by omega) (by decide)
  have e140 : m2 140 = m 140 := F 140 (by decide) (by decide)
  unfold f12_carryNow o12_carryNow
  rw [e1]
  dsimp only
  rw [e2, e3, z_add, nI_clamp (by omega), tt.2.1]
  dsimp only
  refine ⟨_, rfl, ⟨o1, o3, o2, vp, vp, trivial⟩, ?_⟩
  have n1 : h ≠ 8 := by omega
  have n2 : h ≠ 9 := by omega
  have n3 : h ≠ 10 := by omega
  have n4 : h ≠ 11 := by omega
  have n5 : h ≠ 13 := by omega
  refine ⟨fun a x y z => ?_, ?_, ?_, ?_, ?_, ?_, ?_, fun j x0 x1 x2 x3 x4 x5 => ?_⟩
  · rw [sp_n z, sp_n z, sp_n z, sp_n z, sp_n z, sp_n z, F a x y]
  · rw [sp_k n5, sp_k n4, sp_k n3, sp_k n2, sp_r, sp_k n1, e140]
  · rw [sp_k (by decide), sp_k (by decide), sp_k (by decide), sp_k (by decide), sp_k n1.symm, sp_r]
  · rw [sp_k (by decide), sp_k (by decide), sp_k (by decide), sp_r, sp_k n2.symm, sp_k (by decide), e140]
  · rw [sp_k (by decide), sp_k (by decide), sp_r]
  · rw [sp_k (by decide), sp_r, sp_k n4.symm, sp_k (by decide), e140]
  · rw [sp_r, sp_k n5.symm, sp_k (by decide), e140]
  · rw [sp_k x5, sp_k x4, sp_k x3, sp_k x2, sp_k x0, sp_k x1, e140]
