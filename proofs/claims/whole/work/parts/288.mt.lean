/-! he comes to a door: logged on both sides; carry -/
theorem note_c {s : SI} {g : Nat} (hg : g < 2 ^ 31) (e8 : s 24 8 = nI g) (x a b : Int32) : f5_note 24 s x a b = sp (sp (sp (sp (sp s 28 (g % 100 * 4) x) 28 (g % 100 * 4 + 1) a) 28 (g % 100 * 4 + 2) b) 28 (g % 100 * 4 + 3) (s 24 2)) 24 8 (nI (g + 1)) := by
  have hr : g % 100 < 100 := Nat.mod_lt _ (by decide)
  have rs : f5_rowStart (nI g) = nI (g % 100 * 4) := by
    unfold f5_rowStart
    rw [fm_nn hg, show (4 : Int32) = nI 4 from rfl, show nI (g % 100) * nI 4 = nI (g % 100 * 4) from pk_mul _ _]
  have st1 : ∀ (σ : SI) (i : Nat) (z : Int32), i < 400 → f11_setCell 28 400 σ (nI i) z = sp σ 28 i z := fun σ i z hi => set_at (k := 28) (n := 400) hi (by decide)
  unfold f5_note
  dsimp only
  rw [e8, rs, show nI (g % 100 * 4) + 1 = nI (g % 100 * 4 + 1) from nI_add _ 1, show nI (g % 100 * 4) + 2 = nI (g % 100 * 4 + 2) from nI_add _ 2, show nI (g % 100 * 4) + 3 = nI (g % 100 * 4 + 3) from nI_add _ 3, st1 _ _ _ (by omega), st1 _ _ _ (by omega), st1 _ _ _ (by omega), st1 _ _ _ (by omega)]
  have k24 : ∀ j z w y, (sp (sp (sp s 28 (g % 100 * 4) z) 28 (g % 100 * 4 + 1) w) 28 (g % 100 * 4 + 2) y) 24 j = s 24 j := fun j z w y => by rw [sp_n (by decide), sp_n (by decide), sp_n (by decide)]
  have k248 : ∀ z w y u, (sp (sp (sp (sp s 28 (g % 100 * 4) z) 28 (g % 100 * 4 + 1) w) 28 (g % 100 * 4 + 2) y) 28 (g % 100 * 4 + 3) u) 24 8 = nI g := fun z w y u => by rw [sp_n (by decide), sp_n (by decide), sp_n (by decide), sp_n (by decide), e8]
  rw [k24, k248, nI_1]
/-- the model's four numbers of a log's row -/
noncomputable def rw4 (m : SI) (l : Nat) (x a b : Int32) : SI := sp (sp (sp (sp m 140 (15 + 4 * l) x) 140 (15 + 4 * l + 1) a) 140 (15 + 4 * l + 2) b) 140 (15 + 4 * l + 3) (m 140 8)
theorem rw4_o {m : SI} {l : Nat} {x a b : Int32} {j : Nat} (h : j < 15 + 4 * l ∨ 15 + 4 * l + 4 ≤ j) : rw4 m l x a b 140 j = m 140 j := by
  unfold rw4
  rw [sp_k (by omega), sp_k (by omega), sp_k (by omega), sp_k (by omega)]
theorem rw4_n {m : SI} {l : Nat} {x a b : Int32} {k : Nat} (h : k ≠ 140) : rw4 m l x a b k = m k := by
  unfold rw4
  rw [sp_n h, sp_n h, sp_n h, sp_n h]
theorem rw4_v {m : SI} {l : Nat} {x a b : Int32} : rw4 m l x a b 140 (15 + 4 * l) = x ∧ rw4 m l x a b 140 (15 + 4 * l + 1) = a ∧ rw4 m l x a b 140 (15 + 4 * l + 2) = b ∧ rw4 m l x a b 140 (15 + 4 * l + 3) = m 140 8 := by
  unfold rw4
  refine ⟨?_, ?_, ?_, ?_⟩
  · rw [sp_k (by omega), sp_k (by omega), sp_k (by omega), sp_r]
  · rw [sp_k (by omega), sp_k (by omega), sp_r]
  · rw [sp_k (by omega), sp_r]
  · rw [sp_r]
theorem row_ix (l : Nat) : (15 : Int32) + (4 : Int32) * nI l = nI (15 + 4 * l) ∧ (15 : Int32) + (4 : Int32) * nI l + 1 = nI (15 + 4 * l + 1) ∧ (15 : Int32) + (4 : Int32) * nI l + 2 = nI (15 + 4 * l + 2) ∧ (15 : Int32) + (4 : Int32) * nI l + 3 = nI (15 + 4 * l + 3) := by
  have e : (15 : Int32) + (4 : Int32) * nI l = nI (15 + 4 * l) := by rw [show (4 : Int32) = nI 4 from rfl, show nI 4 * nI l = nI (4 * l) from pk_mul _ _]; exact nI_add 15 _
  rw [e]
  exact ⟨rfl, nI_add _ 1, nI_add _ 2, nI_add _ 3⟩
/-- the model's log moves up by one -/
theorem shift_in {x a b : Int32} : ∀ (fu v : Nat) (m : SI), 4 ≤ v → v ≤ 240 → 240 < v + fu → m 140 14 = 60 → ∃ m', f12_carryLogged_c27 x a b fu (nI v) m = (b, sp (rw4 (sp m' 140 14 59) 59 x a b) 140 14 60) ∧ o12_carryLogged_c27 x a b fu (nI v) m ∧ (∀ k, k ≠ 140 → m' k = m k) ∧ (∀ j, j < 15 + v - 4 → m' 140 j = m 140 j) ∧ (∀ j, v ≤ j → j < 240 → m' 140 (15 + j - 4) = m 140 (15 + j)) := by
  intro fu
  induction fu with
  | zero => intro v m h0 h1 h2; omega
  | succ fu ih =>
    intro v m h0 h1 h2 h3
    rw [f12_carryLogged_c27, o12_carryLogged_c27]
    by_cases q : v = 240
    · subst q
      have le : (240 : Int32) ≤ nI 240 := by decide
      obtain ⟨r1, r2, r3, r4⟩ := row_ix 59
      have e59 : (60 : Int32) - 1 = nI 59 := by decide
      have c0 : Int32.toNatClampNeg (nI (15 + 4 * 59)) = 15 + 4 * 59 := nI_clamp (by decide)
      have c1 : Int32.toNatClampNeg (nI (15 + 4 * 59 + 1)) = 15 + 4 * 59 + 1 := nI_clamp (by decide)
      have c2 : Int32.toNatClampNeg (nI (15 + 4 * 59 + 2)) = 15 + 4 * 59 + 2 := nI_clamp (by decide)
      have c3 : Int32.toNatClampNeg (nI (15 + 4 * 59 + 3)) = 15 + 4 * 59 + 3 := nI_clamp (by decide)
      rw [if_pos le, if_pos le, h3, e59, r4, r3, r2, r1, c0, c1, c2, c3]
      refine ⟨m, ?_, ⟨vp_in_nI (by decide) (by decide), vp_in_nI (by decide) (by decide), vp_in_nI (by decide) (by decide), vp_in_nI (by decide) (by decide), trivial⟩, fun _ _ => rfl, fun _ _ => rfl, fun j u w => by omega⟩
      dsimp only
      have k8 : (sp (sp (sp (sp m 140 14 (nI 59)) 140 (15 + 4 * 59) x) 140 (15 + 4 * 59 + 1) a) 140 (15 + 4 * 59 + 2) b) 140 8 = (sp m 140 14 (nI 59)) 140 8 := by rw [sp_k (by decide), sp_k (by decide), sp_k (by decide)]
      have k14 : ∀ z, (sp (sp (sp (sp (sp m 140 14 (nI 59)) 140 (15 + 4 * 59) x) 140 (15 + 4 * 59 + 1) a) 140 (15 + 4 * 59 + 2) b) 140 (15 + 4 * 59 + 3) z) 140 14 + 1 = 60 := fun z => by rw [sp_k (by decide), sp_k (by decide), sp_k (by decide), sp_k (by decide), sp_r]; decide
      rw [k8, k14]
      rfl
    · have nle : ¬ (240 : Int32) ≤ nI v := nI_ge (b := 240) (by omega) (by decide)
      have i1 : (15 : Int32) + nI v = nI (15 + v) := nI_add 15 v
      have i2 : nI (15 + v) - (4 : Int32) = nI (15 + v - 4) := nI_sub (b := 4) (by omega)
      rw [if_neg nle, if_neg nle, i1, i2, nI_clamp (by omega), nI_clamp (by omega), nI_1]
      obtain ⟨m', k1, k2, k3, k4, k5⟩ := ih (v + 1) (sp m 140 (15 + v - 4) (m 140 (15 + v))) (by omega) (by omega) (by omega) (by rw [sp_k (by omega)]; exact h3)
      refine ⟨m', k1, ⟨vp_in_nI (by omega) (by decide), vp_in_nI (by omega) (by decide), k2⟩, fun k u => by rw [k3 k u, sp_n u], fun j u => by rw [k4 j (by omega), sp_k (by omega)], fun j u w => ?_⟩
      by_cases e : j = v
      · subst e
        rw [k4 _ (by omega), sp_r]
      · rw [k5 j (by omega) w, sp_k (by omega)]
/-- the model's log after one more row -/
theorem logged_m {LL : List LW} {hd : Int32} {H B h g : Nat} {c m : SI} (T : TR H B c m) (L : LR LL hd c m) (M : MB H m) (hh : h < H) (e14 : m 140 14 = nI (min 60 g)) : ∃ m2 m', f12_carryLogged m (nI h) = (cz LL hd m h, m') ∧ o12_carryLogged m (nI h) ∧ CN LL hd h m m2 ∧ (∀ k, k ≠ 140 → m' k = m2 k) ∧ (∀ j, j < 14 → m' 140 j = m2 140 j) ∧ m' 140 14 = nI (min 60 (g + 1)) ∧ (∀ j q, j + 1 < min 60 (g + 1) → q < 4 → m' 140 (15 + 4 * j + q) = m2 140 (15 + 4 * (j + (min 60 g + 1 - min 60 (g + 1))) + q)) ∧ m' 140 (15 + 4 * (min 60 (g + 1) - 1)) = nI h ∧ m' 140 (15 + 4 * (min 60 (g + 1) - 1) + 1) = st LL hd m h ∧ m' 140 (15 + 4 * (min 60 (g + 1) - 1) + 2) = cz LL hd m h ∧ m' 140 (15 + 4 * (min 60 (g + 1) - 1) + 3) = sE LL hd m h := by
  have hH := T.1
  obtain ⟨m1, e1, o1, F1⟩ := standsNow_m (LL := LL) (hd := hd) T L M hh
  obtain ⟨m2, e2, o2, C2⟩ := carryNow_m (LL := LL) (hd := hd) (TR_fm T F1) (LR_fm L F1) (MB_fr M (F1 140 (by decide) (by decide))) hh
  have tt := st_fr (LL := LL) (hd := hd) (h := h) (F1 138 (by decide) (by decide)) (F1 140 (by decide) (by decide))
  rw [tt.2.2] at e2
  have C : CN LL hd h m m2 := FM_CN F1 C2
  have e14' : m2 140 14 = nI (min 60 g) := (C.2.2.2.2.2.2.2 14 (by omega) (by decide) (by decide) (by decide) (by decide) (by decide)).trans e14
  have e8 : m2 140 8 = sE LL hd m h := C.2.2.1
  unfold f12_carryLogged o12_carryLogged
  rw [e1]
  dsimp only
  rw [e2]
  dsimp only
  by_cases q : 60 ≤ g
  · have e60 : m2 140 14 = 60 := by rw [e14', Nat.min_eq_left q]; rfl
    have ef : fu1 ((Int32.toInt (240 : Int32) - Int32.toInt (4 : Int32)).toNat) = 237 := by rw [fu1_eq]; rfl
    rw [if_pos e60, if_pos e60, ef]
    obtain ⟨m3, i1, i2, i3, i4, i5⟩ := shift_in (x := nI h) (a := st LL hd m h) (b := cz LL hd m h) 237 4 m2 (Nat.le_refl _) (by decide) (by decide) e60
    have i1' : f12_carryLogged_c27 (nI h) (st LL hd m h) (cz LL hd m h) 237 4 m2 = _ := i1
    rw [i1', Nat.min_eq_left q, Nat.min_eq_left (by omega : 60 ≤ g + 1)]
    obtain ⟨v1, v2, v3, v4⟩ := rw4_v (m := sp m3 140 14 59) (l := 59) (x := nI h) (a := st LL hd m h) (b := cz LL hd m h)
    have m8 : m3 140 8 = sE LL hd m h := by rw [i4 8 (by decide), e8]
    refine ⟨m2, _, rfl, ⟨o1, o2, i2⟩, C, fun k u => by rw [sp_n u, rw4_n u, sp_n u, i3 k u], fun j u => by rw [sp_k (by omega), rw4_o (by omega), sp_k (by omega), i4 j (by omega)], by rw [sp_r]; rfl, fun j r u w => ?_, ?_, ?_, ?_, ?_⟩
    · rw [sp_k (by omega), rw4_o (by omega), sp_k (by omega), show 15 + 4 * j + r = 15 + (4 * j + r + 4) - 4 by omega, i5 _ (by omega) (by omega)]
      rw [show 15 + (4 * j + r + 4) = 15 + 4 * (j + (60 + 1 - 60)) + r by omega]
    · rw [sp_k (by decide)]; exact v1
    · rw [sp_k (by decide)]; exact v2
    · rw [sp_k (by decide)]; exact v3
    · rw [sp_k (by decide)]
      refine v4.trans ?_
      rw [sp_k (by decide), m8]
  · have ne60 : ¬ m2 140 14 = 60 := by
      rw [e14', Nat.min_eq_right (by omega)]
      exact ne_lit (b := 60) (by omega) (by omega) (by decide)
    rw [if_neg ne60, if_neg ne60, e14', Nat.min_eq_right (by omega : g ≤ 60), Nat.min_eq_right (by omega : g + 1 ≤ 60)]
    obtain ⟨r1, r2, r3, r4⟩ := row_ix g
    rw [r4, r3, r2, r1, nI_clamp (by omega), nI_clamp (by omega), nI_clamp (by omega), nI_clamp (by omega)]
    have k8 : (sp (sp (sp m2 140 (15 + 4 * g) (nI h)) 140 (15 + 4 * g + 1) (st LL hd m h)) 140 (15 + 4 * g + 2) (cz LL hd m h)) 140 8 = m2 140 8 := by rw [sp_k (by omega), sp_k (by omega), sp_k (by omega)]
    have k14 : ∀ z, (sp (sp (sp (sp m2 140 (15 + 4 * g) (nI h)) 140 (15 + 4 * g + 1) (st LL hd m h)) 140 (15 + 4 * g + 2) (cz LL hd m h)) 140 (15 + 4 * g + 3) z) 140 14 = nI g := fun z => by rw [sp_k (by omega), sp_k (by omega), sp_k (by omega), sp_k (by omega), e14', Nat.min_eq_right (by omega)]
    rw [k8, k14, nI_1]
    obtain ⟨v1, v2, v3, v4⟩ := rw4_v (m := m2) (l := g) (x := nI h) (a := st LL hd m h) (b := cz LL hd m h)
    refine ⟨m2, sp (rw4 m2 g (nI h) (st LL hd m h) (cz LL hd m h)) 140 14 (nI (g + 1)), rfl, ⟨o1, o2, vp_in_nI (by omega) (by decide), vp_in_nI (by omega) (by decide), vp_in_nI (by omega) (by decide), vp_in_nI (by omega) (by decide), trivial⟩, C, fun k u => by rw [sp_n u, rw4_n u], fun j u => by rw [sp_k (by omega), rw4_o (by omega)], sp_r, fun j r u w => ?_, ?_, ?_, ?_, ?_⟩
    · rw [sp_k (by omega), rw4_o (by omega), Nat.sub_self, Nat.add_zero]
    · rw [Nat.add_sub_cancel, sp_k (by omega)]; exact v1
    · rw [Nat.add_sub_cancel, sp_k (by omega)]; exact v2
    · rw [Nat.add_sub_cancel, sp_k (by omega)]; exact v3
    · rw [Nat.add_sub_cancel, sp_k (by omega)]; exact v4.trans e8
theorem arrive {G : Nat} {c m : SI} {H B : Nat} {LL : List LW} {hd : Int32} {g n x : Nat} {gs : Nat → Nat} {h : Nat} (J : IX0 G c m H B LL hd g n x gs) (hG : G + 1 < 2 ^ 31) (hn1 : 1 ≤ n) (hl : gs (n - 1) = g) (hh : h < H) (hw : wn LL hd m h = -1) (l3 : c 32 3 = nI h) (l4 : c 32 4 = sE LL hd m h) (l5 : c 32 5 = m 140 9 + sD m h) (l6 : c 32 6 = (m 140 11 ||| ((1 : Int32) <<< (nI h &&& 31)))) (l7 : c 32 7 = st LL hd m h) (l8 : c 32 8 = cz LL hd m h) : ∃ c' m' gs', f11_arrived c (nI h) = (cz LL hd m h, c') ∧ f12_carryLogged m (nI h) = (cz LL hd m h, m') ∧ o12_carryLogged m (nI h) ∧ IX0 (G + 1) c' m' H B LL hd (g + 1) n x gs' := by
  obtain ⟨h1, T, L, hD, hL, hK, h7, h8, hg, h10⟩ := J
  have J : IX0 G c m H B LL hd g n x gs := ⟨h1, T, L, hD, hL, hK, h7, h8, hg, h10⟩
  have hH := T.1
  have hz : H ≠ 0 := by omega
  have D := DAY_DN hD
  have M := DN_MB D hz
  obtain ⟨_, _, _, _, _, _, _, _, _, d8, d14, _⟩ := hD
  have d14 : m 140 14 = nI (min 60 g) := d14
  obtain ⟨m2, m', p1, p2, C, p4, p5, p6, p7, p8, p9, p10, p11⟩ := logged_m (LL := LL) (hd := hd) T L M hh d14
  have M2 : MB H m2 := CN_MB T M hh C hw
  obtain ⟨C1, C2, C3, C4, C5, C6, C7, C8⟩ := C
  obtain ⟨a1, a2, a3, a4, a5, a6, a7, a8, a9, a10⟩ := D
  have gv : f0_grievanceOf 24 (sp (sp (sp (sp c 24 2 (c 32 4)) 24 3 (c 32 5)) 24 4 (c 32 3)) 24 5 (c 32 6)) (nI h) = m 140 h := by
    rw [grief_c (by omega), sp_n (by decide), sp_n (by decide), sp_n (by decide), sp_n (by decide)]
    exact (a1 h hh).1
  have set1 : ∀ (s : SI) (z : Int32), f0_setGrievance 24 s (nI h) z = sp s 25 h z := fun s z => set_at (k := 25) (n := 7) (by omega) (by decide)
  unfold f11_arrived
  dsimp only
  rw [gv, set1, l3, l4, l5, l6, l8]
  generalize hs4 : sp (sp (sp (sp (sp c 24 2 (sE LL hd m h)) 24 3 (m 140 9 + sD m h)) 24 4 (nI h)) 24 5 (m 140 11 ||| ((1 : Int32) <<< (nI h &&& 31)))) 25 h (m 140 h - cz LL hd m h) = s4
  have s4a : ∀ a, a ≠ 24 → a ≠ 25 → s4 a = c a := fun a x1 x2 => by rw [← hs4, sp_n x2, sp_n x1, sp_n x1, sp_n x1, sp_n x1]
  have s4o : ∀ j, j ≠ 2 → j ≠ 3 → j ≠ 4 → j ≠ 5 → s4 24 j = c 24 j := fun j x1 x2 x3 x4 => by rw [← hs4, sp_n (by decide), sp_k x4, sp_k x3, sp_k x2, sp_k x1]
  have s42 : s4 24 2 = sE LL hd m h := by rw [← hs4, sp_n (by decide), sp_k (by decide), sp_k (by decide), sp_k (by decide), sp_r]
  have s43 : s4 24 3 = m 140 9 + sD m h := by rw [← hs4, sp_n (by decide), sp_k (by decide), sp_k (by decide), sp_r]
  have s44 : s4 24 4 = nI h := by rw [← hs4, sp_n (by decide), sp_k (by decide), sp_r]
  have s45 : s4 24 5 = (m 140 11 ||| ((1 : Int32) <<< (nI h &&& 31))) := by rw [← hs4, sp_n (by decide), sp_r]
  have s4h : s4 25 h = m 140 h - cz LL hd m h := by rw [← hs4, sp_r]
  have s4k : ∀ k, k ≠ h → s4 25 k = c 25 k := fun k hk => by rw [← hs4, sp_k hk, sp_n (by decide), sp_n (by decide), sp_n (by decide), sp_n (by decide)]
  have e327 : s4 32 7 = st LL hd m h := by rw [s4a 32 (by decide) (by decide), l7]
  have e247 : s4 24 7 = m 140 13 := by rw [s4o 7 (by decide) (by decide) (by decide) (by decide), a9]
  have e248 : (sp s4 24 7 (s4 24 7 + cz LL hd m h)) 24 8 = nI g := by rw [sp_k (by decide), s4o 8 (by decide) (by decide) (by decide) (by decide), d8]
  rw [note_c (by omega) e248, e327, e247, sp_k (show 2 ≠ 7 by decide), s42]
  generalize hc : sp (sp (sp (sp (sp (sp s4 24 7 (m 140 13 + cz LL hd m h)) 28 (g % 100 * 4) (nI h)) 28 (g % 100 * 4 + 1) (st LL hd m h)) 28 (g % 100 * 4 + 2) (cz LL hd m h)) 28 (g % 100 * 4 + 3) (sE LL hd m h)) 24 8 (nI (g + 1)) = c'
  have ca : ∀ a, a ≠ 24 → a ≠ 25 → a ≠ 28 → c' a = c a := fun a x1 x2 x3 => by rw [← hc, sp_n x1, sp_n x3, sp_n x3, sp_n x3, sp_n x3, sp_n x1, s4a a x1 x2]
  have c24 : ∀ j, j ≠ 7 → j ≠ 8 → c' 24 j = s4 24 j := fun j x1 x2 => by rw [← hc, sp_k x2, sp_n (by decide), sp_n (by decide), sp_n (by decide), sp_n (by decide), sp_k x1]
  have c247 : c' 24 7 = m 140 13 + cz LL hd m h := by rw [← hc, sp_k (by decide), sp_n (by decide), sp_n (by decide), sp_n (by decide), sp_n (by decide), sp_r]
  have c248 : c' 24 8 = nI (g + 1) := by rw [← hc, sp_r]
  have c25 : ∀ k, c' 25 k = s4 25 k := fun k => by rw [← hc, sp_n (by decide), sp_n (by decide), sp_n (by decide), sp_n (by decide), sp_n (by decide), sp_n (by decide)]
  have r0 : c' 28 (g % 100 * 4) = nI h := by rw [← hc, sp_n (by decide), sp_k (by omega), sp_k (by omega), sp_k (by omega), sp_r]
  have r1 : c' 28 (g % 100 * 4 + 1) = st LL hd m h := by rw [← hc, sp_n (by decide), sp_k (by omega), sp_k (by omega), sp_r]
  have r2 : c' 28 (g % 100 * 4 + 2) = cz LL hd m h := by rw [← hc, sp_n (by decide), sp_k (by omega), sp_r]
  have r3 : c' 28 (g % 100 * 4 + 3) = sE LL hd m h := by rw [← hc, sp_n (by decide), sp_r]
  have ro : ∀ e q, e % 100 ≠ g % 100 → q < 4 → c' 28 (e % 100 * 4 + q) = c 28 (e % 100 * 4 + q) := fun e q x1 x2 => by rw [← hc, sp_n (by decide), sp_k (by omega), sp_k (by omega), sp_k (by omega), sp_k (by omega), sp_n (by decide), s4a 28 (by decide) (by decide)]
  refine ⟨c', m', fun i => if i = n then g + 1 else gs i, rfl, p1, p2, ?_⟩
  have ma : ∀ a, a ≠ 132 → a ≠ 133 → a ≠ 140 → m' a = m a := fun a x1 x2 x3 => (p4 a x3).trans (C1 a x1 x2 x3)
  have mo : ∀ j, j < 14 → j ≠ h → j ≠ 8 → j ≠ 9 → j ≠ 10 → j ≠ 11 → j ≠ 13 → m' 140 j = m 140 j := fun j x0 x1 x2 x3 x4 x5 x6 => (p5 j x0).trans (C8 j x1 x2 x3 x4 x5 x6)
  have D' : DN H c' m' := by
    obtain ⟨B1, B2, B3, B4, B5⟩ := M2
    refine ⟨fun k hk => ⟨?_, ?_⟩, ⟨?_, ?_⟩, ⟨?_, ?_⟩, ⟨?_, ?_⟩, fun _ => ⟨?_, ?_⟩, fun e => absurd e hz, ?_, ⟨?_, ?_⟩, ?_, ?_⟩
    · rw [c25, p5 k (by omega)]
      by_cases e : k = h
      · subst e
        rw [s4h, C2]
      · rw [s4k k e, C8 k e (by omega) (by omega) (by omega) (by omega) (by omega)]
        exact (a1 k hk).1
    · rw [p5 k (by omega)]; exact B1 k hk
    · rw [c24 1 (by decide) (by decide), s4o 1 (by decide) (by decide) (by decide) (by decide), mo 7 (by decide) (by omega) (by decide) (by decide) (by decide) (by decide) (by decide)]; exact a2.1
    · rw [mo 7 (by decide) (by omega) (by decide) (by decide) (by decide) (by decide) (by decide)]; exact a2.2
    · rw [c24 2 (by decide) (by decide), s42, p5 8 (by decide), C3]
    · rw [p5 8 (by decide)]; exact B2
    · rw [c24 3 (by decide) (by decide), s43, p5 9 (by decide), C4]
    · rw [p5 9 (by decide)]; exact B3
    · rw [c24 4 (by decide) (by decide), s44, p5 10 (by decide), C5]
    · rw [p5 10 (by decide)]; exact B4
    · rw [c24 5 (by decide) (by decide), s45, p5 11 (by decide), C6]
    · rw [c24 6 (by decide) (by decide), s4o 6 (by decide) (by decide) (by decide) (by decide), mo 12 (by decide) (by omega) (by decide) (by decide) (by decide) (by decide) (by decide)]; exact a8.1
    · rw [p5 12 (by decide)]; exact B5
    · rw [c247, p5 13 (by decide), C7]
    · rw [p5 11 (by decide), C6]
      obtain ⟨w, hw1, ew⟩ := a10
      rw [ew]
      exact ⟨_, (set_bit w hw1 h (by omega)).2, (set_bit w hw1 h (by omega)).1⟩
  obtain ⟨k1, k2, k3, k4, k5, k6, k7, k8⟩ := hK
  refine IX_day J (Nat.le_succ _) (fun a q => ca a (by omega) (by omega) (by omega)) (by rw [ca 1 (by decide) (by decide) (by decide)]) (by rw [ca 13 (by decide) (by decide) (by decide)]) (by rw [ca 13 (by decide) (by decide) (by decide)]) (by rw [ca 0 (by decide) (by decide) (by decide)]) (by rw [ca 26 (by decide) (by decide) (by decide)]) (fun a q => ma a (by omega) (by omega) (by omega)) (fun j q => by rw [ma 123 (by decide) (by decide) (by decide)]) (DN_DAY D' c248 p6) ?_ ?_ (by omega)
  · intro j q hj hq
    rw [Nat.zero_add]
    by_cases e : j + 1 = min 60 (g + 1)
    · have ej : j = min 60 (g + 1) - 1 := by omega
      have ei : (g + 1 - min 60 (g + 1) + j) % 100 = g % 100 := by rw [show g + 1 - min 60 (g + 1) + j = g by omega]
      rw [ei, ej]
      rcases (by omega : q = 0 ∨ q = 1 ∨ q = 2 ∨ q = 3) with rfl | rfl | rfl | rfl
      · exact r0.trans p8.symm
      · exact r1.trans p9.symm
      · exact r2.trans p10.symm
      · exact r3.trans p11.symm
    · rw [p7 j q (by omega) hq, ro _ q (by omega) hq, C8 _ (by omega) (by omega) (by omega) (by omega) (by omega) (by omega)]
      have := hL (j + (min 60 g + 1 - min 60 (g + 1))) q (by omega) hq
      rw [Nat.zero_add, show g - min 60 g + (j + (min 60 g + 1 - min 60 (g + 1))) = g + 1 - min 60 (g + 1) + j by omega] at this
      exact this
  · refine ⟨k1, k2, by rw [ca 26 (by decide) (by decide) (by decide)]; exact k3, by rw [ma 123 (by decide) (by decide) (by decide)]; exact k4, by rw [ca 26 (by decide) (by decide) (by decide)]; exact k5, if_pos rfl, fun i j hij hj => ?_, fun i hi => ?_⟩
    · dsimp only
      by_cases ej : j = n
      · by_cases ei : i = n
        · rw [if_pos ei, if_pos ej]
          exact ⟨Nat.le_refl _, Nat.le_add_right _ _⟩
        · rw [if_neg ei, if_pos ej]
          obtain ⟨y1, y2⟩ := k7 i (n - 1) (by omega) (by omega)
          rw [hl] at y1 y2
          exact ⟨by omega, by omega⟩
      · rw [if_neg (by omega), if_neg ej]
        exact k7 i j hij hj
    · obtain ⟨y1, y2⟩ := k7 i (n - 1) (by omega) (by omega)
      rw [hl] at y1 y2
      obtain ⟨d1, d2⟩ := k8 i hi
      have hq : (x + 40 - n + i) % 40 < 40 := Nat.mod_lt _ (by decide)
      dsimp only
      rw [if_neg (by omega)]
      refine ⟨DAY_as hH d1 (fun j _ => by rw [ca _ (by omega) (by omega) (by omega)]) (fun j _ _ => by rw [ca _ (by omega) (by omega) (by omega)]) (fun j _ => by rw [ma 142 (by decide) (by decide) (by decide)]), fun j q hj hq => ?_⟩
      rw [ro _ q (by omega) hq, ma 142 (by decide) (by decide) (by decide)]
      exact d2 j q hj hq
