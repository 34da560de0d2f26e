/-! the litter's step on both sides; the order call -/
theorem cz_bnd {LL : List LW} {hd : Int32} {H B h : Nat} {m : SI} (M : MB H m) (hh : h < H) : Bnd (cz LL hd m h) 0 60 ∧ Bnd (m 140 h - cz LL hd m h) 0 30 := by
  obtain ⟨g1, g2⟩ := M.1 h hh
  obtain ⟨s1, s2⟩ := st_bnd (LL := LL) (hd := hd) (B := B) M hh
  have t0 : (0 : Int32).toInt = 0 := rfl
  unfold cz
  split
  · refine ⟨⟨by rw [t0]; omega, by rw [t0]; omega⟩, ?_⟩
    rw [Int32.sub_zero]
    exact ⟨g1, g2⟩
  · split
    · rename_i q
      rw [lt_ti] at q
      refine ⟨⟨s1, s2⟩, ?_⟩
      unfold Bnd
      rw [ti_sub' (by omega) (by omega)]
      omega
    · refine ⟨⟨g1, by omega⟩, ?_⟩
      unfold Bnd
      rw [ti_sub' (by omega) (by omega)]
      omega
theorem FM_CN {LL : List LW} {hd : Int32} {h : Nat} {m m1 m2 : SI} (F : FM m m1) (C : CN LL hd h m1 m2) : CN LL hd h m m2 := by
  obtain ⟨c0, c1, c2, c3, c4, c5, c6, c7⟩ := C
  have e140 : m1 140 = m 140 := F _ (by decide) (by decide)
  have e138 : m1 138 = m 138 := F _ (by decide) (by decide)
  obtain ⟨t1, t2, t3⟩ := st_fr (LL := LL) (hd := hd) (h := h) e138 e140
  have t4 := (sN_fr (LL := LL) (hd := hd) (h := h) (g := 0) (w := 0) e138 e140).1
  rw [t3, e140] at c1 c6
  rw [t2] at c2
  rw [t4, e140] at c3
  rw [e140] at c5 c7
  exact ⟨fun a x y z => (c0 a x y z).trans (F a x y), c1, c2, c3, c4, c5, c6, c7⟩
theorem CN_TR {LL : List LW} {hd : Int32} {H B h : Nat} {c m m' : SI} (T : TR H B c m) (C : CN LL hd h m m') : TR H B c m' := TR_fr T rfl rfl (by rw [C.1 123 (by decide) (by decide) (by decide)]) (by rw [C.1 123 (by decide) (by decide) (by decide)]) (C.1 _ (by decide) (by decide) (by decide)) (C.1 _ (by decide) (by decide) (by decide)) (C.1 _ (by decide) (by decide) (by decide))
theorem CN_LR {LL L2 : List LW} {hd hd2 : Int32} {h : Nat} {c m m' : SI} (L : LR L2 hd2 c m) (C : CN LL hd h m m') : LR L2 hd2 c m' := LR_fr L (fun _ _ _ => rfl) rfl rfl (fun a x y _ => C.1 a (by omega) (by omega) (by omega)) (by rw [C.1 123 (by decide) (by decide) (by decide)]) (by rw [C.1 123 (by decide) (by decide) (by decide)])
theorem CN_MB {LL : List LW} {hd : Int32} {H B h : Nat} {c m m' : SI} (T : TR H B c m) (M : MB H m) (hh : h < H) (C : CN LL hd h m m') (hw : wn LL hd m h = -1) : MB H m' := by
  have hH := T.1
  obtain ⟨c0, c1, c2, c3, c4, c5, c6, c7⟩ := C
  rcases wn_cases LL hd m h with ⟨w, n1, n2, n3, n4⟩ | ⟨w, _⟩ | ⟨w, _⟩
  · obtain ⟨z0, z1, z2⟩ := sE_bnd (LL := LL) (hd := hd) T M hh
    obtain ⟨p1, p2⟩ := T.2.2.2.2.2.2.2.2.2.2.1.1
    obtain ⟨q1, q2⟩ := (str_c T).2.2
    obtain ⟨d1, d2⟩ := sD_bnd T M hh
    obtain ⟨t1, t2⟩ := M.2.2.1
    refine ⟨fun k hk => ?_, ?_, ?_, ?_, ?_⟩
    · by_cases e : k = h
      · subst e; rw [c1]; exact (cz_bnd (B := B) M hh).2
      · rw [c7 k e (by omega) (by omega) (by omega) (by omega) (by omega)]; exact M.1 k hk
    · rw [c2]
      rw [lt_ti] at n3
      exact ⟨z1, by omega⟩
    · rw [c3]
      rw [le_ti] at n4
      have e := ti_add' (a := m 140 9) (b := sD m h) (by omega) (by omega)
      unfold Bnd
      rw [e] at n4 ⊢
      omega
    · rw [c4]; exact Or.inr ⟨h, hh, rfl⟩
    · rw [c7 12 (by omega) (by decide) (by decide) (by decide) (by decide) (by decide)]; exact M.2.2.2.2
  · rw [hw] at w; exact absurd w (by decide)
  · rw [hw] at w; exact absurd w (by decide)
theorem step_yes {LL : List LW} {hd : Int32} {H B h : Nat} {c m : SI} (T : TR H B c m) (L : LR LL hd c m) (M : MB H m) (I : LIT H c m) (hh : h < H) (hw : wn LL hd m h = -1) : ∃ c1 m1 m2, f4_comesTo c (nI h) = (true, c1) ∧ f12_whyNot m (nI h) = (-1, m1) ∧ o12_whyNot m (nI h) ∧ FM m m1 ∧ f12_carryNow m1 (nI h) = (cz LL hd m h, m2) ∧ o12_carryNow m1 (nI h) ∧ CN LL hd h m m2 ∧ LTS c c1 ∧ c1 32 7 = st LL hd m h ∧ c1 32 8 = cz LL hd m h ∧ LIT H c1 m2 ∧ MB H m2 ∧ TR H B c1 m2 ∧ LR LL hd c1 m2 := by
  have hH := T.1
  obtain ⟨c1, S, u⟩ := comes_c (LL := LL) (hd := hd) T L M I hh
  rcases u with ⟨_, e1, k3, k4, k5, k6, k7, k8⟩ | ⟨w, _⟩
  · obtain ⟨m1, e2, o1, F⟩ := whyNot_m (LL := LL) (hd := hd) T L M hh
    rw [hw] at e2
    have e140 : m1 140 = m 140 := F _ (by decide) (by decide)
    have e138 : m1 138 = m 138 := F _ (by decide) (by decide)
    obtain ⟨m2, e3, o2, C0⟩ := carryNow_m (LL := LL) (hd := hd) (TR_fm T F) (LR_fm L F) (MB_fr M e140) hh
    rw [(st_fr (LL := LL) (hd := hd) (h := h) e138 e140).2.2] at e3
    have C := FM_CN F C0
    obtain ⟨c0, d1, d2, d3, d4, d5, d6, d7⟩ := C
    have C : CN LL hd h m m2 := ⟨c0, d1, d2, d3, d4, d5, d6, d7⟩
    refine ⟨c1, m1, m2, e1, e2, o1, F, e3, o2, C, S, k7, k8, ⟨k3.trans d4.symm, k4.trans d2.symm, k5.trans d3.symm, k6.trans d5.symm, ?_, fun k hk nb => ?_⟩, CN_MB T M hh C hw, CN_TR (TR_sx T (LTS_SX S)) C, CN_LR (LR_sx L (LTS_SX S)) C⟩
    · rw [sx24 (LTS_SX S), d7 12 (by omega) (by decide) (by decide) (by decide) (by decide) (by decide)]; exact I.2.2.2.2.1
    · rw [d5, has_bt _ (by omega), or_bt _ (by omega) (by omega), Bool.or_eq_true, decide_eq_true_eq] at nb
      have n1 : k ≠ h := fun e => nb (Or.inr e)
      rw [sx25 (LTS_SX S), d7 k n1 (by omega) (by omega) (by omega) (by omega) (by omega)]
      exact I.2.2.2.2.2 k hk (fun a => nb (Or.inl (by rw [has_bt _ (by omega)] at a; exact a)))
  · exact absurd hw w
theorem step_no {LL : List LW} {hd : Int32} {H B h : Nat} {c m : SI} (T : TR H B c m) (L : LR LL hd c m) (M : MB H m) (I : LIT H c m) (hh : h < H) (hw : wn LL hd m h ≠ -1) : ∃ c1 m1, f4_comesTo c (nI h) = (false, c1) ∧ f12_whyNot m (nI h) = (wn LL hd m h, m1) ∧ o12_whyNot m (nI h) ∧ FM m m1 ∧ LTS c c1 ∧ c1 32 = c 32 ∧ LIT H c1 m1 ∧ MB H m1 ∧ TR H B c1 m1 ∧ LR LL hd c1 m1 := by
  obtain ⟨c1, S, u⟩ := comes_c (LL := LL) (hd := hd) T L M I hh
  rcases u with ⟨w, _⟩ | ⟨_, e1, k⟩
  · exact absurd w hw
  · obtain ⟨m1, e2, o1, F⟩ := whyNot_m (LL := LL) (hd := hd) T L M hh
    have e140 : m1 140 = m 140 := F _ (by decide) (by decide)
    refine ⟨c1, m1, e1, e2, o1, F, S, k, ?_, MB_fr M e140, TR_fm (TR_sx T (LTS_SX S)) F, LR_fm (LR_sx L (LTS_SX S)) F⟩
    unfold LIT at I ⊢
    rw [k, e140, sx24 (LTS_SX S), sx25 (LTS_SX S)]
    exact I
noncomputable def gn (H : Nat) (m : SI) : Nat → Nat := fun k => if k < H then (m 140 k).toInt.toNat else 0
theorem gn_at {H k : Nat} {m : SI} (hk : k < H) (b : Bnd (m 140 k) 0 30) : m 140 k = nI (gn H m k) ∧ gn H m k ≤ 30 := by
  obtain ⟨h1, h2⟩ := b
  unfold gn
  rw [if_pos hk]
  exact ⟨nI_of_ti (by omega) (by omega), by omega⟩
theorem gn_b {H : Nat} {m : SI} (hb : ∀ k, k < H → Bnd (m 140 k) 0 30) (k : Nat) : gn H m k ≤ 30 := by
  by_cases q : k < H
  · exact (gn_at q (hb k q)).2
  · unfold gn; rw [if_neg q]; omega
theorem now_in {H B : Nat} {m : SI} : ∀ (fu j n : Nat) (r : Nat → Nat) (c : SI), TR H B c m → DN H c m → ORD j (fun k => bt (m 140 11) k = true) (gn H m) n r → RW c n r (gn H m) → j ≤ H → H < j + fu → ∃ n' r' c', f11_orderNow_c9 fu (nI j) c = c' ∧ ORD H (fun k => bt (m 140 11) k = true) (gn H m) n' r' ∧ RW c' n' r' (gn H m) ∧ RF c c' := by
  intro fu
  induction fu with
  | zero => intro j n r c _ _ _ _ h1 h2; omega
  | succ fu ih =>
    intro j n r c T D O R h1 h2
    have hH := T.1
    rw [f11_orderNow_c9, hou_c T]
    by_cases q : j = H
    · subst q
      rw [if_pos (nI_le (Nat.le_refl _) (by omega))]
      exact ⟨n, r, c, rfl, O, R, fun _ _ _ _ => rfl⟩
    · have hj : j < H := by omega
      have ew : f0_wasAt 24 c (nI j) = bt (m 140 11) j := by
        unfold f0_wasAt
        rw [D.2.2.2.2.2.2.1, bit_same (by omega), has_bt _ (by omega)]
      rw [if_neg (nI_ge hj (by omega)), ew, nI_1]
      by_cases w : bt (m 140 11) j = true
      · rw [if_pos w]
        exact ih (j + 1) n r c T D (ORD_skip O (Or.inl w)) R (by omega) (by omega)
      · rw [if_neg w, gr_c T D hj, (gn_at hj (D.1 j hj).2).1]
        obtain ⟨n1, r1, c1, e1, O1, R1, F1⟩ := put_step (J := j) (by omega) O R (gn_b fun k hk => (D.1 k hk).2) w
        rw [e1]
        obtain ⟨n', r', c', i1, i2, i3, i4⟩ := ih (j + 1) n1 r1 c1 (TR_sx T (RF_SX F1)) (DN_fr D (sx24 (RF_SX F1)) (sx25 (RF_SX F1)) rfl) O1 R1 (by omega) (by omega)
        exact ⟨n', r', c', i1, i2, i3, RF_tr F1 i4⟩
theorem orderNow_c {H B : Nat} {c m : SI} (T : TR H B c m) (D : DN H c m) : ∃ n r c', f11_orderNow c = c' ∧ ORD H (fun k => bt (m 140 11) k = true) (gn H m) n r ∧ RW c' n r (gn H m) ∧ RF c c' := by
  have hH := T.1
  unfold f11_orderNow f6_clear
  dsimp only
  have F0 : RF c (sp c 36 2 0) := fun a x y z => sp_n x
  have T0 := TR_sx T (RF_SX F0)
  rw [hou_c T0, fu_bd (by omega)]
  obtain ⟨n', r', c', i1, i2, i3, i4⟩ := now_in (H + 1) 0 0 (fun _ => 0) (sp c 36 2 0) T0 (DN_fr D (sx24 (RF_SX F0)) (sx25 (RF_SX F0)) rfl) ORD_nil ⟨sp_r, fun i hi => by omega⟩ (Nat.zero_le _) (by omega)
  exact ⟨n', r', c', i1, i2, i3, RF_tr F0 i4⟩
theorem griefNow {H B : Nat} {c m : SI} (T : TR H B c m) (D : DN H c m) : ∀ k, k < H → f12_griefOf m (nI k) false = nI (gn H m k) ∧ o12_griefOf m (nI k) false := by
  intro k hk
  have hH := T.1
  unfold f12_griefOf o12_griefOf
  rw [if_neg Bool.false_ne_true, if_neg Bool.false_ne_true, idx (by omega)]
  exact ⟨(gn_at hk (D.1 k hk).2).1, vpx (by omega), trivial⟩
theorem houseAt {c : SI} {n i : Nat} {r g : Nat → Nat} (R : RW c n r g) (hn : n ≤ 7) (hi : i < n) : f6_houseAt c (nI i) = nI (r i) := by
  unfold f6_houseAt
  rw [if_neg (nI_pos (by omega)), R.1, if_neg (nI_ge hi (by omega)), cell_at (by omega) (by decide)]
  exact (R.2 i hi).1
theorem houseAt_no {c : SI} {n i : Nat} {r g : Nat → Nat} (R : RW c n r g) (hn : n ≤ 7) (hi : n ≤ i) (h2 : i < 2 ^ 31) : f6_houseAt c (nI i) = -1 := by
  unfold f6_houseAt
  rw [if_neg (nI_pos h2), R.1, if_pos (nI_le hi h2)]
noncomputable def dg (r : Nat → Nat) : Nat → Nat → Int32 → Int32
  | 0, _, a => a
  | s + 1, i, a => dg r s (i + 1) (((10 : Int32) * a) + nI (r i))
theorem digits_c {c : SI} {n : Nat} {r g : Nat → Nat} (R : RW c n r g) (hn : n ≤ 7) : ∀ (s fu i : Nat) (a : Int32), i + s = n → s < fu → f6_digits_c4 c fu a (nI i) = dg r s i a := by
  intro s
  induction s with
  | zero =>
    intro fu i a h1 h2
    obtain ⟨k, rfl, _⟩ := fu_pos h2
    rw [f6_digits_c4, R.1, if_pos (nI_le (by omega) (by omega))]; rfl
  | succ s ih =>
    intro fu i a h1 h2
    obtain ⟨k, rfl, hk⟩ := fu_pos h2
    rw [f6_digits_c4, R.1, if_neg (nI_ge (by omega) (by omega)), houseAt R hn (by omega), nI_1, Int32.mul_comm, ih k (i + 1) _ (by omega) (by omega)]
    rfl
