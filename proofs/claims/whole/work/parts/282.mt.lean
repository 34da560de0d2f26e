/-! the odds: one number for both sides, the class's side -/
theorem bm64 {z : Int} (h1 : -9223372036854775808 ≤ z) (h2 : z < 9223372036854775808) : z.bmod (2 ^ 64) = z := by
  rw [Int.bmod_eq_of_le] <;> omega
theorem lN_ti {n : Nat} (h : n < 2 ^ 62) : (lN n).toInt = (n : Int) := lg_ofNat_toInt (by omega)
theorem lN_div {a b : Nat} (ha : a < 2 ^ 62) (hb : b < 2 ^ 62) : lN a / lN b = lN (a / b) := by
  apply Int64.toInt_inj.mp
  have hd : a / b ≤ a := Nat.div_le_self a b
  rw [Int64.toInt_div, lN_ti ha, lN_ti hb, lN_ti (by omega), Int.tdiv_eq_ediv_of_nonneg (by omega)]
  have : ((a : Int) / (b : Int)) = ((a / b : Nat) : Int) := (Int.natCast_ediv a b).symm
  rw [this]
  generalize a / b = q at hd ⊢
  exact bm64 (by omega) (by omega)
def plc (m0 : SI) (r : Nat → Nat) (i : Nat) : Int32 := if i = 0 then m0 140 10 else nI (r (i - 1))
noncomputable def dI (m0 : SI) (r : Nat → Nat) (i : Nat) : Int32 := f12_stepsTo m0 (plc m0 r i) (nI (r i))
noncomputable def sI' (LL : List LW) (hd : Int32) (m0 : SI) (r : Nat → Nat) (i : Nat) (arr : Int32) : Int32 := SV LL hd (f12_isThankful m0 (nI (r i))) (m0 140 (r i)) arr (fbitCount (m0 140 11) + nI i) (dI m0 r i) (m0 140 12)
noncomputable def br (LL : List LW) (hd : Int32) (m0 : SI) (r : Nat → Nat) (R : Int32 → Nat → Nat) (i : Nat) (arr : Int32) (q : Nat) : Nat := if m0 137 0 < arr + sI' LL hd m0 r i arr then 0 else R (arr + sI' LL hd m0 r i arr) q
noncomputable def od (LL : List LW) (hd : Int32) (m0 : SI) (r : Nat → Nat) (a : Nat) : Nat → Nat → Int32 → Nat → Nat
  | 0, _, _, p => p
  | s + 1, i, t, p => br LL hd m0 r (od LL hd m0 r a s (i + 1)) i (t + dI m0 r i + dI m0 r i / 2) (p * a / 100) + br LL hd m0 r (od LL hd m0 r a s (i + 1)) i (t + dI m0 r i) (p - p * a / 100)
theorem od_le {LL : List LW} {hd : Int32} {m0 : SI} {r : Nat → Nat} {a : Nat} (ha : a ≤ 100) : ∀ (s i : Nat) (t : Int32) (p : Nat), od LL hd m0 r a s i t p ≤ p := by
  intro s
  induction s with
  | zero => intro i t p; exact Nat.le_refl _
  | succ s ih =>
    intro i t p
    rw [od]
    have b1 : ∀ arr q, br LL hd m0 r (od LL hd m0 r a s (i + 1)) i arr q ≤ q := by
      intro arr q
      unfold br
      split
      · exact Nat.zero_le _
      · exact ih _ _ _
    have h1 := b1 (t + dI m0 r i + dI m0 r i / 2) (p * a / 100)
    have h2 := b1 (t + dI m0 r i) (p - p * a / 100)
    have h3 : p * a / 100 ≤ p := by
      have : p * a ≤ p * 100 := Nat.mul_le_mul_left p ha
      omega
    omega
theorem half_bnd {d : Int32} (h : Bnd d 0 18) : Bnd (d / 2) 0 9 := by
  obtain ⟨n, hn, rfl⟩ := bnd_nI (hi := 18) h
  rw [show (2 : Int32) = nI 2 from rfl, nI_divI (by omega) (by decide)]
  exact nI_bnd (by omega) (by omega)
theorem add_bnd {x y : Int32} {a b : Nat} (hx : Bnd x 0 a) (hy : Bnd y 0 b) (h : a + b < 2 ^ 31) : Bnd (x + y) 0 ((a + b : Nat) : Int) := by
  obtain ⟨n, hn, rfl⟩ := bnd_nI hx
  obtain ⟨k, hk, rfl⟩ := bnd_nI hy
  rw [nI_add]
  exact nI_bnd (by omega) (by omega)
def PL (H : Nat) (m0 : SI) (r : Nat → Nat) (n : Nat) : Prop := n ≤ 7 ∧ (∀ j, j < n → r j < H) ∧ MB H m0
theorem plc_pos {H n i : Nat} {m0 : SI} {r : Nat → Nat} (P : PL H m0 r n) (hi : i ≤ n) : Pos H (plc m0 r i) := by
  unfold plc
  split
  · exact P.2.2.2.2.2.1
  · exact Or.inr ⟨r (i - 1), P.2.1 (i - 1) (by omega), rfl⟩
theorem dI_bnd {H B n i : Nat} {c m0 : SI} {r : Nat → Nat} (T : TR H B c m0) (P : PL H m0 r n) (hi : i < n) : Bnd (dI m0 r i) 0 18 := (dist T (plc_pos P (by omega)) (P.2.1 i hi)).2.2
theorem doorsI {m0 : SI} {i : Nat} (hi : i < 7) : R6 (fbitCount (m0 140 11) + nI i) := bnd_r6 (add_bnd (a := 63) (b := 7) (doors_bnd _) (nI_bnd (by omega) (by omega)) (by decide)) (by decide) (by decide)
theorem arr_bnd {t d w : Int32} (ht : Bnd t 0 99) (hd : Bnd d 0 18) (hw : Bnd w 0 9) : Bnd (t + d + w) 0 126 := add_bnd (a := 117) (b := 9) (add_bnd (a := 99) (b := 18) ht hd (by decide)) hw (by decide)
theorem behind_c {LL : List LW} {hd : Int32} {H B n k : Nat} {r g : Nat → Nat} {m0 : SI} {a s : Nat} {Tf : SI → Int32 → Int32 → Int32 → Int32 → Int64 → Int64 × SI} (P : PL H m0 r n) (hk : k ≤ n) {i : Nat} (hi : i + (s + 1) = k) {c : SI} (T : TR H B c m0) (L : LR LL hd c m0) (D : DN H c m0) (R : RW c n r g) {arr : Int32} (hb : Bnd arr 0 126) {q : Nat} (hq : q ≤ 1000000000) (IH : ∀ (c : SI) (t : Int32) (p : Nat), TR H B c m0 → LR LL hd c m0 → DN H c m0 → RW c n r g → Bnd t 0 99 → p ≤ 1000000000 → ∃ c', Tf c (nI (i + 1)) (nI k) (nI a) t (lN p) = (lN (od LL hd m0 r a s (i + 1) t p), c') ∧ SC c c') : ∃ c', f11_partsBehind Tf c (nI i) (nI k) (nI a) arr (lN q) = (lN (br LL hd m0 r (od LL hd m0 r a s (i + 1)) i arr q), c') ∧ SC c c' := by
  have hH := T.1
  obtain ⟨hn7, hr, M⟩ := P
  have P : PL H m0 r n := ⟨hn7, hr, M⟩
  have hri := hr i (by omega)
  have bd := dI_bnd T P (by omega : i < n)
  obtain ⟨c1, e1, S⟩ := stand_c (LL := LL) (hd := hd) (th := f12_isThankful m0 (nI (r i))) (g := m0 140 (r i)) (t := arr) (n := fbitCount (m0 140 11) + nI i) (d := dI m0 r i) (y := m0 140 12) L (bnd_r6 (M.1 _ hri) (by decide) (by decide)) (bnd_r6 hb (by decide) (by decide)) (doorsI (by omega)) (bnd_r6 bd (by decide) (by decide)) (bnd_r6 M.2.2.2.2 (by decide) (by decide))
  have es : SV LL hd (f12_isThankful m0 (nI (r i))) (m0 140 (r i)) arr (fbitCount (m0 140 11) + nI i) (dI m0 r i) (m0 140 12) = sI' LL hd m0 r i arr := rfl
  rw [es] at e1
  have e0 : f6_houseAt c (nI i) = nI (r i) := houseAt R hn7 (by omega)
  have ed : f0_doors 24 c = fbitCount (m0 140 11) := by unfold f0_doors; rw [D.2.2.2.2.2.2.1]
  have T1 := TR_sc T S
  have R1 : RW c1 n r g := by unfold RW at R ⊢; rw [S.1 36 (by decide) (by decide), S.1 37 (by decide) (by decide), S.1 38 (by decide) (by decide)]; exact R
  have fin' : ∃ c', (if arr + sI' LL hd m0 r i arr ≤ f8_timeThereIs 10 c1 then Tf c1 (nI i + 1) (nI k) (nI a) (arr + sI' LL hd m0 r i arr) (lN q) else ((0 : Int64), c1)) = (lN (br LL hd m0 r (od LL hd m0 r a s (i + 1)) i arr q), c') ∧ SC c c' := by
    rw [(rul_c T1).1]
    unfold br
    obtain ⟨z1, z2⟩ := SV_bnd (LL := LL) (hd := hd) (th := f12_isThankful m0 (nI (r i))) (t := arr) (n := fbitCount (m0 140 11) + nI i) (d := dI m0 r i) (y := m0 140 12) (bnd_le (M.1 _ hri) (by decide) (by decide) : Bnd (m0 140 (r i)) 0 100)
    rw [es] at z1 z2
    by_cases u : m0 137 0 < arr + sI' LL hd m0 r i arr
    · rw [if_pos u, if_neg (by rw [le_ti]; rw [lt_ti] at u; omega)]
      exact ⟨c1, rfl, S⟩
    · have ule : arr + sI' LL hd m0 r i arr ≤ m0 137 0 := by rw [le_ti]; rw [lt_ti] at u; omega
      rw [if_neg u, if_pos ule, nI_1]
      have bt' : Bnd (arr + sI' LL hd m0 r i arr) 0 99 := by
        obtain ⟨y1, y2⟩ := add_bnd (a := 126) (b := 60) hb ⟨z1, z2⟩ (by decide)
        obtain ⟨t1, t2⟩ := T.2.2.2.2.2.2.2.2.2.2.1.1
        rw [le_ti] at ule
        exact ⟨y1, by omega⟩
      obtain ⟨c', i1, i2⟩ := IH c1 (arr + sI' LL hd m0 r i arr) q T1 (LR_sc L S) (DN_fr D (S.1 24 (by decide) (by decide)) (S.1 25 (by decide) (by decide)) rfl) R1 bt' hq
      exact ⟨c', i1, SC_tr S i2⟩
  unfold f11_partsBehind
  rw [e0, gr_c T D hri, (thank_c T hri).1, ed, D.2.2.2.2.2.2.2.1.1]
  by_cases hi0 : i = 0
  · rw [if_pos (show nI i = 0 by rw [hi0]; rfl)]
    have e2 : f8_distance 10 c (c 24 4) (nI (r i)) = dI m0 r i := by
      unfold dI plc
      rw [if_pos hi0, (D.2.2.2.2.1 (by omega)).1]
      exact (dist T M.2.2.2.1 hri).1
    rw [e2, e1]
    exact fin'
  · rw [if_neg (nI_ne0 (by omega) (by omega)), show nI i - 1 = nI (i - 1) from nI_sub (b := 1) (by omega), houseAt R hn7 (by omega)]
    have e2 : f8_distance 10 c (nI (r (i - 1))) (nI (r i)) = dI m0 r i := by
      unfold dI plc
      rw [if_neg hi0]
      exact (dist T (Or.inr ⟨r (i - 1), hr _ (by omega), rfl⟩) hri).1
    rw [e2, e1]
    exact fin'
theorem parts_c {LL : List LW} {hd : Int32} {H B n k : Nat} {r g : Nat → Nat} {m0 : SI} {a : Nat} (P : PL H m0 r n) (hk : k ≤ n) (ha : a ≤ 100) : ∀ (s D i : Nat) (c : SI) (t : Int32) (p : Nat), i + s = k → s < D → TR H B c m0 → LR LL hd c m0 → DN H c m0 → RW c n r g → Bnd t 0 99 → p ≤ 1000000000 → ∃ c', fPartsD D c (nI i) (nI k) (nI a) t (lN p) = (lN (od LL hd m0 r a s i t p), c') ∧ SC c c' := by
  intro s
  induction s with
  | zero =>
    intro D i c t p h1 h2 T L N R ht hp
    obtain ⟨D', rfl, _⟩ := fu_pos h2
    have hn := P.1
    show ∃ c', f11_partsThrough (f11_partsBehind (fPartsD D')) c (nI i) (nI k) (nI a) t (lN p) = _ ∧ _
    unfold f11_partsThrough
    rw [if_pos (nI_le (by omega) (by omega))]
    exact ⟨c, rfl, SC_rf c⟩
  | succ s ih =>
    intro D i c t p h1 h2 T L N R ht hp
    obtain ⟨D', rfl, hD⟩ := fu_pos h2
    obtain ⟨hn7, hr, M⟩ := P
    have P : PL H m0 r n := ⟨hn7, hr, M⟩
    have hri := hr i (by omega)
    show ∃ c', f11_partsThrough (f11_partsBehind (fPartsD D')) c (nI i) (nI k) (nI a) t (lN p) = _ ∧ _
    unfold f11_partsThrough
    rw [if_neg (nI_ge (by omega) (by omega)), if_neg (show ¬ (7 : Int32) ≤ nI i from nI_ge (b := 7) (by omega) (by decide))]
    by_cases p0 : p = 0
    · subst p0
      have : lg_cmp (lN 0) (0 : Int64) = 0 := by decide
      rw [if_pos this]
      have : od LL hd m0 r a (s + 1) i t 0 = 0 := Nat.le_zero.mp (od_le ha _ _ _ _)
      rw [this]
      exact ⟨c, rfl, SC_rf c⟩
    · have hc0 : ¬ lg_cmp (lN p) (0 : Int64) = 0 := by
        intro e
        have e' : lN p = 0 := by
          have := lg_cmp_ge (x := lN p) (y := 0)
          have h2 := lg_cmp_le (x := lN p) (y := 0)
          have a1 := this.mp (by rw [e]; decide)
          have a2 := h2.mp (by rw [e]; decide)
          rw [i64_le] at a1 a2
          exact Int64.toInt_inj.mp (by omega)
        have := congrArg Int64.toInt e'
        rw [lN_ti (by omega)] at this
        have z : (0 : Int64).toInt = 0 := rfl
        rw [z] at this
        omega
      rw [if_neg hc0]
      have hmul : p * a ≤ 1000000000 * 100 := Nat.mul_le_mul hp ha
      have hx : p * a / 100 ≤ p := by
        have : p * a ≤ p * 100 := Nat.mul_le_mul_left p ha
        omega
      have ex : (lN p * (nI a).toInt64) / (100 : Int64) = lN (p * a / 100) := by
        rw [nI_l (by omega), lN_mul, show (100 : Int64) = lN 100 from rfl, lN_div (by omega) (by decide)]
      rw [ex, lN_sub hx]
      have bd := dI_bnd T P (by omega : i < n)
      have IH : ∀ (c : SI) (t : Int32) (p : Nat), TR H B c m0 → LR LL hd c m0 → DN H c m0 → RW c n r g → Bnd t 0 99 → p ≤ 1000000000 → ∃ c', fPartsD D' c (nI (i + 1)) (nI k) (nI a) t (lN p) = (lN (od LL hd m0 r a s (i + 1) t p), c') ∧ SC c c' := fun c t p u1 u2 u3 u4 u5 u6 => ih D' (i + 1) c t p (by omega) (by omega) u1 u2 u3 u4 u5 u6
      obtain ⟨c1, e1, S1⟩ := behind_c (Tf := fPartsD D') P hk (i := i) (by omega) T L N R (arr := t + dI m0 r i + dI m0 r i / 2) (arr_bnd ht bd (half_bnd bd)) (q := p * a / 100) (by omega) IH
      have R1 : RW c1 n r g := by unfold RW at R ⊢; rw [S1.1 36 (by decide) (by decide), S1.1 37 (by decide) (by decide), S1.1 38 (by decide) (by decide)]; exact R
      have b2 : Bnd (t + dI m0 r i) 0 126 := bnd_le (add_bnd (a := 99) (b := 18) ht bd (by decide)) (by decide) (by decide)
      obtain ⟨c2, e2, S2⟩ := behind_c (Tf := fPartsD D') P hk (i := i) (by omega) (TR_sc T S1) (LR_sc L S1) (DN_fr N (S1.1 24 (by decide) (by decide)) (S1.1 25 (by decide) (by decide)) rfl) R1 (arr := t + dI m0 r i) b2 (q := p - p * a / 100) (by omega) IH
      rw [houseAt R hn7 (by omega)]
      by_cases hi0 : i = 0
      · have e3 : f8_distance 10 c (c 24 4) (nI (r i)) = dI m0 r i := by
          unfold dI plc
          rw [if_pos hi0, (N.2.2.2.2.1 (by omega)).1]
          exact (dist T M.2.2.2.1 hri).1
        rw [if_pos (show nI i = 0 by rw [hi0]; rfl), e3, e1]
        dsimp only
        rw [e2]
        exact ⟨c2, by rw [od]; dsimp only; rw [lN_add], SC_tr S1 S2⟩
      · rw [if_neg (nI_ne0 (by omega) (by omega)), show nI i - 1 = nI (i - 1) from nI_sub (b := 1) (by omega), houseAt R hn7 (by omega)]
        have e3 : f8_distance 10 c (nI (r (i - 1))) (nI (r i)) = dI m0 r i := by
          unfold dI plc
          rw [if_neg hi0]
          exact (dist T (Or.inr ⟨r (i - 1), hr _ (by omega), rfl⟩) hri).1
        rw [e3, e1]
        dsimp only
        rw [e2]
        exact ⟨c2, by rw [od]; dsimp only; rw [lN_add], SC_tr S1 S2⟩
