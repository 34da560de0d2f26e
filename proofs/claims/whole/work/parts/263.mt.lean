/-! what both sides ask the town: is it a house, how far, how strong -/
theorem cell_at {k n i : Nat} {σ : SI} (h : i < n) (hn : n < 2 ^ 31) : f11_cell k n σ (nI i) = σ k i := by
  unfold f11_cell
  rw [if_neg (nI_pos (by omega)), if_neg (show ¬ Int32.ofNat n ≤ nI i from nI_ge (b := n) h hn), nI_clamp (by omega)]
theorem set_at {k n i : Nat} {σ : SI} {x : Int32} (h : i < n) (hn : n < 2 ^ 31) : f11_setCell k n σ (nI i) x = sp σ k i x := by
  unfold f11_setCell
  rw [if_neg (nI_pos (by omega)), if_neg (show ¬ Int32.ofNat n ≤ nI i from nI_ge (b := n) h hn), nI_clamp (by omega)]
theorem bnd_nI {x : Int32} {hi : Nat} (h : Bnd x 0 hi) : ∃ n : Nat, n ≤ hi ∧ x = nI n := by
  obtain ⟨h1, h2⟩ := h
  have r := ti_rng x
  refine ⟨x.toInt.toNat, by omega, Int32.toInt_inj.mp ?_⟩
  rw [nI_toInt (by omega)]
  omega
theorem nI_bnd {n : Nat} {hi : Int} (h : (n : Int) ≤ hi) (hn : n < 2 ^ 31) : Bnd (nI n) 0 hi := by
  unfold Bnd
  rw [nI_toInt hn]
  omega
theorem hou_c {H B : Nat} {c m : SI} (T : TR H B c m) : f8_houses 10 c = nI H := T.2.2.2.1
theorem bea_c {H B : Nat} {c m : SI} (T : TR H B c m) : f8_bearers 10 c = nI B := T.2.2.2.2.2.1
theorem hse_or {H B : Nat} {c m : SI} (T : TR H B c m) (x : Int32) : (∃ h, h < H ∧ x = nI h ∧ f8_isHouse 10 c x = true ∧ f12_isHouse m x = true) ∨ (f8_isHouse 10 c x = false ∧ f12_isHouse m x = false ∧ ∀ h, h < H → x ≠ nI h) := by
  have hH := T.1
  have e1 := hou_c T
  have e2 : m 123 25 = nI H := T.2.2.2.2.1
  unfold f8_isHouse f12_isHouse f12_in
  rw [e1, e2]
  by_cases h0 : x < 0
  · right
    rw [if_pos h0, if_pos h0]
    refine ⟨rfl, rfl, fun h hh e => ?_⟩
    rw [e] at h0
    exact nI_pos (by omega) h0
  · rw [if_neg h0, if_neg h0]
    obtain ⟨j, hj, rfl⟩ := nI_of h0
    by_cases hjH : j < H
    · left
      have hp : nI H - 1 = nI (H - 1) := by
        have := nI_pred (H - 1)
        rwa [Nat.sub_add_cancel (by omega)] at this
      refine ⟨j, hjH, rfl, ?_, ?_⟩
      · rw [if_neg (nI_ge hjH (by omega))]
      · rw [hp, if_neg (nI_nlt (by omega) (by omega))]
    · right
      refine ⟨?_, ?_, fun h hh e => ?_⟩
      · rw [if_pos (nI_le (by omega) hj)]
      · by_cases hz : H = 0
        · subst hz
          rw [if_pos]
          rw [lt_ti, nI_toInt hj, show (nI 0 - 1 : Int32).toInt = -1 from by decide +kernel]
          omega
        · have hp : nI H - 1 = nI (H - 1) := by
            have := nI_pred (H - 1)
            rwa [Nat.sub_add_cancel (by omega)] at this
          rw [hp, if_pos (nI_lt (by omega) hj)]
      · have := (nI_eq hj (by omega)).mp e
        omega
theorem isH_c {H B h : Nat} {c m : SI} (T : TR H B c m) (hh : h < H) : f8_isHouse 10 c (nI h) = true ∧ f12_isHouse m (nI h) = true := by
  rcases hse_or T (nI h) with ⟨_, _, _, a, b⟩ | ⟨_, _, a⟩
  · exact ⟨a, b⟩
  · exact absurd rfl (a h hh)
theorem told_c {H B : Nat} {c m : SI} (T : TR H B c m) : (f8_isTold 10 c = true ∧ H ≠ 0 ∧ ¬ m 123 25 = 0) ∨ (f8_isTold 10 c = false ∧ H = 0 ∧ m 123 25 = 0) := by
  have hH := T.1
  have e2 : m 123 25 = nI H := T.2.2.2.2.1
  unfold f8_isTold
  rw [hou_c T, e2]
  by_cases hz : H = 0
  · subst hz
    exact Or.inr ⟨rfl, rfl, rfl⟩
  · exact Or.inl ⟨by rw [if_neg (nI_nle (by omega) (by omega))], hz, nI_ne0 (by omega) (by omega)⟩
theorem of_slot {k h j : Nat} {c : SI} (hh : h < 7) (hj : j < 4) : f8_ofHouse k c (nI h) (nI j) = c (k + 1) (3 + 4 * h + j) := by
  have e : (3 : Int32) + nI h * 4 + nI j = nI (3 + 4 * h + j) := by
    rw [show (3 : Int32) = nI 3 from rfl, show (4 : Int32) = nI 4 from rfl, show nI h * nI 4 = nI (h * 4) from pk_mul _ _, nI_add, nI_add, Nat.mul_comm h 4]
  unfold f8_ofHouse
  rw [if_neg (nI_pos (by omega)), if_neg (show ¬ (7 : Int32) ≤ nI h from nI_ge (b := 7) hh (by decide)), if_neg (nI_pos (by omega)), if_pos (show nI j < (4 : Int32) from nI_lt (b := 4) hj (by decide)), e, if_neg (show ¬ (36 : Int32) ≤ nI (3 + 4 * h + j) from nI_ge (b := 36) (by omega) (by decide)), nI_clamp (by omega)]
theorem ofH {H B h j : Nat} {c m : SI} (T : TR H B c m) (hh : h < H) (hj : j < 4) : f8_ofHouse 10 c (nI h) (nI j) = m 138 (4 * h + j) := by
  have hH := T.1
  rw [of_slot (by omega) hj]
  exact T.2.2.2.2.2.2.2.2.1 h j hh hj
theorem ofH_m1 {H B : Nat} {c m : SI} (T : TR H B c m) (j : Int32) : f8_ofHouse 10 c (-1) j = 0 := by
  have _ := T.1
  unfold f8_ofHouse
  rw [if_pos (show (-1 : Int32) < 0 by decide)]
theorem ofM {H B h j : Nat} {c m : SI} (T : TR H B c m) (hh : h < H) (hj : j < 4) : f12_of m (nI h) (nI j) = m 138 (4 * h + j) ∧ o12_of m (nI h) (nI j) := of_at (by have := T.1; omega) hj
theorem thank_c {H B h : Nat} {c m : SI} (T : TR H B c m) (hh : h < H) : f8_isThankful 10 c (nI h) = f12_isThankful m (nI h) ∧ o12_isThankful m (nI h) := by
  have e1 : f8_ofHouse 10 c (nI h) 3 = m 138 (4 * h + 3) := ofH T hh (by decide)
  have e2 : f12_of m (nI h) 3 = m 138 (4 * h + 3) := (ofM T hh (by decide)).1
  refine ⟨?_, (ofM T hh (by decide : 3 < 4)).2, by split <;> trivial⟩
  unfold f8_isThankful f12_isThankful
  rw [e1, e2]
theorem toldG_c {H B h : Nat} {c m : SI} (T : TR H B c m) (hh : h < H) : f8_toldGrievance 10 c (nI h) = m 138 (4 * h + 2) := ofH T hh (by decide)
noncomputable def dab (a b : Int32) : Int32 := if 0 ≤ a - b then a - b else 0 - (a - b)
theorem dab_v {a b : Int32} (ha : Bnd a 0 9) (hb : Bnd b 0 9) : (dab a b).toInt = (a.toInt - b.toInt).natAbs := by
  obtain ⟨h1, h2⟩ := ha
  obtain ⟨h3, h4⟩ := hb
  have t0 : (0 : Int32).toInt = 0 := rfl
  have e : (a - b).toInt = a.toInt - b.toInt := ti_sub' (by omega) (by omega)
  unfold dab
  by_cases h : 0 ≤ a - b
  · rw [if_pos h, e]
    rw [le_ti, e, t0] at h
    omega
  · rw [if_neg h, ti_sub' (by rw [e, t0]; omega) (by rw [e, t0]; omega), e, t0]
    rw [le_ti, e, t0] at h
    omega
theorem dab_same {a b : Int32} (ha : Bnd a 0 9) (hb : Bnd b 0 9) : dab a b = dab b a ∧ Bnd (dab a b) 0 9 := by
  have e1 := dab_v ha hb
  have e2 := dab_v hb ha
  obtain ⟨h1, h2⟩ := ha
  obtain ⟨h3, h4⟩ := hb
  exact ⟨Int32.toInt_inj.mp (by rw [e1, e2]; omega), by rw [e1]; omega, by rw [e1]; omega⟩
theorem b00 : Bnd 0 0 9 := ⟨by decide, by decide⟩
theorem dist_gen {a b a' b' : Int32} (h1 : Bnd a 0 9) (h2 : Bnd b 0 9) (h3 : Bnd a' 0 9) (h4 : Bnd b' 0 9) : dab a a' + dab b b' = dab a' a + dab b' b ∧ Bnd (dab a' a + dab b' b) 0 18 := by
  rw [(dab_same h1 h3).1, (dab_same h2 h4).1]
  refine ⟨rfl, ?_⟩
  obtain ⟨p, q⟩ := (dab_same h3 h1).2
  obtain ⟨r, s⟩ := (dab_same h4 h2).2
  unfold Bnd
  rw [ti_add' (by omega) (by omega)]
  omega
def Pos (H : Nat) (p : Int32) : Prop := p = -1 ∨ ∃ h, h < H ∧ p = nI h
theorem dist {H B h : Nat} {c m : SI} {p : Int32} (T : TR H B c m) (hp : Pos H p) (hh : h < H) : f8_distance 10 c p (nI h) = f12_stepsTo m p (nI h) ∧ o12_stepsTo m p (nI h) ∧ Bnd (f12_stepsTo m p (nI h)) 0 18 := by
  have x1 : f8_ofHouse 10 c (nI h) 0 = m 138 (4 * h + 0) := ofH T hh (by decide)
  have x2 : f8_ofHouse 10 c (nI h) 1 = m 138 (4 * h + 1) := ofH T hh (by decide)
  obtain ⟨y1, y2⟩ : f12_of m (nI h) 0 = m 138 (4 * h + 0) ∧ o12_of m (nI h) 0 := ofM T hh (by decide)
  obtain ⟨y3, y4⟩ : f12_of m (nI h) 1 = m 138 (4 * h + 1) ∧ o12_of m (nI h) 1 := ofM T hh (by decide)
  have bb := T.2.2.2.2.2.2.2.2.2.2.2.1
  obtain ⟨b1, b2, _⟩ := bb h hh
  unfold f8_distance f8_xOf f8_yOf f12_stepsTo o12_stepsTo
  rw [x1, x2]
  rcases hp with rfl | ⟨g, hg, rfl⟩
  · rw [ofH_m1 T, ofH_m1 T]
    simp only [if_true, y1, y3]
    have := dist_gen b00 b00 b1 b2
    exact ⟨this.1, ⟨y2, y4, trivial⟩, this.2⟩
  · have hH := T.1
    have z1 : f8_ofHouse 10 c (nI g) 0 = m 138 (4 * g + 0) := ofH T hg (by decide)
    have z2 : f8_ofHouse 10 c (nI g) 1 = m 138 (4 * g + 1) := ofH T hg (by decide)
    obtain ⟨w1, w2⟩ : f12_of m (nI g) 0 = m 138 (4 * g + 0) ∧ o12_of m (nI g) 0 := ofM T hg (by decide)
    obtain ⟨w3, w4⟩ : f12_of m (nI g) 1 = m 138 (4 * g + 1) ∧ o12_of m (nI g) 1 := ofM T hg (by decide)
    obtain ⟨b3, b4, _⟩ := bb g hg
    have hne : ¬ nI g = -1 := nI_ne_m1 (by omega)
    rw [z1, z2]
    simp only [if_neg hne, y1, y3, w1, w3]
    have := dist_gen b3 b4 b1 b2
    exact ⟨this.1, ⟨w2, w4, y2, y4, trivial⟩, this.2⟩
theorem str_at {H B b : Nat} {c m : SI} (T : TR H B c m) (hb : b < B) : f8_strengthOf 10 c (nI b) = m 139 b := by
  have hB := T.2.1
  unfold f8_strengthOf
  rw [bea_c T, if_neg (nI_pos (by omega)), if_neg (nI_ge hb (by omega))]
  have e : (31 : Int32) + nI b = nI (31 + b) := by rw [show (31 : Int32) = nI 31 from rfl, nI_add]
  rw [e, cell_at (by omega) (by decide)]
  exact T.2.2.2.2.2.2.2.2.2.1 b hb
theorem str_ind {H B : Nat} {c m : SI} (T : TR H B c m) : ∀ (n b a fu : Nat), b + n = B → a ≤ 40 * b → n < fu → f8_strength_c4 10 c fu (nI a) (nI b) = f12_allStrength_c4 m fu (nI a) (nI b) ∧ o12_allStrength_c4 m fu (nI a) (nI b) ∧ Bnd (f12_allStrength_c4 m fu (nI a) (nI b)) 0 200 := by
  have hB := T.2.1
  have e1 := bea_c T
  have e2 : m 123 26 = nI B := T.2.2.2.2.2.2.1
  intro n
  induction n with
  | zero =>
    intro b a fu hb ha hf
    obtain ⟨k, rfl, _⟩ := fu_pos hf
    rw [f8_strength_c4, f12_allStrength_c4, o12_allStrength_c4, e1, e2, if_pos (nI_le (by omega) (by omega)), if_pos (nI_le (by omega) (by omega)), if_pos (nI_le (by omega) (by omega))]
    exact ⟨rfl, trivial, nI_bnd (by omega) (by omega)⟩
  | succ n ih =>
    intro b a fu hb ha hf
    obtain ⟨k, rfl, hk⟩ := fu_pos hf
    have hlt : ¬ nI B ≤ nI b := nI_ge (by omega) (by omega)
    obtain ⟨s1, s2⟩ := T.2.2.2.2.2.2.2.2.2.2.2.2 b (by omega)
    obtain ⟨v, hv, ev⟩ := bnd_nI (hi := 40) ⟨by omega, s2⟩
    rw [f8_strength_c4, f12_allStrength_c4, o12_allStrength_c4, e1, e2, if_neg hlt, if_neg hlt, if_neg hlt, str_at T (by omega), nI_clamp (by omega), ev, nI_add, nI_1]
    obtain ⟨i1, i2, i3⟩ := ih (b + 1) (a + v) k (by omega) (by omega) (by omega)
    exact ⟨i1, ⟨vp_in_nI (by omega) (by decide), i2⟩, i3⟩
theorem str_c {H B : Nat} {c m : SI} (T : TR H B c m) : f8_strength 10 c = f12_allStrength m ∧ o12_allStrength m ∧ Bnd (f12_allStrength m) 0 200 := by
  have hB := T.2.1
  have e1 := bea_c T
  have e2 : m 123 26 = nI B := T.2.2.2.2.2.2.1
  unfold f8_strength f12_allStrength o12_allStrength
  rw [e1, e2]
  exact str_ind T B 0 0 _ (Nat.zero_add _) (Nat.zero_le _) (by
    have := toNat_sub_nI (a := B) (b := 0) (by omega) (by decide)
    rw [show (0 : Int32) = nI 0 from rfl, this, fu1_eq]; omega)
theorem rul_c {H B : Nat} {c m : SI} (T : TR H B c m) : f8_timeThereIs 10 c = m 137 0 ∧ f8_toldCoins 10 c = m 137 1 ∧ f8_growth 10 c = m 137 2 := ⟨T.2.2.2.2.2.2.2.1 0 (by decide), T.2.2.2.2.2.2.2.1 1 (by decide), T.2.2.2.2.2.2.2.1 2 (by decide)⟩
theorem bit_same {x : Int32} {j : Nat} (h : j < 31) : f11_hasBit x (nI j) = f12_has x (nI j) := by
  unfold f11_hasBit f12_has
  rw [if_neg (nI_pos (by omega)), if_neg (show ¬ (31 : Int32) ≤ nI j from nI_ge (b := 31) h (by decide))]
theorem and_bnd {x : Int32} {k : Nat} (hk : k < 2 ^ 31) : Bnd (x &&& nI k) 0 k := by
  have e : (x &&& nI k).toBitVec.toNat ≤ k := by
    rw [Int32.toBitVec_and, BitVec.toNat_and]
    have : (nI k).toBitVec.toNat = k := by
      show (BitVec.ofNat 32 k).toNat = k
      rw [BitVec.toNat_ofNat, Nat.mod_eq_of_lt (by omega)]
    rw [this]
    exact Nat.and_le_right
  have e2 : (x &&& nI k).toInt = ((x &&& nI k).toBitVec.toNat : Int) := by
    show (x &&& nI k).toBitVec.toInt = _
    rw [BitVec.toInt_eq_toNat_of_lt (by omega)]
  unfold Bnd
  rw [e2]
  omega
theorem doors_bnd (x : Int32) : Bnd (fbitCount x) 0 63 := and_bnd (k := 63) (by decide)
theorem bnd_r6 {x : Int32} {lo hi : Int} (h : Bnd x lo hi) (h1 : -1000000 ≤ lo) (h2 : hi ≤ 1000000) : R6 x := ⟨by have := h.1; omega, by have := h.2; omega⟩
