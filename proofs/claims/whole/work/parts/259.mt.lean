/-! what a law tells: by its tokens -/
theorem i64_toInt (x : Int32) : x.toInt64.toInt = x.toInt := Int32.toInt_toInt64 x
theorem i64_lt {a b : Int64} : a < b ↔ a.toInt < b.toInt := Int64.lt_iff_toInt_lt
theorem i64_le {a b : Int64} : a ≤ b ↔ a.toInt ≤ b.toInt := Int64.le_iff_toInt_le
theorem l_1000000 : (1000000 : Int64).toInt = 1000000 := rfl
theorem l_m1000000 : (-1000000 : Int64).toInt = -1000000 := rfl
theorem within_b (x : Int64) : f11_within x (-1000000) 1000000 = f12_bounded x := by
  unfold f11_within f12_bounded
  simp only [lg_cmp_ge, lg_cmp_le, i64_lt, i64_le, i64_toInt]
  have e1 : Int32.toInt (-1000000) = -1000000 := rfl
  have e2 : Int32.toInt 1000000 = 1000000 := rfl
  rw [e1, e2, l_1000000, l_m1000000]
  by_cases h1 : -1000000 ≤ x.toInt
  · rw [if_pos h1]
    by_cases h2 : x.toInt < 1000000
    · rw [if_pos (show x.toInt ≤ 1000000 by omega), if_pos h2, if_neg (show ¬ x.toInt < -1000000 by omega)]
    · rw [if_neg h2, l_1000000, if_neg (show ¬ (1000000 : Int) < -1000000 by decide)]
      by_cases h3 : x.toInt ≤ 1000000
      · rw [if_pos h3]
        have : x = 1000000 := Int64.toInt_inj.mp (by rw [l_1000000]; omega)
        rw [this]
      · rw [if_neg h3]; rfl
  · rw [if_neg h1, if_pos (show x.toInt < 1000000 by omega), if_pos (show x.toInt < -1000000 by omega)]
    rfl
theorem toInt32_id {x : Int64} (h1 : -2147483648 ≤ x.toInt) (h2 : x.toInt < 2147483648) : x.toInt32.toInt = x.toInt := by
  rw [Int64.toInt_toInt32, bm_id h1 h2]
theorem bounded_r (x : Int64) : -1000000 ≤ (f12_bounded x).toInt ∧ (f12_bounded x).toInt ≤ 1000000 := by
  unfold f12_bounded
  simp only [i64_lt]
  rw [l_1000000, l_m1000000]
  by_cases h2 : x.toInt < 1000000
  · rw [if_pos h2]
    by_cases h1 : x.toInt < -1000000
    · rw [if_pos h1]; decide
    · rw [if_neg h1, toInt32_id (by omega) (by omega)]; omega
  · rw [if_neg h2, l_1000000, if_neg (show ¬ (1000000 : Int) < -1000000 by decide)]; decide
def R6 (x : Int32) : Prop := -1000000 ≤ x.toInt ∧ x.toInt ≤ 1000000
noncomputable def wk (op : Nat) (a b : Int32) : Int32 := f12_worked (nI op) a.toInt64 b.toInt64
theorem ne_lit {a b : Nat} (h : a ≠ b) (ha : a < 2 ^ 31) (hb : b < 2 ^ 31) : ¬ nI a = nI b := fun e => h ((nI_eq ha hb).mp e)
theorem r6_0 : R6 0 := ⟨by decide, by decide⟩
theorem r6_1 : R6 1 := ⟨by decide, by decide⟩
theorem cmp0 {a b : Int32} : lg_cmp a.toInt64 b.toInt64 = 0 ↔ a = b := by
  rw [lg_cmp_eq]
  constructor
  · intro h
    have := congrArg Int64.toInt h
    rw [i64_toInt, i64_toInt] at this
    exact Int32.toInt_inj.mp this
  · intro h; rw [h]
theorem cmpz {a : Int32} : lg_cmp a.toInt64 0 = 0 ↔ a = 0 := by
  have := cmp0 (a := a) (b := 0)
  exact this
theorem cmp_ge' {a b : Int32} : 0 ≤ lg_cmp a.toInt64 b.toInt64 ↔ b ≤ a := by rw [lg_cmp_ge, i64_le, i64_toInt, i64_toInt, le_ti]
theorem cmp_le' {a b : Int32} : lg_cmp a.toInt64 b.toInt64 ≤ 0 ↔ a ≤ b := by rw [lg_cmp_le, i64_le, i64_toInt, i64_toInt, le_ti]
theorem div_same {a b : Int32} (ha : R6 a) (hb : b ≠ 0) : a / b = f12_bounded (a.toInt64 / b.toInt64) ∧ R6 (a / b) := by
  obtain ⟨h1, h2⟩ := ha
  have hq : -1000000 ≤ a.toInt.tdiv b.toInt ∧ a.toInt.tdiv b.toInt ≤ 1000000 := by
    have hn := Int.natAbs_tdiv_le_natAbs a.toInt b.toInt
    omega
  have e32 : (a / b).toInt = a.toInt.tdiv b.toInt := by
    rw [Int32.toInt_div, bm_id (by omega) (by omega)]
  have e64 : (a.toInt64 / b.toInt64).toInt = a.toInt.tdiv b.toInt := by
    rw [Int64.toInt_div, i64_toInt, i64_toInt]
    rw [Int.bmod_eq_of_le] <;> omega
  refine ⟨?_, by unfold R6; rw [e32]; exact hq⟩
  apply Int32.toInt_inj.mp
  rw [e32]
  unfold f12_bounded
  simp only [i64_lt]
  rw [e64, l_1000000, l_m1000000]
  by_cases h3 : a.toInt.tdiv b.toInt < 1000000
  · rw [if_pos h3, e64, if_neg (by omega), toInt32_id (by rw [e64]; omega) (by rw [e64]; omega), e64]
  · rw [if_neg h3, l_1000000, if_neg (show ¬ (1000000 : Int) < -1000000 by decide)]
    show _ = (1000000 : Int)
    omega
noncomputable def fW (sg a b : Int32) : Int32 := f11_within (f2_worked sg a b) (-1000000) 1000000
theorem within_id {v : Int32} (h : R6 v) : f11_within v.toInt64 (-1000000) 1000000 = v := by
  unfold f11_within
  simp only [lg_cmp_ge, lg_cmp_le, i64_le, i64_toInt]
  have e1 : Int32.toInt (-1000000) = -1000000 := rfl
  have e2 : Int32.toInt 1000000 = 1000000 := rfl
  rw [e1, e2, if_pos h.1, if_pos h.2, Int32.toInt32_toInt64]
theorem within_0 : f11_within (0 : Int64) (-1000000) 1000000 = 0 := by
  have h := within_id r6_0
  rw [show Int32.toInt64 0 = (0 : Int64) from by decide +kernel] at h
  exact h
theorem within_1 : f11_within (1 : Int64) (-1000000) 1000000 = 1 := by
  have h := within_id r6_1
  rw [show Int32.toInt64 1 = (1 : Int64) from by decide +kernel] at h
  exact h
theorem wk_2 (a b : Int32) : fW 43 a b = wk 2 a b ∧ R6 (wk 2 a b) := by
  have e1 : fW 43 a b = f11_within (a.toInt64 + b.toInt64) (-1000000) 1000000 := rfl
  have e2 : wk 2 a b = f12_bounded (a.toInt64 + b.toInt64) := rfl
  rw [e1, e2, within_b]
  exact ⟨rfl, bounded_r _⟩
theorem wk_3 (a b : Int32) : fW 45 a b = wk 3 a b ∧ R6 (wk 3 a b) := by
  have e1 : fW 45 a b = f11_within (a.toInt64 - b.toInt64) (-1000000) 1000000 := rfl
  have e2 : wk 3 a b = f12_bounded (a.toInt64 - b.toInt64) := rfl
  rw [e1, e2, within_b]
  exact ⟨rfl, bounded_r _⟩
theorem wk_4 (a b : Int32) : fW 42 a b = wk 4 a b ∧ R6 (wk 4 a b) := by
  have e1 : fW 42 a b = f11_within (a.toInt64 * b.toInt64) (-1000000) 1000000 := rfl
  have e2 : wk 4 a b = f12_bounded (a.toInt64 * b.toInt64) := rfl
  rw [e1, e2, within_b]
  exact ⟨rfl, bounded_r _⟩
theorem wk_5 {a b : Int32} (ha : R6 a) : fW 47 a b = wk 5 a b ∧ R6 (wk 5 a b) := by
  have e1 : fW 47 a b = f11_within (if b = 0 then (0 : Int64) else (a / b).toInt64) (-1000000) 1000000 := rfl
  have e2 : wk 5 a b = if lg_cmp b.toInt64 0 = 0 then 0 else f12_bounded (a.toInt64 / b.toInt64) := rfl
  rw [e1, e2]
  by_cases hb : b = 0
  · rw [if_pos hb, if_pos (cmpz.mpr hb), within_0]; exact ⟨rfl, r6_0⟩
  · rw [if_neg hb, if_neg (fun q => hb (cmpz.mp q))]
    obtain ⟨x, y⟩ := div_same ha hb
    rw [within_id y]
    exact ⟨x, by rw [← x]; exact y⟩
theorem wk_6 (a b : Int32) : fW 61 a b = wk 6 a b ∧ (wk 6 a b = 0 ∨ wk 6 a b = 1) := by
  have e1 : fW 61 a b = f11_within (if a = b then (1 : Int64) else (0 : Int64)) (-1000000) 1000000 := rfl
  have e2 : wk 6 a b = if lg_cmp a.toInt64 b.toInt64 = 0 then 1 else 0 := rfl
  rw [e1, e2]
  by_cases h : a = b
  · rw [if_pos h, if_pos (cmp0.mpr h), within_1]; exact ⟨rfl, Or.inr rfl⟩
  · rw [if_neg h, if_neg (fun q => h (cmp0.mp q)), within_0]; exact ⟨rfl, Or.inl rfl⟩
theorem wk_7 (a b : Int32) : fW 60 a b = wk 7 a b ∧ (wk 7 a b = 0 ∨ wk 7 a b = 1) := by
  have e1 : fW 60 a b = f11_within (if b ≤ a then (0 : Int64) else (1 : Int64)) (-1000000) 1000000 := rfl
  have e2 : wk 7 a b = if 0 ≤ lg_cmp a.toInt64 b.toInt64 then 0 else 1 := rfl
  rw [e1, e2]
  by_cases h : b ≤ a
  · rw [if_pos h, if_pos (cmp_ge'.mpr h), within_0]; exact ⟨rfl, Or.inl rfl⟩
  · rw [if_neg h, if_neg (fun q => h (cmp_ge'.mp q)), within_1]; exact ⟨rfl, Or.inr rfl⟩
theorem wk_8 (a b : Int32) : fW 62 a b = wk 8 a b ∧ (wk 8 a b = 0 ∨ wk 8 a b = 1) := by
  have e1 : fW 62 a b = f11_within (if a ≤ b then (0 : Int64) else (1 : Int64)) (-1000000) 1000000 := rfl
  have e2 : wk 8 a b = if lg_cmp a.toInt64 b.toInt64 ≤ 0 then 0 else 1 := rfl
  rw [e1, e2]
  by_cases h : a ≤ b
  · rw [if_pos h, if_pos (cmp_le'.mpr h), within_0]; exact ⟨rfl, Or.inl rfl⟩
  · rw [if_neg h, if_neg (fun q => h (cmp_le'.mp q)), within_1]; exact ⟨rfl, Or.inr rfl⟩
theorem wk_10 {a b : Int32} (ha : a = 0 ∨ a = 1) (hb : b = 0 ∨ b = 1) : fW 38 a b = wk 10 a b ∧ (wk 10 a b = 0 ∨ wk 10 a b = 1) := by
  have k : R6 (a &&& b) → fW 38 a b = a &&& b := fun h => (show fW 38 a b = f11_within (Int32.toInt64 (a &&& b)) (-1000000) 1000000 from rfl).trans (within_id h)
  rcases ha with rfl | rfl <;> rcases hb with rfl | rfl
  · exact ⟨(k r6_0).trans rfl, Or.inl rfl⟩
  · exact ⟨(k r6_0).trans rfl, Or.inl rfl⟩
  · exact ⟨(k r6_0).trans rfl, Or.inl rfl⟩
  · exact ⟨(k r6_1).trans rfl, Or.inr rfl⟩
theorem wk_11 {a b : Int32} (ha : a = 0 ∨ a = 1) (hb : b = 0 ∨ b = 1) : fW 124 a b = wk 11 a b ∧ (wk 11 a b = 0 ∨ wk 11 a b = 1) := by
  have k : R6 (a ||| b) → fW 124 a b = a ||| b := fun h => (show fW 124 a b = f11_within (Int32.toInt64 (a ||| b)) (-1000000) 1000000 from rfl).trans (within_id h)
  rcases ha with rfl | rfl <;> rcases hb with rfl | rfl
  · exact ⟨(k r6_0).trans rfl, Or.inl rfl⟩
  · exact ⟨(k r6_1).trans rfl, Or.inr rfl⟩
  · exact ⟨(k r6_1).trans rfl, Or.inr rfl⟩
  · exact ⟨(k r6_1).trans rfl, Or.inr rfl⟩
theorem r6_b {x : Int32} (h : x = 0 ∨ x = 1) : R6 x := by rcases h with rfl | rfl; exact r6_0; exact r6_1
noncomputable def ev1 (l : Nat → Int32) (t : Nat × Nat) (s : List Int32) : List Int32 := if t.1 = 0 then nI t.2 :: s else if t.1 = 1 then l t.2 :: s else if t.1 = 9 then (match s with | a :: r => ((1 : Int32) - a) :: r | [] => []) else (match s with | b :: a :: r => wk t.1 a b :: r | _ => [])
noncomputable def evs (l : Nat → Int32) : List (Nat × Nat) → List Int32 → List Int32
  | [], s => s
  | t :: r, s => evs l r (ev1 l t s)
def TY : List Bool → List Int32 → Prop
  | [], [] => True
  | b :: bs, x :: xs => R6 x ∧ (b = true → x = 0 ∨ x = 1) ∧ TY bs xs
  | _, _ => False
theorem TY_len : ∀ (s : List Bool) (v : List Int32), TY s v → s.length = v.length := by
  intro s
  induction s with
  | nil => intro v h; cases v with
    | nil => rfl
    | cons x xs => exact h.elim
  | cons b bs ih => intro v h; cases v with
    | nil => exact h.elim
    | cons x xs => exact congrArg (· + 1) (ih xs h.2.2)
def SK (f : Nat → Int32) : List Int32 → Prop
  | [] => True
  | x :: r => f r.length = x ∧ SK f r
theorem SK_up {f : Nat → Int32} {k : Nat} {x : Int32} : ∀ (v : List Int32), v.length ≤ k → SK f v → SK (upd f k x) v := by
  intro v
  induction v with
  | nil => intro _ _; trivial
  | cons y r ih =>
    intro hk h
    exact ⟨by rw [upd_n _ _ (by rw [List.length_cons] at hk; omega)]; exact h.1, ih (by rw [List.length_cons] at hk; omega) h.2⟩
theorem SK_push {f : Nat → Int32} {v : List Int32} {x : Int32} (h : SK f v) : SK (upd f v.length x) (x :: v) := ⟨upd_s _ _ _, SK_up v (Nat.le_refl _) h⟩
/-- a token's kind, from its typing -/
theorem stp_cases {M : Nat} {t : Nat × Nat} {s s' : List Bool} (h : stp M t s = some s') : (t.1 = 0 ∧ t.2 < 10000 ∧ s.length < M ∧ s' = false :: s) ∨ (t.1 = 1 ∧ t.2 < 6 ∧ s.length < M ∧ s' = false :: s) ∨ (t = (9, 0) ∧ ∃ r, s = true :: r ∧ s' = true :: r) ∨ ((t = (2, 0) ∨ t = (3, 0) ∨ t = (4, 0) ∨ t = (5, 0)) ∧ ∃ a b r, s = a :: b :: r ∧ s' = false :: r) ∨ ((t = (6, 0) ∨ t = (7, 0) ∨ t = (8, 0)) ∧ ∃ a b r, s = a :: b :: r ∧ s' = true :: r) ∨ ((t = (10, 0) ∨ t = (11, 0)) ∧ ∃ r, s = true :: true :: r ∧ s' = true :: r) := by
  obtain ⟨a, b⟩ := t
  unfold stp at h
  dsimp only at h ⊢
  by_cases h0 : a = 0
  · rw [if_pos h0] at h
    by_cases h1 : b < 10000 ∧ s.length < M
    · rw [if_pos h1] at h; cases h; exact Or.inl ⟨h0, h1.1, h1.2, rfl⟩
    · rw [if_neg h1] at h; cases h
  rw [if_neg h0] at h
  by_cases h1 : a = 1
  · rw [if_pos h1] at h
    by_cases h2 : b < 6 ∧ s.length < M
    · rw [if_pos h2] at h; cases h; exact Or.inr (Or.inl ⟨h1, h2.1, h2.2, rfl⟩)
    · rw [if_neg h2] at h; cases h
  rw [if_neg h1] at h
  by_cases h2 : b = 0 ∧ a < 12
  · rw [if_pos h2] at h
    obtain ⟨rfl, ha⟩ := h2
    by_cases h3 : a = 9
    · rw [if_pos h3] at h
      subst h3
      rcases s with _ | ⟨x, r⟩
      · cases h
      · cases x
        · cases h
        · cases h; exact Or.inr (Or.inr (Or.inl ⟨rfl, r, rfl, rfl⟩))
    rw [if_neg h3] at h
    by_cases h4 : a < 6
    · rw [if_pos h4] at h
      rcases s with _ | ⟨x, _ | ⟨y, r⟩⟩
      · cases h
      · cases h
      · cases h
        have : a = 2 ∨ a = 3 ∨ a = 4 ∨ a = 5 := by omega
        exact Or.inr (Or.inr (Or.inr (Or.inl ⟨by rcases this with rfl | rfl | rfl | rfl <;> simp, x, y, r, rfl, rfl⟩)))
    rw [if_neg h4] at h
    by_cases h5 : a < 9
    · rw [if_pos h5] at h
      rcases s with _ | ⟨x, _ | ⟨y, r⟩⟩
      · cases h
      · cases h
      · cases h
        have : a = 6 ∨ a = 7 ∨ a = 8 := by omega
        exact Or.inr (Or.inr (Or.inr (Or.inr (Or.inl ⟨by rcases this with rfl | rfl | rfl <;> simp, x, y, r, rfl, rfl⟩))))
    rw [if_neg h5] at h
    have : a = 10 ∨ a = 11 := by omega
    rcases s with _ | ⟨x, _ | ⟨y, r⟩⟩
    · cases h
    · cases x <;> cases h
    · cases x <;> cases y <;> first | cases h; done | (cases h; exact Or.inr (Or.inr (Or.inr (Or.inr (Or.inr ⟨by rcases this with rfl | rfl <;> simp, r, rfl, rfl⟩)))))
  · rw [if_neg h2] at h; cases h
