/-! bits; the one order by grievance -/
def bt (x : Int32) (k : Nat) : Bool := x.toBitVec.getLsbD k
theorem and_one_bv (y : BitVec 32) : (y &&& 1#32 = 1#32) ↔ y.getLsbD 0 = true := by
  constructor
  · intro h
    have := congrArg (fun z : BitVec 32 => z.getLsbD 0) h
    simpa using this
  · intro h
    apply BitVec.eq_of_getLsbD_eq
    intro i hi
    by_cases e : i = 0
    · subst e; simp [h]
    · simp [BitVec.getLsbD_one, e]
theorem sh_bits (x : Int32) {k : Nat} (hk : k < 31) : (x >>> (nI k &&& 31)).toBitVec.getLsbD 0 = bt x k := by
  have e : ∀ k, k < 31 → (nI k &&& 31).toBitVec.smod 32 = BitVec.ofNat 32 k := by decide
  rw [Int32.toBitVec_shiftRight, e k hk]
  unfold bt
  show (x.toBitVec.sshiftRight (BitVec.ofNat 32 k).toNat).getLsbD 0 = _
  have e2 : (BitVec.ofNat 32 k).toNat = k := by rw [BitVec.toNat_ofNat, Nat.mod_eq_of_lt (by omega)]
  rw [e2, BitVec.getLsbD_sshiftRight, Nat.add_zero, if_pos (show k < 32 by omega)]
  rfl
theorem has_bt (x : Int32) {k : Nat} (hk : k < 31) : f12_has x (nI k) = bt x k := by
  unfold f12_has
  have key : ((x >>> (nI k &&& 31)) &&& 1 = 1) ↔ bt x k = true := by
    rw [← sh_bits x hk, ← and_one_bv]
    constructor
    · intro h
      have := congrArg Int32.toBitVec h
      rwa [Int32.toBitVec_and] at this
    · intro h
      apply Int32.toBitVec_inj.mp
      rw [Int32.toBitVec_and]
      exact h
  by_cases q : bt x k = true
  · rw [if_pos (key.mpr q), q]
  · rw [if_neg (fun h => q (key.mp h))]
    cases hb : bt x k
    · rfl
    · exact absurd hb q
theorem or_bt (x : Int32) {h k : Nat} (hh : h < 31) (hk : k < 31) : bt (x ||| ((1 : Int32) <<< (nI h &&& 31))) k = (bt x k || decide (k = h)) := by
  unfold bt
  rw [Int32.toBitVec_or, BitVec.getLsbD_or]
  have e : ∀ h, h < 31 → ∀ k, k < 31 → ((1 : Int32) <<< (nI h &&& 31)).toBitVec.getLsbD k = decide (k = h) := by decide
  rw [e h hh k hk]
/-! the order by grievance, told by a function: strictly by (grievance, house), and all of them -/
def ORD (J : Nat) (sk : Nat → Prop) (g : Nat → Nat) (n : Nat) (r : Nat → Nat) : Prop := n ≤ J ∧ (∀ i j, i < j → j < n → 8 * g (r i) + r i < 8 * g (r j) + r j) ∧ (∀ i, i < n → r i < J ∧ ¬ sk (r i) ∧ 0 < g (r i)) ∧ (∀ h, h < J → ¬ sk h → 0 < g h → ∃ i, i < n ∧ r i = h)
theorem ORD_inj {J : Nat} {g : Nat → Nat} {a b : Nat} (hJ : J ≤ 7) (ha : a < J) (hb : b < J) (e : 8 * g a + a = 8 * g b + b) : a = b := by omega
theorem ORD_one {J : Nat} {sk : Nat → Prop} {g : Nat → Nat} {n n' : Nat} {r r' : Nat → Nat} (hJ : J ≤ 7) (h : ORD J sk g n r) (h' : ORD J sk g n' r') : n = n' ∧ ∀ i, i < n → r i = r' i := by
  obtain ⟨a1, a2, a3, a4⟩ := h
  obtain ⟨b1, b2, b3, b4⟩ := h'
  have low : ∀ (i : Nat), (∀ j, j < i → j < n → j < n' → r j = r' j) → i < n → ∃ j, i ≤ j ∧ j < n' ∧ r' j = r i := by
    intro i ih hi
    obtain ⟨x1, x2, x3⟩ := a3 i hi
    obtain ⟨j, hj, ej⟩ := b4 (r i) x1 x2 x3
    refine ⟨j, ?_, hj, ej⟩
    by_cases q : i ≤ j
    · exact q
    · have e := ih j (by omega) (by omega) hj
      have := a2 j i (by omega) hi
      rw [e, ej] at this
      omega
  have low' : ∀ (i : Nat), (∀ j, j < i → j < n → j < n' → r j = r' j) → i < n' → ∃ j, i ≤ j ∧ j < n ∧ r j = r' i := by
    intro i ih hi
    obtain ⟨x1, x2, x3⟩ := b3 i hi
    obtain ⟨j, hj, ej⟩ := a4 (r' i) x1 x2 x3
    refine ⟨j, ?_, hj, ej⟩
    by_cases q : i ≤ j
    · exact q
    · have e := ih j (by omega) hj (by omega)
      have := b2 j i (by omega) hi
      rw [← e, ej] at this
      omega
  have eq : ∀ (i k : Nat), k ≤ i → k < n → k < n' → r k = r' k := by
    intro i
    induction i using Nat.strongRecOn with
    | _ i ih =>
      intro k hk h1 h2
      have pr : ∀ j, j < k → j < n → j < n' → r j = r' j := fun j hj p q => ih j (by omega) j (Nat.le_refl _) p q
      obtain ⟨j, j1, j2, j3⟩ := low k pr h1
      obtain ⟨l, l1, l2, l3⟩ := low' k pr h2
      have s1 : 8 * g (r' k) + r' k ≤ 8 * g (r k) + r k := by
        by_cases e : k = j
        · subst e; rw [j3]; exact Nat.le_refl _
        · have := b2 k j (by omega) j2
          rw [j3] at this
          omega
      have s2 : 8 * g (r k) + r k ≤ 8 * g (r' k) + r' k := by
        by_cases e : k = l
        · subst e; rw [l3]; exact Nat.le_refl _
        · have := a2 k l (by omega) l2
          rw [l3] at this
          omega
      exact ORD_inj hJ (a3 k h1).1 (b3 k h2).1 (Nat.le_antisymm s2 s1)
  have nn : n = n' := by
    by_cases q : n < n'
    · obtain ⟨j, j1, j2, j3⟩ := low' n (fun j p1 p2 p3 => eq j j (Nat.le_refl _) p2 p3) q
      omega
    · by_cases q' : n' < n
      · obtain ⟨j, j1, j2, j3⟩ := low n' (fun j p1 p2 p3 => eq j j (Nat.le_refl _) p2 p3) q'
        omega
      · omega
  subst nn
  exact ⟨rfl, fun i hi => eq i i (Nat.le_refl _) hi hi⟩
/-! the class's row: put where it belongs -/
def RW (c : SI) (n : Nat) (r g : Nat → Nat) : Prop := c 36 2 = nI n ∧ ∀ i, i < n → c 37 i = nI (r i) ∧ c 38 i = nI (g (r i))
def RF (c c' : SI) : Prop := ∀ a, a ≠ 36 → a ≠ 37 → a ≠ 38 → c' a = c a
theorem RF_SX {c c' : SI} (h : RF c c') : SX c c' := ⟨fun a _ _ _ x y z _ _ _ => h a x y z, by rw [h 13 (by decide) (by decide) (by decide)], by rw [h 13 (by decide) (by decide) (by decide)]⟩
theorem RF_tr {c c1 c2 : SI} (h1 : RF c c1) (h2 : RF c1 c2) : RF c c2 := fun a x y z => (h2 a x y z).trans (h1 a x y z)
theorem put_in {n : Nat} {r g : Nat → Nat} {h : Nat} (hn : n < 7) (hg : ∀ i, i < n → g (r i) ≤ 30) (hgh : g h ≤ 30) : ∀ (fu v : Nat) (c : SI), v ≤ n → v < fu → c 36 2 = nI n → (∀ i, i < v → c 37 i = nI (r i) ∧ c 38 i = nI (g (r i))) → (∀ i, v ≤ i → i < n → c 37 (i + 1) = nI (r i) ∧ c 38 (i + 1) = nI (g (r i)) ∧ g h < g (r i)) → ∃ w c', w ≤ v ∧ f6_put_c19 (nI h) (nI (g h)) fu (nI v) c = c' ∧ c' 36 2 = nI (n + 1) ∧ (∀ i, i < w → c' 37 i = nI (r i) ∧ c' 38 i = nI (g (r i))) ∧ c' 37 w = nI h ∧ c' 38 w = nI (g h) ∧ (∀ i, w ≤ i → i < n → c' 37 (i + 1) = nI (r i) ∧ c' 38 (i + 1) = nI (g (r i)) ∧ g h < g (r i)) ∧ (w = 0 ∨ g (r (w - 1)) ≤ g h) ∧ RF c c' := by
  intro fu
  induction fu with
  | zero => intro v c h1 h2; omega
  | succ fu ih =>
    intro v c h1 h2 hs ha hb
    rw [f6_put_c19]
    have stop : ∃ w c', w ≤ v ∧ (sp (f11_setCell 38 7 (f11_setCell 37 7 c (nI v) (nI h)) (nI v) (nI (g h))) 36 2 ((f11_setCell 38 7 (f11_setCell 37 7 c (nI v) (nI h)) (nI v) (nI (g h))) 36 2 + 1)) = c' ∧ w = v ∧ c' 36 2 = nI (n + 1) ∧ (∀ i, i < w → c' 37 i = nI (r i) ∧ c' 38 i = nI (g (r i))) ∧ c' 37 w = nI h ∧ c' 38 w = nI (g h) ∧ (∀ i, w ≤ i → i < n → c' 37 (i + 1) = nI (r i) ∧ c' 38 (i + 1) = nI (g (r i)) ∧ g h < g (r i)) ∧ RF c c' := by
      rw [set_at (k := 37) (by omega) (by decide), set_at (k := 38) (by omega) (by decide)]
      refine ⟨v, _, Nat.le_refl _, rfl, rfl, ?_, fun i hi => ?_, ?_, ?_, fun i h3 h4 => ?_, fun a x y z => ?_⟩
      · rw [sp_r, sp_n (by decide), sp_n (by decide), hs, nI_1]
      · rw [sp_n (by decide), sp_n (by decide), sp_k (by omega), sp_n (by decide), sp_k (by omega), sp_n (by decide)]; exact ha i hi
      · rw [sp_n (by decide), sp_n (by decide), sp_r]
      · rw [sp_n (by decide), sp_r]
      · rw [sp_n (by decide), sp_n (by decide), sp_k (by omega), sp_n (by decide), sp_k (by omega), sp_n (by decide)]; exact hb i h3 h4
      · rw [sp_n x, sp_n z, sp_n y]
    by_cases q : v = 0
    · subst q
      rw [if_pos (show nI 0 ≤ 0 by decide)]
      obtain ⟨w, c', w1, w2, w3, w4⟩ := stop
      exact ⟨w, c', w1, w2, w4.1, w4.2.1, w4.2.2.1, w4.2.2.2.1, w4.2.2.2.2.1, Or.inl w3, w4.2.2.2.2.2⟩
    · rw [if_neg (nI_nle (by omega) (by omega)), show nI v - 1 = nI (v - 1) from nI_sub (b := 1) (by omega), cell_at (by omega) (by decide), (ha (v - 1) (by omega)).2]
      have gb := hg (v - 1) (by omega)
      by_cases u : g (r (v - 1)) ≤ g h
      · rw [if_pos (nI_le u (by omega))]
        obtain ⟨w, c', w1, w2, w3, w4⟩ := stop
        subst w3
        exact ⟨w, c', w1, w2, w4.1, w4.2.1, w4.2.2.1, w4.2.2.2.1, w4.2.2.2.2.1, Or.inr u, w4.2.2.2.2.2⟩
      · rw [if_neg (nI_ge (by omega) (by omega)), cell_at (k := 37) (by omega) (by decide), set_at (k := 37) (by omega) (by decide)]
        dsimp only
        rw [cell_at (k := 38) (by omega) (by decide), sp_n (by decide), set_at (k := 38) (by omega) (by decide), (ha (v - 1) (by omega)).1, (ha (v - 1) (by omega)).2]
        have em : nI v + -1 = nI (v - 1) := by
          have e0 : nI v = nI (v - 1) + 1 := by rw [nI_1, Nat.sub_add_cancel (by omega)]
          rw [e0, Int32.add_assoc, show (1 : Int32) + -1 = 0 from rfl, Int32.add_zero]
        rw [em]
        obtain ⟨w, c', w1, w2, w3, w4, w5, w6, w7, w8, w9⟩ := ih (v - 1) (sp (sp c 37 v (nI (r (v - 1)))) 38 v (nI (g (r (v - 1))))) (by omega) (by omega) (by rw [sp_n (by decide), sp_n (by decide)]; exact hs) (fun i hi => by
          rw [sp_n (by decide), sp_k (by omega), sp_k (by omega), sp_n (by decide)]; exact ha i (by omega)) (fun i h3 h4 => by
          by_cases e : i = v - 1
          · subst e
            rw [Nat.sub_add_cancel (by omega), sp_n (by decide), sp_r, sp_r]
            exact ⟨rfl, rfl, by omega⟩
          · rw [sp_n (by decide), sp_k (by omega), sp_k (by omega), sp_n (by decide)]; exact hb i (by omega) h4)
        exact ⟨w, c', by omega, w2, w3, w4, w5, w6, w7, w8, RF_tr (fun a x y z => by rw [sp_n z, sp_n y]) w9⟩
