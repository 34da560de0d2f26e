/-! feed -/
theorem bits8 (x y : BitVec 32) (h : ∀ i, i < 8 → x.getLsbD i = y.getLsbD i) : x &&& 255#32 = y &&& 255#32 := by
  apply BitVec.eq_of_getLsbD_eq
  intro i hi
  rw [BitVec.getLsbD_and, BitVec.getLsbD_and]
  by_cases q : i < 8
  · rw [h i q]
  · have : (255#32).getLsbD i = false := by
      have : ∀ i, i < 32 → ¬ i < 8 → (255#32).getLsbD i = false := by decide
      exact this i hi q
    rw [this, Bool.and_false, Bool.and_false]
noncomputable def bo (x : Int32) (s : Nat) : Int32 := (x >>> (nI s &&& 31)) &&& 255
noncomputable def bl (x : Int32) (s : Nat) : Int32 := ((Int32.toUInt32 x >>> (Int32.toUInt32 (nI s) &&& Int32.toUInt32 31)).toInt32) &&& 255
theorem bo_bl (x : Int32) : ∀ s, s = 0 ∨ s = 8 ∨ s = 16 ∨ s = 24 → bl x s = bo x s := by
  intro s hs
  unfold bo bl
  apply Int32.toBitVec_inj.mp
  rw [Int32.toBitVec_and, Int32.toBitVec_and]
  refine bits8 _ _ (fun i hi => ?_)
  have e1 : ∀ s, s = 0 ∨ s = 8 ∨ s = 16 ∨ s = 24 → ((Int32.toUInt32 x >>> (Int32.toUInt32 (nI s) &&& Int32.toUInt32 31)).toInt32).toBitVec = x.toBitVec >>> s := by
    intro s hs
    show (Int32.toUInt32 x >>> (Int32.toUInt32 (nI s) &&& Int32.toUInt32 31)).toBitVec = _
    rw [UInt32.toBitVec_shiftRight]
    have : (Int32.toUInt32 (nI s) &&& Int32.toUInt32 31).toBitVec % 32#32 = BitVec.ofNat 32 s := by
      rcases hs with rfl | rfl | rfl | rfl <;> decide
    have e2 : ∀ k : BitVec 32, k = BitVec.ofNat 32 s → (Int32.toUInt32 x).toBitVec >>> k = x.toBitVec >>> s := by
      intro k hk
      rw [hk, BitVec.ushiftRight_eq']
      rw [BitVec.toNat_ofNat, Nat.mod_eq_of_lt (by omega)]
      rfl
    exact e2 _ this
  have e3 : ∀ s, s = 0 ∨ s = 8 ∨ s = 16 ∨ s = 24 → (x >>> (nI s &&& 31)).toBitVec = x.toBitVec.sshiftRight s := by
    intro s hs
    rw [Int32.toBitVec_shiftRight]
    have : ((nI s &&& 31).toBitVec.smod 32) = BitVec.ofNat 32 s := by
      rcases hs with rfl | rfl | rfl | rfl <;> decide
    rw [this]
    rw [BitVec.sshiftRight_eq']
    rw [BitVec.toNat_ofNat, Nat.mod_eq_of_lt (by omega)]
  rw [e1 s hs, e3 s hs, BitVec.getLsbD_ushiftRight, BitVec.getLsbD_sshiftRight]
  have : s + i < 32 := by omega
  simp [show i < 32 by omega, this]
theorem by_0 (a b c d e : Int32) : f12_byteOf a b c d e (nI 0) = bo a 24 := by
  unfold f12_byteOf bo
  rw [if_neg (show ¬ (4 : Int32) ≤ nI 0 by decide), show (24 : Int32) - (8 : Int32) * (nI 0 - nI 0 / (4 : Int32) * (4 : Int32)) = nI 24 by decide]
theorem by_1 (a b c d e : Int32) : f12_byteOf a b c d e (nI 1) = bo a 16 := by
  unfold f12_byteOf bo
  rw [if_neg (show ¬ (4 : Int32) ≤ nI 1 by decide), show (24 : Int32) - (8 : Int32) * (nI 1 - nI 1 / (4 : Int32) * (4 : Int32)) = nI 16 by decide]
theorem by_2 (a b c d e : Int32) : f12_byteOf a b c d e (nI 2) = bo a 8 := by
  unfold f12_byteOf bo
  rw [if_neg (show ¬ (4 : Int32) ≤ nI 2 by decide), show (24 : Int32) - (8 : Int32) * (nI 2 - nI 2 / (4 : Int32) * (4 : Int32)) = nI 8 by decide]
theorem by_3 (a b c d e : Int32) : f12_byteOf a b c d e (nI 3) = bo a 0 := by
  unfold f12_byteOf bo
  rw [if_neg (show ¬ (4 : Int32) ≤ nI 3 by decide), show (24 : Int32) - (8 : Int32) * (nI 3 - nI 3 / (4 : Int32) * (4 : Int32)) = nI 0 by decide]
theorem by_4 (a b c d e : Int32) : f12_byteOf a b c d e (nI 4) = bo b 24 := by
  unfold f12_byteOf bo
  rw [if_pos (show (4 : Int32) ≤ nI 4 by decide), if_neg (show ¬ (8 : Int32) ≤ nI 4 by decide), show (24 : Int32) - (8 : Int32) * (nI 4 - nI 4 / (4 : Int32) * (4 : Int32)) = nI 24 by decide]
theorem by_5 (a b c d e : Int32) : f12_byteOf a b c d e (nI 5) = bo b 16 := by
  unfold f12_byteOf bo
  rw [if_pos (show (4 : Int32) ≤ nI 5 by decide), if_neg (show ¬ (8 : Int32) ≤ nI 5 by decide), show (24 : Int32) - (8 : Int32) * (nI 5 - nI 5 / (4 : Int32) * (4 : Int32)) = nI 16 by decide]
theorem by_6 (a b c d e : Int32) : f12_byteOf a b c d e (nI 6) = bo b 8 := by
  unfold f12_byteOf bo
  rw [if_pos (show (4 : Int32) ≤ nI 6 by decide), if_neg (show ¬ (8 : Int32) ≤ nI 6 by decide), show (24 : Int32) - (8 : Int32) * (nI 6 - nI 6 / (4 : Int32) * (4 : Int32)) = nI 8 by decide]
theorem by_7 (a b c d e : Int32) : f12_byteOf a b c d e (nI 7) = bo b 0 := by
  unfold f12_byteOf bo
  rw [if_pos (show (4 : Int32) ≤ nI 7 by decide), if_neg (show ¬ (8 : Int32) ≤ nI 7 by decide), show (24 : Int32) - (8 : Int32) * (nI 7 - nI 7 / (4 : Int32) * (4 : Int32)) = nI 0 by decide]
theorem by_8 (a b c d e : Int32) : f12_byteOf a b c d e (nI 8) = bo c 24 := by
  unfold f12_byteOf bo
  rw [if_pos (show (4 : Int32) ≤ nI 8 by decide), if_pos (show (8 : Int32) ≤ nI 8 by decide), if_neg (show ¬ (12 : Int32) ≤ nI 8 by decide), show (24 : Int32) - (8 : Int32) * (nI 8 - nI 8 / (4 : Int32) * (4 : Int32)) = nI 24 by decide]
theorem by_9 (a b c d e : Int32) : f12_byteOf a b c d e (nI 9) = bo c 16 := by
  unfold f12_byteOf bo
  rw [if_pos (show (4 : Int32) ≤ nI 9 by decide), if_pos (show (8 : Int32) ≤ nI 9 by decide), if_neg (show ¬ (12 : Int32) ≤ nI 9 by decide), show (24 : Int32) - (8 : Int32) * (nI 9 - nI 9 / (4 : Int32) * (4 : Int32)) = nI 16 by decide]
theorem by_10 (a b c d e : Int32) : f12_byteOf a b c d e (nI 10) = bo c 8 := by
  unfold f12_byteOf bo
  rw [if_pos (show (4 : Int32) ≤ nI 10 by decide), if_pos (show (8 : Int32) ≤ nI 10 by decide), if_neg (show ¬ (12 : Int32) ≤ nI 10 by decide), show (24 : Int32) - (8 : Int32) * (nI 10 - nI 10 / (4 : Int32) * (4 : Int32)) = nI 8 by decide]
theorem by_11 (a b c d e : Int32) : f12_byteOf a b c d e (nI 11) = bo c 0 := by
  unfold f12_byteOf bo
  rw [if_pos (show (4 : Int32) ≤ nI 11 by decide), if_pos (show (8 : Int32) ≤ nI 11 by decide), if_neg (show ¬ (12 : Int32) ≤ nI 11 by decide), show (24 : Int32) - (8 : Int32) * (nI 11 - nI 11 / (4 : Int32) * (4 : Int32)) = nI 0 by decide]
theorem by_12 (a b c d e : Int32) : f12_byteOf a b c d e (nI 12) = bo d 24 := by
  unfold f12_byteOf bo
  rw [if_pos (show (4 : Int32) ≤ nI 12 by decide), if_pos (show (8 : Int32) ≤ nI 12 by decide), if_pos (show (12 : Int32) ≤ nI 12 by decide), if_neg (show ¬ (16 : Int32) ≤ nI 12 by decide), show (24 : Int32) - (8 : Int32) * (nI 12 - nI 12 / (4 : Int32) * (4 : Int32)) = nI 24 by decide]
theorem by_13 (a b c d e : Int32) : f12_byteOf a b c d e (nI 13) = bo d 16 := by
  unfold f12_byteOf bo
  rw [if_pos (show (4 : Int32) ≤ nI 13 by decide), if_pos (show (8 : Int32) ≤ nI 13 by decide), if_pos (show (12 : Int32) ≤ nI 13 by decide), if_neg (show ¬ (16 : Int32) ≤ nI 13 by decide), show (24 : Int32) - (8 : Int32) * (nI 13 - nI 13 / (4 : Int32) * (4 : Int32)) = nI 16 by decide]
theorem by_14 (a b c d e : Int32) : f12_byteOf a b c d e (nI 14) = bo d 8 := by
  unfold f12_byteOf bo
  rw [if_pos (show (4 : Int32) ≤ nI 14 by decide), if_pos (show (8 : Int32) ≤ nI 14 by decide), if_pos (show (12 : Int32) ≤ nI 14 by decide), if_neg (show ¬ (16 : Int32) ≤ nI 14 by decide), show (24 : Int32) - (8 : Int32) * (nI 14 - nI 14 / (4 : Int32) * (4 : Int32)) = nI 8 by decide]
theorem by_15 (a b c d e : Int32) : f12_byteOf a b c d e (nI 15) = bo d 0 := by
  unfold f12_byteOf bo
  rw [if_pos (show (4 : Int32) ≤ nI 15 by decide), if_pos (show (8 : Int32) ≤ nI 15 by decide), if_pos (show (12 : Int32) ≤ nI 15 by decide), if_neg (show ¬ (16 : Int32) ≤ nI 15 by decide), show (24 : Int32) - (8 : Int32) * (nI 15 - nI 15 / (4 : Int32) * (4 : Int32)) = nI 0 by decide]
theorem by_16 (a b c d e : Int32) : f12_byteOf a b c d e (nI 16) = bo e 24 := by
  unfold f12_byteOf bo
  rw [if_pos (show (4 : Int32) ≤ nI 16 by decide), if_pos (show (8 : Int32) ≤ nI 16 by decide), if_pos (show (12 : Int32) ≤ nI 16 by decide), if_pos (show (16 : Int32) ≤ nI 16 by decide), show (24 : Int32) - (8 : Int32) * (nI 16 - nI 16 / (4 : Int32) * (4 : Int32)) = nI 24 by decide]
theorem by_17 (a b c d e : Int32) : f12_byteOf a b c d e (nI 17) = bo e 16 := by
  unfold f12_byteOf bo
  rw [if_pos (show (4 : Int32) ≤ nI 17 by decide), if_pos (show (8 : Int32) ≤ nI 17 by decide), if_pos (show (12 : Int32) ≤ nI 17 by decide), if_pos (show (16 : Int32) ≤ nI 17 by decide), show (24 : Int32) - (8 : Int32) * (nI 17 - nI 17 / (4 : Int32) * (4 : Int32)) = nI 16 by decide]
theorem by_18 (a b c d e : Int32) : f12_byteOf a b c d e (nI 18) = bo e 8 := by
  unfold f12_byteOf bo
  rw [if_pos (show (4 : Int32) ≤ nI 18 by decide), if_pos (show (8 : Int32) ≤ nI 18 by decide), if_pos (show (12 : Int32) ≤ nI 18 by decide), if_pos (show (16 : Int32) ≤ nI 18 by decide), show (24 : Int32) - (8 : Int32) * (nI 18 - nI 18 / (4 : Int32) * (4 : Int32)) = nI 8 by decide]
theorem by_19 (a b c d e : Int32) : f12_byteOf a b c d e (nI 19) = bo e 0 := by
  unfold f12_byteOf bo
  rw [if_pos (show (4 : Int32) ≤ nI 19 by decide), if_pos (show (8 : Int32) ≤ nI 19 by decide), if_pos (show (12 : Int32) ≤ nI 19 by decide), if_pos (show (16 : Int32) ≤ nI 19 by decide), show (24 : Int32) - (8 : Int32) * (nI 19 - nI 19 / (4 : Int32) * (4 : Int32)) = nI 0 by decide]
def b1 (y : Int32) : Nat := if y = 0 then 0 else 1
def b1s : List Int32 → Nat
  | [] => 0
  | y :: l => b1 y + b1s l
theorem b1s_app (l1 l2 : List Int32) : b1s (l1 ++ l2) = b1s l1 + b1s l2 := by
  induction l1 with
  | nil => exact (Nat.zero_add _).symm
  | cons y l ih =>
    show b1 y + b1s (l ++ l2) = b1 y + b1s l + b1s l2
    rw [ih, Nat.add_assoc]
noncomputable def A1 (c : SI) (y : Int32) : SI := if y = 0 then c else sp (sp c 2 (Int32.toNatClampNeg (c 1 1)) y) 1 1 (c 1 1 + 1)
noncomputable def M1 (m : SI) (y : Int32) : SI := if y = 0 then m else sp (sp m 124 (Int32.toNatClampNeg (m 123 2)) y) 123 2 (m 123 2 + 1)
theorem step_tp {c m : SI} {y : Int32} (h : TP c m) (hy : Bnd y 0 255) (hl : ln c + b1 y ≤ 240) : TP (A1 c y) (M1 m y) ∧ ln (A1 c y) = ln c + b1 y := by
  obtain ⟨t1, t2, t3, t4⟩ := h
  unfold A1 M1 b1 at *
  by_cases q : y = 0
  · rw [if_pos q] at hl ⊢
    rw [if_pos q, if_pos q]
    exact ⟨⟨t1, t2, t3, t4⟩, rfl⟩
  · rw [if_neg q] at hl ⊢
    rw [if_neg q, if_neg q, t1, t2, nI_clamp (by omega), show nI (ln c) + 1 = nI (ln c + 1) from nI_add _ 1]
    have el : ln (sp (sp c 2 (ln c) y) 1 1 (nI (ln c + 1))) = ln c + 1 := ln_of sp_r (by omega)
    refine ⟨⟨?_, ?_, by omega, fun i hi => ?_⟩, el⟩
    · rw [el, sp_r]
    · rw [el, sp_r]
    · rw [el] at hi
      rw [sp_n (show 2 ≠ 1 by decide), sp_n (show 124 ≠ 123 by decide)]
      by_cases e : i = ln c
      · subst e
        rw [sp_r, sp_r]
        exact ⟨rfl, hy.1, hy.2⟩
      · rw [sp_k e, sp_k e]
        exact t4 i (by omega)
theorem A1_fr (c : SI) (y : Int32) : (∀ a, a ≠ 1 → a ≠ 2 → A1 c y a = c a) ∧ (∀ j, j ≠ 1 → A1 c y 1 j = c 1 j) := by
  unfold A1
  split
  · exact ⟨fun _ _ _ => rfl, fun _ _ => rfl⟩
  · exact ⟨fun a x z => by rw [sp_n x, sp_n z], fun j x => by rw [sp_k x, sp_n (by decide)]⟩
theorem M1_fr (m : SI) (y : Int32) : (∀ a, a ≠ 123 → a ≠ 124 → M1 m y a = m a) ∧ (∀ j, j ≠ 2 → M1 m y 123 j = m 123 j) := by
  unfold M1
  split
  · exact ⟨fun _ _ _ => rfl, fun _ _ => rfl⟩
  · exact ⟨fun a x z => by rw [sp_n x, sp_n z], fun j x => by rw [sp_k x, sp_n (by decide)]⟩
theorem fold_tp : ∀ (l : List Int32) (c m : SI), TP c m → (∀ y ∈ l, Bnd y 0 255) → ln c + b1s l ≤ 240 → TP (l.foldl A1 c) (l.foldl M1 m) ∧ ln (l.foldl A1 c) = ln c + b1s l ∧ ((∀ a, a ≠ 1 → a ≠ 2 → l.foldl A1 c a = c a) ∧ (∀ j, j ≠ 1 → l.foldl A1 c 1 j = c 1 j)) ∧ ((∀ a, a ≠ 123 → a ≠ 124 → l.foldl M1 m a = m a) ∧ (∀ j, j ≠ 2 → l.foldl M1 m 123 j = m 123 j)) := by
  intro l
  induction l with
  | nil => intro c m h _ _; exact ⟨h, rfl, ⟨fun _ _ _ => rfl, fun _ _ => rfl⟩, ⟨fun _ _ _ => rfl, fun _ _ => rfl⟩⟩
  | cons y l ih =>
    intro c m h hb hl
    have hl' : ln c + (b1 y + b1s l) ≤ 240 := hl
    obtain ⟨s1, s2⟩ := step_tp h (hb y List.mem_cons_self) (by omega)
    obtain ⟨i1, i2, ⟨i3, i4⟩, i5, i6⟩ := ih (A1 c y) (M1 m y) s1 (fun z hz => hb z (List.mem_cons_of_mem _ hz)) (by omega)
    obtain ⟨f1, f2⟩ := A1_fr c y
    obtain ⟨f3, f4⟩ := M1_fr m y
    refine ⟨i1, ?_, ⟨fun a x z => (i3 a x z).trans (f1 a x z), fun j x => (i4 j x).trans (f2 j x)⟩, ⟨fun a x z => (i5 a x z).trans (f3 a x z), fun j x => (i6 j x).trans (f4 j x)⟩⟩
    show ln (l.foldl A1 (A1 c y)) = ln c + (b1 y + b1s l)
    omega
/-- the class: four bytes of a number -/
noncomputable def four (x : Int32) : List Int32 := [bo x 24, bo x 16, bo x 8, bo x 0]
theorem sg_step {x v : Int32} {s fu : Nat} (hs : s = 0 ∨ s = 8 ∨ s = 16 ∨ s = 24) {n : Nat} (hn : v = nI n) : f11_signsIn_c5 x (fu + 1) v (nI s) = f11_signsIn_c5 x fu (nI (n + b1 (bo x s))) (nI s + (-8)) := by
  have e : ((Int32.toUInt32 x >>> (Int32.toUInt32 (nI s) &&& Int32.toUInt32 31)).toInt32) &&& 255 = bo x s := bo_bl x s hs
  rw [f11_signsIn_c5, if_neg (nI_pos (by omega)), e, hn]
  unfold b1
  by_cases q : bo x s = 0
  · rw [if_pos q, if_pos q]; rfl
  · rw [if_neg q, if_neg q, show nI n + 1 = nI (n + 1) from nI_add n 1]
theorem signs_c (x : Int32) : f11_signsIn x = nI (b1s (four x)) := by
  have ef : fu1 ((Int32.toInt (24 : Int32) + 8).toNat) = 28 + 1 + 1 + 1 + 1 + 1 := by rw [fu1_eq]; rfl
  unfold f11_signsIn
  rw [ef]
  show f11_signsIn_c5 x (28 + 1 + 1 + 1 + 1 + 1) (nI 0) (nI 24) = _
  rw [sg_step (by decide) rfl, show nI 24 + (-8) = nI 16 by decide, sg_step (by decide) rfl, show nI 16 + (-8) = nI 8 by decide, sg_step (by decide) rfl, show nI 8 + (-8) = nI 0 by decide, sg_step (by decide) rfl, f11_signsIn_c5, if_pos (show nI 0 + (-8) < 0 by decide)]
  congr 1
  show 0 + b1 (bo x 24) + b1 (bo x 16) + b1 (bo x 8) + b1 (bo x 0) = b1 (bo x 24) + (b1 (bo x 16) + (b1 (bo x 8) + (b1 (bo x 0) + 0)))
  omega
theorem ap_step {x : Int32} {c m : SI} {s fu : Nat} (hs : s = 0 ∨ s = 8 ∨ s = 16 ∨ s = 24) (h : TP c m) (hl : ln c + b1 (bo x s) ≤ 240) : f7_append_c3 x (fu + 1) (nI s) c = f7_append_c3 x fu (nI s + (-8)) (A1 c (bo x s)) := by
  have e : ((Int32.toUInt32 x >>> (Int32.toUInt32 (nI s) &&& Int32.toUInt32 31)).toInt32) &&& 255 = bo x s := bo_bl x s hs
  rw [f7_append_c3, if_neg (nI_pos (by omega)), e]
  unfold A1
  unfold b1 at hl
  by_cases q : bo x s = 0
  · rw [if_pos q, if_pos q]
  · rw [if_neg q] at hl
    have l1 : ¬ c 1 1 < 0 := by rw [h.1]; exact nI_pos (by omega)
    have l2 : ¬ (240 : Int32) ≤ c 1 1 := by rw [h.1]; exact nI_ge (b := 240) (by omega) (by decide)
    rw [if_neg q, if_neg q, if_neg l1, if_neg l2]
theorem bo_bnd (x : Int32) (s : Nat) : Bnd (bo x s) 0 255 := and_bnd (k := 255) (by decide)
theorem append_c {x : Int32} {c m : SI} (h : TP c m) (hl : ln c + b1s (four x) ≤ 240) : f7_append c x = (four x).foldl A1 c := by
  have ef : fu1 ((Int32.toInt (24 : Int32) + 8).toNat) = 28 + 1 + 1 + 1 + 1 + 1 := by rw [fu1_eq]; rfl
  have hl' : ln c + (b1 (bo x 24) + (b1 (bo x 16) + (b1 (bo x 8) + (b1 (bo x 0) + 0)))) ≤ 240 := hl
  obtain ⟨t1, l1⟩ := step_tp h (bo_bnd x 24) (by omega)
  obtain ⟨t2, l2⟩ := step_tp t1 (bo_bnd x 16) (by omega)
  obtain ⟨t3, l3⟩ := step_tp t2 (bo_bnd x 8) (by omega)
  unfold f7_append
  rw [ef]
  show f7_append_c3 x (28 + 1 + 1 + 1 + 1 + 1) (nI 24) c = _
  rw [ap_step (by decide) h (by omega), show nI 24 + (-8) = nI 16 by decide, ap_step (by decide) t1 (by omega), show nI 16 + (-8) = nI 8 by decide, ap_step (by decide) t2 (by omega), show nI 8 + (-8) = nI 0 by decide, ap_step (by decide) t3 (by omega), f7_append_c3, if_pos (show nI 0 + (-8) < 0 by decide)]
  rfl
/-- the model: twenty bytes -/
theorem cnt_m {σ : SI} {a b c d e : Int32} : ∀ (l : List Int32) (k n fu : Nat), (∀ j y, l[j]? = some y → f12_byteOf a b c d e (nI (k + j)) = y) → k + l.length = 20 → l.length < fu → ∃ fu', f12_feed_c6 σ a b c d e fu (nI n) (nI k) = f12_feed_c6 σ a b c d e (fu' + 1) (nI (n + b1s l)) (nI 20) ∧ (o12_feed_c6 σ a b c d e (fu' + 1) (nI (n + b1s l)) (nI 20) → o12_feed_c6 σ a b c d e fu (nI n) (nI k)) := by
  intro l
  induction l with
  | nil =>
    intro k n fu _ hk hf
    have hk : k = 20 := hk
    subst hk
    obtain ⟨fu, rfl, _⟩ := fu_pos (n := 0) (fu := fu) (by have : 0 < fu := hf; omega)
    exact ⟨fu, rfl, fun o => o⟩
  | cons y l ih =>
    intro k n fu hb hk hf
    have hk : k + (l.length + 1) = 20 := hk
    have hf : l.length + 1 < fu := hf
    obtain ⟨fu, rfl, _⟩ := fu_pos (n := 0) (fu := fu) (by omega)
    have ey : f12_byteOf a b c d e (nI k) = y := hb 0 y rfl
    have nle : ¬ (20 : Int32) ≤ nI k := nI_ge (b := 20) (by omega) (by decide)
    obtain ⟨fu', i1, i2⟩ := ih (k + 1) (n + b1 y) fu (fun j z hz => by rw [show k + 1 + j = k + (j + 1) by omega]; exact hb (j + 1) z hz) (by omega) (by omega)
    rw [show n + b1 y + b1s l = n + b1s (y :: l) from Nat.add_assoc _ _ _] at i1 i2
    refine ⟨fu', ?_, fun o => ?_⟩
    · rw [f12_feed_c6, if_neg nle, ey, show nI k + 1 = nI (k + 1) from nI_add k 1, ← i1]
      unfold b1
      by_cases q : y = 0
      · rw [if_pos q, if_pos q, Int32.add_zero]; rfl
      · rw [if_neg q, if_neg q, show nI n + 1 = nI (n + 1) from nI_add n 1]
    · rw [o12_feed_c6, if_neg nle, ey, show nI k + 1 = nI (k + 1) from nI_add k 1]
      have o' := i2 o
      unfold b1 at o'
      by_cases q : y = 0
      · rw [if_pos q] at o'
        rw [if_pos q, Int32.add_zero]; exact o'
      · rw [if_neg q] at o'
        rw [if_neg q, show nI n + 1 = nI (n + 1) from nI_add n 1]; exact o'
theorem sto_m {a b c d e x6 : Int32} {K : Int32 → SI → Int32 × SI} {oK' : Int32 → SI → Prop} : ∀ (l : List Int32) (k fu : Nat) (cs m : SI), (∀ j y, l[j]? = some y → f12_byteOf a b c d e (nI (k + j)) = y) → k + l.length = 20 → l.length < fu → TP cs m → (∀ y ∈ l, Bnd y 0 255) → ln cs + b1s l ≤ 240 → ∃ x, f12_feed_c62 a b c d e x6 K fu (nI k) m = K x (l.foldl M1 m) ∧ (oK' x (l.foldl M1 m) → o12_feed_c62 a b c d e x6 oK' fu (nI k) m) := by
  intro l
  induction l with
  | nil =>
    intro k fu cs m _ hk hf _ _ _
    have hk : k = 20 := hk
    subst hk
    obtain ⟨fu, rfl, _⟩ := fu_pos (n := 0) (fu := fu) (by have : 0 < fu := hf; omega)
    have le : (20 : Int32) ≤ nI 20 := by decide
    rw [f12_feed_c62, o12_feed_c62, if_pos le, if_pos le]
    exact ⟨nI 20, rfl, fun o => o⟩
  | cons y l ih =>
    intro k fu cs m hb hk hf hT hB hl
    have hk : k + (l.length + 1) = 20 := hk
    have hf : l.length + 1 < fu := hf
    have hl' : ln cs + (b1 y + b1s l) ≤ 240 := hl
    obtain ⟨fu, rfl, _⟩ := fu_pos (n := 0) (fu := fu) (by omega)
    have ey : f12_byteOf a b c d e (nI k) = y := hb 0 y rfl
    have nle : ¬ (20 : Int32) ≤ nI k := nI_ge (b := 20) (by omega) (by decide)
    obtain ⟨t1, l1⟩ := step_tp hT (hB y List.mem_cons_self) (by omega)
    obtain ⟨x, i1, i2⟩ := ih (k + 1) fu (A1 cs y) (M1 m y) (fun j z hz => by rw [show k + 1 + j = k + (j + 1) by omega]; exact hb (j + 1) z hz) (by omega) (by omega) t1 (fun z hz => hB z (List.mem_cons_of_mem _ hz)) (by omega)
    rw [f12_feed_c62, o12_feed_c62, if_neg nle, if_neg nle, ey, show nI k + 1 = nI (k + 1) from nI_add k 1]
    refine ⟨x, ?_, fun o => ?_⟩
    · show _ = K x (l.foldl M1 (M1 m y))
      rw [← i1]
      unfold M1
      by_cases q : y = 0
      · rw [if_pos q, if_pos q]
      · rw [if_neg q, if_neg q]
    · have o' := i2 o
      unfold M1 at o'
      by_cases q : y = 0
      · rw [if_pos q] at o'
        rw [if_pos q]; exact o'
      · rw [if_neg q] at o'
        rw [if_neg q]
        unfold b1 at hl'
        rw [if_neg q] at hl'
        exact ⟨by rw [hT.2.1]; exact vp_in_nI (by omega) (by decide), o'⟩
theorem t_feed {G : Nat} {c m : SI} (I : INV G c m) (x1 x2 x3 x4 x5 : Int32) : RUN G (f11_feed c x1 x2 x3 x4 x5) (f12_feed m x1 x2 x3 x4 x5) (o12_feed m x1 x2 x3 x4 x5) := by
  obtain ⟨H, B, LL, hd, g, n, y, gs, J⟩ := I
  have J : IX0 G c m H B LL hd g n y gs := J
  have hT : TP c m := J.1
  have hL := hT.2.2.1
  have e20 : fu1 ((Int32.toInt (20 : Int32) - Int32.toInt (0 : Int32)).toNat) = 21 := fu_bd (a := 20) (by decide)
  generalize hlst : four x1 ++ (four x2 ++ (four x3 ++ (four x4 ++ four x5))) = l
  have hlen : l.length = 20 := by rw [← hlst]; rfl
  have hby : ∀ j z, l[j]? = some z → f12_byteOf x1 x2 x3 x4 x5 (nI (0 + j)) = z := by
    intro j z hz
    have hj : j < 20 := by rw [← hlen]; exact (List.getElem?_eq_some_iff.mp hz).1
    rw [← hlst] at hz
    rw [Nat.zero_add]
    rcases (by omega : j = 0 ∨ j = 1 ∨ j = 2 ∨ j = 3 ∨ j = 4 ∨ j = 5 ∨ j = 6 ∨ j = 7 ∨ j = 8 ∨ j = 9 ∨ j = 10 ∨ j = 11 ∨ j = 12 ∨ j = 13 ∨ j = 14 ∨ j = 15 ∨ j = 16 ∨ j = 17 ∨ j = 18 ∨ j = 19) with rfl | rfl | rfl | rfl | rfl | rfl | rfl | rfl | rfl | rfl | rfl | rfl | rfl | rfl | rfl | rfl | rfl | rfl | rfl | rfl
    · exact (by_0 x1 x2 x3 x4 x5).trans (Option.some.inj hz)
    · exact (by_1 x1 x2 x3 x4 x5).trans (Option.some.inj hz)
    · exact (by_2 x1 x2 x3 x4 x5).trans (Option.some.inj hz)
    · exact (by_3 x1 x2 x3 x4 x5).trans (Option.some.inj hz)
    · exact (by_4 x1 x2 x3 x4 x5).trans (Option.some.inj hz)
    · exact (by_5 x1 x2 x3 x4 x5).trans (Option.some.inj hz)
    · exact (by_6 x1 x2 x3 x4 x5).trans (Option.some.inj hz)
    · exact (by_7 x1 x2 x3 x4 x5).trans (Option.some.inj hz)
    · exact (by_8 x1 x2 x3 x4 x5).trans (Option.some.inj hz)
    · exact (by_9 x1 x2 x3 x4 x5).trans (Option.some.inj hz)
    · exact (by_10 x1 x2 x3 x4 x5).trans (Option.some.inj hz)
    · exact (by_11 x1 x2 x3 x4 x5).trans (Option.some.inj hz)
    · exact (by_12 x1 x2 x3 x4 x5).trans (Option.some.inj hz)
    · exact (by_13 x1 x2 x3 x4 x5).trans (Option.some.inj hz)
    · exact (by_14 x1 x2 x3 x4 x5).trans (Option.some.inj hz)
    · exact (by_15 x1 x2 x3 x4 x5).trans (Option.some.inj hz)
    · exact (by_16 x1 x2 x3 x4 x5).trans (Option.some.inj hz)
    · exact (by_17 x1 x2 x3 x4 x5).trans (Option.some.inj hz)
    · exact (by_18 x1 x2 x3 x4 x5).trans (Option.some.inj hz)
    · exact (by_19 x1 x2 x3 x4 x5).trans (Option.some.inj hz)
  have hBn : ∀ z ∈ l, Bnd z 0 255 := by
    intro z hz
    obtain ⟨j, hj⟩ := List.getElem?_of_mem hz
    rw [← hby j z hj]
    unfold f12_byteOf
    repeat' split
    all_goals exact and_bnd (k := 255) (by decide)
  have hsum : b1s l = b1s (four x1) + (b1s (four x2) + (b1s (four x3) + (b1s (four x4) + b1s (four x5)))) := by rw [← hlst, b1s_app, b1s_app, b1s_app, b1s_app]
  have hb20 : b1s l ≤ 20 := by
    have : ∀ l : List Int32, b1s l ≤ l.length := by
      intro l
      induction l with
      | nil => exact Nat.le_refl _
      | cons y l ih =>
        show b1 y + b1s l ≤ l.length + 1
        have : b1 y ≤ 1 := by unfold b1; split <;> omega
        omega
    have := this l
    omega
  obtain ⟨fu', c1, c2⟩ := cnt_m (σ := m) l 0 0 21 hby (by omega) (by omega)
  have le20 : (20 : Int32) ≤ nI 20 := by decide
  unfold f11_feed f12_feed o12_feed f7_size
  rw [e20]
  have c1' : f12_feed_c6 m x1 x2 x3 x4 x5 21 0 0 = _ := c1
  rw [c1', signs_c, signs_c, signs_c, signs_c, signs_c, nI_add, nI_add, nI_add, nI_add, hT.1, show (240 : Int32) - nI (ln c) = nI (240 - ln c) from nI_sub (a := 240) hL, f12_feed_c6, if_pos le20, hT.2.1, Nat.zero_add, nI_add]
  have OO : (if nI (ln c) + nI (0 + b1s l) ≤ (240 : Int32) then o12_feed_c62 x1 x2 x3 x4 x5 (nI (0 + b1s l)) (fun _ _ => True) 21 0 m else True) → o12_feed_c6 m x1 x2 x3 x4 x5 21 0 0 := by
    intro o
    refine c2 ?_
    rw [o12_feed_c6, if_pos le20, hT.2.1, e20]
    exact o
  by_cases q : ln c + b1s l ≤ 240
  · have l1 : nI (b1s (four x1) + b1s (four x2) + b1s (four x3) + b1s (four x4) + b1s (four x5)) ≤ nI (240 - ln c) := nI_le (by omega) (by omega)
    have l2 : nI (ln c + b1s l) ≤ (240 : Int32) := nI_le (b := 240) q (by decide)
    rw [if_pos l1, if_pos l2, e20]
    obtain ⟨x, s1, s2⟩ := sto_m (x6 := nI (b1s l)) (K := fun (y1_7 : Int32) (σk1 : SI) => ((σk1 123 2), σk1)) (oK' := fun _ _ => True) l 0 21 c m hby (by omega) (by omega) hT hBn q
    have s1' : f12_feed_c62 x1 x2 x3 x4 x5 (nI (b1s l)) (fun (y1_7 : Int32) (σk1 : SI) => ((σk1 123 2), σk1)) 21 0 m = _ := s1
    rw [s1']
    have sub : ∀ (z : Int32), four z ⊆ l → ∀ w ∈ four z, Bnd w 0 255 := fun z _ w hw => by
      rcases List.mem_cons.mp hw with rfl | hw
      · exact bo_bnd _ _
      rcases List.mem_cons.mp hw with rfl | hw
      · exact bo_bnd _ _
      rcases List.mem_cons.mp hw with rfl | hw
      · exact bo_bnd _ _
      rcases List.mem_cons.mp hw with rfl | hw
      · exact bo_bnd _ _
      · exact absurd hw List.not_mem_nil
    have fb : ∀ (z : Int32), ∀ w ∈ four z, Bnd w 0 255 := fun z w hw => by
      rcases List.mem_cons.mp hw with rfl | hw
      · exact bo_bnd _ _
      rcases List.mem_cons.mp hw with rfl | hw
      · exact bo_bnd _ _
      rcases List.mem_cons.mp hw with rfl | hw
      · exact bo_bnd _ _
      rcases List.mem_cons.mp hw with rfl | hw
      · exact bo_bnd _ _
      · exact absurd hw List.not_mem_nil
    obtain ⟨t1, k1, _, _⟩ := fold_tp (four x1) c m hT (fb x1) (by omega)
    obtain ⟨t2, k2, _, _⟩ := fold_tp (four x2) _ _ t1 (fb x2) (by omega)
    obtain ⟨t3, k3, _, _⟩ := fold_tp (four x3) _ _ t2 (fb x3) (by omega)
    obtain ⟨t4, k4, _, _⟩ := fold_tp (four x4) _ _ t3 (fb x4) (by omega)
    obtain ⟨T, kk, ⟨f1, f2⟩, f3, f4⟩ := fold_tp l c m hT hBn q
    have ec : f7_append (f7_append (f7_append (f7_append (f7_append c x1) x2) x3) x4) x5 = l.foldl A1 c := by
      rw [append_c hT (by omega), append_c t1 (by omega), append_c t2 (by omega), append_c t3 (by omega), append_c t4 (by omega), ← hlst, List.foldl_append, List.foldl_append, List.foldl_append, List.foldl_append]
    dsimp only
    rw [ec]
    refine ⟨T.1.trans T.2.1.symm, OO ?_, ?_⟩
    · rw [Nat.zero_add, nI_add, if_pos l2]
      exact s2 trivial
    · dsimp only
      exact IX0_inv (IX_tp J (Nat.le_refl _) (fun a h => f1 a (by omega) (by omega)) (by rw [f1 13 (by decide) (by decide)]) (by rw [f1 13 (by decide) (by decide)]) (by rw [f1 0 (by decide) (by decide)]) (fun a h => f3 a (by omega) (by omega)) (fun j h => f4 j (by omega)) T)
  · have l1 : ¬ nI (b1s (four x1) + b1s (four x2) + b1s (four x3) + b1s (four x4) + b1s (four x5)) ≤ nI (240 - ln c) := nI_ge (by omega) (by omega)
    have l2 : ¬ nI (ln c + b1s l) ≤ (240 : Int32) := nI_ge (a := 240) (by omega) (by omega)
    rw [if_neg l1, if_neg l2]
    refine ⟨rfl, OO ?_, IX0_inv J⟩
    rw [Nat.zero_add, nI_add, if_neg l2]
    trivial
