/-! reading a town: a number of two digits at most -/
def NUM (c m : SI) (lo hi slot : Nat) (bb : Int32) (F : Bool × SI) (G : Int32 × SI) : Prop := ∃ (c' m' : SI) (v : Int32) (p : Nat), G = (v, m') ∧ hd c ≤ p ∧ p ≤ ln c ∧ ((∃ V, v = nI V ∧ lo ≤ V ∧ V ≤ hi ∧ hd c < p ∧ MV c m c' m' p ∧ F = (true, sp c' 5 slot (nI V))) ∨ (F = (false, c') ∧ NF c m c' m' p))
theorem m1_back {x : Int32} {k : Nat} (h : x = nI (k + 1)) : x - 1 = nI k := by
  rw [h]
  exact nI_sub (b := 1) (by omega)
theorem num_end {c m c2 m2 : SI} {P V lo hi slot : Nat} {bb : Int32} (h : HP c m) (v : MV c m c2 m2 (P + 1)) (hP : hd c ≤ P) (hp : P + 1 ≤ ln c) (hV : V < 100) (hlo : lo ≤ 99) (hhi : hi ≤ 99) (hs : slot < 36) : NUM c m lo hi slot bb (if nI V = -1 then (false, c2) else (if nI V < nI lo then f7_failsAtLastDigit c2 else (if nI V ≤ nI hi then (true, f8_put 4 c2 (nI slot) (nI V)) else f7_failsAtLastDigit c2))) (if f12_in (nI V) (nI lo) (nI hi) = true then (nI V, m2) else (nI V, f12_bad (sp m2 123 3 (m2 123 3 - 1)))) := by
  have hL := h.1.2.2.1
  rw [if_neg (nI_ne_m1 (by omega))]
  obtain ⟨⟨x1, x2, x3⟩, y1, y2, y3⟩ := v
  have v : MV c m c2 m2 (P + 1) := ⟨⟨x1, x2, x3⟩, y1, y2, y3⟩
  have bad : ∀ b : Bool, b = false → (if b = true then (nI V, m2) else (nI V, f12_bad (sp m2 123 3 (m2 123 3 - 1)))) = (nI V, sp (sp m2 123 3 (nI P)) 123 4 (nI P)) := by
    intro b hb
    rw [hb, if_neg Bool.false_ne_true, m1_back y3]
    unfold f12_bad
    rw [if_pos (show (sp m2 123 3 (nI P)) 123 4 = -1 by rw [sp_k (by decide), y2 4 (by decide)]; exact h.2.2.2.2), sp_r]
  have fl : f7_failsAtLastDigit c2 = (false, sp c2 1 3 (nI P)) := by
    unfold f7_failsAtLastDigit
    rw [m1_back x3]
  have nf : NF c m (sp c2 1 3 (nI P)) (sp (sp m2 123 3 (nI P)) 123 4 (nI P)) P := by
    refine ⟨⟨fun a x => by rw [sp_n x, x1 a x], fun j u w => by rw [sp_k w, x2 j u], sp_r⟩, fun a x => by rw [sp_n x, sp_n x, y1 a x], fun j u w => by rw [sp_k w, sp_k u, y2 j u], ?_, sp_r⟩
    rw [sp_k (by decide), sp_r]
  rcases in_or (nI V) (nI lo) (nI hi) with ⟨i1, i2, i3⟩ | ⟨i1, i2⟩
  · have l1 : lo ≤ V := Nat.le_of_not_lt fun q => i2 (nI_lt q (by omega))
    have l2 : V ≤ hi := Nat.le_of_not_lt fun q => i3 (nI_lt q (by omega))
    rw [i1, if_pos rfl, if_neg i2, if_pos (nI_le l2 (by omega))]
    have ep : f8_put 4 c2 (nI slot) (nI V) = sp c2 5 slot (nI V) := set_at (k := 5) (n := 36) hs (by decide)
    rw [ep]
    exact ⟨c2, m2, nI V, P + 1, rfl, by omega, hp, Or.inl ⟨V, rfl, l1, l2, by omega, v, rfl⟩⟩
  · rw [bad _ i1]
    have e2 : (if nI V < nI lo then f7_failsAtLastDigit c2 else (if nI V ≤ nI hi then ((true, f8_put 4 c2 (nI slot) (nI V)) : Bool × SI) else f7_failsAtLastDigit c2)) = (false, sp c2 1 3 (nI P)) := by
      by_cases q : nI V < nI lo
      · rw [if_pos q]; exact fl
      · rw [if_neg q]
        rcases i2 with i2 | i2
        · exact absurd i2 q
        · rw [if_neg (vp_lt i2)]; exact fl
    rw [e2]
    exact ⟨_, _, _, P, rfl, hP, by omega, Or.inr ⟨rfl, nf⟩⟩
theorem tk1 {c1 m1 : SI} {s : Nat} (h : HP c1 m1) (d : f11_isDigit (xh c1) = true) (e : xh c1 = nI s) (h1 : 48 ≤ s) (h2 : s ≤ 57) : f7_takeNumber_c21 2 4 (-1) 0 c1 = f7_takeNumber_c21 2 3 (nI (s - 48)) 1 (f7_pass c1) := by
  rw [f7_takeNumber_c21, if_neg (show ¬ (2 : Int32) < 0 by decide), (sah h).1, if_pos d, if_neg (show ¬ (2 : Int32) ≤ 0 by decide), if_pos (show (-1 : Int32) < 0 by decide), e]
  have : (((0 : Int32) * 10) + nI s) - 48 = nI (s - 48) := by
    rw [Int32.zero_mul, z_add]
    exact nI_sub (b := 48) h1
  dsimp only
  rw [this]
  rfl
theorem tk2 {c2 m2 : SI} {a s : Nat} (h : HP c2 m2) (d : f11_isDigit (xh c2) = true) (e : xh c2 = nI s) (h1 : 48 ≤ s) (h2 : s ≤ 57) (ha : a < 10) : f7_takeNumber_c21 2 3 (nI a) 1 c2 = f7_takeNumber_c21 2 2 (nI (10 * a + s - 48)) 2 (f7_pass c2) := by
  rw [f7_takeNumber_c21, if_neg (show ¬ (2 : Int32) < 1 by decide), (sah h).1, if_pos d, if_neg (show ¬ (2 : Int32) ≤ 1 by decide), if_neg (nI_pos (by omega)), e, val_c h1 h2]
  rfl
theorem tk3 {c3 m3 : SI} {v : Int32} (h : HP c3 m3) (d : f11_isDigit (xh c3) = true) : f7_takeNumber_c21 2 2 v 2 c3 = (-1, (f7_fails c3).2) := by
  rw [f7_takeNumber_c21, if_neg (show ¬ (2 : Int32) < 2 by decide), (sah h).1, if_pos d, if_pos (show (2 : Int32) ≤ 2 by decide), f7_takeNumber_c21, if_pos (show (2 : Int32) < 2 + 1 by decide)]
theorem tkn {c3 m3 : SI} {v k : Int32} {fu : Nat} (h : HP c3 m3) (d : ¬ f11_isDigit (xh c3) = true) (hk : ¬ (2 : Int32) < k) : f7_takeNumber_c21 2 (fu + 1) v k c3 = (v, c3) := by
  rw [f7_takeNumber_c21, if_neg hk, (sah h).1, if_neg d]
theorem NUM_NF {c m c' m' : SI} {lo hi slot p : Nat} {bb v : Int32} (h1 : hd c ≤ p) (h2 : p ≤ ln c) (nf : NF c m c' m' p) : NUM c m lo hi slot bb (false, c') (v, m') := ⟨c', m', v, p, rfl, h1, h2, Or.inr ⟨rfl, nf⟩⟩
theorem MV_pass {c m c1 m1 : SI} {p : Nat} (v : MV c m c1 m1 p) (h1 : HP c1 m1) (e : hd c1 = p) (hx : xh c1 ≠ -1) : MV c m (f7_pass c1) (sp m1 123 3 (m1 123 3 + 1)) (p + 1) ∧ p + 1 ≤ ln c1 ∧ HP (f7_pass c1) (sp m1 123 3 (m1 123 3 + 1)) ∧ hd (f7_pass c1) = p + 1 ∧ ln (f7_pass c1) = ln c1 := by
  obtain ⟨w, q⟩ := pass h1 hx
  obtain ⟨H2, e2, l2⟩ := MV_HP h1 w q
  rw [e] at w q e2
  exact ⟨MV_tr v w, q, H2, e2, l2⟩
theorem num2 {c m : SI} {lo hi slot : Nat} {bb : Int32} (h : HP c m) (hlo : f11_cellS 6 bb = nI lo) (hhi : f11_cellS 7 bb = nI hi) (lo9 : lo ≤ 99) (hi9 : hi ≤ 99) (hs : slot < 36) : NUM c m lo hi slot bb (f9_readsNumber c (nI slot) bb) (f12_number m (nI lo) (nI hi)) ∧ o12_number m (nI lo) (nI hi) := by
  obtain ⟨c1, m1, p, r1, r2, r3, r4, r5, r6, r7, r8, r9, r10⟩ := peek h
  have hL := h.1.2.2.1
  have ef : fu1 ((Int32.toInt (2 : Int32) + 1 - Int32.toInt (0 : Int32)).toNat) = 4 := fu_bdE (a := 2) (by decide)
  unfold f9_readsNumber f7_takeNumber f12_number o12_number
  rw [r1, r2, hlo, hhi, ef]
  dsimp only
  rw [isDigit_same]
  by_cases d1 : f11_isDigit (xh c1) = true
  · obtain ⟨s1, a1, a2, es⟩ := digit_of d1
    have hx : xh c1 ≠ -1 := by rw [es]; exact nI_ne_m1 (by omega)
    obtain ⟨v2, q2, H2, e2, l2⟩ := MV_pass r3 r8 r9 hx
    have va : xh c1 - 48 = nI (s1 - 48) := by rw [es]; exact nI_sub (b := 48) a1
    rw [if_pos d1, if_pos d1, if_pos d1, tk1 r8 d1 es a1 a2, (sah r8).2.1, va]
    rw [(sah H2).2.1, isDigit_same]
    have o2 := (sah H2).2.2
    have o1 := (sah r8).2.2
    have k3 : (sp m1 123 3 (m1 123 3 + 1)) 123 3 = m1 123 3 + 1 := sp_r
    by_cases d2 : f11_isDigit (xh (f7_pass c1)) = true
    · obtain ⟨s2, b1, b2, es2⟩ := digit_of d2
      have hx2 : xh (f7_pass c1) ≠ -1 := by rw [es2]; exact nI_ne_m1 (by omega)
      obtain ⟨v3, q3, H3, e3, l3⟩ := MV_pass v2 H2 e2 hx2
      rw [if_pos d2, if_pos d2, tk2 H2 d2 es2 b1 b2 (by omega), es2, val_m b1 b2]
      rw [k3] at v3 H3
      rw [(sah H3).2.1, isDigit_same]
      have o3 := (sah H3).2.2
      by_cases d3 : f11_isDigit (xh (f7_pass (f7_pass c1))) = true
      · rw [if_pos d3, if_pos d3, tk3 H3 d3, bad_at H3, fails_at H3, e3]
        dsimp only
        rw [if_pos rfl]
        refine ⟨NUM_NF (p := p + 1 + 1) (by omega) (by omega) ?_, r6, o1, o2, o2, o3, trivial⟩
        obtain ⟨⟨x1, x2, x3⟩, y1, y2, y3⟩ := v3
        exact ⟨⟨fun a x => by rw [sp_n x, x1 a x], fun j u w => by rw [sp_k w, x2 j u], sp_r⟩, fun a x => by rw [sp_n x, y1 a x], fun j u w => by rw [sp_k w, y2 j u], by rw [sp_k (by decide)]; exact y3, sp_r⟩
      · rw [if_neg d3, if_neg d3, tkn H3 d3 (by decide)]
        have k4 : m1 123 3 + 1 + 1 - 1 = (sp (sp m1 123 3 (m1 123 3 + 1)) 123 3 (m1 123 3 + 1 + 1)) 123 3 - 1 := by rw [sp_r]
        rw [k4]
        dsimp only
        exact ⟨num_end (bb := bb) h v3 (by omega) (by omega) (by omega) lo9 hi9 hs, r6, o1, o2, o2, o3, by split <;> trivial⟩
    · rw [if_neg d2, if_neg d2, if_neg d2, if_neg d2, tkn H2 d2 (by decide)]
      have k4 : m1 123 3 + 1 - 1 = (sp m1 123 3 (m1 123 3 + 1)) 123 3 - 1 := by rw [sp_r]
      rw [k4]
      dsimp only
      exact ⟨num_end (bb := bb) h v2 (by omega) (by omega) (by omega) lo9 hi9 hs, r6, o1, o2, o2, by split <;> trivial⟩
  · rw [if_neg d1, if_neg d1, if_neg d1, bad_at r8, fails_at r8, r9]
    dsimp only
    rw [if_pos rfl]
    refine ⟨NUM_NF (p := p) r4 r5 ?_, r6, trivial⟩
    obtain ⟨⟨x1, x2, x3⟩, y1, y2, y3⟩ := r3
    exact ⟨⟨fun a x => by rw [sp_n x, x1 a x], fun j u w => by rw [sp_k w, x2 j u], sp_r⟩, fun a x => by rw [sp_n x, y1 a x], fun j u w => by rw [sp_k w, y2 j u], by rw [sp_k (by decide)]; exact y3, sp_r⟩
