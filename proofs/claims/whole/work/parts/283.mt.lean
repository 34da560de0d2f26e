/-! the odds: the model's side -/
theorem set_bit : ∀ w, w < 128 → ∀ h, h < 7 → (nI w ||| ((1 : Int32) <<< (nI h &&& 31))) = nI (w ||| 2 ^ h) ∧ (w ||| 2 ^ h) < 128 := by decide +kernel
theorem cnt_bit : ∀ w, w < 128 → ∀ h, h < 7 → bt (nI w) h = false → fbitCount (nI w ||| ((1 : Int32) <<< (nI h &&& 31))) = fbitCount (nI w) + 1 := by decide +kernel
def OS (H : Nat) (m0 : SI) (r : Nat → Nat) (n i : Nat) (t : Int32) (m : SI) : Prop := (∀ a, a ≠ 132 → a ≠ 133 → a ≠ 140 → a ≠ 143 → m a = m0 a) ∧ MB H m ∧ m 140 8 = t ∧ m 140 10 = plc m0 r i ∧ (∃ w, w < 128 ∧ m 140 11 = nI w) ∧ fbitCount (m 140 11) = fbitCount (m0 140 11) + nI i ∧ (∀ j, i ≤ j → j < n → bt (m 140 11) (r j) = false) ∧ (∀ j, i ≤ j → j < n → m 140 (r j) = m0 140 (r j)) ∧ m 140 12 = m0 140 12
def SVD (m : SI) (i : Nat) : Prop := ∀ j, j < 14 → m 143 (14 * i + j) = m 140 j
def OF (i : Nat) (m m' : SI) : Prop := (∀ a, a ≠ 132 → a ≠ 133 → a ≠ 143 → m' a = m a) ∧ (∀ j, j < 14 * i → m' 143 j = m 143 j)
theorem OF_rf (i : Nat) (m : SI) : OF i m m := ⟨fun _ _ _ _ => rfl, fun _ _ => rfl⟩
theorem OF_tr {i : Nat} {m m1 m2 : SI} (h1 : OF i m m1) (h2 : OF i m1 m2) : OF i m m2 := ⟨fun a x y z => (h2.1 a x y z).trans (h1.1 a x y z), fun j h => (h2.2 j h).trans (h1.2 j h)⟩
theorem OF_le {i j : Nat} {m m' : SI} (h : OF i m m') (hj : j ≤ i) : OF j m m' := ⟨h.1, fun k hk => h.2 k (by omega)⟩
theorem OS_of {H n i k : Nat} {m0 m m' : SI} {r : Nat → Nat} {t : Int32} (h : OS H m0 r n i t m) (F : OF k m m') : OS H m0 r n i t m' := by
  have e : m' 140 = m 140 := F.1 _ (by decide) (by decide) (by decide)
  obtain ⟨a1, a2, a3⟩ := h
  refine ⟨fun a x y z w => (F.1 a x y w).trans (a1 a x y z w), MB_fr a2 e, ?_⟩
  rw [e]
  exact a3
theorem SVD_of {i : Nat} {m m' : SI} (h : SVD m i) (F : OF (i + 1) m m') : SVD m' i := fun j hj => by
  rw [F.2 _ (by omega), F.1 140 (by decide) (by decide) (by decide)]
  exact h j hj
theorem OS_TR {H B n i : Nat} {c m0 m : SI} {r : Nat → Nat} {t : Int32} (T : TR H B c m0) (h : OS H m0 r n i t m) : TR H B c m := TR_fr T rfl rfl (by rw [h.1 123 (by decide) (by decide) (by decide) (by decide)]) (by rw [h.1 123 (by decide) (by decide) (by decide) (by decide)]) (h.1 _ (by decide) (by decide) (by decide) (by decide)) (h.1 _ (by decide) (by decide) (by decide) (by decide)) (h.1 _ (by decide) (by decide) (by decide) (by decide))
theorem OS_LR {H n i : Nat} {LL : List LW} {hd : Int32} {c m0 m : SI} {r : Nat → Nat} {t : Int32} (L : LR LL hd c m0) (h : OS H m0 r n i t m) : LR LL hd c m := LR_fr L (fun _ _ _ => rfl) rfl rfl (fun a x y _ => h.1 a (by omega) (by omega) (by omega) (by omega)) (by rw [h.1 123 (by decide) (by decide) (by decide) (by decide)]) (by rw [h.1 123 (by decide) (by decide) (by decide) (by decide)])
theorem OS_next {H n i : Nat} {m0 m m1 s : SI} {r : Nat → Nat} {t E z : Int32} (hH : H ≤ 7) (hi : i < n) (hr : ∀ j, j < n → r j < H) (inj : ∀ a b, a < b → b < n → r a ≠ r b) (h : OS H m0 r n i t m) (F : FM m m1) (hE : Bnd E 0 99) (hz : Bnd (m 140 (r i) - z) 0 30) (hs : sp (sp (sp (sp m1 140 (r i) (m 140 (r i) - z)) 140 8 E) 140 10 (nI (r i))) 140 11 (m 140 11 ||| ((1 : Int32) <<< (nI (r i) &&& 31))) = s) : OS H m0 r n (i + 1) E s ∧ (∀ a, a ≠ 132 → a ≠ 133 → a ≠ 140 → s a = m a) ∧ (∀ j, 14 ≤ j → s 140 j = m 140 j) := by
  have hri := hr i hi
  have e140 : m1 140 = m 140 := F _ (by decide) (by decide)
  have f8 : s 140 8 = E := by rw [← hs, sp_k (by decide), sp_k (by decide), sp_r]
  have f10 : s 140 10 = nI (r i) := by rw [← hs, sp_k (by decide), sp_r]
  have f11 : s 140 11 = (m 140 11 ||| ((1 : Int32) <<< (nI (r i) &&& 31))) := by rw [← hs, sp_r]
  have fr : s 140 (r i) = m 140 (r i) - z := by rw [← hs, sp_k (by omega), sp_k (by omega), sp_k (by omega), sp_r]
  have fo : ∀ j, j ≠ r i → j ≠ 8 → j ≠ 10 → j ≠ 11 → s 140 j = m 140 j := fun j h1 h2 h3 h4 => by rw [← hs, sp_k h4, sp_k h3, sp_k h2, sp_k h1, e140]
  have fa : ∀ a, a ≠ 132 → a ≠ 133 → a ≠ 140 → s a = m a := fun a x y w => by rw [← hs, sp_n w, sp_n w, sp_n w, sp_n w, F a x y]
  obtain ⟨a1, a2, a3, a4, ⟨w, hw, ew⟩, a6, a7, a8, a9⟩ := h
  refine ⟨⟨fun a x y u v => (fa a x y u).trans (a1 a x y u v), ⟨fun k hk => ?_, ?_, ?_, ?_, ?_⟩, f8, ?_, ?_, ?_, fun j h1 h2 => ?_, fun j h1 h2 => ?_, ?_⟩, fa, fun j hj => fo j (by omega) (by omega) (by omega) (by omega)⟩
  · by_cases e : k = r i
    · rw [e, fr]; exact hz
    · rw [fo k e (by omega) (by omega) (by omega)]; exact a2.1 k hk
  · rw [f8]; exact hE
  · rw [fo 9 (by omega) (by decide) (by decide) (by decide)]; exact a2.2.2.1
  · rw [f10]; exact Or.inr ⟨r i, hri, rfl⟩
  · rw [fo 12 (by omega) (by decide) (by decide) (by decide)]; exact a2.2.2.2.2
  · rw [f10]; unfold plc; rw [if_neg (by omega), Nat.add_sub_cancel]
  · rw [f11, ew]; exact ⟨_, (set_bit w hw (r i) (by omega)).2, (set_bit w hw (r i) (by omega)).1⟩
  · have b := a7 i (Nat.le_refl _) hi
    rw [ew] at b a6
    rw [f11, ew, cnt_bit w hw (r i) (by omega) b, a6, ← nI_1, Int32.add_assoc]
  · rw [f11, or_bt _ (by have := hr j h2; omega) (by have := hr j h2; omega), a7 j (by omega) h2, Bool.false_or, decide_eq_false_iff_not]
    exact fun e => inj i j (by omega) h2 e.symm
  · rw [fo (r j) (fun e => inj i j (by omega) h2 e.symm) (by have := hr j h2; omega) (by have := hr j h2; omega) (by have := hr j h2; omega)]
    exact a8 j (by omega) h2
  · rw [fo 12 (by omega) (by decide) (by decide) (by decide)]; exact a9
theorem bk_of {H n i : Nat} {m0 m s m2 : SI} {r : Nat → Nat} (hi : i ≤ 7) (fa : ∀ a, a ≠ 132 → a ≠ 133 → a ≠ 140 → s a = m a) (fj : ∀ j, 14 ≤ j → s 140 j = m 140 j) (V : SVD m i) (F : OF (i + 1) s m2) : ∃ m3, f12_takeBack m2 (nI i) = m3 ∧ o12_takeBack m2 (nI i) ∧ OF (i + 1) m m3 := by
  obtain ⟨m3, t1, t2, t3, t4, t5⟩ := tback m2 hi
  refine ⟨m3, t1, t2, fun a x y z => ?_, fun j hj => ?_⟩
  · by_cases e : a = 140
    · subst e
      funext j
      by_cases q : j < 14
      · rw [t4 j q, F.2 _ (by omega), fa 143 (by decide) (by decide) (by decide), V j q]
      · rw [t5 j (by omega), F.1 140 (by decide) (by decide) (by decide), fj j (by omega)]
    · rw [t3 a e, F.1 a x y z, fa a x y e]
  · rw [t3 143 (by decide), F.2 j hj, fa 143 (by decide) (by decide) (by decide)]
theorem leg0 {LL : List LW} {hd : Int32} {H B n k : Nat} {r : Nat → Nat} {c m0 : SI} {a s : Nat} {Tf : SI → Int32 → Int32 → Int32 → Int32 → Int32 × SI} {oT : SI → Int32 → Int32 → Int32 → Int32 → Prop} (T : TR H B c m0) (L : LR LL hd c m0) (P : PL H m0 r n) (inj : ∀ a b, a < b → b < n → r a ≠ r b) (hk : k ≤ n) (ha : a ≤ 100) {i : Nat} (hi : i + (s + 1) = k) {p : Nat} (hp : p ≤ 1000000000) (IH : ∀ (m : SI) (t : Int32) (p : Nat), OS H m0 r n (i + 1) t m → Bnd t 0 99 → p ≤ 1000000000 → ∃ m', Tf m (nI (i + 1)) (nI k) (nI a) (nI p) = (nI (od LL hd m0 r a s (i + 1) t p), m') ∧ oT m (nI (i + 1)) (nI k) (nI a) (nI p) ∧ OF (i + 1) m m') (fu q0 : Nat) (m : SI) (t : Int32) (S : OS H m0 r n i t m) (V : SVD m i) : ∃ m', f12_oddsFrom_c40 Tf (nI i) (nI k) (nI a) (nI p) (nI (r i)) (nI (p * a / 100)) (fu + 1) (nI q0) 0 m = f12_oddsFrom_c40 Tf (nI i) (nI k) (nI a) (nI p) (nI (r i)) (nI (p * a / 100)) fu (nI (q0 + br LL hd m0 r (od LL hd m0 r a s (i + 1)) i (t + dI m0 r i) (p - p * a / 100))) 1 m' ∧ (o12_oddsFrom_c40 Tf oT (nI i) (nI k) (nI a) (nI p) (nI (r i)) (nI (p * a / 100)) fu (nI (q0 + br LL hd m0 r (od LL hd m0 r a s (i + 1)) i (t + dI m0 r i) (p - p * a / 100))) 1 m' → o12_oddsFrom_c40 Tf oT (nI i) (nI k) (nI a) (nI p) (nI (r i)) (nI (p * a / 100)) (fu + 1) (nI q0) 0 m) ∧ OF (i + 1) m m' := by
  have hH := T.1
  obtain ⟨hn7, hr, M0⟩ := P
  have hri := hr i (by omega)
  have Tm := OS_TR T S
  have Lm := OS_LR L S
  have M := S.2.1
  have oS := (stepsNow_m Tm M hri).2
  have eD : sD m (r i) = dI m0 r i := by
    unfold sD dI
    rw [S.2.2.2.1, steps_fr (S.1 138 (by decide) (by decide) (by decide) (by decide))]
  have eN : f12_stepsNow m (nI (r i)) = dI m0 r i := eD
  have bd : Bnd (dI m0 r i) 0 18 := dI_bnd T ⟨hn7, hr, M0⟩ (by omega)
  have bt' : Bnd t 0 99 := by rw [← S.2.2.1]; exact M.2.1
  have barr : Bnd ((t + dI m0 r i) + 0) 0 126 := arr_bnd bt' bd b00
  have hw : R6 ((m 140 8 + sD m (r i)) + 0) := by rw [S.2.2.1, eD]; exact bnd_r6 barr (by decide) (by decide)
  have hg : Bnd (m 140 (r i)) 0 30 := M.1 _ hri
  obtain ⟨m1, e1, o1, F⟩ := standsIf_m (LL := LL) (hd := hd) (w := 0) Tm Lm M hri (bnd_le hg (by decide) (by decide)) hw
  have es : sN LL hd m (r i) (m 140 (r i)) 0 = sI' LL hd m0 r i (t + dI m0 r i) := by
    unfold sN sI'
    rw [eD, S.2.2.1, S.2.2.2.2.2.1, S.2.2.2.2.2.2.2.1 i (Nat.le_refl _) (by omega), S.2.2.2.2.2.2.2.2, thank_fr (S.1 138 (by decide) (by decide) (by decide) (by decide)), Int32.add_zero]
  rw [es] at e1
  have e140 : m1 140 = m 140 := F _ (by decide) (by decide)
  have e137 : m1 137 = m0 137 := (F _ (by decide) (by decide)).trans (S.1 _ (by decide) (by decide) (by decide) (by decide))
  have e138 : m1 138 = m 138 := F _ (by decide) (by decide)
  have bS : Bnd (sI' LL hd m0 r i (t + dI m0 r i)) 0 60 := SV_bnd (bnd_le (M0.1 _ hri) (by decide) (by decide))
  have vp := vpx (j := r i) (by omega)
  have oth := (thank_c (TR_fm Tm F) hri).2
  rw [f12_oddsFrom_c40, o12_oddsFrom_c40]
  rw [if_neg (show ¬ (2 : Int32) ≤ 0 by decide), if_neg (show ¬ (2 : Int32) ≤ 0 by decide), if_neg (show ¬ (0 : Int32) = 1 by decide), if_neg (show ¬ (0 : Int32) = 1 by decide), eN, idx (by omega), e1]
  dsimp only
  simp only [if_neg (show ¬ (0 : Int32) = 1 by decide), e140, e137, S.2.2.1, Int32.add_zero, show (0 : Int32) + 1 = 1 from rfl, thank_fr e138]
  unfold br
  have hx : p * a / 100 ≤ p := by
    have : p * a ≤ p * 100 := Nat.mul_le_mul_left p ha
    omega
  by_cases u : m0 137 0 < (t + dI m0 r i) + sI' LL hd m0 r i (t + dI m0 r i)
  · rw [if_pos u, if_pos u, if_pos u, Nat.add_zero]
    exact ⟨m1, rfl, fun o => ⟨oS, vp, o1, o⟩, fun a x y _ => F a x y, fun j _ => by rw [F 143 (by decide) (by decide)]⟩
  · rw [if_neg u, if_neg u, if_neg u]
    have hE : Bnd ((t + dI m0 r i) + sI' LL hd m0 r i (t + dI m0 r i)) 0 99 := by
      obtain ⟨y1, y2⟩ := add_bnd (a := 126) (b := 60) (x := (t + dI m0 r i)) (by first | exact barr | (rw [← Int32.add_zero (t + dI m0 r i)]; exact barr)) bS (by decide)
      obtain ⟨t1, t2⟩ := T.2.2.2.2.2.2.2.2.2.2.1.1
      rw [lt_ti] at u
      exact ⟨y1, by omega⟩
    have bz : ∀ z, z = (if sI' LL hd m0 r i (t + dI m0 r i) < m 140 (r i) then sI' LL hd m0 r i (t + dI m0 r i) else m 140 (r i)) → Bnd (m 140 (r i) - z) 0 30 := by
      intro z hz
      obtain ⟨g1, g2⟩ := hg
      obtain ⟨s1, s2⟩ := bS
      rw [hz]
      split
      · rename_i q
        rw [lt_ti] at q
        unfold Bnd
        rw [ti_sub' (by omega) (by omega)]
        omega
      · unfold Bnd
        rw [ti_sub' (by omega) (by omega)]
        omega
    have go : ∀ z S1, Bnd (m 140 (r i) - z) 0 30 → sp (sp (sp (sp m1 140 (r i) (m 140 (r i) - z)) 140 8 ((t + dI m0 r i) + sI' LL hd m0 r i (t + dI m0 r i))) 140 10 (nI (r i))) 140 11 (m 140 11 ||| ((1 : Int32) <<< (nI (r i) &&& 31))) = S1 → ∃ m2 m3, Tf S1 (nI (i + 1)) (nI k) (nI a) (nI (p - p * a / 100)) = (nI (od LL hd m0 r a s (i + 1) ((t + dI m0 r i) + sI' LL hd m0 r i (t + dI m0 r i)) (p - p * a / 100)), m2) ∧ oT S1 (nI (i + 1)) (nI k) (nI a) (nI (p - p * a / 100)) ∧ f12_takeBack m2 (nI i) = m3 ∧ o12_takeBack m2 (nI i) ∧ OF (i + 1) m m3 := by
      intro z S1 hz hs
      obtain ⟨n1, n2, n3⟩ := OS_next hH (by omega) hr inj S F hE hz hs
      obtain ⟨m2, k1, k2, k3⟩ := IH S1 _ (p - p * a / 100) n1 hE (by omega)
      obtain ⟨m3, l1, l2, l3⟩ := bk_of (H := H) (n := n) (m0 := m0) (r := r) (by omega) n2 n3 V k3
      exact ⟨m2, m3, k1, k2, l1, l2, l3⟩
    by_cases th : f12_isThankful m (nI (r i)) = true
    · rw [if_pos th, if_pos th]
      have o11 : ∀ z : Int32, (sp m1 140 (r i) z) 140 11 = m 140 11 := fun z => by rw [sp_k (by omega), e140]
      rw [o11]
      generalize hs : sp (sp (sp (sp m1 140 (r i) (m 140 (r i) - 0)) 140 8 ((t + dI m0 r i) + sI' LL hd m0 r i (t + dI m0 r i))) 140 10 (nI (r i))) 140 11 (m 140 11 ||| ((1 : Int32) <<< (nI (r i) &&& 31))) = S1
      obtain ⟨m2, m3, k1, k2, l1, l2, l3⟩ := go 0 S1 (by rw [Int32.sub_zero]; exact hg) hs
      rw [nI_1]
      rw [show nI p - nI (p * a / 100) = nI (p - p * a / 100) from nI_sub hx, k1]
      dsimp only
      rw [l1, nI_add]
      exact ⟨m3, rfl, fun o => ⟨oS, vp, o1, vp, oth, vp, k2, l2, o⟩, l3⟩
    · rw [if_neg th, if_neg th]
      have o11 : ∀ z : Int32, (sp m1 140 (r i) z) 140 11 = m 140 11 := fun z => by rw [sp_k (by omega), e140]
      rw [o11]
      generalize hs : sp (sp (sp (sp m1 140 (r i) (m 140 (r i) - (if sI' LL hd m0 r i (t + dI m0 r i) < m 140 (r i) then sI' LL hd m0 r i (t + dI m0 r i) else m 140 (r i)))) 140 8 ((t + dI m0 r i) + sI' LL hd m0 r i (t + dI m0 r i))) 140 10 (nI (r i))) 140 11 (m 140 11 ||| ((1 : Int32) <<< (nI (r i) &&& 31))) = S1
      obtain ⟨m2, m3, k1, k2, l1, l2, l3⟩ := go _ S1 (bz _ rfl) hs
      rw [nI_1]
      rw [show nI p - nI (p * a / 100) = nI (p - p * a / 100) from nI_sub hx, k1]
      dsimp only
      rw [l1, nI_add]
      exact ⟨m3, rfl, fun o => ⟨oS, vp, o1, vp, oth, vp, vp, k2, l2, o⟩, l3⟩
theorem leg1 {LL : List LW} {hd : Int32} {H B n k : Nat} {r : Nat → Nat} {c m0 : SI} {a s : Nat} {Tf : SI → Int32 → Int32 → Int32 → Int32 → Int32 × SI} {oT : SI → Int32 → Int32 → Int32 → Int32 → Prop} (T : TR H B c m0) (L : LR LL hd c m0) (P : PL H m0 r n) (inj : ∀ a b, a < b → b < n → r a ≠ r b) (hk : k ≤ n) (ha : a ≤ 100) {i : Nat} (hi : i + (s + 1) = k) {p : Nat} (hp : p ≤ 1000000000) (IH : ∀ (m : SI) (t : Int32) (p : Nat), OS H m0 r n (i + 1) t m → Bnd t 0 99 → p ≤ 1000000000 → ∃ m', Tf m (nI (i + 1)) (nI k) (nI a) (nI p) = (nI (od LL hd m0 r a s (i + 1) t p), m') ∧ oT m (nI (i + 1)) (nI k) (nI a) (nI p) ∧ OF (i + 1) m m') (fu q0 : Nat) (m : SI) (t : Int32) (S : OS H m0 r n i t m) (V : SVD m i) : ∃ m', f12_oddsFrom_c40 Tf (nI i) (nI k) (nI a) (nI p) (nI (r i)) (nI (p * a / 100)) (fu + 1) (nI q0) 1 m = f12_oddsFrom_c40 Tf (nI i) (nI k) (nI a) (nI p) (nI (r i)) (nI (p * a / 100)) fu (nI (q0 + br LL hd m0 r (od LL hd m0 r a s (i + 1)) i (t + dI m0 r i + dI m0 r i / 2) (p * a / 100))) 2 m' ∧ (o12_oddsFrom_c40 Tf oT (nI i) (nI k) (nI a) (nI p) (nI (r i)) (nI (p * a / 100)) fu (nI (q0 + br LL hd m0 r (od LL hd m0 r a s (i + 1)) i (t + dI m0 r i + dI m0 r i / 2) (p * a / 100))) 2 m' → o12_oddsFrom_c40 Tf oT (nI i) (nI k) (nI a) (nI p) (nI (r i)) (nI (p * a / 100)) (fu + 1) (nI q0) 1 m) ∧ OF (i + 1) m m' := by
  have hH := T.1
  obtain ⟨hn7, hr, M0⟩ := P
  have hri := hr i (by omega)
  have Tm := OS_TR T S
  have Lm := OS_LR L S
  have M := S.2.1
  have oS := (stepsNow_m Tm M hri).2
  have eD : sD m (r i) = dI m0 r i := by
    unfold sD dI
    rw [S.2.2.2.1, steps_fr (S.1 138 (by decide) (by decide) (by decide) (by decide))]
  have eN : f12_stepsNow m (nI (r i)) = dI m0 r i := eD
  have bd : Bnd (dI m0 r i) 0 18 := dI_bnd T ⟨hn7, hr, M0⟩ (by omega)
  have bt' : Bnd t 0 99 := by rw [← S.2.2.1]; exact M.2.1
  have barr : Bnd ((t + dI m0 r i) + (dI m0 r i / 2)) 0 126 := arr_bnd bt' bd (half_bnd bd)
  have hw : R6 ((m 140 8 + sD m (r i)) + (dI m0 r i / 2)) := by rw [S.2.2.1, eD]; exact bnd_r6 barr (by decide) (by decide)
  have hg : Bnd (m 140 (r i)) 0 30 := M.1 _ hri
  obtain ⟨m1, e1, o1, F⟩ := standsIf_m (LL := LL) (hd := hd) (w := (dI m0 r i / 2)) Tm Lm M hri (bnd_le hg (by decide) (by decide)) hw
  have es : sN LL hd m (r i) (m 140 (r i)) (dI m0 r i / 2) = sI' LL hd m0 r i (t + dI m0 r i + dI m0 r i / 2) := by
    unfold sN sI'
    rw [eD, S.2.2.1, S.2.2.2.2.2.1, S.2.2.2.2.2.2.2.1 i (Nat.le_refl _) (by omega), S.2.2.2.2.2.2.2.2, thank_fr (S.1 138 (by decide) (by decide) (by decide) (by decide))]
  rw [es] at e1
  have e140 : m1 140 = m 140 := F _ (by decide) (by decide)
  have e137 : m1 137 = m0 137 := (F _ (by decide) (by decide)).trans (S.1 _ (by decide) (by decide) (by decide) (by decide))
  have e138 : m1 138 = m 138 := F _ (by decide) (by decide)
  have bS : Bnd (sI' LL hd m0 r i (t + dI m0 r i + dI m0 r i / 2)) 0 60 := SV_bnd (bnd_le (M0.1 _ hri) (by decide) (by decide))
  have vp := vpx (j := r i) (by omega)
  have oth := (thank_c (TR_fm Tm F) hri).2
  rw [f12_oddsFrom_c40, o12_oddsFrom_c40]
  rw [if_neg (show ¬ (2 : Int32) ≤ 1 by decide), if_neg (show ¬ (2 : Int32) ≤ 1 by decide), if_pos rfl, if_pos rfl, eN, idx (by omega), e1]
  dsimp only
  simp only [if_pos (show (1 : Int32) = 1 from rfl), e140, e137, S.2.2.1, show (1 : Int32) + 1 = 2 from rfl, thank_fr e138]
  unfold br
  have hx : p * a / 100 ≤ p := by
    have : p * a ≤ p * 100 := Nat.mul_le_mul_left p ha
    omega
  by_cases u : m0 137 0 < (t + dI m0 r i + dI m0 r i / 2) + sI' LL hd m0 r i (t + dI m0 r i + dI m0 r i / 2)
  · rw [if_pos u, if_pos u, if_pos u, Nat.add_zero]
    exact ⟨m1, rfl, fun o => ⟨oS, vp, o1, o⟩, fun a x y _ => F a x y, fun j _ => by rw [F 143 (by decide) (by decide)]⟩
  · rw [if_neg u, if_neg u, if_neg u]
    have hE : Bnd ((t + dI m0 r i + dI m0 r i / 2) + sI' LL hd m0 r i (t + dI m0 r i + dI m0 r i / 2)) 0 99 := by
      obtain ⟨y1, y2⟩ := add_bnd (a := 126) (b := 60) (x := (t + dI m0 r i + dI m0 r i / 2)) (by first | exact barr | (rw [← Int32.add_zero (t + dI m0 r i)]; exact barr)) bS (by decide)
      obtain ⟨t1, t2⟩ := T.2.2.2.2.2.2.2.2.2.2.1.1
      rw [lt_ti] at u
      exact ⟨y1, by omega⟩
    have bz : ∀ z, z = (if sI' LL hd m0 r i (t + dI m0 r i + dI m0 r i / 2) < m 140 (r i) then sI' LL hd m0 r i (t + dI m0 r i + dI m0 r i / 2) else m 140 (r i)) → Bnd (m 140 (r i) - z) 0 30 := by
      intro z hz
      obtain ⟨g1, g2⟩ := hg
      obtain ⟨s1, s2⟩ := bS
      rw [hz]
      split
      · rename_i q
        rw [lt_ti] at q
        unfold Bnd
        rw [ti_sub' (by omega) (by omega)]
        omega
      · unfold Bnd
        rw [ti_sub' (by omega) (by omega)]
        omega
    have go : ∀ z S1, Bnd (m 140 (r i) - z) 0 30 → sp (sp (sp (sp m1 140 (r i) (m 140 (r i) - z)) 140 8 ((t + dI m0 r i + dI m0 r i / 2) + sI' LL hd m0 r i (t + dI m0 r i + dI m0 r i / 2))) 140 10 (nI (r i))) 140 11 (m 140 11 ||| ((1 : Int32) <<< (nI (r i) &&& 31))) = S1 → ∃ m2 m3, Tf S1 (nI (i + 1)) (nI k) (nI a) (nI (p * a / 100)) = (nI (od LL hd m0 r a s (i + 1) ((t + dI m0 r i + dI m0 r i / 2) + sI' LL hd m0 r i (t + dI m0 r i + dI m0 r i / 2)) (p * a / 100)), m2) ∧ oT S1 (nI (i + 1)) (nI k) (nI a) (nI (p * a / 100)) ∧ f12_takeBack m2 (nI i) = m3 ∧ o12_takeBack m2 (nI i) ∧ OF (i + 1) m m3 := by
      intro z S1 hz hs
      obtain ⟨n1, n2, n3⟩ := OS_next hH (by omega) hr inj S F hE hz hs
      obtain ⟨m2, k1, k2, k3⟩ := IH S1 _ (p * a / 100) n1 hE (by omega)
      obtain ⟨m3, l1, l2, l3⟩ := bk_of (H := H) (n := n) (m0 := m0) (r := r) (by omega) n2 n3 V k3
      exact ⟨m2, m3, k1, k2, l1, l2, l3⟩
    by_cases th : f12_isThankful m (nI (r i)) = true
    · rw [if_pos th, if_pos th]
      have o11 : ∀ z : Int32, (sp m1 140 (r i) z) 140 11 = m 140 11 := fun z => by rw [sp_k (by omega), e140]
      rw [o11]
      generalize hs : sp (sp (sp (sp m1 140 (r i) (m 140 (r i) - 0)) 140 8 ((t + dI m0 r i + dI m0 r i / 2) + sI' LL hd m0 r i (t + dI m0 r i + dI m0 r i / 2))) 140 10 (nI (r i))) 140 11 (m 140 11 ||| ((1 : Int32) <<< (nI (r i) &&& 31))) = S1
      obtain ⟨m2, m3, k1, k2, l1, l2, l3⟩ := go 0 S1 (by rw [Int32.sub_zero]; exact hg) hs
      rw [nI_1]
      rw [show nI (p * a / 100) = nI (p * a / 100) from rfl, k1]
      dsimp only
      rw [l1, nI_add]
      exact ⟨m3, rfl, fun o => ⟨oS, vp, o1, vp, oth, vp, k2, l2, o⟩, l3⟩
    · rw [if_neg th, if_neg th]
      have o11 : ∀ z : Int32, (sp m1 140 (r i) z) 140 11 = m 140 11 := fun z => by rw [sp_k (by omega), e140]
      rw [o11]
      generalize hs : sp (sp (sp (sp m1 140 (r i) (m 140 (r i) - (if sI' LL hd m0 r i (t + dI m0 r i + dI m0 r i / 2) < m 140 (r i) then sI' LL hd m0 r i (t + dI m0 r i + dI m0 r i / 2) else m 140 (r i)))) 140 8 ((t + dI m0 r i + dI m0 r i / 2) + sI' LL hd m0 r i (t + dI m0 r i + dI m0 r i / 2))) 140 10 (nI (r i))) 140 11 (m 140 11 ||| ((1 : Int32) <<< (nI (r i) &&& 31))) = S1
      obtain ⟨m2, m3, k1, k2, l1, l2, l3⟩ := go _ S1 (bz _ rfl) hs
      rw [nI_1]
      rw [show nI (p * a / 100) = nI (p * a / 100) from rfl, k1]
      dsimp only
      rw [l1, nI_add]
      exact ⟨m3, rfl, fun o => ⟨oS, vp, o1, vp, oth, vp, vp, k2, l2, o⟩, l3⟩
