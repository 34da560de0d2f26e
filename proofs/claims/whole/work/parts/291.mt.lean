/-! ways through the town: both sides together; the route call -/
def BEST (R K E : Nat) (t : Int32) (c m : SI) : Prop := (c 32 9 = nI R ∧ c 32 10 = nI K ∧ c 32 11 = nI E ∧ c 32 12 = t) ∧ BM R K E m ∧ m 123 38 = t
def CF2 (c c' : SI) : Prop := (∀ a, a ≠ 13 → a ≠ 15 → a ≠ 32 → c' a = c a) ∧ c' 13 2 = c 13 2 ∧ c' 13 3 = c 13 3
theorem CF2_rf (c : SI) : CF2 c c := ⟨fun _ _ _ _ => rfl, rfl, rfl⟩
theorem CF2_tr {c c1 c2 : SI} (h1 : CF2 c c1) (h2 : CF2 c1 c2) : CF2 c c2 := ⟨fun a x y z => (h2.1 a x y z).trans (h1.1 a x y z), h2.2.1.trans h1.2.1, h2.2.2.trans h1.2.2⟩
theorem CF2_SX {c c' : SI} (h : CF2 c c') : SX c c' := ⟨fun a x1 x2 x3 _ _ _ _ _ _ => h.1 a x1 x2 x3, h.2⟩
theorem LTS_CF2 {c c' : SI} (h : LTS c c') : CF2 c c' := ⟨h.1, h.2.1, h.2.2.1⟩
theorem CF2_32 {c c' : SI} (h : ∀ a, a ≠ 32 → c' a = c a) : CF2 c c' := ⟨fun a _ _ z => h a z, by rw [h 13 (by decide)], by rw [h 13 (by decide)]⟩
def RF2 (d : Nat) (m m' : SI) : Prop := (∀ a, a ≠ 123 → a ≠ 132 → a ≠ 133 → a ≠ 143 → m' a = m a) ∧ (∀ j, j < 35 ∨ 38 < j → m' 123 j = m 123 j) ∧ (∀ j, j < 14 * d → m' 143 j = m 143 j)
theorem OF_RF2 {d : Nat} {m m' : SI} (h : OF d m m') : RF2 d m m' := ⟨fun a _ x y z => h.1 a x y z, fun j _ => by rw [h.1 123 (by decide) (by decide) (by decide)], h.2⟩
theorem RF2_tr {d : Nat} {m m1 m2 : SI} (h1 : RF2 d m m1) (h2 : RF2 d m1 m2) : RF2 d m m2 := ⟨fun a x y z w => (h2.1 a x y z w).trans (h1.1 a x y z w), fun j x => (h2.2.1 j x).trans (h1.2.1 j x), fun j x => (h2.2.2 j x).trans (h1.2.2 j x)⟩
theorem RF2_le {d d' : Nat} {m m' : SI} (h : RF2 d m m') (hd : d' ≤ d) : RF2 d' m m' := ⟨h.1, h.2.1, fun j x => h.2.2 j (by omega)⟩
theorem RF2_rf (d : Nat) (m : SI) : RF2 d m m := ⟨fun _ _ _ _ _ => rfl, fun _ _ => rfl, fun _ _ => rfl⟩
theorem TR_r2 {H B k : Nat} {c m m' : SI} (T : TR H B c m) (F : RF2 k m m') : TR H B c m' := TR_fr T rfl rfl (F.2.1 25 (by decide)) (F.2.1 26 (by decide)) (F.1 _ (by decide) (by decide) (by decide) (by decide)) (F.1 _ (by decide) (by decide) (by decide) (by decide)) (F.1 _ (by decide) (by decide) (by decide) (by decide))
theorem LR_r2 {LL : List LW} {hd : Int32} {k : Nat} {c m m' : SI} (L : LR LL hd c m) (F : RF2 k m m') : LR LL hd c m' := LR_fr L (fun _ _ _ => rfl) rfl rfl (fun a x y _ => F.1 a (by omega) (by omega) (by omega) (by omega)) (F.2.1 13 (by decide)) (F.2.1 29 (by decide))
theorem SVD_r2 {i : Nat} {m m' : SI} (h : SVD m i) (F : RF2 (i + 1) m m') : SVD m' i := fun j hj => by
  rw [F.2.2 _ (by omega), F.1 140 (by decide) (by decide) (by decide) (by decide)]
  exact h j hj
theorem bk2 {i : Nat} {m s m2 : SI} (hi : i ≤ 7) (fa : ∀ a, a ≠ 132 → a ≠ 133 → a ≠ 140 → s a = m a) (fj : ∀ j, 14 ≤ j → s 140 j = m 140 j) (V : SVD m i) (F : RF2 (i + 1) s m2) : ∃ m3, f12_takeBack m2 (nI i) = m3 ∧ o12_takeBack m2 (nI i) ∧ RF2 (i + 1) m m3 ∧ m3 123 = m2 123 := by
  obtain ⟨m3, t1, t2, t3, t4, t5⟩ := tback m2 hi
  refine ⟨m3, t1, t2, ⟨fun a w x y z => ?_, fun j hj => ?_, fun j hj => ?_⟩, t3 123 (by decide)⟩
  · by_cases e : a = 140
    · subst e
      funext j
      by_cases q : j < 14
      · rw [t4 j q, F.2.2 _ (by omega), fa 143 (by decide) (by decide) (by decide), V j q]
      · rw [t5 j (by omega), F.1 140 (by decide) (by decide) (by decide) (by decide), fj j (by omega)]
    · rw [t3 a e, F.1 a w x y z, fa a x y e]
  · rw [t3 123 (by decide), F.2.1 j hj, fa 123 (by decide) (by decide) (by decide)]
  · rw [t3 143 (by decide), F.2.2 j hj, fa 143 (by decide) (by decide) (by decide)]
theorem hope_in {H B E K A deep : Nat} {c m : SI} {x2 : Int32} (T : TR H B c m) (M : MB H m) (I : LIT H c m) (hK0 : c 32 10 = nI K) (hE0 : c 32 11 = nI E) (hE : E ≤ 1000) (hK : K ≤ 7) (hd : deep ≤ 7) (hA : A ≤ 1000) : ∀ (fu j a : Nat), j ≤ H → H < j + fu → a + remS m H = A + remS m j → (f4_isHopeless_c5 c (nI deep) x2 fu (nI a) (nI j) = true ↔ (A < E ∨ (A = E ∧ K ≤ deep + 1))) := by
  have hH := T.1
  intro fu
  induction fu with
  | zero => intro j a h1 h2; omega
  | succ fu ih =>
    intro j a h1 h2 h3
    rw [f4_isHopeless_c5, hou_c T]
    by_cases q : j = H
    · subst q
      have ea : a = A := by omega
      subst ea
      rw [if_pos (nI_le (Nat.le_refl _) (by omega)), hE0, hK0, show nI deep + 1 = nI (deep + 1) from nI_add deep 1]
      by_cases u : a < E
      · rw [if_pos (nI_lt u (by omega))]
        exact ⟨fun _ => Or.inl u, fun _ => rfl⟩
      · rw [if_neg (nI_nlt (by omega) (by omega))]
        by_cases v : a = E
        · rw [if_pos (show nI a = nI E by rw [v])]
          by_cases w : deep + 1 < K
          · rw [if_pos (nI_lt w (by omega))]
            exact ⟨fun e => absurd e Bool.false_ne_true, fun e => by omega⟩
          · rw [if_neg (nI_nlt (by omega) (by omega))]
            exact ⟨fun _ => Or.inr ⟨v, by omega⟩, fun _ => rfl⟩
        · rw [if_neg (ne_lit v (by omega) (by omega))]
          exact ⟨fun e => absurd e Bool.false_ne_true, fun e => by omega⟩
    · have hj : j < H := by omega
      have eb : f11_hasBit (c 32 6) (nI j) = bt (m 140 11) j := by rw [I.2.2.2.1, bit_same (by omega), has_bt _ (by omega)]
      rw [if_neg (nI_ge hj (by omega)), eb, (thank_c T hj).1, show nI j + 1 = nI (j + 1) from nI_add j 1]
      have e1 : remS m (j + 1) = remS m j + rt m j := rfl
      by_cases b : bt (m 140 11) j = true
      · rw [if_pos b]
        have : rt m j = 0 := by unfold rt; rw [if_pos b]
        exact ih (j + 1) a (by omega) (by omega) (by omega)
      · rw [if_neg b]
        by_cases t : f12_isThankful m (nI j) = true
        · rw [if_pos t]
          have : rt m j = 0 := by unfold rt; rw [if_neg b, if_pos t]
          exact ih (j + 1) a (by omega) (by omega) (by omega)
        · rw [if_neg t]
          have er : rt m j = (m 140 j).toInt.toNat := by unfold rt; rw [if_neg b, if_neg t]
          have eg : f0_grievanceOf 24 c (nI j) = nI (rt m j) := by
            rw [grief_c (by omega), I.2.2.2.2.2 j hj (by rw [has_bt _ (by omega)]; exact b), er]
            obtain ⟨b1, b2⟩ := M.1 j hj
            exact nI_of_ti (by omega) (by omega)
          rw [eg, nI_add]
          exact ih (j + 1) (a + rt m j) (by omega) (by omega) (by omega)
theorem hope {H B E K e deep : Nat} {c m : SI} (T : TR H B c m) (M : MB H m) (I : LIT H c m) (hK0 : c 32 10 = nI K) (hE0 : c 32 11 = nI E) (hE : E ≤ 1000) (hK : K ≤ 7) (hd : deep ≤ 7) (hA : e + remS m H ≤ 1000) : f4_isHopeless c (nI deep) (nI e) = true ↔ (e + remS m H < E ∨ (e + remS m H = E ∧ K ≤ deep + 1)) := by
  have hH := T.1
  unfold f4_isHopeless
  rw [hou_c T, fu_bd (by omega)]
  exact hope_in (A := e + remS m H) T M I hK0 hE0 hE hK hd hA (H + 1) 0 e (Nat.zero_le _) (by omega) rfl
theorem cons {H deep row e R K E : Nat} {t : Int32} {c m : SI} {T : SI → Int32 → Int32 → Int32 → SI} {oT : SI → Int32 → Int32 → Int32 → Prop} (hH : H ≤ 7) (hmH : m 123 25 = nI H) (hB : BEST R K E t c m) (h4 : c 32 4 = m 140 8) (hd : deep ≤ 7) (hK : K ≤ 7) (hE : E ≤ 1000) (he : e ≤ 1000) (hR : R < 100000000) (hrow : row < 100000000) (hp : R * 10 ^ (8 - K) ≤ row * 10 ^ (8 - deep)) :
    ∃ (c' m' : SI) (R' K' E' : Nat) (t' x4 : Int32), f4_consider c (nI deep) (nI row) (nI e) = c' ∧ f12_tryRoute T m (nI deep) (nI row) (nI e) = f12_tryRoute_c86 T (nI deep) (nI row) (nI e) x4 (H + 2) (nI 0) (f12_putAside m' (nI deep)) ∧ (o12_putAside m' (nI deep) → o12_tryRoute_c86 T oT (nI deep) (nI row) (nI e) x4 (H + 2) (nI 0) (f12_putAside m' (nI deep)) → o12_tryRoute T oT m (nI deep) (nI row) (nI e)) ∧ BEST R' K' E' t' c' m' ∧ e ≤ E' ∧ (e = E' → K' ≤ deep) ∧ R' * 10 ^ (8 - K') ≤ row * 10 ^ (8 - deep) ∧ K' ≤ 7 ∧ E' ≤ 1000 ∧ R' < 100000000 ∧ (∀ a, a ≠ 32 → c' a = c a) ∧ (∀ j, j < 9 → c' 32 j = c 32 j) ∧ (∀ a, a ≠ 123 → m' a = m a) ∧ (∀ j, j < 35 ∨ 38 < j → m' 123 j = m 123 j) := by
  obtain ⟨⟨c9, c10, c11, c12⟩, ⟨b1, b2, b3⟩, b4⟩ := hB
  have hfu : ∀ s : SI, s 123 25 = nI H → fu1 ((Int32.toInt ((f12_putAside s (nI deep)) 123 25)).toNat + 1) = H + 2 := fun s hs => by
    obtain ⟨m1, p1, _, p3, _⟩ := aside s (d := deep) hd
    rw [p1, p3 123 (by decide), hs]
    exact route_fu hH
  unfold f4_consider f12_tryRoute o12_tryRoute
  rw [c10, c11]
  have better : ∃ (c' m' : SI), sp (sp (sp (sp c 32 9 (nI row)) 32 10 (nI deep)) 32 11 (nI e)) 32 12 (c 32 4) = c' ∧ sp (sp (sp (sp m 123 35 (nI row)) 123 36 (nI e)) 123 37 (nI deep)) 123 38 (m 140 8) = m' ∧ m' 123 25 = nI H ∧ BEST row deep e (m 140 8) c' m' ∧ (∀ a, a ≠ 32 → c' a = c a) ∧ (∀ j, j < 9 → c' 32 j = c 32 j) ∧ (∀ a, a ≠ 123 → m' a = m a) ∧ (∀ j, j < 35 ∨ 38 < j → m' 123 j = m 123 j) := by
    refine ⟨_, _, rfl, rfl, ?_, ⟨⟨?_, ?_, ?_, ?_⟩, ⟨?_, ?_, ?_⟩, ?_⟩, fun a x => by rw [sp_n x, sp_n x, sp_n x, sp_n x], fun j x => by rw [sp_k (by omega), sp_k (by omega), sp_k (by omega), sp_k (by omega)], fun a x => by rw [sp_n x, sp_n x, sp_n x, sp_n x], fun j x => by rw [sp_k (by omega), sp_k (by omega), sp_k (by omega), sp_k (by omega)]⟩
    · rw [sp_k (by decide), sp_k (by decide), sp_k (by decide), sp_k (by decide), hmH]
    · rw [sp_k (by decide), sp_k (by decide), sp_k (by decide), sp_r]
    · rw [sp_k (by decide), sp_k (by decide), sp_r]
    · rw [sp_k (by decide), sp_r]
    · rw [sp_r, h4]
    · rw [sp_k (by decide), sp_k (by decide), sp_k (by decide), sp_r]
    · rw [sp_k (by decide), sp_k (by decide), sp_r]
    · rw [sp_k (by decide), sp_r]
    · rw [sp_r]
  obtain ⟨c', m', w1, w2, w3, w4, w5, w6, w7, w8⟩ := better
  have pe : (10 : Nat) ^ (8 - deep) = 10 * 10 ^ (7 - deep) := by rw [show 8 - deep = (7 - deep) + 1 by omega, Nat.pow_succ, Nat.mul_comm]
  rw [b1, b2, b3]
  by_cases q1 : E < e
  · rw [if_pos (nI_lt q1 (by omega)), if_pos (nI_lt q1 (by omega)), if_pos (nI_lt q1 (by omega))]
    dsimp only
    rw [w1, w2, hfu m' w3]
    exact ⟨c', m', row, deep, e, m 140 8, 1, rfl, rfl, fun a b => ⟨a, b⟩, w4, Nat.le_refl _, fun _ => Nat.le_refl _, Nat.le_refl _, hd, he, hrow, w5, w6, w7, w8⟩
  · have n1 : ¬ nI E < nI e := nI_nlt (by omega) (by omega)
    rw [if_neg n1, if_neg n1, if_neg n1]
    have same : ∀ x4 : Int32, (e = E → K ≤ deep) → ∃ (c' m' : SI) (R' K' E' : Nat) (t' x4' : Int32), c = c' ∧ f12_tryRoute_c86 T (nI deep) (nI row) (nI e) x4 (fu1 ((Int32.toInt ((f12_putAside m (nI deep)) 123 25)).toNat + 1)) 0 (f12_putAside m (nI deep)) = f12_tryRoute_c86 T (nI deep) (nI row) (nI e) x4' (H + 2) (nI 0) (f12_putAside m' (nI deep)) ∧ (o12_putAside m' (nI deep) → o12_tryRoute_c86 T oT (nI deep) (nI row) (nI e) x4' (H + 2) (nI 0) (f12_putAside m' (nI deep)) → (o12_putAside m (nI deep) ∧ o12_tryRoute_c86 T oT (nI deep) (nI row) (nI e) x4 (fu1 ((Int32.toInt ((f12_putAside m (nI deep)) 123 25)).toNat + 1)) 0 (f12_putAside m (nI deep)))) ∧ BEST R' K' E' t' c' m' ∧ e ≤ E' ∧ (e = E' → K' ≤ deep) ∧ R' * 10 ^ (8 - K') ≤ row * 10 ^ (8 - deep) ∧ K' ≤ 7 ∧ E' ≤ 1000 ∧ R' < 100000000 ∧ (∀ a, a ≠ 32 → c' a = c a) ∧ (∀ j, j < 9 → c' 32 j = c 32 j) ∧ (∀ a, a ≠ 123 → m' a = m a) ∧ (∀ j, j < 35 ∨ 38 < j → m' 123 j = m 123 j) := fun x4 hKd => by
      rw [hfu m hmH]
      exact ⟨c, m, R, K, E, t, x4, rfl, rfl, fun a b => ⟨a, b⟩, ⟨⟨c9, c10, c11, c12⟩, ⟨b1, b2, b3⟩, b4⟩, by omega, hKd, hp, hK, hE, hR, fun _ _ => rfl, fun _ _ => rfl, fun _ _ => rfl, fun _ _ => rfl⟩
    by_cases q2 : e = E
    · have q2' : nI e = nI E := by rw [q2]
      rw [if_pos q2', if_pos q2', if_pos q2']
      by_cases q3 : deep < K
      · rw [if_pos (nI_lt q3 (by omega)), if_pos (nI_lt q3 (by omega)), if_neg (show ¬ nI K ≤ nI deep from nI_ge q3 (by omega))]
        dsimp only
        rw [w1, w2, hfu m' w3]
        exact ⟨c', m', row, deep, e, m 140 8, 1, rfl, rfl, fun a b => ⟨a, b⟩, w4, Nat.le_refl _, fun _ => Nat.le_refl _, Nat.le_refl _, hd, he, hrow, w5, w6, w7, w8⟩
      · have n3 : ¬ nI deep < nI K := nI_nlt (by omega) (by omega)
        rw [if_neg n3, if_neg n3, if_pos (show nI K ≤ nI deep from nI_le (by omega) (by omega))]
        by_cases k : deep = K
        · have k' : nI deep = nI K := by rw [k]
          have hRr : R ≤ row := by
            rw [← k] at hp
            exact Nat.le_of_mul_le_mul_right hp (Nat.pos_of_ne_zero (by rw [pe]; exact Nat.mul_ne_zero (by decide) (Nat.pos_iff_ne_zero.mp (Nat.pow_pos (by decide)))))
          rw [if_pos k', if_pos k', if_pos (nI_le hRr (by omega)), if_pos (nI_le hRr (by omega))]
          exact same 0 (fun _ => by omega)
        · have k' : ¬ nI deep = nI K := ne_lit k (by omega) (by omega)
          rw [if_neg k', if_neg k']
          exact same 0 (fun _ => by omega)
    · have q2' : ¬ nI e = nI E := ne_lit q2 (by omega) (by omega)
      rw [if_neg q2', if_neg q2', if_neg q2']
      exact same 0 (fun e => absurd e q2)
