/-! laying the order; the litter's step on both sides; putting aside -/
def cnd (x : Int32) (g : Nat → Nat) (k : Nat) : Bool := (!bt x k) && decide (0 < g k)
theorem cnd_iff {x : Int32} {g : Nat → Nat} {k : Nat} : cnd x g k = true ↔ cand x g k := by
  unfold cnd cand
  rw [Bool.and_eq_true, decide_eq_true_eq, Bool.not_eq_true']
theorem lay_in {H B : Nat} {c : SI} {f : Bool} {x0 : Int32} {g : Nat → Nat} (gb : ∀ k, g k ≤ 30) : ∀ (fu i : Nat) (x : Int32) (m : SI) (r : Nat → Nat), TR H B c m → (∀ k, k < H → f12_griefOf m (nI k) f = nI (g k) ∧ o12_griefOf m (nI k) f) → i ≤ H → H < i + fu → (∀ j, j < i → m 144 j = nI (r j)) → (∀ k, k < H → (bt x k = true ↔ bt x0 k = true ∨ ∃ j, j < i ∧ r j = k)) → (∀ a b, a < b → b < i → 8 * g (r a) + r a < 8 * g (r b) + r b) → (∀ j, j < i → r j < H ∧ ¬ bt x0 (r j) = true ∧ 0 < g (r j)) → (∀ k, k < H → cand x g k → ∀ j, j < i → 8 * g (r j) + r j < 8 * g k + k) → cnt (cnd x g) H + i ≤ H → ∃ n r' m', f12_layOrder_c5 f x0 fu (nI i) x m = (nI n, m') ∧ o12_layOrder_c5 f x0 fu (nI i) x m ∧ ORD H (fun k => bt x0 k = true) g n r' ∧ (∀ j, j < n → m' 144 j = nI (r' j)) ∧ (∀ a, a ≠ 144 → m' a = m a) := by
  intro fu
  induction fu with
  | zero => intro i x m r _ _ h1 h2; omega
  | succ fu ih =>
    intro i x m r T hg h1 h2 h3 h4 h5 h6 h7 h8
    have hH := T.1
    rw [f12_layOrder_c5, o12_layOrder_c5, hou_m T]
    have done : (∀ k, k < H → ¬ cand x g k) → ORD H (fun k => bt x0 k = true) g i r := by
      intro hn
      refine ⟨h1, h5, h6, fun k hk k1 k2 => ?_⟩
      by_cases q : bt x k = true
      · rcases (h4 k hk).mp q with a | a
        · exact absurd a k1
        · exact a
      · exact absurd ⟨Bool.eq_false_iff.mpr q, k2⟩ (hn k hk)
    by_cases q : i = H
    · rw [if_pos (by rw [q]; exact nI_le (Nat.le_refl _) (by omega)), if_pos (by rw [q]; exact nI_le (Nat.le_refl _) (by omega))]
      refine ⟨i, r, m, rfl, trivial, done fun k hk a => ?_, h3, fun _ _ => rfl⟩
      have := cnt_0 (p := cnd x g) H (by omega) k hk
      rw [cnd_iff.mpr a] at this
      exact absurd this (by decide)
    · rw [if_neg (nI_ge (by omega) (by omega)), if_neg (nI_ge (by omega) (by omega)), fu_bd (by omega), nI_clamp (by omega)]
      obtain ⟨y, y1, y2, y3⟩ := pass_in (z := x0) (x := x) (v3 := nI i) T hg gb (fun y _ => if y = -1 then (nI i, m) else f12_layOrder_c5 f x0 fu (nI i + 1) (x ||| ((1 : Int32) <<< (y &&& 31))) (sp m 144 i y)) (fun y _ => if y = -1 then True else ((vp_in (nI i) 7) ∧ (o12_layOrder_c5 f x0 fu (nI i + 1) (x ||| ((1 : Int32) <<< (y &&& 31))) (sp m 144 i y)))) (H + 1) 0 (-1) (by omega) (by omega) (Or.inl ⟨rfl, fun k hk => by omega⟩)
      have y1' : f12_layOrder_c19 m f x0 (nI i) x (fun y _ => if y = -1 then (nI i, m) else f12_layOrder_c5 f x0 fu (nI i + 1) (x ||| ((1 : Int32) <<< (y &&& 31))) (sp m 144 i y)) (H + 1) (-1) 0 = _ := y1
      rcases y3 with ⟨rfl, hn⟩ | ⟨b, hb, rfl, hc, hm⟩
      · rw [if_pos rfl] at y1' y2
        exact ⟨i, r, m, y1', y2 trivial, done hn, h3, fun _ _ => rfl⟩
      · rw [if_neg (nI_ne_m1 (by omega))] at y1' y2
        obtain ⟨r2, rn, ri⟩ : ∃ r2 : Nat → Nat, (∀ j, j < i → r2 j = r j) ∧ r2 i = b := ⟨fun t => if t = i then b else r t, fun j hj => if_neg (by omega), if_pos rfl⟩
        have nb : ∀ k, k < H → (bt (x ||| ((1 : Int32) <<< (nI b &&& 31))) k = true ↔ bt x k = true ∨ k = b) := fun k hk => by
          rw [or_bt x (by omega) (by omega), Bool.or_eq_true, decide_eq_true_eq]
        obtain ⟨n, r', m', i1, i2, i3, i4, i5⟩ := ih (i + 1) (x ||| ((1 : Int32) <<< (nI b &&& 31))) (sp m 144 i (nI b)) r2 (TR_fr T rfl rfl (by rw [sp_n (by decide)]) (by rw [sp_n (by decide)]) (sp_n (by decide)) (sp_n (by decide)) (sp_n (by decide))) (fun k hk => by
            obtain ⟨e1, e2⟩ := hg k hk
            unfold f12_griefOf f12_of at e1 ⊢
            unfold o12_griefOf o12_of at e2 ⊢
            rw [sp_n (by decide), sp_n (by decide)]
            exact ⟨e1, e2⟩) (by omega) (by omega) (fun j hj => by
            by_cases e : j = i
            · subst e; rw [ri, sp_r]
            · rw [rn j (by omega), sp_k e]; exact h3 j (by omega)) (fun k hk => by
            rw [nb k hk, h4 k hk]
            constructor
            · rintro ((a | ⟨j, j1, j2⟩) | a)
              · exact Or.inl a
              · exact Or.inr ⟨j, by omega, by rw [rn j j1]; exact j2⟩
              · exact Or.inr ⟨i, by omega, by rw [ri]; exact a.symm⟩
            · rintro (a | ⟨j, j1, j2⟩)
              · exact Or.inl (Or.inl a)
              · by_cases e : j = i
                · subst e; rw [ri] at j2; exact Or.inr j2.symm
                · rw [rn j (by omega)] at j2; exact Or.inl (Or.inr ⟨j, by omega, j2⟩)) (fun a b' hab hb' => by
            by_cases e : b' = i
            · subst e
              rw [ri, rn a hab]
              exact h7 b hb hc a hab
            · rw [rn a (by omega), rn b' (by omega)]; exact h5 a b' hab (by omega)) (fun j hj => by
            by_cases e : j = i
            · subst e
              rw [ri]
              refine ⟨hb, fun a => ?_, hc.2⟩
              have := (h4 b hb).mpr (Or.inl a)
              rw [hc.1] at this
              exact Bool.false_ne_true this
            · rw [rn j (by omega)]; exact h6 j (by omega)) (fun k hk hck j hj => by
            have hkx : cand x g k ∧ k ≠ b := by
              refine ⟨⟨?_, hck.2⟩, fun e => ?_⟩
              · apply Bool.eq_false_iff.mpr
                intro a
                have := (nb k hk).mpr (Or.inl a)
                rw [hck.1] at this
                exact Bool.false_ne_true this
              · have := (nb k hk).mpr (Or.inr e)
                rw [hck.1] at this
                exact Bool.false_ne_true this
            by_cases e : j = i
            · subst e
              rw [ri]
              have := hm k hk hkx.1
              have ne : 8 * g b + b ≠ 8 * g k + k := fun e => hkx.2 (ORD_inj hH hk hb e.symm)
              omega
            · rw [rn j (by omega)]; exact h7 k hk hkx.1 j (by omega)) (by
            have := cnt_less (p := cnd x g) (q := cnd (x ||| ((1 : Int32) <<< (nI b &&& 31))) g) (b := b) H hb (fun k hk a => by
              have ca := cnd_iff.mp a
              refine cnd_iff.mpr ⟨?_, ca.2⟩
              apply Bool.eq_false_iff.mpr
              intro a'
              have := (nb k hk).mpr (Or.inl a')
              rw [ca.1] at this
              exact Bool.false_ne_true this) (cnd_iff.mpr hc) (by
              apply Bool.eq_false_iff.mpr
              intro a'
              have ca := cnd_iff.mp a'
              have := (nb b hb).mpr (Or.inr rfl)
              rw [ca.1] at this
              exact Bool.false_ne_true this)
            omega)
        rw [← nI_1 i] at i1 i2
        exact ⟨n, r', m', y1'.trans i1, y2 ⟨vp_in_nI (by omega) (by decide), i2⟩, i3, i4, fun a ha => (i5 a ha).trans (sp_n ha)⟩
theorem lay {H B : Nat} {c m : SI} {f : Bool} {x0 : Int32} {g : Nat → Nat} (T : TR H B c m) (gb : ∀ k, g k ≤ 30) (hg : ∀ k, k < H → f12_griefOf m (nI k) f = nI (g k) ∧ o12_griefOf m (nI k) f) : ∃ n r m', f12_layOrder m f x0 = (nI n, m') ∧ o12_layOrder m f x0 ∧ ORD H (fun k => bt x0 k = true) g n r ∧ (∀ j, j < n → m' 144 j = nI (r j)) ∧ (∀ a, a ≠ 144 → m' a = m a) := by
  have hH := T.1
  unfold f12_layOrder o12_layOrder
  rw [hou_m T, fu_bd (by omega)]
  exact lay_in gb (H + 1) 0 x0 m (fun _ => 0) T hg (Nat.zero_le _) (by omega) (fun j hj => by omega) (fun k hk => ⟨fun a => Or.inl a, fun a => a.resolve_right fun ⟨j, hj, _⟩ => by omega⟩) (fun a b h1 h2 => by omega) (fun j hj => by omega) (fun k hk _ j hj => by omega) (by have := cnt_le (cnd x0 g) H; omega)
theorem aside_in (d : Nat) (hd : d ≤ 7) : ∀ (fu v : Nat) (m : SI), v ≤ 14 → 14 < v + fu → ∃ m', f12_putAside_c2 (nI d) fu (nI v) m = m' ∧ o12_putAside_c2 (nI d) fu (nI v) m ∧ (∀ a, a ≠ 143 → m' a = m a) ∧ (∀ j, v ≤ j → j < 14 → m' 143 (14 * d + j) = m 140 j) ∧ (∀ j, (j < 14 * d + v ∨ 14 * d + 14 ≤ j) → m' 143 j = m 143 j) := by
  intro fu
  induction fu with
  | zero => intro v m h1 h2; omega
  | succ fu ih =>
    intro v m h1 h2
    rw [f12_putAside_c2, o12_putAside_c2]
    by_cases q : v = 14
    · subst q
      rw [if_pos (show (14 : Int32) ≤ nI 14 by decide), if_pos (show (14 : Int32) ≤ nI 14 by decide)]
      exact ⟨m, rfl, trivial, fun _ _ => rfl, fun j h3 h4 => by omega, fun _ _ => rfl⟩
    · have nle : ¬ (14 : Int32) ≤ nI v := nI_ge (b := 14) (by omega) (by decide)
      have e : (14 : Int32) * nI d + nI v = nI (14 * d + v) := by rw [show (14 : Int32) = nI 14 from rfl, pk_mul, nI_add]
      rw [if_neg nle, if_neg nle, e, nI_clamp (by omega), nI_clamp (by omega), nI_1]
      obtain ⟨m', i1, i2, i3, i4, i5⟩ := ih (v + 1) (sp m 143 (14 * d + v) (m 140 v)) (by omega) (by omega)
      refine ⟨m', i1, ⟨vp_in_nI (by omega) (by decide), vp_in_nI (by omega) (by decide), i2⟩, fun a ha => (i3 a ha).trans (sp_n ha), fun j h3 h4 => ?_, fun j hj => ?_⟩
      · by_cases e : j = v
        · subst e
          rw [i5 _ (Or.inl (by omega)), sp_r]
        · rw [i4 j (by omega) h4, sp_n (by decide)]
      · rw [i5 j (by omega), sp_k (by omega)]
theorem aside (m : SI) {d : Nat} (hd : d ≤ 7) : ∃ m', f12_putAside m (nI d) = m' ∧ o12_putAside m (nI d) ∧ (∀ a, a ≠ 143 → m' a = m a) ∧ (∀ j, j < 14 → m' 143 (14 * d + j) = m 140 j) ∧ (∀ j, (j < 14 * d ∨ 14 * d + 14 ≤ j) → m' 143 j = m 143 j) := by
  unfold f12_putAside o12_putAside
  rw [show fu1 ((Int32.toInt (14 : Int32) - Int32.toInt (0 : Int32)).toNat) = 15 from fu_bd (a := 14) (by decide)]
  obtain ⟨m', i1, i2, i3, i4, i5⟩ := aside_in d hd 15 0 m (by omega) (by omega)
  exact ⟨m', i1, i2, i3, fun j hj => i4 j (Nat.zero_le _) hj, fun j hj => i5 j (by omega)⟩
theorem back_in (d : Nat) (hd : d ≤ 7) : ∀ (fu v : Nat) (m : SI), v ≤ 14 → 14 < v + fu → ∃ m', f12_takeBack_c2 (nI d) fu (nI v) m = m' ∧ o12_takeBack_c2 (nI d) fu (nI v) m ∧ (∀ a, a ≠ 140 → m' a = m a) ∧ (∀ j, v ≤ j → j < 14 → m' 140 j = m 143 (14 * d + j)) ∧ (∀ j, (j < v ∨ 14 ≤ j) → m' 140 j = m 140 j) := by
  intro fu
  induction fu with
  | zero => intro v m h1 h2; omega
  | succ fu ih =>
    intro v m h1 h2
    rw [f12_takeBack_c2, o12_takeBack_c2]
    by_cases q : v = 14
    · subst q
      rw [if_pos (show (14 : Int32) ≤ nI 14 by decide), if_pos (show (14 : Int32) ≤ nI 14 by decide)]
      exact ⟨m, rfl, trivial, fun _ _ => rfl, fun j h3 h4 => by omega, fun _ _ => rfl⟩
    · have nle : ¬ (14 : Int32) ≤ nI v := nI_ge (b := 14) (by omega) (by decide)
      have e : (14 : Int32) * nI d + nI v = nI (14 * d + v) := by rw [show (14 : Int32) = nI 14 from rfl, pk_mul, nI_add]
      rw [if_neg nle, if_neg nle, e, nI_clamp (by omega), nI_clamp (by omega), nI_1]
      obtain ⟨m', i1, i2, i3, i4, i5⟩ := ih (v + 1) (sp m 140 v (m 143 (14 * d + v))) (by omega) (by omega)
      refine ⟨m', i1, ⟨vp_in_nI (by omega) (by decide), vp_in_nI (by omega) (by decide), i2⟩, fun a ha => (i3 a ha).trans (sp_n ha), fun j h3 h4 => ?_, fun j hj => ?_⟩
      · by_cases e : j = v
        · subst e
          rw [i5 _ (Or.inl (by omega)), sp_r]
        · rw [i4 j (by omega) h4, sp_n (by decide)]
      · rw [i5 j (by omega), sp_k (by omega)]
theorem tback (m : SI) {d : Nat} (hd : d ≤ 7) : ∃ m', f12_takeBack m (nI d) = m' ∧ o12_takeBack m (nI d) ∧ (∀ a, a ≠ 140 → m' a = m a) ∧ (∀ j, j < 14 → m' 140 j = m 143 (14 * d + j)) ∧ (∀ j, 14 ≤ j → m' 140 j = m 140 j) := by
  unfold f12_takeBack o12_takeBack
  rw [show fu1 ((Int32.toInt (14 : Int32) - Int32.toInt (0 : Int32)).toNat) = 15 from fu_bd (a := 14) (by decide)]
  obtain ⟨m', i1, i2, i3, i4, i5⟩ := back_in d hd 15 0 m (by omega) (by omega)
  exact ⟨m', i1, i2, i3, fun j hj => i4 j (Nat.zero_le _) hj, fun j hj => i5 j (Or.inr hj)⟩
