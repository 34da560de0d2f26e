/-! the order call -/
def AN (x n k d : Int32) : Int32 := if x = 1 then k else (if n = 0 then -1 else d)
theorem an_eq {x n k d : Int32} {s : SI} : (if x = 1 then (k, s) else (if n = 0 then ((-1 : Int32), s) else (d, s))) = (AN x n k d, s) := by
  unfold AN
  split
  · rfl
  · split <;> rfl
theorem ord_2 {n : Nat} {r : Nat → Nat} {x : Int32} (hn : n ≤ 7) : ∀ (s fu i k : Nat) (v : Int32) (m : SI), i + s = n → s < fu → k < i → (∀ j, j < n → m 144 j = nI (r j)) → o12_takeBack m 0 → f12_order_c44 x (nI n) fu v (nI k) (nI i) m = (AN x (nI n) (nI k) (dg r s i v), f12_takeBack m 0) ∧ o12_order_c44 x (nI n) fu v (nI k) (nI i) m := by
  intro s
  induction s with
  | zero =>
    intro fu i k v m h1 h2 h3 h4 ob
    obtain ⟨f, rfl, _⟩ := fu_pos h2
    rw [f12_order_c44, o12_order_c44, if_pos (nI_le (by omega) (by omega)), if_pos (nI_le (by omega) (by omega))]
    refine ⟨an_eq, ob, ?_⟩
    split
    · trivial
    · split <;> trivial
  | succ s ih =>
    intro fu i k v m h1 h2 h3 h4 ob
    obtain ⟨f, rfl, hf⟩ := fu_pos h2
    have ne : ¬ nI k = nI i := fun e => by have := (nI_eq (a := k) (b := i) (by omega) (by omega)).mp e; omega
    rw [f12_order_c44, o12_order_c44, if_neg (nI_ge (by omega) (by omega)), if_neg (nI_ge (by omega) (by omega)), if_neg ne, if_neg ne, nI_clamp (by omega), h4 i (by omega), nI_1]
    obtain ⟨i1, i2⟩ := ih f (i + 1) k ((10 : Int32) * v + nI (r i)) m (by omega) (by omega) (by omega) h4 ob
    exact ⟨i1, vp_in_nI (by omega) (by decide), i2⟩
theorem ob_any (m : SI) : o12_takeBack m 0 := by
  obtain ⟨_, _, o, _⟩ := tback m (d := 0) (by decide)
  exact o
theorem ord_1 {LL : List LW} {hd : Int32} {H B n : Nat} {r g : Nat → Nat} {x : Int32} (hn : n ≤ 7) (hr : ∀ j, j < n → r j < H) : ∀ (s fu fu' i : Nat) (v : Int32) (c m : SI), i + s = n → s < fu → s < fu' → TR H B c m → LR LL hd c m → MB H m → LIT H c m → RW c n r g → (∀ j, j < n → m 144 j = nI (r j)) → ∃ k cc mm, f11_order_c60 x fu (nI i) c = (nI k, cc) ∧ f12_order_c44 x (nI n) fu' v (nI i) (nI i) m = (AN x (nI n) (nI k) (dg r s i v), f12_takeBack mm 0) ∧ o12_order_c44 x (nI n) fu' v (nI i) (nI i) m ∧ SX c cc ∧ (∀ a, a ≠ 132 → a ≠ 133 → a ≠ 140 → mm a = m a) ∧ (∀ j, 14 ≤ j → mm 140 j = m 140 j) := by
  intro s
  induction s with
  | zero =>
    intro fu fu' i v c m h1 h2 h3 T L M I R h4
    obtain ⟨f, rfl, _⟩ := fu_pos h2
    obtain ⟨f', rfl, _⟩ := fu_pos h3
    have ei : i = n := by omega
    subst ei
    rw [f11_order_c60, f12_order_c44, o12_order_c44, show f6_size c = nI i from R.1, if_pos (nI_le (Nat.le_refl _) (by omega)), if_pos (nI_le (Nat.le_refl _) (by omega)), if_pos (nI_le (Nat.le_refl _) (by omega))]
    refine ⟨i, c, m, rfl, an_eq, ⟨ob_any m, ?_⟩, SX_rf c, fun _ _ _ _ => rfl, fun _ _ => rfl⟩
    split
    · trivial
    · split <;> trivial
  | succ s ih =>
    intro fu fu' i v c m h1 h2 h3 T L M I R h4
    obtain ⟨f, rfl, hf⟩ := fu_pos h2
    obtain ⟨f', rfl, hf'⟩ := fu_pos h3
    have hlt : ¬ nI n ≤ nI i := nI_ge (by omega) (by omega)
    have vp := vp_in_nI (n := i) (N := 7) (by omega) (by decide)
    have hri := hr i (by omega)
    rw [f11_order_c60, f12_order_c44, o12_order_c44, show f6_size c = nI n from R.1, if_neg hlt, if_neg hlt, if_neg hlt, houseAt R hn (by omega), if_pos rfl, if_pos rfl, nI_clamp (by omega), h4 i (by omega), nI_1]
    by_cases w : wn LL hd m (r i) = -1
    · obtain ⟨c1, m1, m2, e1, e2, o1, F, e3, o2, C, S, _, _, I2, M2, T2, L2⟩ := step_yes T L M I hri w
      rw [e1, e2]
      dsimp only
      rw [if_pos rfl, if_pos rfl, if_pos rfl, F 144 (by decide) (by decide), h4 i (by omega), e3]
      dsimp only
      have R2 : RW c1 n r g := by unfold RW at R ⊢; rw [S.1 36 (by decide) (by decide) (by decide), S.1 37 (by decide) (by decide) (by decide), S.1 38 (by decide) (by decide) (by decide)]; exact R
      obtain ⟨k, cc, mm, i1, i2, i3, i4, i5, i6⟩ := ih f f' (i + 1) ((10 : Int32) * v + nI (r i)) c1 m2 (by omega) (by omega) (by omega) T2 L2 M2 I2 R2 (fun j hj => by rw [C.1 144 (by decide) (by decide) (by decide)]; exact h4 j hj)
      exact ⟨k, cc, mm, i1, i2, ⟨vp, vp, o1, vp, o2, i3⟩, SX_tr (LTS_SX S) i4, fun a x y z => (i5 a x y z).trans (C.1 a x y z), fun j hj => by
        rw [i6 j hj]
        have := T.1
        exact C.2.2.2.2.2.2.2 j (by omega) (by omega) (by omega) (by omega) (by omega) (by omega)⟩
    · obtain ⟨c1, m1, e1, e2, o1, F, S, _⟩ := step_no T L M I hri w
      rw [e1, e2]
      dsimp only
      rw [if_neg Bool.false_ne_true, if_neg w, if_neg w]
      obtain ⟨i1, i2⟩ := ord_2 (n := n) (r := r) (x := x) hn s f' (i + 1) i ((10 : Int32) * v + nI (r i)) m1 (by omega) (by omega) (by omega) (fun j hj => by rw [F 144 (by decide) (by decide)]; exact h4 j hj) (ob_any m1)
      exact ⟨i, c1, m1, rfl, i1, ⟨vp, vp, o1, i2⟩, LTS_SX S, fun a x y _ => F a x y, fun j _ => by rw [F 140 (by decide) (by decide)]⟩
theorem setOut_c {H : Nat} {c m : SI} (D : DN H c m) (hz : H ≠ 0) : LIT H (f4_setOut c) m ∧ SX c (f4_setOut c) ∧ (∀ a, a ≠ 32 → f4_setOut c a = c a) ∧ (∀ j, j ≠ 3 → j ≠ 4 → j ≠ 5 → j ≠ 6 → f4_setOut c 32 j = c 32 j) := by
  obtain ⟨a1, a2, a3, a4, a5, a6, a7, a8, a9⟩ := D
  unfold f4_setOut f4_stay
  dsimp only
  have e : ∀ a, a ≠ 32 → (sp (sp (sp (sp c 32 3 (c 24 4)) 32 4 (c 24 2)) 32 5 (c 24 3)) 32 6 (c 24 5)) a = c a := fun a ha => by rw [sp_n ha, sp_n ha, sp_n ha, sp_n ha]
  refine ⟨⟨?_, ?_, ?_, ?_, ?_, fun h hh _ => ?_⟩, SX_tr (SX_tr (SX_tr (SX_sp (by decide)) (SX_sp (by decide))) (SX_sp (by decide))) (SX_sp (by decide)), e, fun j h1 h2 h3 h4 => ?_⟩
  · rw [sp_k (by decide), sp_k (by decide), sp_k (by decide), sp_r]; exact (a5 hz).1
  · rw [sp_k (by decide), sp_k (by decide), sp_r]; exact a3.1
  · rw [sp_k (by decide), sp_r]; exact a4.1
  · rw [sp_r]; exact a7
  · rw [e 24 (by decide)]; exact a8.1
  · rw [e 25 (by decide)]; exact (a1 h hh).1
  · rw [sp_k h4, sp_k h3, sp_k h2, sp_k h1]
theorem t_order {G : Nat} {c m : SI} (I : INV G c m) (x : Int32) : RUN G (f11_order c x) (f12_order m x) (o12_order m x) := by
  obtain ⟨H, B, LL, hd, T, L, D⟩ := INV_pick I
  have hH := T.1
  unfold f11_order f12_order o12_order
  rcases told_c T with ⟨e, hz, hq⟩ | ⟨e, hz, hq⟩
  · rw [e, if_pos rfl, if_neg hq, if_neg hq]
    have M := DN_MB D hz
    rcases in_nat (x := x) (k := 1) (by decide) with ⟨j, hj, rfl, i1, i2, i3, _⟩ | ⟨i1, i2⟩ | ⟨i1, i2, i3, i4⟩
    · rw [show f12_in (nI j) 0 1 = true from i1, if_pos rfl, if_pos rfl, if_neg i2, if_pos (show nI j ≤ 1 from i3)]
      obtain ⟨n, r, c1, e1, O, R, F1⟩ := orderNow_c T D
      obtain ⟨n', r', m1, e2, o2, O', R', F2⟩ := lay (x0 := m 140 11) T (gn_b fun k hk => (D.1 k hk).2) (griefNow T D)
      obtain ⟨en, er⟩ := ORD_one hH O' O
      subst en
      have hn7 : n' ≤ 7 := Nat.le_trans O.1 hH
      obtain ⟨m2, e3, o3, F3, A3, _⟩ := aside m1 (d := 0) (by decide)
      rw [e1, e2]
      dsimp only
      have e3' : f12_putAside m1 0 = m2 := e3
      rw [e3', show Int32.toInt (nI n') - Int32.toInt (0 : Int32) = Int32.toInt (nI n') - Int32.toInt (nI 0) from rfl, toNat_sub_nI (by omega) (by decide), Nat.sub_zero, fu1_eq n']
      have X1 := RF_SX F1
      have T1 := TR_sx T X1
      have L1 := LR_sx L X1
      have D1 : DN H c1 m := DN_fr D (sx24 X1) (sx25 X1) rfl
      obtain ⟨LI, X2, E2, E3⟩ := setOut_c D1 hz
      have mfr : ∀ a, a ≠ 143 → a ≠ 144 → m2 a = m a := fun a x y => (F3 a x).trans (F2 a y)
      have T2 : TR H B (f4_setOut c1) m2 := TR_fr (TR_sx T1 X2) rfl rfl (by rw [mfr 123 (by decide) (by decide)]) (by rw [mfr 123 (by decide) (by decide)]) (mfr _ (by decide) (by decide)) (mfr _ (by decide) (by decide)) (mfr _ (by decide) (by decide))
      have L2 : LR LL hd (f4_setOut c1) m2 := LR_fr (LR_sx L1 X2) (fun _ _ _ => rfl) rfl rfl (fun a x y _ => mfr a (by omega) (by omega)) (by rw [mfr 123 (by decide) (by decide)]) (by rw [mfr 123 (by decide) (by decide)])
      have M2 : MB H m2 := MB_fr M (mfr 140 (by decide) (by decide))
      have LI2 : LIT H (f4_setOut c1) m2 := by unfold LIT; rw [mfr 140 (by decide) (by decide)]; exact LI
      have R2 : RW (f4_setOut c1) n' r (gn H m) := by unfold RW; rw [E2 36 (by decide), E2 37 (by decide), E2 38 (by decide)]; exact R
      obtain ⟨k, cc, mm, k1, k2, k3, k4, k5, k6⟩ := ord_1 (LL := LL) (hd := hd) (x := nI j) hn7 (fun i hi => (O.2.2.1 i hi).1) n' (n' + 1) (n' + 1) 0 0 (f4_setOut c1) m2 (by omega) (by omega) (by omega) T2 L2 M2 LI2 R2 (fun i hi => by rw [F3 144 (by decide), R' i hi, er i hi])
      obtain ⟨m4, b1, b2, b3, b4, b5⟩ := tback mm (d := 0) (by decide)
      have k2' : f12_order_c44 (nI j) (nI n') (n' + 1) 0 0 0 m2 = _ := k2
      have b1' : f12_takeBack mm 0 = m4 := b1
      rw [b1'] at k2'
      rw [k2']
      have e140 : m4 140 = m 140 := by
        funext i
        by_cases hi : i < 14
        · rw [b4 i hi, k5 143 (by decide) (by decide) (by decide), A3 i hi, F2 140 (by decide)]
        · rw [b5 i (by omega), k6 i (by omega), mfr 140 (by decide) (by decide)]
      have K : KM m m4 := by
        have fr : ∀ a, a ≠ 132 → a ≠ 133 → a ≠ 143 → a ≠ 144 → m4 a = m a := fun a x1 x2 x3 x4 => by
          by_cases e : a = 140
          · subst e; exact e140
          · rw [b3 a e, k5 a x1 x2 e, mfr a x3 x4]
        exact ⟨fun a q => fr a (by omega) (by omega) (by omega) (by omega), fun i _ => by rw [fr 123 (by decide) (by decide) (by decide) (by decide)]⟩
      have oo : o12_order_c44 (nI j) (nI n') (n' + 1) 0 0 0 m2 := k3
      have j01 : j = 0 ∨ j = 1 := by omega
      rcases j01 with rfl | rfl
      · rw [if_pos (show nI 0 = 0 from rfl), show f6_size c1 = nI n' from R.1]
        have an : AN (nI 0) (nI n') (nI k) (dg r n' 0 0) = if nI n' = 0 then -1 else dg r n' 0 0 := rfl
        rw [an]
        have dd : f6_digits c1 = dg r n' 0 0 := by
          unfold f6_digits
          rw [R.1, show Int32.toInt (nI n') - Int32.toInt (0 : Int32) = Int32.toInt (nI n') - Int32.toInt (nI 0) from rfl, toNat_sub_nI (by omega) (by decide), Nat.sub_zero, fu1_eq]
          exact digits_c R hn7 n' (n' + 1) 0 0 (by omega) (by omega)
        rw [dd]
        have V : INV G c1 m4 := INV_k I (SX_KC X1) K (Nat.le_refl _)
        refine ⟨?_, ⟨o2, o3, oo⟩, ?_⟩
        · split <;> rfl
        · split <;> exact V
      · rw [if_neg (show ¬ nI 1 = 0 by decide)]
        have es : f6_size (f4_setOut c1) = nI n' := R2.1
        have k1' : f11_order_c60 (nI 1) (n' + 1) 0 (f4_setOut c1) = _ := k1
        rw [es, show Int32.toInt (nI n') - Int32.toInt (0 : Int32) = Int32.toInt (nI n') - Int32.toInt (nI 0) from rfl, toNat_sub_nI (a := n') (b := 0) (by omega) (by decide), Nat.sub_zero, fu1_eq n', k1']
        exact ⟨rfl, ⟨o2, o3, oo⟩, INV_k I (SX_KC (SX_tr X1 (SX_tr X2 k4))) K (Nat.le_refl _)⟩
    · rw [show f12_in x 0 1 = false from i1, if_neg Bool.false_ne_true, if_neg Bool.false_ne_true, if_pos i2]; exact ⟨rfl, trivial, I⟩
    · rw [show f12_in x 0 1 = false from i1, if_neg Bool.false_ne_true, if_neg Bool.false_ne_true, if_neg i2, if_neg (show ¬ x ≤ 1 from i3)]; exact ⟨rfl, trivial, I⟩
  · rw [e, if_neg Bool.false_ne_true, if_pos hq, if_pos hq]; exact ⟨rfl, trivial, I⟩
