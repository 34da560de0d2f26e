/-! the odds call -/
theorem odds_m {LL : List LW} {hd : Int32} {H B n k : Nat} {r : Nat → Nat} {c m0 : SI} {a : Nat} (T : TR H B c m0) (L : LR LL hd c m0) (P : PL H m0 r n) (inj : ∀ a b, a < b → b < n → r a ≠ r b) (hk : k ≤ n) (ha : a ≤ 100) (hrow : ∀ j, j < n → m0 144 j = nI (r j)) : ∀ (s D i : Nat) (m : SI) (t : Int32) (p : Nat), i + s = k → s < D → OS H m0 r n i t m → Bnd t 0 99 → p ≤ 1000000000 → ∃ m', fm_oddsFrom_D D m (nI i) (nI k) (nI a) (nI p) = (nI (od LL hd m0 r a s i t p), m') ∧ om_oddsFrom_D D m (nI i) (nI k) (nI a) (nI p) ∧ OF i m m' := by
  have hn7 := P.1
  intro s
  induction s with
  | zero =>
    intro D i m t p h1 h2 S ht hp
    obtain ⟨D', rfl, _⟩ := fu_pos h2
    show ∃ m', f12_oddsFrom (fm_oddsFrom_D D') m (nI i) (nI k) (nI a) (nI p) = _ ∧ o12_oddsFrom (fm_oddsFrom_D D') (om_oddsFrom_D D') m (nI i) (nI k) (nI a) (nI p) ∧ _
    unfold f12_oddsFrom o12_oddsFrom
    have e : nI i = nI k := by rw [show i = k by omega]
    rw [if_pos e, if_pos e]
    exact ⟨m, rfl, trivial, OF_rf i m⟩
  | succ s ih =>
    intro D i m t p h1 h2 S ht hp
    obtain ⟨D', rfl, hD⟩ := fu_pos h2
    show ∃ m', f12_oddsFrom (fm_oddsFrom_D D') m (nI i) (nI k) (nI a) (nI p) = _ ∧ o12_oddsFrom (fm_oddsFrom_D D') (om_oddsFrom_D D') m (nI i) (nI k) (nI a) (nI p) ∧ _
    unfold f12_oddsFrom o12_oddsFrom
    have e : ¬ nI i = nI k := ne_lit (by omega) (by omega) (by omega)
    rw [if_neg e, if_neg e]
    obtain ⟨m1, p1, p2, p3, p4, p5⟩ := aside m (d := i) (by omega)
    have FO : OF i m m1 := ⟨fun b _ _ z => p3 b z, fun j hj => p5 j (Or.inl hj)⟩
    have S1 : OS H m0 r n i t m1 := OS_of S FO
    have V1 : SVD m1 i := fun j hj => by rw [p4 j hj, p3 140 (by decide)]
    have er : m 144 (nI i).toNatClampNeg = nI (r i) := by rw [nI_clamp (by omega), S.1 144 (by decide) (by decide) (by decide) (by decide)]; exact hrow i (by omega)
    have ex : Int64.toInt32 (((Int32.toInt64 (nI p)) * (Int32.toInt64 (nI a))) / (100 : Int64)) = nI (p * a / 100) := by
      have hmul : p * a ≤ 1000000000 * 100 := Nat.mul_le_mul hp ha
      rw [nI_l (by omega), nI_l (by omega), lN_mul, show (100 : Int64) = lN 100 from rfl, lN_div (by omega) (by decide), lN_i]
    have ef : fu1 ((Int32.toInt (2 : Int32) - Int32.toInt (0 : Int32)).toNat) = 1 + 1 + 1 := by rw [fu1_eq]; rfl
    have IH : ∀ (m : SI) (t : Int32) (p : Nat), OS H m0 r n (i + 1) t m → Bnd t 0 99 → p ≤ 1000000000 → ∃ m', fm_oddsFrom_D D' m (nI (i + 1)) (nI k) (nI a) (nI p) = (nI (od LL hd m0 r a s (i + 1) t p), m') ∧ om_oddsFrom_D D' m (nI (i + 1)) (nI k) (nI a) (nI p) ∧ OF (i + 1) m m' := fun m t p u1 u2 u3 => ih D' (i + 1) m t p (by omega) (by omega) u1 u2 u3
    have hS : i + (s + 1) = k := by omega
    obtain ⟨m2, a1, a2, a3⟩ := leg0 (Tf := fm_oddsFrom_D D') (oT := om_oddsFrom_D D') T L P inj hk ha hS hp IH (1 + 1) 0 m1 t S1 V1
    have S2 : OS H m0 r n i t m2 := OS_of S1 a3
    have V2 : SVD m2 i := SVD_of V1 a3
    obtain ⟨m3, b1, b2, b3⟩ := leg1 (Tf := fm_oddsFrom_D D') (oT := om_oddsFrom_D D') T L P inj hk ha hS hp IH 1 (0 + br LL hd m0 r (od LL hd m0 r a s (i + 1)) i (t + dI m0 r i) (p - p * a / 100)) m2 t S2 V2
    rw [er, ex, ef]
    dsimp only
    rw [p1]
    have a1' : f12_oddsFrom_c40 (fm_oddsFrom_D D') (nI i) (nI k) (nI a) (nI p) (nI (r i)) (nI (p * a / 100)) (1 + 1 + 1) 0 0 m1 = _ := a1
    rw [a1', b1, f12_oddsFrom_c40, if_pos (show (2 : Int32) ≤ 2 by decide)]
    refine ⟨m3, ?_, ⟨vp_in_nI (by omega) (by decide), p2, a2 (b2 ?_)⟩, ?_⟩
    · rw [od]
      rw [Nat.zero_add, Nat.add_comm]
    · rw [o12_oddsFrom_c40, if_pos (show (2 : Int32) ≤ 2 by decide)]
      trivial
    · exact OF_tr FO (OF_tr (OF_le a3 (by omega)) (OF_le b3 (by omega)))
theorem t_odds {G : Nat} {c m : SI} (I : INV G c m) (x y : Int32) : RUN G (f11_odds c x y) (f12_odds m x y) (o12_odds m x y) := by
  obtain ⟨H, B, LL, hd, T, L, D⟩ := INV_pick I
  have hH := T.1
  unfold f11_odds f12_odds o12_odds
  rcases told_c T with ⟨e, hz, hq⟩ | ⟨e, hz, hq⟩
  · rw [e, if_pos rfl, if_neg hq, if_neg hq]
    have M := DN_MB D hz
    rcases in_nat (x := x) (k := 7) (by decide) with ⟨k, hk, rfl, i1, i2, i3, i4⟩ | ⟨i1, i2⟩ | ⟨i1, i2, i3, i4⟩
    · rw [show f12_in (nI k) 0 7 = true from i1, if_pos rfl, if_pos rfl, if_neg i2, if_neg (show ¬ (7 : Int32) < nI k from i4)]
      rcases in_nat (x := y) (k := 100) (by decide) with ⟨a, ha, rfl, j1, j2, j3, j4⟩ | ⟨j1, j2⟩ | ⟨j1, j2, j3, j4⟩
      · rw [show f12_in (nI a) 0 100 = true from j1, if_pos rfl, if_pos rfl, if_neg j2, if_pos (show nI a ≤ 100 from j3)]
        obtain ⟨n, r, c1, e1, O, R, F1⟩ := orderNow_c T D
        obtain ⟨n', r', m1, e2, o2, O', R', F2⟩ := lay (x0 := m 140 11) T (gn_b fun k hk => (D.1 k hk).2) (griefNow T D)
        obtain ⟨en, er⟩ := ORD_one hH O' O
        subst en
        have hn7 : n' ≤ 7 := Nat.le_trans O.1 hH
        rw [e1, e2]
        dsimp only
        have X1 := RF_SX F1
        have es : f6_size c1 = nI n' := R.1
        rw [es]
        by_cases hkn : k ≤ n'
        · have le : nI k ≤ nI n' := nI_le (by omega) (by omega)
          rw [if_pos le, if_pos le, if_pos le]
          have T1 : TR H B c1 m1 := TR_fr (TR_sx T X1) rfl rfl (by rw [F2 123 (by decide)]) (by rw [F2 123 (by decide)]) (F2 _ (by decide)) (F2 _ (by decide)) (F2 _ (by decide))
          have L1 : LR LL hd c1 m1 := LR_fr (LR_sx L X1) (fun _ _ _ => rfl) rfl rfl (fun a x y _ => F2 a (by omega)) (by rw [F2 123 (by decide)]) (by rw [F2 123 (by decide)])
          have M1 : MB H m1 := MB_fr M (F2 140 (by decide))
          have D1 : DN H c1 m1 := DN_fr D (sx24 X1) (sx25 X1) (F2 140 (by decide))
          have P : PL H m1 r n' := ⟨hn7, fun j hj => (O.2.2.1 j hj).1, M1⟩
          have inj : ∀ a b, a < b → b < n' → r a ≠ r b := fun a b h1 h2 h3 => by
            have := O.2.1 a b h1 h2
            rw [h3] at this
            omega
          have row : ∀ j, j < n' → m1 144 j = nI (r j) := fun j hj => by rw [R' j hj, er j hj]
          obtain ⟨w, hw, ew⟩ := D.2.2.2.2.2.2.2.2.2
          have S0 : OS H m1 r n' 0 (m1 140 8) m1 := by
            refine ⟨fun _ _ _ _ _ => rfl, M1, rfl, ?_, ⟨w, hw, by rw [F2 140 (by decide)]; exact ew⟩, by rw [show nI 0 = 0 from rfl, Int32.add_zero], fun j _ hj => ?_, fun _ _ _ => rfl, rfl⟩
            · unfold plc; rw [if_pos rfl]
            · have := (O.2.2.1 j hj).2.1
              rw [F2 140 (by decide)]
              exact Bool.eq_false_iff.mpr this
          have t8 : c1 24 2 = m1 140 8 := D1.2.2.1.1
          have b8 : Bnd (m1 140 8) 0 99 := D1.2.2.1.2
          obtain ⟨c2, q1, q2⟩ := parts_c (a := a) P hkn ha k (blk 8) 0 c1 (m1 140 8) 1000000000 (by omega) (by rw [blk_eq]; omega) T1 L1 D1 R b8 (Nat.le_refl _)
          obtain ⟨m2, u1, u2, u3⟩ := odds_m (a := a) T1 L1 P inj hkn ha row k (blk 9) 0 m1 (m1 140 8) 1000000000 (by omega) (by rw [blk_eq]; omega) S0 b8 (Nat.le_refl _)
          have q1' : f11_parts c1 0 (nI k) (nI a) (c1 24 2) (1000000000 : Int64) = (lN (od LL hd m1 r a k 0 (m1 140 8) 1000000000), c2) := by rw [t8]; exact q1
          have u1' : f12_oddsFromR m1 0 (nI k) (nI a) (1000000000 : Int32) = (nI (od LL hd m1 r a k 0 (m1 140 8) 1000000000), m2) := u1
          have u2' : o12_oddsFromR m1 0 (nI k) (nI a) (1000000000 : Int32) := u2
          rw [q1', u1']
          dsimp only
          have fr : ∀ b, b ≠ 132 → b ≠ 133 → b ≠ 143 → b ≠ 144 → m2 b = m b := fun b x1 x2 x3 x4 => (u3.1 b x1 x2 x3).trans (F2 b x4)
          have K : KM m m2 := ⟨fun b q => fr b (by omega) (by omega) (by omega) (by omega), fun i _ => by rw [fr 123 (by decide) (by decide) (by decide) (by decide)]⟩
          refine ⟨lN_i _, ?_, INV_k I (SX_KC (SX_tr X1 (SC_SX q2))) K (Nat.le_refl _)⟩
          first
            | exact ⟨o2, u2', trivial⟩
            | exact ⟨o2, u2'⟩
        · have nle : ¬ nI k ≤ nI n' := nI_ge (by omega) (by omega)
          rw [if_neg nle, if_neg nle, if_neg nle]
          have K : KM m m1 := ⟨fun b q => F2 b (by omega), fun i _ => by rw [F2 123 (by decide)]⟩
          refine ⟨rfl, ?_, INV_k I (SX_KC X1) K (Nat.le_refl _)⟩
          first
            | exact ⟨o2, trivial⟩
            | exact o2
      · rw [show f12_in y 0 100 = false from j1, if_neg Bool.false_ne_true, if_neg Bool.false_ne_true, if_pos j2]; exact ⟨rfl, trivial, I⟩
      · rw [show f12_in y 0 100 = false from j1, if_neg Bool.false_ne_true, if_neg Bool.false_ne_true, if_neg j2, if_neg (show ¬ y ≤ 100 from j3)]; exact ⟨rfl, trivial, I⟩
    · rw [show f12_in x 0 7 = false from i1, if_neg Bool.false_ne_true, if_neg Bool.false_ne_true, if_pos i2]; exact ⟨rfl, trivial, I⟩
    · rw [show f12_in x 0 7 = false from i1, if_neg Bool.false_ne_true, if_neg Bool.false_ne_true, if_neg i2, if_pos (show (7 : Int32) < x from i4)]; exact ⟨rfl, trivial, I⟩
  · rw [e, if_neg Bool.false_ne_true, if_pos hq, if_pos hq]; exact ⟨rfl, trivial, I⟩
