/-! acts: what a step on the day keeps; coins, rest, years -/
theorem day_step {G : Nat} {c m c' m' : SI} {H B : Nat} {LL : List LW} {hd : Int32} {g n x : Nat} {gs : Nat → Nat} (J : IX0 G c m H B LL hd g n x gs) (hc : ∀ a, a ≠ 24 → a ≠ 25 → c' a = c a) (hm : ∀ a, a ≠ 140 → m' a = m a) (h8 : c' 24 8 = c 24 8) (hj : ∀ j, 14 ≤ j → m' 140 j = m 140 j) (D : DN H c' m') : IX0 G c' m' H B LL hd g n x gs := by
  obtain ⟨h1, hT, h3, hD, hL, hK, h7, h8', hg, h10⟩ := J
  have J : IX0 G c m H B LL hd g n x gs := ⟨h1, hT, h3, hD, hL, hK, h7, h8', hg, h10⟩
  obtain ⟨_, _, _, _, _, _, _, _, _, d8, d14, _⟩ := hD
  refine IX_day J (Nat.le_refl _) (fun a h => hc a (by omega) (by omega)) (by rw [hc 1 (by decide) (by decide)]) (by rw [hc 13 (by decide) (by decide)]) (by rw [hc 13 (by decide) (by decide)]) (by rw [hc 0 (by decide) (by decide)]) (by rw [hc 26 (by decide) (by decide)]) (fun a h => hm a (by omega)) (fun j h => by rw [hm 123 (by decide)]) (DN_DAY D (h8.trans d8) ((hj 14 (by decide)).trans d14)) ?_ (KPT_fr hK (by rw [hc 26 (by decide) (by decide)]) (by rw [hc 26 (by decide) (by decide)]) (hc 28 (by decide) (by decide)) (fun a u v => hc a (by omega) (by omega)) (by rw [hm 123 (by decide)]) (hm 142 (by decide))) hg
  intro j q u v
  rw [hc 28 (by decide) (by decide), hj _ (by omega)]
  exact hL j q u v
theorem DN_coin {H : Nat} {c m : SI} {v : Int32} (h : DN H c m) (hH : H ≤ 7) (hv : Bnd v 0 999) : DN H (sp c 24 1 v) (sp m 140 7 v) := by
  obtain ⟨a1, a2, a3, a4, a5, a6, a7, a8, a9, a10⟩ := h
  exact ⟨fun i hi => by rw [sp_n (by decide), sp_k (by omega)]; exact a1 i hi, ⟨by rw [sp_r, sp_r], by rw [sp_r]; exact hv⟩, by rw [sp_k (by decide), sp_k (by decide)]; exact a3, by rw [sp_k (by decide), sp_k (by decide)]; exact a4, by rw [sp_k (by decide), sp_k (by decide)]; exact a5, by rw [sp_k (by decide)]; exact a6, by rw [sp_k (by decide), sp_k (by decide)]; exact a7, by rw [sp_k (by decide), sp_k (by decide)]; exact a8, by rw [sp_k (by decide), sp_k (by decide)]; exact a9, by rw [sp_k (by decide)]; exact a10⟩
theorem DN_time {H : Nat} {c m : SI} {v : Int32} (h : DN H c m) (hH : H ≤ 7) (hv : Bnd v 0 99) : DN H (sp c 24 2 v) (sp m 140 8 v) := by
  obtain ⟨a1, a2, a3, a4, a5, a6, a7, a8, a9, a10⟩ := h
  exact ⟨fun i hi => by rw [sp_n (by decide), sp_k (by omega)]; exact a1 i hi, by rw [sp_k (by decide), sp_k (by decide)]; exact a2, ⟨by rw [sp_r, sp_r], by rw [sp_r]; exact hv⟩, by rw [sp_k (by decide), sp_k (by decide)]; exact a4, by rw [sp_k (by decide), sp_k (by decide)]; exact a5, by rw [sp_k (by decide)]; exact a6, by rw [sp_k (by decide), sp_k (by decide)]; exact a7, by rw [sp_k (by decide), sp_k (by decide)]; exact a8, by rw [sp_k (by decide), sp_k (by decide)]; exact a9, by rw [sp_k (by decide)]; exact a10⟩
theorem DN_tire {H : Nat} {c m : SI} {v : Int32} (h : DN H c m) (hH : H ≤ 7) (hv : Bnd v 0 200) : DN H (sp c 24 3 v) (sp m 140 9 v) := by
  obtain ⟨a1, a2, a3, a4, a5, a6, a7, a8, a9, a10⟩ := h
  exact ⟨fun i hi => by rw [sp_n (by decide), sp_k (by omega)]; exact a1 i hi, by rw [sp_k (by decide), sp_k (by decide)]; exact a2, by rw [sp_k (by decide), sp_k (by decide)]; exact a3, ⟨by rw [sp_r, sp_r], by rw [sp_r]; exact hv⟩, by rw [sp_k (by decide), sp_k (by decide)]; exact a5, by rw [sp_k (by decide)]; exact a6, by rw [sp_k (by decide), sp_k (by decide)]; exact a7, by rw [sp_k (by decide), sp_k (by decide)]; exact a8, by rw [sp_k (by decide), sp_k (by decide)]; exact a9, by rw [sp_k (by decide)]; exact a10⟩
theorem DN_grief {H h : Nat} {c m : SI} {v : Int32} (D : DN H c m) (hh : h < 7) (hv : Bnd v 0 30) : DN H (sp c 25 h v) (sp m 140 h v) := by
  obtain ⟨a1, a2, a3, a4, a5, a6, a7, a8, a9, a10⟩ := D
  refine ⟨fun i hi => ?_, by rw [sp_n (by decide), sp_k (by omega)]; exact a2, by rw [sp_n (by decide), sp_k (by omega)]; exact a3, by rw [sp_n (by decide), sp_k (by omega)]; exact a4, by rw [sp_n (by decide), sp_k (by omega)]; exact a5, by rw [sp_n (by decide)]; exact a6, by rw [sp_n (by decide), sp_k (by omega)]; exact a7, by rw [sp_n (by decide), sp_k (by omega)]; exact a8, by rw [sp_n (by decide), sp_k (by omega)]; exact a9, by rw [sp_k (by omega)]; exact a10⟩
  by_cases e : i = h
  · subst e
    rw [sp_r, sp_r]
    exact ⟨rfl, hv⟩
  · rw [sp_k e, sp_k e]
    exact a1 i hi
theorem t_give {G : Nat} {c m : SI} (I : INV G c m) (x : Int32) : RUN G (f11_give c x) (f12_give m x) (o12_give m x) := by
  obtain ⟨H, B, LL, hd, T, L, D⟩ := INV_pick I
  have hH := T.1
  unfold f11_give f12_give o12_give
  rcases told_c T with ⟨e, hz, hq⟩ | ⟨e, hz, hq⟩
  · rw [e, if_pos rfl, if_neg hq, if_neg hq]
    rcases in_nat1 (x := x) (k := 50) (by decide) with ⟨j, h1, hj, rfl, i1, i2, i3, i4⟩ | ⟨i1, i2⟩ | ⟨i1, i2, i3, i4⟩
    · rw [show f12_in (nI j) 1 50 = true from i1, if_pos rfl, if_pos rfl, if_neg i2, if_neg (show ¬ (50 : Int32) < nI j from i4)]
      obtain ⟨a, ha, ea⟩ := bnd_nI (hi := 999) D.2.1.2
      have e7 : c 24 1 = nI a := D.2.1.1.trans ea
      rw [e7, ea, show (999 : Int32) - nI a = nI (999 - a) from nI_sub (a := 999) ha, nI_add]
      by_cases q : a + j ≤ 999
      · have l1 : nI j ≤ nI (999 - a) := nI_le (by omega) (by omega)
        have l2 : nI (a + j) ≤ (999 : Int32) := nI_le (b := 999) q (by decide)
        rw [if_pos l1, if_pos l2, if_pos l2]
        obtain ⟨H, B, LL, hd, g, n, y, gs, J⟩ := I
        have J : IX0 G c m H B LL hd g n y gs := J
        obtain ⟨c1, m1, n', x', gs', k1, k2, k3, J1, k5, k6, k7, k8, k9⟩ := keep_both J
        rw [(ref_none m).1]
        dsimp only
        rw [if_neg Bool.false_ne_true, if_neg Bool.false_ne_true, k1, k2]
        have D1 : DN H c1 m1 := DAY_DN J1.2.2.2.1
        have v1 : c1 24 1 + nI j = nI (a + j) := by rw [k7 24 (by decide) (by omega), e7, nI_add]
        have v2 : m1 140 7 + nI j = nI (a + j) := by rw [k8 140 (by decide) (by decide), ea, nI_add]
        rw [v1, v2]
        refine ⟨rfl, ⟨(ref_none m).2, k3, trivial⟩, ?_⟩
        dsimp only
        exact IX0_inv (day_step J1 (fun a h _ => sp_n h) (fun a h => sp_n h) (sp_k (by decide)) (fun j hj => sp_k (by omega)) (DN_coin D1 J1.2.1.1 (nI_bnd (by omega) (by omega))))
      · have l1 : ¬ nI j ≤ nI (999 - a) := nI_ge (by omega) (by omega)
        have l2 : ¬ nI (a + j) ≤ (999 : Int32) := nI_ge (a := 999) (by omega) (by omega)
        rw [if_neg l1, if_neg l2, if_neg l2]
        obtain ⟨c', m', e1, e2, o, V⟩ := ref_both I (s := 1) (by decide)
        rw [show f11_refused c 1 = _ from e1, show f12_isRefused m 1 = _ from e2]
        dsimp only
        rw [if_pos rfl, if_pos rfl]
        exact ⟨rfl, ⟨o, trivial⟩, V⟩
    · rw [show f12_in x 1 50 = false from i1, if_neg Bool.false_ne_true, if_neg Bool.false_ne_true, if_pos i2]
      obtain ⟨c', m', e1, e2, o, V⟩ := ref_both I (s := 1) (by decide)
      rw [show f11_refused c 1 = _ from e1, show f12_isRefused m 1 = _ from e2]
      dsimp only
      rw [if_pos rfl, if_pos rfl]
      exact ⟨rfl, ⟨o, trivial⟩, V⟩
    · rw [show f12_in x 1 50 = false from i1, if_neg Bool.false_ne_true, if_neg Bool.false_ne_true, if_neg i2, if_pos (show (50 : Int32) < x from i4)]
      obtain ⟨c', m', e1, e2, o, V⟩ := ref_both I (s := 1) (by decide)
      rw [show f11_refused c 1 = _ from e1, show f12_isRefused m 1 = _ from e2]
      dsimp only
      rw [if_pos rfl, if_pos rfl]
      exact ⟨rfl, ⟨o, trivial⟩, V⟩
  · rw [e, if_neg Bool.false_ne_true, if_pos hq, if_pos hq]
    obtain ⟨c', m', e1, e2, o, V⟩ := ref_both I (s := 0) (by decide)
    rw [show f11_refused c 0 = _ from e1, show f12_isRefused m 0 = _ from e2]
    dsimp only
    rw [if_pos rfl, if_pos rfl]
    exact ⟨rfl, ⟨o, trivial⟩, V⟩
theorem t_rest {G : Nat} {c m : SI} (I : INV G c m) : RUN G (f11_rest c) (f12_rest m) (o12_rest m) := by
  obtain ⟨H, B, LL, hd, T, L, D⟩ := INV_pick I
  have hH := T.1
  unfold f11_rest f12_rest o12_rest
  rcases told_c T with ⟨e, hz, hq⟩ | ⟨e, hz, hq⟩
  · rw [e, if_pos rfl, if_neg hq, if_neg hq, D.2.2.2.1.1]
    by_cases t0 : m 140 9 = 0
    · rw [if_pos t0, if_pos t0, if_pos t0]
      obtain ⟨c', m', e1, e2, o, V⟩ := ref_both I (s := 2) (by decide)
      rw [show f11_refused c 2 = _ from e1, show f12_isRefused m 2 = _ from e2]
      dsimp only
      rw [if_pos rfl, if_pos rfl]
      exact ⟨rfl, ⟨o, trivial⟩, V⟩
    · rw [if_neg t0, if_neg t0, if_neg t0, D.2.2.1.1, (rul_c T).1]
      by_cases q : m 140 8 + 5 ≤ m 137 0
      · rw [if_pos q, if_pos q, if_pos q]
        obtain ⟨r1, r2⟩ := T.2.2.2.2.2.2.2.2.2.2.1.1
        obtain ⟨H, B, LL, hd, g, n, y, gs, J⟩ := I
        have J : IX0 G c m H B LL hd g n y gs := J
        obtain ⟨c1, m1, n', x', gs', k1, k2, k3, J1, k5, k6, k7, k8, k9⟩ := keep_both J
        rw [(ref_none m).1]
        dsimp only
        rw [if_neg Bool.false_ne_true, if_neg Bool.false_ne_true, k1, k2]
        have D1 : DN H c1 m1 := DAY_DN J1.2.2.2.1
        have hH1 := J1.2.1.1
        rw [D1.2.2.1.1, D1.2.2.2.1.1]
        have bT : Bnd (m1 140 8 + 5) 0 99 := by
          rw [k8 140 (by decide) (by decide)]
          obtain ⟨u1, u2⟩ := D.2.2.1.2
          have t5 : (5 : Int32).toInt = 5 := rfl
          rw [le_ti] at q
          exact ⟨by rw [ti_add' (by rw [t5]; omega) (by rw [t5]; omega), t5]; omega, by omega⟩
        have bR : Bnd (if (0 : Int32) < m1 140 9 - 10 then m1 140 9 - 10 else 0) 0 200 := by
          obtain ⟨u1, u2⟩ := D1.2.2.2.1.2
          have t10 : (10 : Int32).toInt = 10 := rfl
          have t00 : (0 : Int32).toInt = 0 := rfl
          by_cases w : (0 : Int32) < m1 140 9 - 10
          · rw [if_pos w]
            rw [lt_ti, t00] at w
            refine ⟨by omega, ?_⟩
            rw [ti_sub' (by rw [t10]; omega) (by rw [t10]; omega), t10]
            omega
          · rw [if_neg w]
            exact ⟨by decide, by decide⟩
        generalize (if (0 : Int32) < m1 140 9 - 10 then m1 140 9 - 10 else 0) = w at bR
        generalize m1 140 8 + 5 = v at bT
        refine ⟨rfl, ⟨(ref_none m).2, k3, trivial⟩, ?_⟩
        dsimp only
        exact IX0_inv (day_step J1 (fun a h _ => by rw [sp_n h, sp_n h]) (fun a h => by rw [sp_n h, sp_n h]) (by rw [sp_k (by decide), sp_k (by decide)]) (fun j hj => by rw [sp_k (by omega), sp_k (by omega)]) (DN_tire (DN_time D1 hH1 bT) hH1 bR))
      · rw [if_neg q, if_neg q, if_neg q]
        obtain ⟨c', m', e1, e2, o, V⟩ := ref_both I (s := 4) (by decide)
        rw [show f11_refused c 4 = _ from e1, show f12_isRefused m 4 = _ from e2]
        dsimp only
        rw [if_pos rfl, if_pos rfl]
        exact ⟨rfl, ⟨o, trivial⟩, V⟩
  · rw [e, if_neg Bool.false_ne_true, if_pos hq, if_pos hq]
    obtain ⟨c', m', e1, e2, o, V⟩ := ref_both I (s := 0) (by decide)
    rw [show f11_refused c 0 = _ from e1, show f12_isRefused m 0 = _ from e2]
    dsimp only
    rw [if_pos rfl, if_pos rfl]
    exact ⟨rfl, ⟨o, trivial⟩, V⟩
theorem t_gift {G : Nat} {c m : SI} (I : INV G c m) (x y : Int32) : RUN G (f11_gift c x y) (f12_gift m x y) (o12_gift m x y) := by
  obtain ⟨H, B, LL, hd, T, L, D⟩ := INV_pick I
  have hH := T.1
  unfold f11_gift f12_gift o12_gift
  rcases hse_or T x with ⟨h, hh, rfl, e1, e2⟩ | ⟨e1, e2, _⟩
  · rw [e1, e2, if_pos rfl, if_pos rfl, if_pos rfl]
    have vp := vpx (j := h) (by omega)
    rcases in_nat1 (x := y) (k := 30) (by decide) with ⟨j, h1, hj, rfl, i1, i2, i3, i4⟩ | ⟨i1, i2⟩ | ⟨i1, i2, i3, i4⟩
    · rw [show f12_in (nI j) 1 30 = true from i1, if_pos rfl, if_pos rfl, if_neg i2, if_neg (show ¬ (30 : Int32) < nI j from i4), gr_c T D hh, idx (by omega)]
      obtain ⟨b, hb, eb⟩ := bnd_nI (hi := 30) (D.1 h hh).2
      obtain ⟨a, ha, ea⟩ := bnd_nI (hi := 999) D.2.1.2
      have e7 : c 24 1 = nI a := D.2.1.1.trans ea
      rw [e7, ea, eb]
      by_cases q : j ≤ b
      · have l1 : nI j ≤ nI b := nI_le q (by omega)
        rw [if_pos l1, if_pos l1, if_pos l1]
        by_cases u : j ≤ a
        · have l2 : nI j ≤ nI a := nI_le u (by omega)
          rw [if_pos l2, if_pos l2, if_pos l2]
          obtain ⟨H1, B1, LL, hd, g, n, y, gs, J⟩ := I
          have J : IX0 G c m H1 B1 LL hd g n y gs := J
          obtain ⟨c1, m1, n', x', gs', k1, k2, k3, J1, k5, k6, k7, k8, k9⟩ := keep_both J
          rw [(ref_none m).1]
          dsimp only
          rw [if_neg Bool.false_ne_true, if_neg Bool.false_ne_true, k1, k2]
          have D1 : DN H1 c1 m1 := DAY_DN J1.2.2.2.1
          have hH1 := J1.2.1.1
          have w1 : c1 24 1 - nI j = nI (a - j) := by rw [k7 24 (by decide) (by omega), e7, nI_sub u]
          have g1 : ∀ z : Int32, f0_grievanceOf 24 (sp c1 24 1 z) (nI h) = nI b := fun z => by
            rw [grief_c (by omega), sp_n (by decide), k7 25 (by decide) (by omega), (D.1 h hh).1, eb]
          have g2 : m1 140 h = nI b := by rw [k8 140 (by decide) (by decide), eb]
          have set1 : ∀ (s : SI) (z : Int32), f0_setGrievance 24 s (nI h) z = sp s 25 h z := fun s z => set_at (k := 25) (n := 7) (by omega) (by decide)
          have g3 : ∀ (s : SI) (z : Int32), f0_grievanceOf 24 (sp s 25 h z) (nI h) = z := fun s z => by rw [grief_c (by omega), sp_r]
          have w2 : ∀ z : Int32, (sp m1 140 h z) 140 7 = nI a := fun z => by rw [sp_k (by omega), k8 140 (by decide) (by decide), ea]
          rw [w1, g1, nI_sub q, set1, g3, g2, nI_sub q, w2, nI_sub u, sp_k (show h ≠ 7 by omega), sp_r]
          have e24 : c1 24 8 = c 24 8 := by rw [k7 24 (by decide) (by omega)]
          have comm : sp (sp m1 140 h (nI (b - j))) 140 7 (nI (a - j)) = sp (sp m1 140 7 (nI (a - j))) 140 h (nI (b - j)) := sp_comm (by omega)
          refine ⟨rfl, ⟨vp, (ref_none m).2, k3, vp, vp, vp, trivial⟩, ?_⟩
          dsimp only
          rw [comm]
          exact IX0_inv (day_step J1 (fun a h1 h2 => by rw [sp_n h2, sp_n h1]) (fun a h => by rw [sp_n h, sp_n h]) (by rw [sp_n (by decide), sp_k (by decide)]) (fun j hj => by rw [sp_k (by omega), sp_k (by omega)]) (DN_grief (DN_coin D1 hH1 (nI_bnd (by omega) (by omega))) (by omega) (nI_bnd (by omega) (by omega))))
        · have l2 : ¬ nI j ≤ nI a := nI_ge (by omega) (by omega)
          rw [if_neg l2, if_neg l2, if_neg l2]
          obtain ⟨c', m', e1, e2, o, V⟩ := ref_both I (s := 3) (by decide)
          rw [show f11_refused c 3 = _ from e1, show f12_isRefused m 3 = _ from e2]
          dsimp only
          rw [if_pos rfl, if_pos rfl]
          exact ⟨rfl, ⟨vp, o, trivial⟩, V⟩
      · have l1 : ¬ nI j ≤ nI b := nI_ge (by omega) (by omega)
        rw [if_neg l1, if_neg l1, if_neg l1]
        obtain ⟨c', m', e1, e2, o, V⟩ := ref_both I (s := 1) (by decide)
        rw [show f11_refused c 1 = _ from e1, show f12_isRefused m 1 = _ from e2]
        dsimp only
        rw [if_pos rfl, if_pos rfl]
        exact ⟨rfl, ⟨vp, o, trivial⟩, V⟩
    · rw [show f12_in y 1 30 = false from i1, if_neg Bool.false_ne_true, if_neg Bool.false_ne_true, if_pos i2]
      obtain ⟨c', m', e1, e2, o, V⟩ := ref_both I (s := 1) (by decide)
      rw [show f11_refused c 1 = _ from e1, show f12_isRefused m 1 = _ from e2]
      dsimp only
      rw [if_pos rfl, if_pos rfl]
      exact ⟨rfl, ⟨o, trivial⟩, V⟩
    · rw [show f12_in y 1 30 = false from i1, if_neg Bool.false_ne_true, if_neg Bool.false_ne_true, if_neg i2, if_pos (show (30 : Int32) < y from i4)]
      obtain ⟨c', m', e1, e2, o, V⟩ := ref_both I (s := 1) (by decide)
      rw [show f11_refused c 1 = _ from e1, show f12_isRefused m 1 = _ from e2]
      dsimp only
      rw [if_pos rfl, if_pos rfl]
      exact ⟨rfl, ⟨o, trivial⟩, V⟩
  · rw [e1, e2, if_neg Bool.false_ne_true, if_neg Bool.false_ne_true, if_neg Bool.false_ne_true]
    obtain ⟨c', m', e1, e2, o, V⟩ := ref_both I (s := 0) (by decide)
    rw [show f11_refused c 0 = _ from e1, show f12_isRefused m 0 = _ from e2]
    dsimp only
    rw [if_pos rfl, if_pos rfl]
    exact ⟨rfl, ⟨o, trivial⟩, V⟩
/-! a year goes by -/
noncomputable def gy (m : SI) (k : Nat) : Int32 := if f12_isThankful m (nI k) = true then m 140 k else (if m 140 k + m 137 2 < 30 then m 140 k + m 137 2 else 30)
theorem gy_bnd {H B k : Nat} {c m : SI} (T : TR H B c m) (hb : Bnd (m 140 k) 0 30) : Bnd (gy m k) 0 30 := by
  obtain ⟨r1, r2⟩ := T.2.2.2.2.2.2.2.2.2.2.1.2.2
  obtain ⟨b1, b2⟩ := hb
  unfold gy
  split
  · exact ⟨b1, b2⟩
  · have t30 : (30 : Int32).toInt = 30 := rfl
    have e : (m 140 k + m 137 2).toInt = (m 140 k).toInt + (m 137 2).toInt := ti_add' (by omega) (by omega)
    split
    · rename_i w
      rw [lt_ti, t30] at w
      exact ⟨by omega, by omega⟩
    · exact ⟨by decide, by decide⟩
theorem gob_in {H B : Nat} {m : SI} : ∀ (fu j : Nat) (c : SI), TR H B c m → j ≤ H → H < j + fu → (∀ k, j ≤ k → k < H → c 25 k = m 140 k) → ∃ c', f11_goBy_c22 fu (nI j) c = c' ∧ (∀ a, a ≠ 25 → c' a = c a) ∧ (∀ k, k < j → c' 25 k = c 25 k) ∧ (∀ k, j ≤ k → k < H → c' 25 k = gy m k) := by
  intro fu
  induction fu with
  | zero => intro j c T h1 h2; omega
  | succ fu ih =>
    intro j c T h1 h2 h3
    have hH := T.1
    rw [f11_goBy_c22, hou_c T]
    by_cases q : j = H
    · subst q
      rw [if_pos (nI_le (Nat.le_refl _) (by omega))]
      exact ⟨c, rfl, fun _ _ => rfl, fun _ _ => rfl, fun k x y => by omega⟩
    · have hj : j < H := by omega
      rw [if_neg (nI_ge hj (by omega)), nI_1]
      have ev : f11_grown c (nI j) 1 = gy m j := by
        unfold f11_grown gy
        rw [(thank_c T hj).1, grief_c (by omega), h3 j (Nat.le_refl _) hj, (rul_c T).2.2, Int32.one_mul]
      have es : f0_setGrievance 24 c (nI j) (f11_grown c (nI j) 1) = sp c 25 j (gy m j) := by
        rw [ev]
        exact set_at (k := 25) (n := 7) (by omega) (by decide)
      dsimp only
      rw [es]
      have T1 : TR H B (sp c 25 j (gy m j)) m := TR_fr T (sp_n (by decide)) (sp_n (by decide)) rfl rfl rfl rfl rfl
      obtain ⟨c', i1, i2, i3, i4⟩ := ih (j + 1) (sp c 25 j (gy m j)) T1 (by omega) (by omega) (fun k x y => by rw [sp_k (by omega)]; exact h3 k (by omega) y)
      refine ⟨c', i1, fun a x => by rw [i2 a x, sp_n x], fun k x => by rw [i3 k (by omega), sp_k (by omega)], fun k x y => ?_⟩
      by_cases e : k = j
      · subst e
        rw [i3 k (by omega), sp_r]
      · exact i4 k (by omega) y
noncomputable def yrF (m : SI) : SI := sp (sp (sp (sp (sp m 140 8 0) 140 9 0) 140 10 (-1)) 140 11 0) 140 12 (m 140 12 + 1)
theorem pas_in {H B : Nat} {c m0 : SI} (T0 : TR H B c m0) : ∀ (fu j : Nat) (m : SI), (∀ a, a ≠ 140 → m a = m0 a) → j ≤ H → H < j + fu → (∀ k, j ≤ k → m 140 k = m0 140 k) → ∃ m', f12_passYear_c2 fu (nI j) m = yrF m' ∧ o12_passYear_c2 fu (nI j) m ∧ (∀ a, a ≠ 140 → m' a = m a) ∧ (∀ k, k < j → m' 140 k = m 140 k) ∧ (∀ k, j ≤ k → k < H → m' 140 k = gy m0 k) ∧ (∀ k, H ≤ k → m' 140 k = m 140 k) := by
  intro fu
  induction fu with
  | zero => intro j m h0 h1 h2; omega
  | succ fu ih =>
    intro j m h0 h1 h2 h3
    have T : TR H B c m := TR_fr T0 rfl rfl (by rw [h0 123 (by decide)]) (by rw [h0 123 (by decide)]) (h0 _ (by decide)) (h0 _ (by decide)) (h0 _ (by decide))
    have hH := T.1
    rw [f12_passYear_c2, o12_passYear_c2, hou_m T]
    by_cases q : j = H
    · subst q
      have le : nI j ≤ nI j := nI_le (Nat.le_refl _) (by omega)
      rw [if_pos le, if_pos le]
      exact ⟨m, rfl, trivial, fun _ _ => rfl, fun _ _ => rfl, fun k x y => by omega, fun _ _ => rfl⟩
    · have hj : j < H := by omega
      have nle : ¬ nI H ≤ nI j := nI_ge hj (by omega)
      have vp := vpx (j := j) (by omega)
      have ot := (thank_c T hj).2
      have et : f12_isThankful m (nI j) = f12_isThankful m0 (nI j) := thank_fr (h0 138 (by decide)) _
      have go : ∀ w, w = gy m0 j → ∃ m', f12_passYear_c2 fu (nI (j + 1)) (sp m 140 j w) = yrF m' ∧ o12_passYear_c2 fu (nI (j + 1)) (sp m 140 j w) ∧ (∀ a, a ≠ 140 → m' a = m a) ∧ (∀ k, k < j → m' 140 k = m 140 k) ∧ (∀ k, j ≤ k → k < H → m' 140 k = gy m0 k) ∧ (∀ k, H ≤ k → m' 140 k = m 140 k) := by
        intro w hw
        obtain ⟨m', i1, i2, i3, i4, i5, i6⟩ := ih (j + 1) (sp m 140 j w) (fun a x => by rw [sp_n x]; exact h0 a x) (by omega) (by omega) (fun k x => by rw [sp_k (by omega)]; exact h3 k (by omega))
        refine ⟨m', i1, i2, fun a x => by rw [i3 a x, sp_n x], fun k x => by rw [i4 k (by omega), sp_k (by omega)], fun k x y => ?_, fun k x => by rw [i6 k x, sp_k (by omega)]⟩
        by_cases e : k = j
        · subst e
          rw [i4 k (by omega), sp_r, hw]
        · exact i5 k (by omega) y
      rw [if_neg nle, if_neg nle, idx (by omega), nI_1, et, h3 j (Nat.le_refl _), h0 137 (by decide)]
      by_cases th : f12_isThankful m0 (nI j) = true
      · rw [if_pos th, if_pos th]
        obtain ⟨m', i1, i2, i3⟩ := go (m0 140 j) (by unfold gy; rw [if_pos th])
        exact ⟨m', i1, ⟨ot, vp, vp, i2⟩, i3⟩
      · rw [if_neg th, if_neg th]
        obtain ⟨m', i1, i2, i3⟩ := go (if m0 140 j + m0 137 2 < 30 then m0 140 j + m0 137 2 else 30) (by unfold gy; rw [if_neg th])
        exact ⟨m', i1, ⟨ot, vp, vp, i2⟩, i3⟩
theorem year_both {H B : Nat} {c m : SI} (T : TR H B c m) (D : DN H c m) (hz : H ≠ 0) (hy : (m 140 12).toInt < 999) : ∃ c' m', f11_goBy c = c' ∧ f12_passYear m = m' ∧ o12_passYear m ∧ DN H c' m' ∧ (∀ a, a ≠ 24 → a ≠ 25 → c' a = c a) ∧ (∀ a, a ≠ 140 → m' a = m a) ∧ c' 24 8 = c 24 8 ∧ (∀ j, 14 ≤ j → m' 140 j = m 140 j) := by
  have hH := T.1
  obtain ⟨a1, a2, a3, a4, a5, a6, a7, a8, a9, a10⟩ := D
  unfold f11_goBy f12_passYear o12_passYear f0_goHome
  dsimp only
  generalize hs : sp (sp (sp (sp (sp c 24 6 (c 24 6 + 1)) 24 4 (-1)) 24 2 0) 24 3 0) 24 5 0 = s
  have sa : ∀ a, a ≠ 24 → s a = c a := fun a h => by rw [← hs, sp_n h, sp_n h, sp_n h, sp_n h, sp_n h]
  have T1 : TR H B s m := TR_fr T (sa _ (by decide)) (sa _ (by decide)) rfl rfl rfl rfl rfl
  rw [hou_c T1, hou_m T, fu_bd (by omega)]
  obtain ⟨c', c1, c2, c3, c4⟩ := gob_in (m := m) (H + 1) 0 s T1 (Nat.zero_le _) (by omega) (fun k _ hk => by rw [sa 25 (by decide)]; exact (a1 k hk).1)
  obtain ⟨m', m1, m2, m3, m4, m5, m6⟩ := pas_in T (H + 1) 0 m (fun _ _ => rfl) (Nat.zero_le _) (by omega) (fun _ _ => rfl)
  have c1' : f11_goBy_c22 (H + 1) 0 s = c' := c1
  have m1' : f12_passYear_c2 (H + 1) 0 m = yrF m' := m1
  rw [c1', m1']
  have ya : ∀ a, a ≠ 140 → yrF m' a = m a := fun a h => by unfold yrF; rw [sp_n h, sp_n h, sp_n h, sp_n h, sp_n h, m3 a h]
  have yo : ∀ j, j ≠ 8 → j ≠ 9 → j ≠ 10 → j ≠ 11 → j ≠ 12 → yrF m' 140 j = m' 140 j := fun j x1 x2 x3 x4 x5 => by unfold yrF; rw [sp_k x5, sp_k x4, sp_k x3, sp_k x2, sp_k x1]
  have y8 : yrF m' 140 8 = 0 := by unfold yrF; rw [sp_k (by decide), sp_k (by decide), sp_k (by decide), sp_k (by decide), sp_r]
  have y9 : yrF m' 140 9 = 0 := by unfold yrF; rw [sp_k (by decide), sp_k (by decide), sp_k (by decide), sp_r]
  have y10 : yrF m' 140 10 = -1 := by unfold yrF; rw [sp_k (by decide), sp_k (by decide), sp_r]
  have y11 : yrF m' 140 11 = 0 := by unfold yrF; rw [sp_k (by decide), sp_r]
  have y12 : yrF m' 140 12 = m 140 12 + 1 := by unfold yrF; rw [sp_r, m6 12 (by omega)]
  have c24 : c' 24 = s 24 := c2 24 (by decide)
  refine ⟨c', yrF m', rfl, rfl, m2, ?_, fun a x y => by rw [c2 a y, sa a x], ya, ?_, fun j hj => by rw [yo j (by omega) (by omega) (by omega) (by omega) (by omega), m6 j (by omega)]⟩
  · refine ⟨fun h hh => ?_, ⟨?_, ?_⟩, ⟨?_, ?_⟩, ⟨?_, ?_⟩, fun _ => ⟨?_, ?_⟩, fun e => absurd e hz, ?_, ⟨?_, ?_⟩, ?_, ?_⟩
    · rw [c4 h (Nat.zero_le _) hh, yo h (by omega) (by omega) (by omega) (by omega) (by omega), m5 h (Nat.zero_le _) hh]
      exact ⟨rfl, gy_bnd T (a1 h hh).2⟩
    · rw [c24, ← hs, sp_k (by decide), sp_k (by decide), sp_k (by decide), sp_k (by decide), sp_k (by decide), yo 7 (by decide) (by decide) (by decide) (by decide) (by decide), m6 7 (by omega)]; exact a2.1
    · rw [yo 7 (by decide) (by decide) (by decide) (by decide) (by decide), m6 7 (by omega)]; exact a2.2
    · rw [c24, ← hs, sp_k (by decide), sp_k (by decide), sp_r, y8]
    · rw [y8]; exact ⟨by decide, by decide⟩
    · rw [c24, ← hs, sp_k (by decide), sp_r, y9]
    · rw [y9]; exact ⟨by decide, by decide⟩
    · rw [c24, ← hs, sp_k (by decide), sp_k (by decide), sp_k (by decide), sp_r, y10]
    · rw [y10]; exact Or.inl rfl
    · rw [c24, ← hs, sp_r, y11]
    · rw [c24, ← hs, sp_k (by decide), sp_k (by decide), sp_k (by decide), sp_k (by decide), sp_r, y12, a8.1]
    · rw [y12]
      obtain ⟨u1, u2⟩ := a8.2
      exact ⟨by rw [ti_add' (by rw [ti_1]; omega) (by rw [ti_1]; omega), ti_1]; omega, by rw [ti_add' (by rw [ti_1]; omega) (by rw [ti_1]; omega), ti_1]; omega⟩
    · rw [c24, ← hs, sp_k (by decide), sp_k (by decide), sp_k (by decide), sp_k (by decide), sp_k (by decide), yo 13 (by decide) (by decide) (by decide) (by decide) (by decide), m6 13 (by omega)]; exact a9
    · rw [y11]; exact ⟨0, by decide, rfl⟩
  · rw [c24, ← hs, sp_k (by decide), sp_k (by decide), sp_k (by decide), sp_k (by decide), sp_k (by decide)]
theorem t_year {G : Nat} {c m : SI} (I : INV G c m) : RUN G (f11_year c) (f12_year m) (o12_year m) := by
  obtain ⟨H, B, LL, hd, T, L, D⟩ := INV_pick I
  have hH := T.1
  unfold f11_year f12_year o12_year
  rcases told_c T with ⟨e, hz, hq⟩ | ⟨e, hz, hq⟩
  · have hz0 := hq
    rw [e, if_pos rfl, if_neg hq, if_neg hq, D.2.2.2.2.2.2.2.1.1]
    obtain ⟨b1, b2⟩ := D.2.2.2.2.2.2.2.1.2
    have t999 : (999 : Int32).toInt = 999 := rfl
    by_cases q : m 140 12 = 999
    · rw [if_neg (show ¬ m 140 12 < 999 by rw [q]; decide), if_pos q, if_pos q]
      obtain ⟨c', m', e1, e2, o, V⟩ := ref_both I (s := 4) (by decide)
      rw [show f11_refused c 4 = _ from e1, show f12_isRefused m 4 = _ from e2]
      dsimp only
      rw [if_pos rfl, if_pos rfl]
      exact ⟨rfl, ⟨o, trivial⟩, V⟩
    · have lt : (m 140 12).toInt < 999 := by
        rcases Int.lt_or_le (m 140 12).toInt 999 with w | w
        · exact w
        · exact absurd (Int32.toInt_inj.mp (by rw [t999]; omega)) q
      rw [if_pos (show m 140 12 < 999 by rw [lt_ti, t999]; exact lt), if_neg q, if_neg q]
      obtain ⟨H1, B1, LL, hd, g, n, y, gs, J⟩ := I
      have J : IX0 G c m H1 B1 LL hd g n y gs := J
      obtain ⟨c1, m1, n', x', gs', k1, k2, k3, J1, k5, k6, k7, k8, k9⟩ := keep_both J
      rw [(ref_none m).1]
      dsimp only
      rw [if_neg Bool.false_ne_true, if_neg Bool.false_ne_true, k1, k2]
      have D1 : DN H1 c1 m1 := DAY_DN J1.2.2.2.1
      have hz1 : H1 ≠ 0 := fun e0 => hz0 (by rw [hou_m J.2.1, e0]; rfl)
      obtain ⟨c2, m2, a1, a2, a3, a4, a5, a6, a7, a8⟩ := year_both J1.2.1 D1 hz1 (by rw [k8 140 (by decide) (by decide)]; exact lt)
      rw [a1, a2, a4.2.2.2.2.2.2.2.1.1]
      exact ⟨rfl, ⟨(ref_none m).2, k3, a3, trivial⟩, IX0_inv (day_step J1 a5 a6 a7 a8 a4)⟩
  · rw [e, if_neg Bool.false_ne_true, if_pos hq, if_pos hq]
    obtain ⟨c', m', e1, e2, o, V⟩ := ref_both I (s := 0) (by decide)
    rw [show f11_refused c 0 = _ from e1, show f12_isRefused m 0 = _ from e2]
    dsimp only
    rw [if_pos rfl, if_pos rfl]
    exact ⟨rfl, ⟨o, trivial⟩, V⟩
