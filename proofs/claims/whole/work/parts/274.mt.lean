/-! which griefs fit; whom to ask -/
def FA (m m' : SI) : Prop := ∀ a, a ≠ 132 → a ≠ 133 → a ≠ 148 → m' a = m a
theorem FA_rf (m : SI) : FA m m := fun _ _ _ _ => rfl
theorem FA_tr {m m1 m2 : SI} (h1 : FA m m1) (h2 : FA m1 m2) : FA m m2 := fun a x y z => (h2 a x y z).trans (h1 a x y z)
theorem FM_FA {m m' : SI} (h : FM m m') : FA m m' := fun a x y _ => h a x y
theorem FA_KM {m m' : SI} (h : FA m m') : KM m m' := ⟨fun a x => h a (by omega) (by omega) (by omega), fun j _ => by rw [h 123 (by decide) (by decide) (by decide)]⟩
def CTX (H B : Nat) (LL : List LW) (hd : Int32) (c m : SI) : Prop := TR H B c m ∧ LR LL hd c m ∧ DN H c m ∧ WIT H c m
theorem CTX_fr {H B : Nat} {LL : List LW} {hd : Int32} {c m c' m' : SI} (h : CTX H B LL hd c m) (S : SX c c') (F : FA m m') : CTX H B LL hd c' m' := by
  obtain ⟨T, L, D, W⟩ := h
  have s : ∀ a, a ≠ 13 → a ≠ 15 → a ≠ 32 → a ≠ 36 → a ≠ 37 → a ≠ 38 → a ≠ 40 → a ≠ 41 → a ≠ 42 → c' a = c a := S.1
  have f123 : m' 123 = m 123 := F _ (by decide) (by decide) (by decide)
  exact ⟨TR_fr (TR_sx T S) rfl rfl (by rw [f123]) (by rw [f123]) (F _ (by decide) (by decide) (by decide)) (F _ (by decide) (by decide) (by decide)) (F _ (by decide) (by decide) (by decide)), LR_fr (LR_sx L S) (fun _ _ _ => rfl) rfl rfl (fun a x y _ => F a (by omega) (by omega) (by omega)) (by rw [f123]) (by rw [f123]), DN_fr D (sx24 S) (sx25 S) (F _ (by decide) (by decide) (by decide)), WIT_fr W (s _ (by decide) (by decide) (by decide) (by decide) (by decide) (by decide) (by decide) (by decide) (by decide)) (s _ (by decide) (by decide) (by decide) (by decide) (by decide) (by decide) (by decide) (by decide) (by decide)) (s _ (by decide) (by decide) (by decide) (by decide) (by decide) (by decide) (by decide) (by decide) (by decide)) (by rw [f123]) (by rw [f123]) (F _ (by decide) (by decide) (by decide)) (F _ (by decide) (by decide) (by decide)) (F _ (by decide) (by decide) (by decide)) (F _ (by decide) (by decide) (by decide)) (F _ (by decide) (by decide) (by decide)) (F _ (by decide) (by decide) (by decide))⟩
theorem INV_ctx {G : Nat} {c m : SI} (h : INV G c m) : ∃ (H B : Nat) (LL : List LW) (hd : Int32), CTX H B LL hd c m := by
  obtain ⟨H, B, LL, hd, g, n, x, gs, h1, h2, h3, h4, h5, h6, h7, h8, h9, h10⟩ := h
  exact ⟨H, B, LL, hd, h2, h3, DAY_DN h4, h10⟩
noncomputable def sF (LL : List LW) (hd : Int32) (m : SI) (h : Nat) (g t : Int32) : Int32 := SV LL hd (f12_isThankful m (nI h)) g t 0 (f12_stepsTo m (-1) (nI h)) (m 140 12)
theorem first {H B : Nat} {LL : List LW} {hd : Int32} {c m : SI} {h k : Nat} {t : Int32} (X : CTX H B LL hd c m) (hh : h < H) (hk : k ≤ 30) (ht : Bnd t 0 99) : Bnd (sF LL hd m h (nI k) t) 0 60 ∧ ∃ c' m', f11_standsFirst c (nI h) (nI k) t = (sF LL hd m h (nI k) t, c') ∧ f12_standsFirst m (nI h) (nI k) t = (sF LL hd m h (nI k) t, m') ∧ o12_standsFirst m (nI h) (nI k) t ∧ SC c c' ∧ FM m m' := by
  obtain ⟨T, L, D, W⟩ := X
  have hH := T.1
  have q4 := (T.2.2.2.2.2.2.2.2.2.2.2.1 h hh).2.2.2
  have hg : Bnd (nI k) 0 100 := nI_bnd (by omega) (by omega)
  obtain ⟨d1, d2, d3⟩ := dist (p := -1) T (Or.inl rfl) hh
  have rd : R6 (f12_stepsTo m (-1) (nI h)) := bnd_r6 d3 (by decide) (by decide)
  have ry : R6 (m 140 12) := bnd_r6 D.2.2.2.2.2.2.2.1.2 (by decide) (by decide)
  have rt : R6 t := bnd_r6 ht (by decide) (by decide)
  obtain ⟨c', e1, S⟩ := stand_c (LL := LL) (hd := hd) (th := f12_isThankful m (nI h)) (g := nI k) (t := t) (n := 0) (d := f12_stepsTo m (-1) (nI h)) (y := m 140 12) L (bnd_r6 hg (by decide) (by decide)) rt r6_0 rd ry
  obtain ⟨m', e2, o, F⟩ := stand_m (LL := LL) (hd := hd) (c := c) (h := h) (n := 0) (by omega) q4 L hg rt r6_0 rd ry
  refine ⟨SV_bnd hg, c', m', ?_, e2, ⟨d2, o, trivial⟩, S, F⟩
  unfold f11_standsFirst
  rw [(thank_c T hh).1, d1, D.2.2.2.2.2.2.2.1.1, e1]
  rfl
theorem three_at {i : Nat} (h : i < 1000) : nI i * 3 = nI (3 * i) ∧ nI i * 3 + 1 = nI (3 * i + 1) ∧ nI i * 3 + 2 = nI (3 * i + 2) := by
  have e : nI i * 3 = nI (3 * i) := by rw [show (3 : Int32) = nI 3 from rfl, show nI i * nI 3 = nI (i * 3) from pk_mul _ _, Nat.mul_comm]
  rw [e, nI_1]
  exact ⟨rfl, rfl, nI_add _ 2⟩
theorem fit_in {H B : Nat} {LL : List LW} {hd : Int32} {h k a : Nat} (hh : h < H) (hk : k ≤ 30) : ∀ (fu v : Nat) (c m : SI), CTX H B LL hd c m → c 33 2 = nI a → a ≤ 10 → v ≤ a → a < v + fu → ∃ r c' m', f11_isFitting_c2 (nI h) (nI k) fu (nI v) c = (r, c') ∧ f12_isGrief_c2 (nI h) (nI k) fu (nI v) m = (r, m') ∧ o12_isGrief_c2 (nI h) (nI k) fu (nI v) m ∧ SC c c' ∧ FM m m' := by
  intro fu
  induction fu with
  | zero => intro v c m _ _ _ h1 h2; omega
  | succ fu ih =>
    intro v c m X ea ha h1 h2
    obtain ⟨a', ha', w1, w2, w3⟩ := X.2.2.2.1
    have eaa : a' = a := (nI_eq (a := a') (b := a) (by omega) (by omega)).mp (w1.symm.trans ea)
    subst eaa
    rw [f11_isFitting_c2, f12_isGrief_c2, o12_isGrief_c2, w2]
    have es : f10_stoods c = nI a' := w1
    rw [es]
    by_cases q : v = a'
    · subst q
      rw [if_pos (nI_le (Nat.le_refl _) (by omega)), if_pos (nI_le (Nat.le_refl _) (by omega)), if_pos (nI_le (Nat.le_refl _) (by omega))]
      exact ⟨true, c, m, rfl, rfl, trivial, SC_rf c, FM_rf m⟩
    · have hv : v < a' := by omega
      obtain ⟨x1, x2, x3⟩ := three_at (i := v) (by omega)
      obtain ⟨y1, y2, y3, y4⟩ := w3 v hv
      have vp := vp_in_nI (n := v) (N := 10) (by omega) (by decide)
      have eh : f10_stoodHouse c (nI v) = m 145 v := by unfold f10_stoodHouse; rw [x1, cell_at (by omega) (by decide)]; exact y1
      have et : f10_stoodTime c (nI v) = m 146 v := by unfold f10_stoodTime; rw [x2, cell_at (by omega) (by decide)]; exact y2
      rw [if_neg (nI_ge hv (by omega)), if_neg (nI_ge hv (by omega)), if_neg (nI_ge hv (by omega)), nI_clamp (by omega), eh, et, nI_1]
      by_cases u : m 145 v = nI h
      · rw [if_pos u, if_pos u, if_pos u]
        obtain ⟨_, c1, m1, e1, e2, o, S, F⟩ := first (t := m 146 v) X hh hk y4
        rw [e1, e2]
        dsimp only
        have el : f10_stoodLong c1 (nI v) = m 147 v := by unfold f10_stoodLong; rw [x3, cell_at (by omega) (by decide), S.1 34 (by decide) (by decide)]; exact y3
        have e147 : m1 147 = m 147 := F 147 (by decide) (by decide)
        simp only [el, e147]
        by_cases z : sF LL hd m h (nI k) (m 146 v) = m 147 v
        · rw [if_pos z, if_pos z, if_pos z]
          obtain ⟨r, c', m', i1, i2, i3, i4, i5⟩ := ih (v + 1) c1 m1 (CTX_fr X (SC_SX S) (FM_FA F)) (by rw [S.1 33 (by decide) (by decide)]; exact ea) ha (by omega) (by omega)
          exact ⟨r, c', m', i1, i2, ⟨vp, vp, o, vp, i3⟩, SC_tr S i4, FM_tr F i5⟩
        · rw [if_neg z, if_neg z, if_neg z]
          exact ⟨false, c1, m1, rfl, rfl, ⟨vp, vp, o, vp, trivial⟩, S, F⟩
      · rw [if_neg u, if_neg u, if_neg u]
        obtain ⟨r, c', m', i1, i2, i3, i4, i5⟩ := ih (v + 1) c m X ea ha (by omega) (by omega)
        exact ⟨r, c', m', i1, i2, ⟨vp, i3⟩, i4, i5⟩
theorem fit {H B : Nat} {LL : List LW} {hd : Int32} {h k : Nat} {c m : SI} (hh : h < H) (hk : k ≤ 30) (X : CTX H B LL hd c m) : ∃ r c' m', f11_isFitting c (nI h) (nI k) = (r, c') ∧ f12_isGrief m (nI h) (nI k) = (r, m') ∧ o12_isGrief m (nI h) (nI k) ∧ SC c c' ∧ FM m m' := by
  obtain ⟨a, ha, w1, w2, w3⟩ := X.2.2.2.1
  have es : f10_stoods c = nI a := w1
  unfold f11_isFitting f12_isGrief o12_isGrief
  rw [es, w2, fu_bd (by omega)]
  exact fit_in hh hk (a + 1) 0 c m X w1 ha (Nat.zero_le _) (by omega)
theorem fits_in {H B : Nat} {LL : List LW} {hd : Int32} {h : Nat} {z : Int32} (hh : h < H) : ∀ (fu k n : Nat) (c m : SI), CTX H B LL hd c m → n ≤ k → k ≤ 31 → 31 < k + fu → ∃ r c' m', f11_fits_c18 (nI h) z fu (nI n) (nI k) c = (r, c') ∧ f12_fits_c20 (nI h) z fu (nI n) (nI k) m = (r, m') ∧ o12_fits_c20 (nI h) z fu (nI n) (nI k) m ∧ SC c c' ∧ FM m m' ∧ (z < -1 → r = -1) := by
  have zn : z < -1 → ∀ n, n < 300 → ¬ nI n = z := fun hz n hn e => by
    rw [← e, lt_ti, nI_toInt (by omega), ti_m1] at hz
    omega
  intro fu
  induction fu with
  | zero => intro k n c m _ _ h1 h2; omega
  | succ fu ih =>
    intro k n c m X hn h1 h2
    rw [f11_fits_c18, f12_fits_c20, o12_fits_c20]
    by_cases q : k = 31
    · subst q
      have lt : (30 : Int32) < nI 31 := by decide
      rw [if_pos lt, if_pos lt, if_pos lt]
      by_cases u : z = -1
      · rw [if_pos u, if_pos u, if_pos u]
        exact ⟨_, c, m, rfl, rfl, trivial, SC_rf c, FM_rf m, fun hz => by rw [u] at hz; exact absurd hz (by decide)⟩
      · rw [if_neg u, if_neg u, if_neg u]
        exact ⟨_, c, m, rfl, rfl, trivial, SC_rf c, FM_rf m, fun _ => rfl⟩
    · have nlt : ¬ (30 : Int32) < nI k := nI_nlt (a := 30) (b := k) (by omega) (by decide)
      rw [if_neg nlt, if_neg nlt, if_neg nlt, nI_1, nI_1]
      obtain ⟨r, c1, m1, e1, e2, o, S, F⟩ := fit (k := k) hh (by omega) X
      rw [e1, e2]
      dsimp only
      have X1 := CTX_fr X (SC_SX S) (FM_FA F)
      by_cases hr : r = true
      · rw [if_pos hr, if_pos hr, if_pos hr]
        by_cases u : nI n = z
        · rw [if_pos u, if_pos u, if_pos u]
          exact ⟨_, c1, m1, rfl, rfl, ⟨o, trivial⟩, S, F, fun hz => absurd u (zn hz n (by omega))⟩
        · rw [if_neg u, if_neg u, if_neg u]
          obtain ⟨r', c', m', i1, i2, i3, i4, i5, i6⟩ := ih (k + 1) (n + 1) c1 m1 X1 (by omega) (by omega) (by omega)
          exact ⟨r', c', m', i1, i2, ⟨o, i3⟩, SC_tr S i4, FM_tr F i5, i6⟩
      · rw [if_neg hr, if_neg hr, if_neg hr]
        obtain ⟨r', c', m', i1, i2, i3, i4, i5, i6⟩ := ih (k + 1) n c1 m1 X1 (by omega) (by omega) (by omega)
        exact ⟨r', c', m', i1, i2, ⟨o, i3⟩, SC_tr S i4, FM_tr F i5, i6⟩
theorem t_fits {G : Nat} {c m : SI} (I : INV G c m) (x z : Int32) : RUN G (f11_fits c x z) (f12_fits m x z) (o12_fits m x z) := by
  obtain ⟨H, B, LL, hd, X⟩ := INV_ctx I
  unfold f11_fits f12_fits o12_fits
  rw [show fu1 ((Int32.toInt (30 : Int32) + 1 - Int32.toInt (0 : Int32)).toNat) = 32 from fu_bdE (a := 30) (by decide)]
  rcases hse_or X.1 x with ⟨h, hh, rfl, y1, y2⟩ | ⟨y1, y2, _⟩
  · rw [y1, y2, if_pos rfl, if_pos rfl, if_pos rfl]
    obtain ⟨r, c', m', i1, i2, i3, S, F, i6⟩ := fits_in (z := z) hh 32 0 0 c m X (Nat.le_refl _) (by omega) (by omega)
    rw [show f11_fits_c18 (nI h) z 32 0 0 c = _ from i1]
    by_cases q : -1 ≤ z
    · rw [if_pos q, if_pos q, show f12_fits_c20 (nI h) z 32 0 0 m = _ from i2]
      exact ⟨rfl, i3, INV_sx I (SC_SX S) F⟩
    · rw [if_neg q, if_neg q]
      exact ⟨i6 (by rw [le_ti] at q; rw [lt_ti]; omega), trivial, INV_sx I (SC_SX S) (FM_rf m)⟩
  · rw [y1, y2, if_neg Bool.false_ne_true, if_neg Bool.false_ne_true, if_neg Bool.false_ne_true]; exact ⟨rfl, trivial, I⟩
def TAL (c m : SI) : Prop := ∀ w, w < 61 → c 40 w = m 148 w
theorem al_in {H B : Nat} {LL : List LW} {hd : Int32} {h : Nat} {t : Int32} (hh : h < H) (ht : Bnd t 0 99) : ∀ (fu k : Nat) (v : Int32) (c m : SI), CTX H B LL hd c m → TAL c m → k ≤ 31 → 31 < k + fu → ∃ r c' m', f11_mostAlike_c29 (nI h) t (fun y1_3 _ σk1 => (y1_3, σk1)) fu v (nI k) c = (r, c') ∧ f12_mostAlike_c26 (nI h) t (fun y1_3 _ σk1 => (y1_3, σk1)) fu v (nI k) m = (r, m') ∧ o12_mostAlike_c26 (nI h) t (fun _ _ _ => True) fu v (nI k) m ∧ SX c c' ∧ FA m m' := by
  intro fu
  induction fu with
  | zero => intro k v c m _ _ h1 h2; omega
  | succ fu ih =>
    intro k v c m X A h1 h2
    rw [f11_mostAlike_c29, f12_mostAlike_c26, o12_mostAlike_c26]
    by_cases q : k = 31
    · subst q
      have lt : (30 : Int32) < nI 31 := by decide
      rw [if_pos lt, if_pos lt, if_pos lt]
      exact ⟨_, c, m, rfl, rfl, trivial, SX_rf c, FA_rf m⟩
    · have nlt : ¬ (30 : Int32) < nI k := nI_nlt (a := 30) (b := k) (by omega) (by decide)
      rw [if_neg nlt, if_neg nlt, if_neg nlt, nI_1]
      obtain ⟨r, c1, m1, e1, e2, o, S, F⟩ := fit (k := k) hh (by omega) X
      rw [e1, e2]
      dsimp only
      have X1 := CTX_fr X (SC_SX S) (FM_FA F)
      have A1 : TAL c1 m1 := fun w hw => by rw [S.1 40 (by decide) (by decide), F 148 (by decide) (by decide)]; exact A w hw
      by_cases hr : r = true
      · rw [if_pos hr, if_pos hr, if_pos hr]
        obtain ⟨bb, c2, m2, e3, e4, o2, S2, F2⟩ := first (k := k) (t := t) X1 hh (by omega) ht
        obtain ⟨s, hs, es⟩ := bnd_nI (hi := 60) bb
        rw [e3, e4, es]
        dsimp only
        have vp := vp_in_nI (n := s) (N := 61) (by omega) (by decide)
        have A2 : TAL c2 m2 := fun w hw => by rw [S2.1 40 (by decide) (by decide), F2 148 (by decide) (by decide)]; exact A1 w hw
        have et : f11_tallied c2 (nI s) = (m2 148 s + 1, sp c2 40 s (m2 148 s + 1)) := by
          unfold f11_tallied
          rw [if_neg (nI_pos (by omega)), if_pos (show nI s < 61 from nI_lt (b := 61) (by omega) (by decide)), nI_clamp (by omega), A2 s (by omega)]
          dsimp only
          rw [sp_r]
        rw [et, nI_clamp (by omega), sp_r]
        dsimp only
        have X3 : CTX H B LL hd (sp c2 40 s (m2 148 s + 1)) (sp m2 148 s (m2 148 s + 1)) := CTX_fr (CTX_fr X1 (SC_SX S2) (FM_FA F2)) (SX_sp (by decide)) (fun a x y z => sp_n z)
        have A3 : TAL (sp c2 40 s (m2 148 s + 1)) (sp m2 148 s (m2 148 s + 1)) := fun w hw => by
          rw [sp_s, sp_s]
          by_cases e : w = s
          · subst e; rw [upd_s, upd_s]
          · rw [upd_n _ _ e, upd_n _ _ e]; exact A2 w hw
        obtain ⟨r', c', m', i1, i2, i3, i4, i5⟩ := ih (k + 1) (if v < m2 148 s + 1 then m2 148 s + 1 else v) _ _ X3 A3 (by omega) (by omega)
        exact ⟨r', c', m', i1, i2, ⟨o, o2, vp, vp, vp, i3⟩, SX_tr (SX_tr (SC_SX S) (SC_SX S2)) (SX_tr (SX_sp (by decide)) i4), FA_tr (FA_tr (FM_FA F) (FM_FA F2)) (FA_tr (fun a x y z => sp_n z) i5)⟩
      · rw [if_neg hr, if_neg hr, if_neg hr]
        obtain ⟨r', c', m', i1, i2, i3, i4, i5⟩ := ih (k + 1) v c1 m1 X1 A1 (by omega) (by omega)
        exact ⟨r', c', m', i1, i2, ⟨o, i3⟩, SX_tr (SC_SX S) i4, FA_tr (FM_FA F) i5⟩
theorem clr_c (x t : Int32) : ∀ (fu v : Nat) (c : SI), (∀ w, w < v → c 40 w = 0) → v ≤ 61 → 61 < v + fu → ∃ c', f11_mostAlike_c2 x t fu (nI v) c = f11_mostAlike_c29 x t (fun y1_3 _ σk1 => (y1_3, σk1)) 32 0 0 c' ∧ SX c c' ∧ (∀ w, w < 61 → c' 40 w = 0) := by
  intro fu
  induction fu with
  | zero => intro v c _ h1 h2; omega
  | succ fu ih =>
    intro v c hz h1 h2
    rw [f11_mostAlike_c2]
    by_cases q : v = 61
    · subst q
      rw [if_pos (show (61 : Int32) ≤ nI 61 by decide), show fu1 ((Int32.toInt (30 : Int32) + 1 - Int32.toInt (0 : Int32)).toNat) = 32 from fu_bdE (a := 30) (by decide)]
      exact ⟨c, rfl, SX_rf c, hz⟩
    · rw [if_neg (show ¬ (61 : Int32) ≤ nI v from nI_ge (b := 61) (by omega) (by decide)), nI_1, nI_clamp (by omega)]
      obtain ⟨c', i1, i2, i3⟩ := ih (v + 1) (sp c 40 v 0) (fun w hw => by
        rw [sp_s]
        by_cases e : w = v
        · subst e; rw [upd_s]
        · rw [upd_n _ _ e]; exact hz w (by omega)) (by omega) (by omega)
      exact ⟨c', i1, SX_tr (SX_sp (by decide)) i2, i3⟩
theorem clr_m (x t : Int32) : ∀ (fu v : Nat) (m : SI), (∀ w, w < v → m 148 w = 0) → v ≤ 61 → 61 < v + fu → ∃ m', f12_mostAlike_c2 x t fu (nI v) m = f12_mostAlike_c26 x t (fun y1_3 _ σk1 => (y1_3, σk1)) 32 0 0 m' ∧ (o12_mostAlike_c26 x t (fun _ _ _ => True) 32 0 0 m' → o12_mostAlike_c2 x t fu (nI v) m) ∧ FA m m' ∧ (∀ w, w < 61 → m' 148 w = 0) := by
  intro fu
  induction fu with
  | zero => intro v c _ h1 h2; omega
  | succ fu ih =>
    intro v m hz h1 h2
    rw [f12_mostAlike_c2, o12_mostAlike_c2]
    by_cases q : v = 61
    · subst q
      rw [if_pos (show (60 : Int32) < nI 61 by decide), if_pos (show (60 : Int32) < nI 61 by decide), show fu1 ((Int32.toInt (30 : Int32) + 1 - Int32.toInt (0 : Int32)).toNat) = 32 from fu_bdE (a := 30) (by decide)]
      exact ⟨m, rfl, fun o => o, FA_rf m, hz⟩
    · have nlt : ¬ (60 : Int32) < nI v := nI_nlt (a := 60) (b := v) (by omega) (by decide)
      rw [if_neg nlt, if_neg nlt, nI_1, nI_clamp (by omega)]
      obtain ⟨m', i1, i2, i3, i4⟩ := ih (v + 1) (sp m 148 v 0) (fun w hw => by
        rw [sp_s]
        by_cases e : w = v
        · subst e; rw [upd_s]
        · rw [upd_n _ _ e]; exact hz w (by omega)) (by omega) (by omega)
      exact ⟨m', i1, fun o => ⟨vp_in_nI (by omega) (by decide), i2 o⟩, FA_tr (fun a x y z => sp_n z) i3, i4⟩
theorem alike {H B : Nat} {LL : List LW} {hd : Int32} {h : Nat} {t : Int32} {c m : SI} (hh : h < H) (ht : Bnd t 0 99) (X : CTX H B LL hd c m) : ∃ r c' m', f11_mostAlike c (nI h) t = (r, c') ∧ f12_mostAlike m (nI h) t = (r, m') ∧ o12_mostAlike m (nI h) t ∧ SX c c' ∧ FA m m' := by
  unfold f11_mostAlike f12_mostAlike o12_mostAlike
  rw [show fu1 ((Int32.toInt (61 : Int32) - Int32.toInt (0 : Int32)).toNat) = 62 from fu_bd (a := 61) (by decide), show fu1 ((Int32.toInt (60 : Int32) + 1 - Int32.toInt (0 : Int32)).toNat) = 62 from fu_bdE (a := 60) (by decide)]
  obtain ⟨c1, e1, S1, z1⟩ := clr_c (nI h) t 62 0 c (fun w hw => by omega) (by omega) (by omega)
  obtain ⟨m1, e2, o2, F1, z2⟩ := clr_m (nI h) t 62 0 m (fun w hw => by omega) (by omega) (by omega)
  obtain ⟨r, c', m', i1, i2, i3, i4, i5⟩ := al_in (LL := LL) (hd := hd) hh ht 32 0 0 c1 m1 (CTX_fr X S1 F1) (fun w hw => by rw [z1 w hw, z2 w hw]) (by omega) (by omega)
  exact ⟨r, c', m', e1.trans i1, e2.trans i2, o2 i3, SX_tr S1 i4, FA_tr F1 i5⟩
theorem ask_in {H B : Nat} {LL : List LW} {hd : Int32} {t : Int32} (ht : Bnd t 0 99) : ∀ (fu j : Nat) (v w : Int32) (c m : SI), CTX H B LL hd c m → j ≤ H → H < j + fu → ∃ r c' m', f11_ask_c29 t fu v w (nI j) c = (r, c') ∧ f12_ask_c26 t fu v w (nI j) m = (r, m') ∧ o12_ask_c26 t fu v w (nI j) m ∧ SX c c' ∧ FA m m' := by
  intro fu
  induction fu with
  | zero => intro j v w c m _ h1 h2; omega
  | succ fu ih =>
    intro j v w c m X h1 h2
    have T := X.1
    have hH := T.1
    rw [f11_ask_c29, f12_ask_c26, o12_ask_c26, hou_c T, hou_m T]
    by_cases q : j = H
    · subst q
      rw [if_pos (nI_le (Nat.le_refl _) (by omega)), if_pos (nI_le (Nat.le_refl _) (by omega)), if_pos (nI_le (Nat.le_refl _) (by omega))]
      exact ⟨_, c, m, rfl, rfl, trivial, SX_rf c, FA_rf m⟩
    · have hj : j < H := by omega
      rw [if_neg (nI_ge hj (by omega)), if_neg (nI_ge hj (by omega)), if_neg (nI_ge hj (by omega)), nI_1]
      obtain ⟨r, c1, m1, e1, e2, o, S, F⟩ := alike (t := t) hj ht X
      rw [e1, e2]
      dsimp only
      have nx := fun (v w : Int32) => ih (j + 1) v w c1 m1 (CTX_fr X S F) (by omega) (by omega)
      by_cases u : r ≤ 0
      · rw [if_pos u, if_pos u, if_pos u]
        obtain ⟨r', c', m', i1, i2, i3, i4, i5⟩ := nx v w
        exact ⟨r', c', m', i1, i2, ⟨o, i3⟩, SX_tr S i4, FA_tr F i5⟩
      · rw [if_neg u, if_neg u, if_neg u]
        by_cases u2 : v = -1
        · rw [if_pos u2, if_pos u2, if_pos u2]
          obtain ⟨r', c', m', i1, i2, i3, i4, i5⟩ := nx (nI j) r
          exact ⟨r', c', m', i1, i2, ⟨o, i3⟩, SX_tr S i4, FA_tr F i5⟩
        · rw [if_neg u2, if_neg u2, if_neg u2]
          by_cases u3 : w ≤ r
          · rw [if_pos u3, if_pos u3, if_pos u3]
            obtain ⟨r', c', m', i1, i2, i3, i4, i5⟩ := nx v w
            exact ⟨r', c', m', i1, i2, ⟨o, i3⟩, SX_tr S i4, FA_tr F i5⟩
          · rw [if_neg u3, if_neg u3, if_neg u3]
            obtain ⟨r', c', m', i1, i2, i3, i4, i5⟩ := nx (nI j) r
            exact ⟨r', c', m', i1, i2, ⟨o, i3⟩, SX_tr S i4, FA_tr F i5⟩
theorem t_ask {G : Nat} {c m : SI} (I : INV G c m) (x : Int32) : RUN G (f11_ask c x) (f12_ask m x) (o12_ask m x) := by
  obtain ⟨H, B, LL, hd, X⟩ := INV_ctx I
  have T := X.1
  have hH := T.1
  unfold f11_ask f12_ask o12_ask
  rcases told_c T with ⟨e, hz, hq⟩ | ⟨e, hz, hq⟩
  · rw [e, if_pos rfl, if_neg hq, if_neg hq]
    rcases in_nat (x := x) (k := 99) (by decide) with ⟨j, hj, rfl, i1, i2, i3, _⟩ | ⟨i1, i2⟩ | ⟨i1, i2, i3, i4⟩
    · rw [show f12_in (nI j) 0 99 = true from i1, if_pos rfl, if_pos rfl, if_neg i2, if_pos (show nI j ≤ 99 from i3), hou_c T, hou_m T, fu_bd (by omega)]
      obtain ⟨r, c', m', k1, k2, k3, k4, k5⟩ := ask_in (LL := LL) (hd := hd) (t := nI j) (nI_bnd (by omega) (by omega)) (H + 1) 0 (-1) 0 c m X (by omega) (by omega)
      rw [show f11_ask_c29 (nI j) (H + 1) (-1) 0 0 c = _ from k1, show f12_ask_c26 (nI j) (H + 1) (-1) 0 0 m = _ from k2]
      exact ⟨rfl, k3, INV_k I (SX_KC k4) (FA_KM k5) (Nat.le_refl _)⟩
    · rw [show f12_in x 0 99 = false from i1, if_neg Bool.false_ne_true, if_neg Bool.false_ne_true, if_pos i2]; exact ⟨rfl, trivial, I⟩
    · rw [show f12_in x 0 99 = false from i1, if_neg Bool.false_ne_true, if_neg Bool.false_ne_true, if_neg i2, if_neg (show ¬ x ≤ 99 from i3)]; exact ⟨rfl, trivial, I⟩
  · rw [e, if_neg Bool.false_ne_true, if_pos hq, if_pos hq]; exact ⟨rfl, trivial, I⟩
