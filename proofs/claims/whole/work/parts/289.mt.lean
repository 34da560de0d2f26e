/-! carry -/
theorem INV_up {G G' : Nat} {c m : SI} (h : INV G c m) (hG : G ≤ G') : INV G' c m := INV_k h (KC_rf c) (KM_rf m) hG
theorem IX_sx {G : Nat} {c m c' m' : SI} {H B : Nat} {LL : List LW} {hd : Int32} {g n x : Nat} {gs : Nat → Nat} (h : IX0 G c m H B LL hd g n x gs) (S : SX c c') (F : FM m m') : IX0 G c' m' H B LL hd g n x gs := by
  obtain ⟨C0, C1, C2, C3, C4⟩ := SX_KC S
  obtain ⟨M0, M1⟩ := FM_KM F
  exact IX_none h (Nat.le_refl _) C0 C2 C3 C4 C1 M0 M1
theorem wn_fr {LL : List LW} {hd : Int32} {m m' : SI} {h : Nat} (e1 : m' 138 = m 138) (e2 : m' 140 = m 140) (e3 : m' 137 = m 137) (e4 : m' 123 26 = m 123 26) (e5 : m' 139 = m 139) : wn LL hd m' h = wn LL hd m h := by
  unfold wn
  rw [(st_fr (LL := LL) (hd := hd) (h := h) e1 e2).2.1, (sN_fr (LL := LL) (hd := hd) (g := 0) (w := 0) (h := h) e1 e2).1, e2, e3, str_fr e4 e5]
theorem t_carry {G : Nat} {c m : SI} (I : INV G c m) (hG : G + 1 < 2 ^ 31) (x : Int32) : RUN (G + 1) (f11_carry c x) (f12_carry m x) (o12_carry m x) := by
  obtain ⟨H, B, LL, hd, g, n, y, gs, J⟩ := I
  have J : IX0 G c m H B LL hd g n y gs := J
  have I : INV G c m := IX0_inv J
  have T := J.2.1
  have L := J.2.2.1
  have D : DN H c m := DAY_DN J.2.2.2.1
  have hH := T.1
  unfold f11_carry f12_carry o12_carry
  rcases hse_or T x with ⟨h, hh, rfl, e1, e2⟩ | ⟨e1, e2, _⟩
  · have hz : H ≠ 0 := by omega
    have M := DN_MB D hz
    obtain ⟨m1, w1, w2, F⟩ := whyNot_m (LL := LL) (hd := hd) T L M hh
    have F138 : m1 138 = m 138 := F _ (by decide) (by decide)
    have F140 : m1 140 = m 140 := F _ (by decide) (by decide)
    have wb : f0_wasAt 24 c (nI h) = f12_has (m 140 11) (nI h) := by
      unfold f0_wasAt
      rw [D.2.2.2.2.2.2.1]
      exact bit_same (by omega)
    have p24 : c 24 4 = m 140 10 := (D.2.2.2.2.1 hz).1
    rw [e1, if_pos rfl, w1, wb, p24]
    dsimp only
    rcases wn_cases LL hd m h with ⟨w, n1, n2, n3, n4⟩ | ⟨w, n1⟩ | ⟨w, n1, n2, n3⟩
    · rw [w, (ref_none m1).1]
      dsimp only
      rw [if_neg n1, if_neg n2, if_neg Bool.false_ne_true, if_neg Bool.false_ne_true]
      obtain ⟨LI, X2, E2, E3⟩ := setOut_c D hz
      obtain ⟨c1, S, u⟩ := comes_c (LL := LL) (hd := hd) (TR_sx T X2) (LR_sx L X2) M LI hh
      rcases u with ⟨_, v1, v3, v4, v5, v6, v7, v8⟩ | ⟨v, _⟩
      · rw [v1]
        dsimp only
        rw [if_pos rfl]
        have J1 := IX_sx J (SX_tr X2 (LTS_SX S)) F
        obtain ⟨c2, m2, n', x', gs', k1, k2, k3, J2, k5, k6, k7, k8, k9⟩ := keep_both J1
        rw [k1, k2]
        have q138 : m2 138 = m 138 := (k8 138 (by decide) (by decide)).trans F138
        have q140 : m2 140 = m 140 := (k8 140 (by decide) (by decide)).trans F140
        have q137 : m2 137 = m 137 := (k8 137 (by decide) (by decide)).trans (F _ (by decide) (by decide))
        have q139 : m2 139 = m 139 := (k8 139 (by decide) (by decide)).trans (F _ (by decide) (by decide))
        have q26 : m2 123 26 = m 123 26 := (k9 26 (by decide)).trans (by rw [F 123 (by decide) (by decide)])
        have st2 := st_fr (LL := LL) (hd := hd) (h := h) q138 q140
        have sd2 := (sN_fr (LL := LL) (hd := hd) (g := 0) (w := 0) (h := h) q138 q140).1
        have c32 : c2 32 = c1 32 := k7 32 (by decide) (by omega)
        obtain ⟨c3, m3, gs3, a1, a2, a3, a4⟩ := arrive J2 hG k5 k6 hh ((wn_fr q138 q140 q137 q26 q139).trans w) (by rw [c32, v3]) (by rw [c32, v4, st2.2.1]) (by rw [c32, v5, q140, sd2]) (by rw [c32, v6, q140]) (by rw [c32, v7, st2.1]) (by rw [c32, v8, st2.2.2])
        rw [a1, a2]
        exact ⟨rfl, ⟨w2, (ref_none m1).2, k3, a3, trivial⟩, IX0_inv a4⟩
      · exact absurd w v
    · obtain ⟨c', m', r1, r2, o, V⟩ := ref_both (INV_sx I (SX_rf c) F) (s := 2) (by decide)
      rw [w, show f12_isRefused m1 2 = _ from r2]
      dsimp only
      rw [if_pos rfl, if_pos rfl]
      by_cases a1 : m 140 10 = nI h
      · rw [if_pos a1, show f11_refused c 2 = _ from r1]
        exact ⟨rfl, ⟨w2, o, trivial⟩, INV_up V (Nat.le_succ _)⟩
      · rw [if_neg a1]
        rcases n1 with n1 | n1
        · exact absurd n1 a1
        · rw [if_pos n1, show f11_refused c 2 = _ from r1]
          exact ⟨rfl, ⟨w2, o, trivial⟩, INV_up V (Nat.le_succ _)⟩
    · rw [w, if_neg n1, if_neg n2]
      obtain ⟨LI, X2, E2, E3⟩ := setOut_c D hz
      obtain ⟨c1, S, u⟩ := comes_c (LL := LL) (hd := hd) (TR_sx T X2) (LR_sx L X2) M LI hh
      rcases u with ⟨v, _⟩ | ⟨_, v1, _⟩
      · rw [w] at v; exact absurd v (by decide)
      · rw [v1]
        dsimp only
        rw [if_neg Bool.false_ne_true]
        obtain ⟨c', m', r1, r2, o, V⟩ := ref_both (INV_sx I (SX_tr X2 (LTS_SX S)) F) (s := 4) (by decide)
        rw [show f11_refused c1 4 = _ from r1, show f12_isRefused m1 4 = _ from r2]
        dsimp only
        rw [if_pos rfl, if_pos rfl]
        exact ⟨rfl, ⟨w2, o, trivial⟩, INV_up V (Nat.le_succ _)⟩
  · obtain ⟨w1, w2⟩ := whyNot_no (H := H) (B := B) (c := c) e2
    obtain ⟨c', m', r1, r2, o, V⟩ := ref_both I (s := 0) (by decide)
    rw [e1, if_neg Bool.false_ne_true, w1]
    dsimp only
    rw [show f11_refused c 0 = _ from r1, show f12_isRefused m 0 = _ from r2]
    dsimp only
    rw [if_pos rfl, if_pos rfl]
    exact ⟨rfl, ⟨w2, o, trivial⟩, INV_up V (Nat.le_succ _)⟩
/-! decades: drawn acts -/
noncomputable def nx (t : Int64) : Int64 := t * (6364136223846793005 : Int64) + (1442695040888963407 : Int64)
noncomputable def dv (t : Int64) (x : Int32) : Int32 := Int64.toInt32 (((Int64.toUInt64 t >>> ((Int32.toInt64 (33 : Int32)).toUInt64 &&& Int64.toUInt64 63)).toInt64) - ((Int64.toUInt64 t >>> ((Int32.toInt64 (33 : Int32)).toUInt64 &&& Int64.toUInt64 63)).toInt64) / (Int32.toInt64 x) * (Int32.toInt64 x))
theorem shr33 (t : Int64) : ∃ a, a < 2 ^ 31 ∧ (Int64.toUInt64 t >>> ((Int32.toInt64 (33 : Int32)).toUInt64 &&& Int64.toUInt64 63)).toInt64 = lN a := by
  have hs : ((Int32.toInt64 (33 : Int32)).toUInt64 &&& Int64.toUInt64 63) = 33 := by decide +kernel
  rw [hs]
  refine ⟨(t.toUInt64 >>> 33).toNat, ?_, ?_⟩
  · rw [UInt64.toNat_shiftRight]
    have := t.toUInt64.toNat_lt
    rw [show (33 : UInt64).toNat % 64 = 33 from rfl, Nat.shiftRight_eq_div_pow]
    omega
  · exact congrArg UInt64.toInt64 (UInt64.ofNat_toNat).symm
theorem dv_in (t : Int64) {H : Nat} (h0 : 0 < H) (hH : H < 1000) : ∃ k, k < H ∧ dv t (nI H) = nI k := by
  obtain ⟨a, ha, e⟩ := shr33 t
  have hle : a / H * H ≤ a := Nat.div_mul_le_self a H
  have hm := Nat.mod_lt a h0
  have hd := Nat.div_add_mod a H
  rw [Nat.mul_comm] at hd
  refine ⟨a % H, hm, ?_⟩
  unfold dv
  rw [e, nI_l (by omega), lN_div (by omega) (by omega), lN_mul, lN_sub hle, lN_i]
  rw [show a - a / H * H = a % H by omega]
theorem draw_c (τ : SL) {x : Int32} (h : 0 < x) : f11_draw τ x = (dv (nx (τ 0)) x, sl τ 0 (nx (τ 0))) := by
  unfold f11_draw
  dsimp only
  rw [if_pos h, sl_s]
  rfl
theorem draw_m (τ : SL) (x : Int32) : f12_draw τ x = (dv (nx (τ 123)) x, sl τ 123 (nx (τ 123))) := by
  unfold f12_draw
  dsimp only
  rw [sl_s]
  rfl
theorem odraw {x : Int32} (τ : SL) (h : 0 < x) : o12_draw τ x := by
  unfold o12_draw
  exact ⟨i2l_ne h, trivial⟩
theorem da_1 {m : SI} {τ t : SL} {d : Int32} (e : f12_draw τ 10 = (d, t)) (b : m 123 30 ≤ d) (y : (999 : Int32) ≤ m 140 12) : f12_drawAct m τ = (false, m, t) ∧ o12_drawAct m τ := by
  unfold f12_drawAct o12_drawAct
  rw [e]
  dsimp only
  rw [if_pos b, if_pos b, if_pos y, if_pos y]
  exact ⟨rfl, odraw _ (by decide), trivial⟩
theorem da_2 {m m2 : SI} {τ t : SL} {d : Int32} (e : f12_draw τ 10 = (d, t)) (b : m 123 30 ≤ d) (y : ¬ (999 : Int32) ≤ m 140 12) (e2 : f12_passYear m = m2) (o : o12_passYear m) : f12_drawAct m τ = (false, m2, t) ∧ o12_drawAct m τ := by
  unfold f12_drawAct o12_drawAct
  rw [e]
  dsimp only
  rw [if_pos b, if_pos b, if_neg y, if_neg y, e2]
  exact ⟨rfl, odraw _ (by decide), o, trivial⟩
theorem da_3 {m m1 m2 : SI} {τ t t' : SL} {d k v : Int32} (e : f12_draw τ 10 = (d, t)) (b : ¬ m 123 30 ≤ d) (e2 : f12_draw t (m 123 25) = (k, t')) (o2 : o12_draw t (m 123 25)) (p2 : f12_whyNot m k = (-1, m1)) (p3 : o12_whyNot m k) (p4 : f12_carryLogged m1 k = (v, m2)) (p5 : o12_carryLogged m1 k) : f12_drawAct m τ = (true, m2, t') ∧ o12_drawAct m τ := by
  unfold f12_drawAct o12_drawAct
  rw [e]
  dsimp only
  rw [if_neg b, if_neg b, e2]
  dsimp only
  rw [p2]
  dsimp only
  rw [if_pos rfl, if_pos rfl, p4]
  exact ⟨rfl, odraw _ (by decide), o2, p3, p5, trivial⟩
theorem da_4 {m m1 : SI} {τ t t' : SL} {d k w : Int32} (e : f12_draw τ 10 = (d, t)) (b : ¬ m 123 30 ≤ d) (e2 : f12_draw t (m 123 25) = (k, t')) (o2 : o12_draw t (m 123 25)) (hw : w ≠ -1) (p2 : f12_whyNot m k = (w, m1)) (p3 : o12_whyNot m k) : f12_drawAct m τ = (false, m1, t') ∧ o12_drawAct m τ := by
  unfold f12_drawAct o12_drawAct
  rw [e]
  dsimp only
  rw [if_neg b, if_neg b, e2]
  dsimp only
  rw [p2]
  dsimp only
  rw [if_neg hw, if_neg hw]
  exact ⟨rfl, odraw _ (by decide), o2, p3, trivial⟩
def JX (H B : Nat) (LL : List LW) (hd : Int32) (G : Nat) (c m : SI) : Prop := ∃ g n x gs, IX0 G c m H B LL hd g n x gs
theorem JX_up {H B : Nat} {LL : List LW} {hd : Int32} {G G' : Nat} {c m : SI} (h : JX H B LL hd G c m) (hG : G ≤ G') : JX H B LL hd G' c m := by
  obtain ⟨g, n, x, gs, J⟩ := h
  exact ⟨g, n, x, gs, IX_none J hG (fun _ _ => rfl) rfl rfl rfl rfl (fun _ _ => rfl) (fun _ _ => rfl)⟩
theorem try_both {G : Nat} {c m : SI} {H B : Nat} {LL : List LW} {hd : Int32} {g n x : Nat} {gs : Nat → Nat} {h : Nat} (J : IX0 G c m H B LL hd g n x gs) (hG : G + 1 < 2 ^ 31) (hn1 : 1 ≤ n) (hl : gs (n - 1) = g) (hh : h < H) : ∃ c' m', JX H B LL hd (G + 1) c' m' ∧ ((f11_triedDoor c (nI h) = (1, c') ∧ ∃ m1 v, f12_whyNot m (nI h) = (-1, m1) ∧ o12_whyNot m (nI h) ∧ f12_carryLogged m1 (nI h) = (v, m') ∧ o12_carryLogged m1 (nI h)) ∨ (f11_triedDoor c (nI h) = (0, c') ∧ ∃ w : Int32, w ≠ -1 ∧ f12_whyNot m (nI h) = (w, m') ∧ o12_whyNot m (nI h))) := by
  have T := J.2.1
  have L := J.2.2.1
  have D : DN H c m := DAY_DN J.2.2.2.1
  have hH := T.1
  have hz : H ≠ 0 := by omega
  have M := DN_MB D hz
  obtain ⟨m1, w1, w2, F⟩ := whyNot_m (LL := LL) (hd := hd) T L M hh
  have F138 : m1 138 = m 138 := F _ (by decide) (by decide)
  have F140 : m1 140 = m 140 := F _ (by decide) (by decide)
  obtain ⟨LI, X2, E2, E3⟩ := setOut_c D hz
  obtain ⟨c1, S, u⟩ := comes_c (LL := LL) (hd := hd) (TR_sx T X2) (LR_sx L X2) M LI hh
  have J1 := IX_sx J (SX_tr X2 (LTS_SX S)) F
  unfold f11_triedDoor
  rcases u with ⟨w, v1, v3, v4, v5, v6, v7, v8⟩ | ⟨w, v1, _⟩
  · have q137 : m1 137 = m 137 := F _ (by decide) (by decide)
    have q139 : m1 139 = m 139 := F _ (by decide) (by decide)
    have q26 : m1 123 26 = m 123 26 := by rw [F 123 (by decide) (by decide)]
    have st2 := st_fr (LL := LL) (hd := hd) (h := h) F138 F140
    have sd2 := (sN_fr (LL := LL) (hd := hd) (g := 0) (w := 0) (h := h) F138 F140).1
    obtain ⟨c3, m3, gs3, a1, a2, a3, a4⟩ := arrive J1 hG hn1 hl hh ((wn_fr F138 F140 q137 q26 q139).trans w) v3 (by rw [v4, st2.2.1]) (by rw [v5, F140, sd2]) (by rw [v6, F140]) (by rw [v7, st2.1]) (by rw [v8, st2.2.2])
    dsimp only
    rw [v1]
    dsimp only
    rw [if_pos rfl, a1]
    rw [w] at w1
    exact ⟨c3, m3, ⟨_, _, _, _, a4⟩, Or.inl ⟨rfl, m1, _, w1, w2, a2, a3⟩⟩
  · dsimp only
    rw [v1]
    dsimp only
    rw [if_neg Bool.false_ne_true]
    exact ⟨c1, m1, JX_up ⟨_, _, _, _, J1⟩ (Nat.le_succ _), Or.inr ⟨rfl, _, w, w1, w2⟩⟩
theorem dec_in {H B : Nat} {LL : List LW} {hd : Int32} {X : Nat} {seed : Int64} (hz : H ≠ 0) (hX : X ≤ 60) : ∀ (fu v : Nat) (w : Int32) (G : Nat) (c m : SI) (τ τ' : SL), JX H B LL hd G c m → v ≤ X → X < v + fu → G + (X - v) + 1 < 2 ^ 31 → τ 0 = τ' 123 → ∃ r c' m' t1 t2, f11_decades_c34 (nI X) seed fu w (nI v) c τ = (r, c', t1) ∧ f12_decades_c30 (nI X) seed fu w (nI v) m τ' = (r, m', t2) ∧ o12_decades_c30 (nI X) seed fu w (nI v) m τ' ∧ JX H B LL hd (G + (X - v)) c' m' := by
  intro fu
  induction fu with
  | zero => intro v w G c m τ τ' _ h1 h2; omega
  | succ fu ih =>
    intro v w G c m τ τ' J h1 h2 hG ht
    rw [f11_decades_c34, f12_decades_c30, o12_decades_c30]
    by_cases q : v = X
    · subst q
      have le : nI v ≤ nI v := nI_le (Nat.le_refl _) (by omega)
      rw [if_pos le, if_pos le, if_pos le]
      exact ⟨w, c, m, τ, τ', rfl, rfl, trivial, JX_up J (Nat.le_add_right _ _)⟩
    · have nle : ¬ nI X ≤ nI v := nI_ge (by omega) (by omega)
      rw [if_neg nle, if_neg nle, if_neg nle]
      obtain ⟨g, n, x, gs, J⟩ := J
      obtain ⟨c1, m1, n', x', gs', k1, k2, k3, J1, k5, k6, k7, k8, k9⟩ := keep_both J
      have T1 := J1.2.1
      have hH := T1.1
      have D1 : DN H c1 m1 := DAY_DN J1.2.2.2.1
      have F1 : FTH c1 m1 := J1.2.2.2.2.2.2.2.1
      have ten : (0 : Int32) < 10 := by decide
      have hpos : (0 : Int32) < nI H := nI_lt (a := 0) (by omega) (by omega)
      have dm : f12_draw τ' 10 = (dv (nx (τ' 123)) 10, sl τ' 123 (nx (τ' 123))) := draw_m τ' 10
      rw [k1, k2, draw_c τ ten, ht]
      generalize dv (nx (τ' 123)) 10 = d0 at dm
      generalize nx (τ' 123) = t0 at dm
      dsimp only
      have e0 : (sl τ 0 t0) 0 = t0 := sl_s _ _ _
      have e1 : (sl τ' 123 t0) 123 = t0 := sl_s _ _ _
      have ht1 : (sl τ 0 t0) 0 = (sl τ' 123 t0) 123 := e0.trans e1.symm
      have hst : G + 1 + (X - (v + 1)) = G + (X - v) := by omega
      by_cases b : m1 123 30 ≤ d0
      · by_cases y : (999 : Int32) ≤ m1 140 12
        · obtain ⟨q1, q2⟩ := da_1 dm b y
          rw [q1]
          dsimp only
          rw [F1.1, if_pos b, D1.2.2.2.2.2.2.2.1.1, if_pos y, if_neg Bool.false_ne_true, if_neg Bool.false_ne_true, nI_1, Int32.add_zero]
          obtain ⟨r, c', m', t1, t2, i1, i2, i3, i4⟩ := ih (v + 1) w (G + 1) c1 m1 (sl τ 0 t0) (sl τ' 123 t0) (JX_up ⟨_, _, _, _, J1⟩ (Nat.le_succ _)) (by omega) (by omega) (by omega) ht1
          rw [hst] at i4
          exact ⟨r, c', m', t1, t2, i1, i2, ⟨k3, q2, i3⟩, i4⟩
        · have t999 : (999 : Int32).toInt = 999 := rfl
          obtain ⟨c2, m2, a1, a2, a3, a4, a5, a6, a7, a8⟩ := year_both T1 D1 hz (by rw [le_ti, t999] at y; omega)
          obtain ⟨q1, q2⟩ := da_2 dm b y a2 a3
          rw [q1]
          dsimp only
          rw [F1.1, if_pos b, D1.2.2.2.2.2.2.2.1.1, if_neg y, if_neg Bool.false_ne_true, if_neg Bool.false_ne_true, nI_1, Int32.add_zero, a1]
          obtain ⟨r, c', m', t1, t2, i1, i2, i3, i4⟩ := ih (v + 1) w (G + 1) c2 m2 (sl τ 0 t0) (sl τ' 123 t0) (JX_up ⟨_, _, _, _, day_step J1 a5 a6 a7 a8 a4⟩ (Nat.le_succ _)) (by omega) (by omega) (by omega) ht1
          rw [hst] at i4
          exact ⟨r, c', m', t1, t2, i1, i2, ⟨k3, q2, i3⟩, i4⟩
      · obtain ⟨k, hk, ek⟩ := dv_in (nx t0) (H := H) (by omega) (by omega)
        have dc2 : f11_draw (sl τ 0 t0) (nI H) = (nI k, sl (sl τ 0 t0) 0 (nx t0)) := by rw [draw_c _ hpos, e0, ek]
        have dm2 : f12_draw (sl τ' 123 t0) (m1 123 25) = (nI k, sl (sl τ' 123 t0) 123 (nx t0)) := by rw [hou_m T1, draw_m, e1, ek]
        have od2 : o12_draw (sl τ' 123 t0) (m1 123 25) := by rw [hou_m T1]; exact odraw _ hpos
        generalize nx t0 = t3 at dc2 dm2
        have ht2 : (sl (sl τ 0 t0) 0 t3) 0 = (sl (sl τ' 123 t0) 123 t3) 123 := (sl_s _ _ _).trans (sl_s _ _ _).symm
        obtain ⟨c2, m2, J2, p⟩ := try_both J1 (by omega) k5 k6 hk
        rcases p with ⟨p1, m3, z, p2, p3, p4, p5⟩ | ⟨p1, z, p2, p3, p4⟩
        · obtain ⟨q1, q2⟩ := da_3 dm b dm2 od2 p2 p3 p4 p5
          rw [q1]
          dsimp only
          rw [F1.1, if_neg b, hou_c T1, dc2]
          dsimp only
          rw [p1]
          dsimp only
          rw [if_pos rfl, if_pos rfl, nI_1]
          obtain ⟨r, c', m', t1, t2, i1, i2, i3, i4⟩ := ih (v + 1) (w + 1) (G + 1) c2 m2 (sl (sl τ 0 t0) 0 t3) (sl (sl τ' 123 t0) 123 t3) J2 (by omega) (by omega) (by omega) ht2
          rw [hst] at i4
          exact ⟨r, c', m', t1, t2, i1, i2, ⟨k3, q2, i3⟩, i4⟩
        · obtain ⟨q1, q2⟩ := da_4 dm b dm2 od2 p2 p3 p4
          rw [q1]
          dsimp only
          rw [F1.1, if_neg b, hou_c T1, dc2]
          dsimp only
          rw [p1]
          dsimp only
          rw [if_neg Bool.false_ne_true, if_neg Bool.false_ne_true, nI_1, Int32.add_zero]
          obtain ⟨r, c', m', t1, t2, i1, i2, i3, i4⟩ := ih (v + 1) w (G + 1) c2 m2 (sl (sl τ 0 t0) 0 t3) (sl (sl τ' 123 t0) 123 t3) J2 (by omega) (by omega) (by omega) ht2
          rw [hst] at i4
          exact ⟨r, c', m', t1, t2, i1, i2, ⟨k3, q2, i3⟩, i4⟩
theorem t_decades {G : Nat} {c m : SI} {τ τ' : SL} (I : INV G c m) (hG : G + 61 < 2 ^ 31) (x : Int32) (seed : Int64) : (f11_decades c τ x seed).1 = (f12_decades m τ' x seed).1 ∧ o12_decades m τ' x seed ∧ INV (G + 60) (f11_decades c τ x seed).2.1 (f12_decades m τ' x seed).2.1 := by
  obtain ⟨H, B, LL, hd, g, n, y, gs, J⟩ := I
  have J : IX0 G c m H B LL hd g n y gs := J
  have I : INV (G + 60) c m := INV_up (IX0_inv J) (Nat.le_add_right _ _)
  have T := J.2.1
  unfold f11_decades f12_decades o12_decades
  rcases told_c T with ⟨e, hz, hq⟩ | ⟨e, hz, hq⟩
  · rw [e, if_pos rfl, if_neg hq, if_neg hq]
    rcases in_nat1 (x := x) (k := 60) (by decide) with ⟨X, h1, hX, rfl, i1, i2, i3, i4⟩ | ⟨i1, i2⟩ | ⟨i1, i2, i3, i4⟩
    · rw [show f12_in (nI X) 1 60 = true from i1, if_pos rfl, if_pos rfl, if_neg i2, if_pos (show nI X ≤ 60 from i3), fu_bd (by omega)]
      dsimp only
      have ht : (sl τ 0 seed) 0 = (sl τ' 123 seed) 123 := by rw [sl_s, sl_s]
      obtain ⟨r, c', m', t1, t2, k1, k2, k3, k4⟩ := dec_in (X := X) (seed := seed) hz hX (X + 1) 0 0 G c m (sl τ 0 seed) (sl τ' 123 seed) ⟨_, _, _, _, J⟩ (Nat.zero_le _) (by omega) (by omega) ht
      have k1' : f11_decades_c34 (nI X) seed (X + 1) 0 0 c (sl τ 0 seed) = (r, c', t1) := k1
      have k2' : f12_decades_c30 (nI X) seed (X + 1) 0 0 m (sl τ' 123 seed) = (r, m', t2) := k2
      rw [k1', k2']
      obtain ⟨g2, n2, x2, gs2, J2⟩ := JX_up k4 (by omega : G + (X - 0) ≤ G + 60)
      exact ⟨rfl, k3, IX0_inv J2⟩
    · rw [show f12_in x 1 60 = false from i1, if_neg Bool.false_ne_true, if_neg Bool.false_ne_true, if_pos i2]; exact ⟨rfl, trivial, I⟩
    · rw [show f12_in x 1 60 = false from i1, if_neg Bool.false_ne_true, if_neg Bool.false_ne_true, if_neg i2, if_neg (show ¬ x ≤ 60 from i3)]; exact ⟨rfl, trivial, I⟩
  · rw [e, if_neg Bool.false_ne_true, if_pos hq, if_pos hq]; exact ⟨rfl, trivial, I⟩
