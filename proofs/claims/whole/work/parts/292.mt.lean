/-! ways through the town: both sides go on; the route call -/
def CHI (H B : Nat) (LL : List LW) (hd : Int32) (deep row u A : Nat) (Gf T : SI → Int32 → Int32 → Int32 → SI) (oT : SI → Int32 → Int32 → Int32 → Prop) : Prop :=
  ∀ (c m : SI) (h2 e2 R K E : Nat) (t : Int32), h2 < 7 → TR H B c m → LR LL hd c m → MB H m → LIT H c m → uv m H + 1 ≤ u → e2 + remS m H ≤ A → BEST R K E t c m → R * 10 ^ (8 - K) ≤ (10 * row + h2) * 10 ^ (7 - deep) → K ≤ 7 → E ≤ 1000 → R < 100000000 →
    ∃ (c' m' : SI) (R' K' E' : Nat) (t' : Int32), Gf (f4_consider c (nI (deep + 1)) (nI (10 * row + h2)) (nI e2)) (nI (deep + 1)) (nI (10 * row + h2)) (nI e2) = c' ∧ T m (nI (deep + 1)) (nI (10 * row + h2)) (nI e2) = m' ∧ oT m (nI (deep + 1)) (nI (10 * row + h2)) (nI e2) ∧ CF2 c c' ∧ RF2 (deep + 1) m m' ∧ BEST R' K' E' t' c' m' ∧ R' * 10 ^ (8 - K') ≤ (10 * row + h2 + 1) * 10 ^ (7 - deep) ∧ K' ≤ 7 ∧ E' ≤ 1000 ∧ R' < 100000000
theorem live_loop {H B : Nat} {LL : List LW} {hd : Int32} {deep row e u A : Nat} {Gf T : SI → Int32 → Int32 → Int32 → SI} {oT : SI → Int32 → Int32 → Int32 → Prop} {x4 p3 p4 p5 p6 : Int32} (hd7 : deep ≤ 7) (IH : CHI H B LL hd deep row u A Gf T oT) :
    ∀ (fu fu' h : Nat) (c m : SI) (R K E : Nat) (t : Int32), h ≤ H → H < h + fu → H < h + fu' → TR H B c m → LR LL hd c m → MB H m → LIT H c m → uv m H = u → e + remS m H = A → BEST R K E t c m → R * 10 ^ (8 - K) ≤ (10 * row + h) * 10 ^ (7 - deep) → K ≤ 7 → E ≤ 1000 → R < 100000000 → SVD m deep → p3 = m 140 10 → p4 = m 140 8 → p5 = m 140 9 → p6 = m 140 11 →
      ∃ (c' m' : SI) (R' K' E' : Nat) (t' : Int32), f4_goOn_c43 Gf (nI deep) (nI row) (nI e) p3 p4 p5 p6 fu (nI h) c = c' ∧ f12_tryRoute_c86 T (nI deep) (nI row) (nI e) x4 fu' (nI h) m = m' ∧ o12_tryRoute_c86 T oT (nI deep) (nI row) (nI e) x4 fu' (nI h) m ∧ CF2 c c' ∧ RF2 (deep + 1) m m' ∧ BEST R' K' E' t' c' m' ∧ R' * 10 ^ (8 - K') ≤ (10 * row + H) * 10 ^ (7 - deep) ∧ K' ≤ 7 ∧ E' ≤ 1000 ∧ R' < 100000000 := by
  intro fu
  induction fu with
  | zero => intro fu' h c m R K E t h1 h2; omega
  | succ fu ih =>
    intro fu' h c m R K E t h1 h2 h2' T0 L M I hu hA hB hp hK hE hR V q3 q4 q5 q6
    obtain ⟨fu', rfl, _⟩ := fu_pos (n := 0) (fu := fu') (by omega)
    have hH := T0.1
    rw [f4_goOn_c43, f12_tryRoute_c86, o12_tryRoute_c86, hou_m T0, hou_c T0]
    by_cases q : h = H
    · subst q
      have le : nI h ≤ nI h := nI_le (Nat.le_refl _) (by omega)
      rw [if_pos le, if_pos le, if_pos le]
      exact ⟨c, m, R, K, E, t, rfl, rfl, trivial, CF2_rf c, RF2_rf _ m, hB, hp, hK, hE, hR⟩
    · have hh : h < H := by omega
      have nle : ¬ nI H ≤ nI h := nI_ge hh (by omega)
      rw [if_neg nle, if_neg nle, if_neg nle, show nI h + 1 = nI (h + 1) from nI_add h 1]
      have mono : (10 * row + h) * 10 ^ (7 - deep) ≤ (10 * row + (h + 1)) * 10 ^ (7 - deep) := Nat.mul_le_mul_right _ (by omega)
      have go : ∀ (c3 m3 : SI) (R' K' E' : Nat) (t' : Int32), CF2 c c3 → RF2 (deep + 1) m m3 → LIT H c3 m3 → BEST R' K' E' t' c3 m3 → R' * 10 ^ (8 - K') ≤ (10 * row + (h + 1)) * 10 ^ (7 - deep) → K' ≤ 7 → E' ≤ 1000 → R' < 100000000 → ∃ (c' m' : SI) (R' K' E' : Nat) (t' : Int32), f4_goOn_c43 Gf (nI deep) (nI row) (nI e) p3 p4 p5 p6 fu (nI (h + 1)) c3 = c' ∧ f12_tryRoute_c86 T (nI deep) (nI row) (nI e) x4 fu' (nI (h + 1)) m3 = m' ∧ o12_tryRoute_c86 T oT (nI deep) (nI row) (nI e) x4 fu' (nI (h + 1)) m3 ∧ CF2 c c' ∧ RF2 (deep + 1) m m' ∧ BEST R' K' E' t' c' m' ∧ R' * 10 ^ (8 - K') ≤ (10 * row + H) * 10 ^ (7 - deep) ∧ K' ≤ 7 ∧ E' ≤ 1000 ∧ R' < 100000000 := by
        intro c3 m3 R' K' E' t' C3 F3 I3 B3 hp3 hK3 hE3 hR3
        have e140 : m3 140 = m 140 := F3.1 140 (by decide) (by decide) (by decide) (by decide)
        have e138 : m3 138 = m 138 := F3.1 138 (by decide) (by decide) (by decide) (by decide)
        obtain ⟨c', m', R2, K2, E2, t2, i1, i2, i3, i4, i5, i6⟩ := ih fu' (h + 1) c3 m3 R' K' E' t' (by omega) (by omega) (by omega) (TR_sx (TR_r2 T0 F3) (CF2_SX C3)) (LR_sx (LR_r2 L F3) (CF2_SX C3)) (MB_fr M e140) I3 ((uv_fr e140 H).trans hu) (by rw [rem_fr e138 e140]; exact hA) B3 hp3 hK3 hE3 hR3 (SVD_r2 V F3) (by rw [e140]; exact q3) (by rw [e140]; exact q4) (by rw [e140]; exact q5) (by rw [e140]; exact q6)
        exact ⟨c', m', R2, K2, E2, t2, i1, i2, i3, CF2_tr C3 i4, RF2_tr F3 i5, i6⟩
      by_cases hw : wn LL hd m h = -1
      · obtain ⟨c1, m1, m2, a1, a2, a3, a4, a5, a6, a7, a8, a9, a10, a11, a12, a13, a14⟩ := step_yes (LL := LL) (hd := hd) T0 L M I hh hw
        obtain ⟨z, ez, hz⟩ := cz_nat (LL := LL) (hd := hd) (B := B) M hh hH hw
        have er : ((10 : Int32) * nI row) + nI h = nI (10 * row + h) := by rw [show (10 : Int32) = nI 10 from rfl, show nI 10 * nI row = nI (10 * row) from pk_mul _ _, nI_add]
        have er2 : (nI row * (10 : Int32)) + nI h = nI (10 * row + h) := by rw [show (10 : Int32) = nI 10 from rfl, show nI row * nI 10 = nI (row * 10) from pk_mul _ _, nI_add, Nat.mul_comm]
        have rem := rem_CN a7 hH hh H (Nat.le_refl _)
        rw [if_pos hh] at rem
        obtain ⟨⟨c9, c10, c11, c12⟩, ⟨b1, b2, b3⟩, b4⟩ := hB
        have m123 : m2 123 = m 123 := a7.1 123 (by decide) (by decide) (by decide)
        have B1 : BEST R K E t c1 m2 := ⟨⟨(a8.2.2.2 9 (by decide) (by decide) (by decide) (by decide) (by decide) (by decide)).trans c9, (a8.2.2.2 10 (by decide) (by decide) (by decide) (by decide) (by decide) (by decide)).trans c10, (a8.2.2.2 11 (by decide) (by decide) (by decide) (by decide) (by decide) (by decide)).trans c11, (a8.2.2.2 12 (by decide) (by decide) (by decide) (by decide) (by decide) (by decide)).trans c12⟩, ⟨by rw [m123]; exact b1, by rw [m123]; exact b2, by rw [m123]; exact b3⟩, by rw [m123]; exact b4⟩
        obtain ⟨c2, m4, R', K', E', t', d1, d2, d3, d4, d5, d6, d7, d8, d9, d10⟩ := IH c1 m2 h (e + z) R K E t (by omega) a13 a14 a12 a11 (by rw [← hu]; exact uv_CN a7 hH hh hw) (by omega) B1 hp hK hE hR
        obtain ⟨m5, f1, f2, f3, f4⟩ := bk2 (s := m2) hd7 a7.1 (fun j hj => a7.2.2.2.2.2.2.2 j (by omega) (by omega) (by omega) (by omega) (by omega) (by omega)) V d5
        rw [a1, a2]
        dsimp only
        rw [if_pos rfl, if_pos rfl, if_pos rfl, a5]
        dsimp only
        rw [a10, ez, nI_add, er, er2, show nI deep + 1 = nI (deep + 1) from nI_add deep 1, d1, d2, f1]
        generalize hs : f4_stay c2 p3 p4 p5 p6 = s3
        have s3a : ∀ a, a ≠ 32 → s3 a = c2 a := fun a x => by rw [← hs]; unfold f4_stay; rw [sp_n x, sp_n x, sp_n x, sp_n x]
        have s3j : ∀ j, 6 < j → s3 32 j = c2 32 j := fun j x => by rw [← hs]; unfold f4_stay; rw [sp_k (by omega), sp_k (by omega), sp_k (by omega), sp_k (by omega)]
        have s3v : s3 32 3 = p3 ∧ s3 32 4 = p4 ∧ s3 32 5 = p5 ∧ s3 32 6 = p6 := by
          rw [← hs]
          unfold f4_stay
          refine ⟨?_, ?_, ?_, ?_⟩
          · rw [sp_k (by decide), sp_k (by decide), sp_k (by decide), sp_r]
          · rw [sp_k (by decide), sp_k (by decide), sp_r]
          · rw [sp_k (by decide), sp_r]
          · rw [sp_r]
        have C3 : CF2 c s3 := CF2_tr (LTS_CF2 a8) (CF2_tr d4 (CF2_32 s3a))
        have e140 : m5 140 = m 140 := f3.1 140 (by decide) (by decide) (by decide) (by decide)
        have I3 : LIT H s3 m5 := by
          unfold LIT
          rw [e140, C3.1 24 (by decide) (by decide) (by decide), C3.1 25 (by decide) (by decide) (by decide), s3v.1, s3v.2.1, s3v.2.2.1, s3v.2.2.2]
          exact ⟨q3, q4, q5, q6, I.2.2.2.2⟩
        have B3 : BEST R' K' E' t' s3 m5 := by
          obtain ⟨⟨g1, g2, g3, g4⟩, ⟨g5, g6, g7⟩, g8⟩ := d6
          exact ⟨⟨(s3j 9 (by decide)).trans g1, (s3j 10 (by decide)).trans g2, (s3j 11 (by decide)).trans g3, (s3j 12 (by decide)).trans g4⟩, ⟨by rw [f4]; exact g5, by rw [f4]; exact g6, by rw [f4]; exact g7⟩, by rw [f4]; exact g8⟩
        obtain ⟨c', m', R2, K2, E2, t2, i1, i2, i3, i4⟩ := go s3 m5 R' K' E' t' C3 f3 I3 B3 d7 d8 d9 d10
        exact ⟨c', m', R2, K2, E2, t2, i1, i2, ⟨a3, a6, d3, f2, i3⟩, i4⟩
      · obtain ⟨c1, m1, a1, a2, a3, a4, a5, a6, a7, a8, a9, a10⟩ := step_no (LL := LL) (hd := hd) T0 L M I hh hw
        rw [a1, a2]
        dsimp only
        rw [if_neg Bool.false_ne_true, if_neg hw, if_neg hw]
        have F1 : RF2 (deep + 1) m m1 := ⟨fun a _ x y _ => a4 a x y, fun j _ => by rw [a4 123 (by decide) (by decide)], fun j _ => by rw [a4 143 (by decide) (by decide)]⟩
        obtain ⟨⟨c9, c10, c11, c12⟩, ⟨b1, b2, b3⟩, b4⟩ := hB
        have m123 : m1 123 = m 123 := a4 123 (by decide) (by decide)
        obtain ⟨c', m', R2, K2, E2, t2, i1, i2, i3, i4⟩ := go c1 m1 R K E t (LTS_CF2 a5) F1 a7 ⟨⟨by rw [a6]; exact c9, by rw [a6]; exact c10, by rw [a6]; exact c11, by rw [a6]; exact c12⟩, ⟨by rw [m123]; exact b1, by rw [m123]; exact b2, by rw [m123]; exact b3⟩, by rw [m123]; exact b4⟩ (Nat.le_trans hp mono) hK hE hR
        exact ⟨c', m', R2, K2, E2, t2, i1, i2, ⟨a3, i3⟩, i4⟩
theorem go_both {H B : Nat} {LL : List LW} {hd : Int32} : ∀ (n Dc Dm deep row e R K E : Nat) (t x4 : Int32) (c m : SI), uv m H ≤ n → uv m H ≤ Dc → uv m H ≤ Dm → uv m H + deep ≤ 7 → row < 10 ^ deep → TR H B c m → LR LL hd c m → MB H m → LIT H c m → e + remS m H ≤ 1000 → BEST R K E t c m → e ≤ E → (e = E → K ≤ deep) → R * 10 ^ (8 - K) ≤ row * 10 ^ (8 - deep) → K ≤ 7 → E ≤ 1000 → R < 100000000 →
    ∃ (c' m' : SI) (R' K' E' : Nat) (t' : Int32), f4_goOn (fGoD Dc) c (nI deep) (nI row) (nI e) = c' ∧ f12_tryRoute_c86 (fm_tryRoute_D Dm) (nI deep) (nI row) (nI e) x4 (H + 2) (nI 0) (f12_putAside m (nI deep)) = m' ∧ o12_putAside m (nI deep) ∧ o12_tryRoute_c86 (fm_tryRoute_D Dm) (om_tryRoute_D Dm) (nI deep) (nI row) (nI e) x4 (H + 2) (nI 0) (f12_putAside m (nI deep)) ∧ CF2 c c' ∧ RF2 deep m m' ∧ BEST R' K' E' t' c' m' ∧ R' * 10 ^ (8 - K') ≤ (row + 1) * 10 ^ (8 - deep) ∧ K' ≤ 7 ∧ E' ≤ 1000 ∧ R' < 100000000 := by
  intro n
  induction n with
  | zero =>
    intro Dc Dm deep row e R K E t x4 c m h0 h1 h2 h3 hrow T L M I hA hB he hKd hp hK hE hR
    have hH := T.1
    have hd7 : deep ≤ 7 := by omega
    obtain ⟨m1, p1, p2, p3, p4, p5⟩ := aside m (d := deep) hd7
    have F1 : OF deep m m1 := ⟨fun a _ _ x => p3 a x, fun j hj => p5 j (Or.inl hj)⟩
    have e140 : m1 140 = m 140 := p3 140 (by decide)
    have e138 : m1 138 = m 138 := p3 138 (by decide)
    have V1 : SVD m1 deep := fun j hj => by rw [p4 j hj, e140]
    have L1 := LR_of L F1
    have T1 := TR_of T F1
    have M1 := MB_fr M e140
    have u1 : uv m1 H = uv m H := uv_fr e140 H
    have I1 : LIT H c m1 := by unfold LIT; rw [e140]; exact I
    have B1 : BEST R K E t c m1 := by unfold BEST BM; rw [p3 123 (by decide)]; exact hB
    have pe : (10 : Nat) ^ (8 - deep) = 10 * 10 ^ (7 - deep) := by rw [show 8 - deep = (7 - deep) + 1 by omega, Nat.pow_succ, Nat.mul_comm]
    have ppos : 0 < (10 : Nat) ^ (7 - deep) := Nat.pow_pos (by decide)
    have hp0 : R * 10 ^ (8 - K) ≤ (10 * row + 0) * 10 ^ (7 - deep) := by rw [Nat.add_zero, Nat.mul_comm 10 row, Nat.mul_assoc, ← pe]; exact hp
    have fin0 : (10 * row + H) * 10 ^ (7 - deep) ≤ (row + 1) * 10 ^ (8 - deep) := by
      rw [pe, ← Nat.mul_assoc]
      exact Nat.mul_le_mul_right _ (by omega)
    have IHn : CHI H B LL hd deep row (uv m H) (e + remS m H) (fGoD Dc) (fm_tryRoute_D Dm) (om_tryRoute_D Dm) := fun c2 m2 h2 e2 R2 K2 E2 t2 _ _ _ _ _ hu => by omega
    obtain ⟨c', m', R', K', E', t', i1, i2, i3, i4, i5, i6, i7, i8⟩ := live_loop (x4 := x4) (p3 := c 32 3) (p4 := c 32 4) (p5 := c 32 5) (p6 := c 32 6) hd7 IHn (H + 1) (H + 2) 0 c m1 R K E t (Nat.zero_le _) (by omega) (by omega) T1 L1 M1 I1 u1 (by rw [rem_fr e138 e140]) B1 hp0 hK hE hR V1 (by rw [e140]; exact I.1) (by rw [e140]; exact I.2.1) (by rw [e140]; exact I.2.2.1) (by rw [e140]; exact I.2.2.2.1)
    have dl : ∃ m'', f12_tryRoute_c86 (fm_tryRoute_D Dm) (nI deep) (nI row) (nI e) x4 (H + 2) (nI 0) m1 = m'' ∧ o12_tryRoute_c86 (fm_tryRoute_D Dm) (om_tryRoute_D Dm) (nI deep) (nI row) (nI e) x4 (H + 2) (nI 0) m1 ∧ OF (deep + 1) m1 m'' := dead_loop (B := B) (c := c) (LL := LL) (hd := hd) (u := uv m H) (A := e + remS m H) (R := R) (K := K) (E := E) hd7 (fun m2 _ _ _ _ _ _ hu => by omega) (H + 2) 0 m1 (Nat.zero_le _) (by omega) T1 L1 M1 u1 (by rw [rem_fr e138 e140]) B1.2.1 V1
    rw [p1]
    unfold f4_goOn
    have stayed : ∃ (c' m' : SI) (R' K' E' : Nat) (t' : Int32), c = c' ∧ f12_tryRoute_c86 (fm_tryRoute_D Dm) (nI deep) (nI row) (nI e) x4 (H + 2) (nI 0) m1 = m' ∧ o12_putAside m (nI deep) ∧ o12_tryRoute_c86 (fm_tryRoute_D Dm) (om_tryRoute_D Dm) (nI deep) (nI row) (nI e) x4 (H + 2) (nI 0) m1 ∧ CF2 c c' ∧ RF2 deep m m' ∧ BEST R' K' E' t' c' m' ∧ R' * 10 ^ (8 - K') ≤ (row + 1) * 10 ^ (8 - deep) ∧ K' ≤ 7 ∧ E' ≤ 1000 ∧ R' < 100000000 := by
      obtain ⟨m'', j1, j2, j3⟩ := dl
      refine ⟨c, m'', R, K, E, t, rfl, j1, p2, j2, CF2_rf c, OF_RF2 (OF_tr F1 (OF_le j3 (by omega))), ?_, ?_, hK, hE, hR⟩
      · unfold BEST BM
        rw [j3.1 123 (by decide) (by decide) (by decide)]
        exact B1
      · exact Nat.le_trans hp (Nat.mul_le_mul_right _ (by omega))
    by_cases d7 : (7 : Int32) ≤ nI deep
    · rw [if_pos d7]
      exact stayed
    · rw [if_neg d7]
      by_cases hop : f4_isHopeless c (nI deep) (nI e) = true
      · rw [if_pos hop]
        exact stayed
      · rw [if_neg hop, hou_c T, fu_bd (by omega)]
        exact ⟨c', m', R', K', E', t', i1, i2, p2, i3, i4, RF2_tr (OF_RF2 F1) (RF2_le i5 (by omega)), i6, Nat.le_trans i7 fin0, i8⟩
  | succ n ihn =>
    intro Dc Dm deep row e R K E t x4 c m h0 h1 h2 h3 hrow T L M I hA hB he hKd hp hK hE hR
    have hH := T.1
    have hd7 : deep ≤ 7 := by omega
    obtain ⟨m1, p1, p2, p3, p4, p5⟩ := aside m (d := deep) hd7
    have F1 : OF deep m m1 := ⟨fun a _ _ x => p3 a x, fun j hj => p5 j (Or.inl hj)⟩
    have e140 : m1 140 = m 140 := p3 140 (by decide)
    have e138 : m1 138 = m 138 := p3 138 (by decide)
    have V1 : SVD m1 deep := fun j hj => by rw [p4 j hj, e140]
    have L1 := LR_of L F1
    have T1 := TR_of T F1
    have M1 := MB_fr M e140
    have u1 : uv m1 H = uv m H := uv_fr e140 H
    have I1 : LIT H c m1 := by unfold LIT; rw [e140]; exact I
    have B1 : BEST R K E t c m1 := by unfold BEST BM; rw [p3 123 (by decide)]; exact hB
    have pe : (10 : Nat) ^ (8 - deep) = 10 * 10 ^ (7 - deep) := by rw [show 8 - deep = (7 - deep) + 1 by omega, Nat.pow_succ, Nat.mul_comm]
    have hp0 : R * 10 ^ (8 - K) ≤ (10 * row + 0) * 10 ^ (7 - deep) := by rw [Nat.add_zero, Nat.mul_comm 10 row, Nat.mul_assoc, ← pe]; exact hp
    have fin0 : (10 * row + H) * 10 ^ (7 - deep) ≤ (row + 1) * 10 ^ (8 - deep) := by
      rw [pe, ← Nat.mul_assoc]
      exact Nat.mul_le_mul_right _ (by omega)
    have hrow8 : 10 * row < 100000000 := by
      have : (10 : Nat) ^ deep ≤ 10 ^ 7 := Nat.pow_le_pow_right (by decide) hd7
      omega
    have stays : (e + remS m H ≤ E) → (e + remS m H = E → K ≤ deep + 1) → ∃ (c' m' : SI) (R' K' E' : Nat) (t' : Int32), c = c' ∧ f12_tryRoute_c86 (fm_tryRoute_D Dm) (nI deep) (nI row) (nI e) x4 (H + 2) (nI 0) m1 = m' ∧ o12_putAside m (nI deep) ∧ o12_tryRoute_c86 (fm_tryRoute_D Dm) (om_tryRoute_D Dm) (nI deep) (nI row) (nI e) x4 (H + 2) (nI 0) m1 ∧ CF2 c c' ∧ RF2 deep m m' ∧ BEST R' K' E' t' c' m' ∧ R' * 10 ^ (8 - K') ≤ (row + 1) * 10 ^ (8 - deep) ∧ K' ≤ 7 ∧ E' ≤ 1000 ∧ R' < 100000000 := by
      intro k1 k2
      have IHd : ∀ (m2 : SI) (h2 e2 : Nat), h2 < 7 → TR H B c m2 → LR LL hd c m2 → MB H m2 → uv m2 H + 1 ≤ uv m H → e2 + remS m2 H ≤ e + remS m H → BM R K E m2 → ∃ m', fm_tryRoute_D Dm m2 (nI (deep + 1)) (nI (10 * row + h2)) (nI e2) = m' ∧ om_tryRoute_D Dm m2 (nI (deep + 1)) (nI (10 * row + h2)) (nI e2) ∧ OF (deep + 1) m2 m' := by
        intro m2 h2 e2 hh2 T2 L2 M2 u2 a2 B2
        refine dead hE hK hR Dm (deep + 1) (10 * row + h2) e2 m2 (by omega) (by omega) ?_ T2 L2 M2 B2 (by omega) (fun q => k2 (by omega)) ?_
        · rw [Nat.pow_succ]; omega
        · rw [show 8 - (deep + 1) = 7 - deep by omega]
          exact Nat.le_trans hp0 (Nat.mul_le_mul_right _ (by omega))
      obtain ⟨m'', j1, j2, j3⟩ := dead_loop (x4 := x4) (row := row) (B := B) (c := c) (LL := LL) (hd := hd) (u := uv m H) (A := e + remS m H) (R := R) (K := K) (E := E) hd7 IHd (H + 2) 0 m1 (Nat.zero_le _) (by omega) T1 L1 M1 u1 (by rw [rem_fr e138 e140]) B1.2.1 V1
      refine ⟨c, m'', R, K, E, t, rfl, j1, p2, j2, CF2_rf c, OF_RF2 (OF_tr F1 (OF_le j3 (by omega))), ?_, ?_, hK, hE, hR⟩
      · unfold BEST BM
        rw [j3.1 123 (by decide) (by decide) (by decide)]
        exact B1
      · exact Nat.le_trans hp (Nat.mul_le_mul_right _ (by omega))
    rw [p1]
    unfold f4_goOn
    by_cases d7 : deep = 7
    · rw [if_pos (show (7 : Int32) ≤ nI deep by rw [d7]; decide)]
      have u0 : uv m H = 0 := by omega
      have r0 : remS m H = 0 := by
        have al : ∀ k, k < H → bt (m 140 11) k = true := fun k hk => by
          have := cnt_0 (p := fun k => !bt (m 140 11) k) H u0 k hk
          cases q : bt (m 140 11) k
          · rw [q] at this; exact absurd this (by decide)
          · rfl
        have : ∀ n, n ≤ H → remS m n = 0 := by
          intro n
          induction n with
          | zero => intro _; rfl
          | succ n ih =>
            intro hn
            rw [remS, ih (by omega)]
            unfold rt
            rw [if_pos (al n (by omega))]
        exact this H (Nat.le_refl _)
      exact stays (by omega) (fun q => by omega)
    · rw [if_neg (show ¬ (7 : Int32) ≤ nI deep from nI_ge (b := 7) (by omega) (by decide))]
      have hop := hope (B := B) (H := H) (E := E) (K := K) T M I hB.1.2.1 hB.1.2.2.1 hE hK hd7 (e := e) (by omega)
      by_cases hp1 : f4_isHopeless c (nI deep) (nI e) = true
      · rw [if_pos hp1]
        have := hop.mp hp1
        exact stays (by omega) (fun q => by omega)
      · rw [if_neg hp1, hou_c T, fu_bd (by omega)]
        have IHn : CHI H B LL hd deep row (uv m H) (e + remS m H) (fGoD Dc) (fm_tryRoute_D Dm) (om_tryRoute_D Dm) := by
          intro c2 m2 hx e2 R2 K2 E2 t2 hh2 T2 L2 M2 I2 u2 a2 B2 pp2 k2 ee2 rr2
          obtain ⟨Dc, rfl, _⟩ := fu_pos (n := 0) (fu := Dc) (by omega)
          obtain ⟨Dm, rfl, _⟩ := fu_pos (n := 0) (fu := Dm) (by omega)
          have sd : 8 - (deep + 1) = 7 - deep := by omega
          obtain ⟨c3, m3, R3, K3, E3, t3, y4, s1, s2, s3, s4, s5, s6, s7, s8, s9, s10, s11, s12, s13, s14⟩ := cons (T := fm_tryRoute_D Dm) (oT := om_tryRoute_D Dm) (deep := deep + 1) (row := 10 * row + hx) (e := e2) hH (hou_m T2) B2 I2.2.1 (by omega) k2 ee2 (by omega) rr2 (by omega) (by rw [sd]; exact pp2)
          have F3 : RF2 (deep + 1) m2 m3 := ⟨fun a x _ _ _ => s13 a x, s14, fun j _ => by rw [s13 143 (by decide)]⟩
          have C3 : CF2 c2 c3 := CF2_32 s11
          have f140 : m3 140 = m2 140 := s13 140 (by decide)
          have f138 : m3 138 = m2 138 := s13 138 (by decide)
          have T3 := TR_sx (TR_r2 T2 F3) (CF2_SX C3)
          have I3 : LIT H c3 m3 := by
            unfold LIT
            rw [f140, s12 3 (by decide), s12 4 (by decide), s12 5 (by decide), s12 6 (by decide), s11 24 (by decide), s11 25 (by decide)]
            exact I2
          have uu : uv m3 H = uv m2 H := uv_fr f140 H
          obtain ⟨c4, m4, R4, K4, E4, t4, g1, g2, g3, g4, g5, g6, g7, g8, g9⟩ := ihn Dc Dm (deep + 1) (10 * row + hx) e2 R3 K3 E3 t3 y4 c3 m3 (by omega) (by omega) (by omega) (by omega) (by rw [Nat.pow_succ]; omega) T3 (LR_sx (LR_r2 L2 F3) (CF2_SX C3)) (MB_fr M2 f140) I3 (by rw [rem_fr f138 f140]; omega) s4 s5 s6 s7 s8 s9 s10
          rw [sd] at g8
          refine ⟨c4, m4, R4, K4, E4, t4, ?_, ?_, ?_, CF2_tr C3 g5, RF2_tr F3 g6, g7, g8, g9⟩
          · rw [s1]; exact g1
          · exact s2.trans g2
          · exact s3 g3 g4
        obtain ⟨c', m', R', K', E', t', i1, i2, i3, i4, i5, i6, i7, i8⟩ := live_loop (x4 := x4) (p3 := c 32 3) (p4 := c 32 4) (p5 := c 32 5) (p6 := c 32 6) hd7 IHn (H + 1) (H + 2) 0 c m1 R K E t (Nat.zero_le _) (by omega) (by omega) T1 L1 M1 I1 u1 (by rw [rem_fr e138 e140]) B1 hp0 hK hE hR V1 (by rw [e140]; exact I.1) (by rw [e140]; exact I.2.1) (by rw [e140]; exact I.2.2.1) (by rw [e140]; exact I.2.2.2.1)
        exact ⟨c', m', R', K', E', t', i1, i2, p2, i3, i4, RF2_tr (OF_RF2 F1) (RF2_le i5 (by omega)), i6, Nat.le_trans i7 fin0, i8⟩
