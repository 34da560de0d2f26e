/-! ways through the town: what a road can still ease; roads that cannot be better, on the model's side -/
noncomputable def rt (m : SI) (k : Nat) : Nat := if bt (m 140 11) k = true then 0 else if f12_isThankful m (nI k) = true then 0 else (m 140 k).toInt.toNat
noncomputable def remS (m : SI) : Nat → Nat
  | 0 => 0
  | k + 1 => remS m k + rt m k
noncomputable def uv (m : SI) (H : Nat) : Nat := cnt (fun k => !bt (m 140 11) k) H
theorem rt_fr {m m' : SI} (e1 : m' 138 = m 138) (e2 : m' 140 = m 140) (k : Nat) : rt m' k = rt m k := by unfold rt; rw [thank_fr e1, e2]
theorem rem_fr {m m' : SI} (e1 : m' 138 = m 138) (e2 : m' 140 = m 140) : ∀ n, remS m' n = remS m n := by
  intro n
  induction n with
  | zero => rfl
  | succ n ih => rw [remS, remS, ih, rt_fr e1 e2]
theorem uv_fr {m m' : SI} (e2 : m' 140 = m 140) (n : Nat) : uv m' n = uv m n := by unfold uv; rw [e2]
theorem rt_le {H k : Nat} {m : SI} (M : MB H m) (hk : k < H) : rt m k ≤ 30 := by
  unfold rt
  obtain ⟨b1, b2⟩ := M.1 k hk
  split
  · omega
  · split <;> omega
theorem rem_le {H : Nat} {m : SI} (M : MB H m) : ∀ n, n ≤ H → remS m n ≤ 30 * n := by
  intro n
  induction n with
  | zero => intro _; exact Nat.le_refl _
  | succ n ih =>
    intro hn
    have := ih (by omega)
    have := rt_le M (by omega : n < H)
    rw [remS]
    omega
theorem wn_no {LL : List LW} {hd : Int32} {m : SI} {h : Nat} (hw : wn LL hd m h = -1) (hh : h < 31) : bt (m 140 11) h = false := by
  rcases wn_cases LL hd m h with ⟨_, _, n2, _, _⟩ | ⟨w, _⟩ | ⟨w, _⟩
  · rw [has_bt _ hh] at n2
    exact Bool.eq_false_iff.mpr n2
  · rw [hw] at w; exact absurd w (by decide)
  · rw [hw] at w; exact absurd w (by decide)
theorem CN_bt {LL : List LW} {hd : Int32} {h k : Nat} {m m2 : SI} (C : CN LL hd h m m2) (hh : h < 31) (hk : k < 31) : bt (m2 140 11) k = (bt (m 140 11) k || decide (k = h)) := by
  rw [C.2.2.2.2.2.1]
  exact or_bt _ hh hk
theorem uv_CN {LL : List LW} {hd : Int32} {H h : Nat} {m m2 : SI} (C : CN LL hd h m m2) (hH : H ≤ 7) (hh : h < H) (hw : wn LL hd m h = -1) : uv m2 H + 1 ≤ uv m H := by
  unfold uv
  refine cnt_less (b := h) H hh (fun k hk q => ?_) ?_ ?_
  · rw [CN_bt C (by omega) (by omega)] at q
    cases e : bt (m 140 11) k
    · rfl
    · rw [e, Bool.true_or] at q; exact absurd q (by decide)
  · rw [wn_no hw (by omega)]; rfl
  · rw [CN_bt C (by omega) (by omega)]
    have : decide (h = h) = true := decide_eq_true rfl
    rw [this, Bool.or_true]
    rfl
theorem rem_CN {LL : List LW} {hd : Int32} {H h : Nat} {m m2 : SI} (C : CN LL hd h m m2) (hH : H ≤ 7) (hh : h < H) : ∀ n, n ≤ H → remS m2 n + (if h < n then rt m h else 0) = remS m n := by
  intro n
  induction n with
  | zero => intro _; rw [if_neg (Nat.not_lt_zero _)]; rfl
  | succ n ih =>
    intro hn
    have i := ih (by omega)
    rw [remS, remS]
    by_cases e : n = h
    · subst e
      rw [if_neg (Nat.lt_irrefl _)] at i
      rw [if_pos (Nat.lt_succ_self _)]
      have z : rt m2 n = 0 := by
        unfold rt
        rw [CN_bt C (by omega) (by omega)]
        have : decide (n = n) = true := decide_eq_true rfl
        rw [this, Bool.or_true, if_pos rfl]
      rw [z]
      omega
    · have z : rt m2 n = rt m n := by
        unfold rt
        rw [CN_bt C (by omega) (by omega)]
        have : decide (n = h) = false := decide_eq_false e
        rw [this, Bool.or_false, thank_fr (C.1 138 (by decide) (by decide) (by decide)), C.2.2.2.2.2.2.2 n e (by omega) (by omega) (by omega) (by omega) (by omega)]
      rw [z]
      by_cases q : h < n
      · rw [if_pos q] at i
        rw [if_pos (by omega)]
        omega
      · rw [if_neg q] at i
        rw [if_neg (by omega)]
        omega
theorem cz_nat {LL : List LW} {hd : Int32} {H B h : Nat} {m : SI} (M : MB H m) (hh : h < H) (hH : H ≤ 7) (hw : wn LL hd m h = -1) : ∃ z, cz LL hd m h = nI z ∧ z ≤ rt m h := by
  have b0 := wn_no hw (by omega)
  obtain ⟨g, hg, eg⟩ := bnd_nI (hi := 30) (M.1 h hh)
  obtain ⟨s, hs, es⟩ := bnd_nI (hi := 60) (st_bnd (LL := LL) (hd := hd) (B := B) M hh)
  unfold cz rt
  rw [b0, if_neg Bool.false_ne_true]
  by_cases t : f12_isThankful m (nI h) = true
  · rw [if_pos t, if_pos t]
    exact ⟨0, rfl, Nat.le_refl _⟩
  · rw [if_neg t, if_neg t, eg, es, nI_toInt (by omega)]
    by_cases q : s < g
    · rw [if_pos (nI_lt q (by omega))]
      exact ⟨s, rfl, by omega⟩
    · rw [if_neg (nI_nlt (by omega) (by omega))]
      exact ⟨g, rfl, by omega⟩
def BM (R K E : Nat) (m : SI) : Prop := m 123 35 = nI R ∧ m 123 36 = nI E ∧ m 123 37 = nI K
theorem TR_of {H B k : Nat} {c m m' : SI} (T : TR H B c m) (F : OF k m m') : TR H B c m' := TR_fr T rfl rfl (by rw [F.1 123 (by decide) (by decide) (by decide)]) (by rw [F.1 123 (by decide) (by decide) (by decide)]) (F.1 _ (by decide) (by decide) (by decide)) (F.1 _ (by decide) (by decide) (by decide)) (F.1 _ (by decide) (by decide) (by decide))
theorem LR_of {LL : List LW} {hd : Int32} {k : Nat} {c m m' : SI} (L : LR LL hd c m) (F : OF k m m') : LR LL hd c m' := LR_fr L (fun _ _ _ => rfl) rfl rfl (fun a x y _ => F.1 a (by omega) (by omega) (by omega)) (by rw [F.1 123 (by decide) (by decide) (by decide)]) (by rw [F.1 123 (by decide) (by decide) (by decide)])
theorem dead_loop {LL : List LW} {hd : Int32} {H B deep row e u A R K E : Nat} {c : SI} {T : SI → Int32 → Int32 → Int32 → SI} {oT : SI → Int32 → Int32 → Int32 → Prop} {x4 : Int32} (hd7 : deep ≤ 7)
    (IH : ∀ (m2 : SI) (h2 e2 : Nat), h2 < 7 → TR H B c m2 → LR LL hd c m2 → MB H m2 → uv m2 H + 1 ≤ u → e2 + remS m2 H ≤ A → BM R K E m2 → ∃ m', T m2 (nI (deep + 1)) (nI (10 * row + h2)) (nI e2) = m' ∧ oT m2 (nI (deep + 1)) (nI (10 * row + h2)) (nI e2) ∧ OF (deep + 1) m2 m') :
    ∀ (fu h : Nat) (m : SI), h ≤ H → H < h + fu → TR H B c m → LR LL hd c m → MB H m → uv m H = u → e + remS m H = A → BM R K E m → SVD m deep → ∃ m', f12_tryRoute_c86 T (nI deep) (nI row) (nI e) x4 fu (nI h) m = m' ∧ o12_tryRoute_c86 T oT (nI deep) (nI row) (nI e) x4 fu (nI h) m ∧ OF (deep + 1) m m' := by
  intro fu
  induction fu with
  | zero => intro h m h1 h2; omega
  | succ fu ih =>
    intro h m h1 h2 T0 L M hu hA hB V
    have hH := T0.1
    rw [f12_tryRoute_c86, o12_tryRoute_c86, hou_m T0]
    by_cases q : h = H
    · subst q
      have le : nI h ≤ nI h := nI_le (Nat.le_refl _) (by omega)
      rw [if_pos le, if_pos le]
      exact ⟨m, rfl, trivial, OF_rf _ m⟩
    · have hh : h < H := by omega
      have nle : ¬ nI H ≤ nI h := nI_ge hh (by omega)
      rw [if_neg nle, if_neg nle, show nI h + 1 = nI (h + 1) from nI_add h 1]
      obtain ⟨m1, e1, o1, F1⟩ := whyNot_m (LL := LL) (hd := hd) T0 L M hh
      have F1' : OF (deep + 1) m m1 := ⟨fun a x y _ => F1 a x y, fun j _ => by rw [F1 143 (by decide) (by decide)]⟩
      have go : ∀ m3, OF (deep + 1) m m3 → ∃ m', f12_tryRoute_c86 T (nI deep) (nI row) (nI e) x4 fu (nI (h + 1)) m3 = m' ∧ o12_tryRoute_c86 T oT (nI deep) (nI row) (nI e) x4 fu (nI (h + 1)) m3 ∧ OF (deep + 1) m m' := by
        intro m3 F3
        have e140 : m3 140 = m 140 := F3.1 140 (by decide) (by decide) (by decide)
        have e138 : m3 138 = m 138 := F3.1 138 (by decide) (by decide) (by decide)
        have e123 : m3 123 = m 123 := F3.1 123 (by decide) (by decide) (by decide)
        obtain ⟨m', i1, i2, i3⟩ := ih (h + 1) m3 (by omega) (by omega) (TR_of T0 F3) (LR_of L F3) (MB_fr M e140) ((uv_fr e140 H).trans hu) (by rw [rem_fr e138 e140]; exact hA) (by unfold BM; rw [e123]; exact hB) (SVD_of V F3)
        exact ⟨m', i1, i2, OF_tr F3 i3⟩
      rw [e1]
      dsimp only
      by_cases hw : wn LL hd m h = -1
      · rw [if_pos hw, if_pos hw]
        have e140 : m1 140 = m 140 := F1 _ (by decide) (by decide)
        have e138 : m1 138 = m 138 := F1 _ (by decide) (by decide)
        obtain ⟨m2, e2, o2, C2⟩ := carryNow_m (LL := LL) (hd := hd) (TR_fm T0 F1) (LR_fm L F1) (MB_fr M e140) hh
        rw [(st_fr (LL := LL) (hd := hd) (h := h) e138 e140).2.2] at e2
        have C : CN LL hd h m m2 := FM_CN F1 C2
        obtain ⟨z, ez, hz⟩ := cz_nat (LL := LL) (hd := hd) (B := B) M hh hH hw
        have er : ((10 : Int32) * nI row) + nI h = nI (10 * row + h) := by rw [show (10 : Int32) = nI 10 from rfl, show nI 10 * nI row = nI (10 * row) from pk_mul _ _, nI_add]
        have rem := rem_CN C hH hh H (Nat.le_refl _)
        rw [if_pos hh] at rem
        obtain ⟨m', t1, t2, t3⟩ := IH m2 h (e + z) (by omega) (CN_TR T0 C) (CN_LR L C) (CN_MB T0 M hh C hw) (by rw [← hu]; exact uv_CN C hH hh hw) (by omega) (by unfold BM; rw [C.1 123 (by decide) (by decide) (by decide)]; exact hB)
        obtain ⟨m3, b1, b2, b3⟩ := bk_of (H := H) (n := 0) (m0 := m) (r := fun _ => 0) (s := m2) hd7 C.1 (fun j hj => C.2.2.2.2.2.2.2 j (by omega) (by omega) (by omega) (by omega) (by omega) (by omega)) V t3
        rw [e2]
        dsimp only
        rw [er, ez, nI_add, show nI deep + 1 = nI (deep + 1) from nI_add deep 1, t1]
        rw [b1]
        obtain ⟨m4, k1, k2, k3⟩ := go m3 b3
        exact ⟨m4, k1, ⟨o1, o2, t2, b2, k2⟩, k3⟩
      · rw [if_neg hw, if_neg hw]
        obtain ⟨m4, k1, k2, k3⟩ := go m1 F1'
        exact ⟨m4, k1, ⟨o1, k2⟩, k3⟩
theorem route_fu {H : Nat} (hH : H ≤ 7) : fu1 ((Int32.toInt (nI H)).toNat + 1) = H + 2 := by
  rw [nI_toInt (by omega), fu1_eq]
  omega
theorem dead {LL : List LW} {hd : Int32} {H B R K E : Nat} {c : SI} (hE : E ≤ 1000) (hK : K ≤ 7) (hR : R < 100000000) : ∀ (D deep row e : Nat) (m : SI), uv m H < D → uv m H + deep ≤ 7 → row < 10 ^ deep → TR H B c m → LR LL hd c m → MB H m → BM R K E m → e + remS m H ≤ E → (e + remS m H = E → K ≤ deep) → R * 10 ^ (8 - K) ≤ row * 10 ^ (8 - deep) → ∃ m', fm_tryRoute_D D m (nI deep) (nI row) (nI e) = m' ∧ om_tryRoute_D D m (nI deep) (nI row) (nI e) ∧ OF deep m m' := by
  intro D
  induction D with
  | zero => intro deep row e m h1; omega
  | succ D ih =>
    intro deep row e m h1 h2 hrow T L M hB hle hKd hp
    have hH := T.1
    have hd7 : deep ≤ 7 := by omega
    have hrow8 : row < 100000000 := by
      have : (10 : Nat) ^ deep ≤ 10 ^ 7 := Nat.pow_le_pow_right (by decide) hd7
      omega
    have pw : (10 : Nat) ^ (8 - deep) = 10 * 10 ^ (7 - deep) := by rw [show 8 - deep = (7 - deep) + 1 by omega, Nat.pow_succ, Nat.mul_comm]
    obtain ⟨m1, p1, p2, p3, p4, p5⟩ := aside m (d := deep) hd7
    have F1 : OF deep m m1 := ⟨fun a _ _ x => p3 a x, fun j hj => p5 j (Or.inl hj)⟩
    have e140 : m1 140 = m 140 := p3 140 (by decide)
    have V1 : SVD m1 deep := fun j hj => by rw [p4 j hj, e140]
    have IH : ∀ (m2 : SI) (h2 e2 : Nat), h2 < 7 → TR H B c m2 → LR LL hd c m2 → MB H m2 → uv m2 H + 1 ≤ uv m H → e2 + remS m2 H ≤ e + remS m H → BM R K E m2 → ∃ m', fm_tryRoute_D D m2 (nI (deep + 1)) (nI (10 * row + h2)) (nI e2) = m' ∧ om_tryRoute_D D m2 (nI (deep + 1)) (nI (10 * row + h2)) (nI e2) ∧ OF (deep + 1) m2 m' := by
      intro m2 h2 e2 hh2 T2 L2 M2 u2 a2 B2
      refine ih (deep + 1) (10 * row + h2) e2 m2 (by omega) (by omega) ?_ T2 L2 M2 B2 (by omega) (fun q => ?_) ?_
      · rw [Nat.pow_succ]; omega
      · have := hKd (by omega); omega
      · rw [pw] at hp
        rw [show 8 - (deep + 1) = 7 - deep by omega]
        refine Nat.le_trans hp ?_
        rw [← Nat.mul_assoc, Nat.mul_comm row 10]
        exact Nat.mul_le_mul_right _ (Nat.le_add_right _ _)
    have lp : ∀ x4 : Int32, ∃ m', f12_tryRoute_c86 (fm_tryRoute_D D) (nI deep) (nI row) (nI e) x4 (H + 2) (nI 0) m1 = m' ∧ o12_tryRoute_c86 (fm_tryRoute_D D) (om_tryRoute_D D) (nI deep) (nI row) (nI e) x4 (H + 2) (nI 0) m1 ∧ OF (deep + 1) m1 m' := fun x4 => dead_loop (B := B) (LL := LL) (hd := hd) (u := uv m H) (A := e + remS m H) hd7 IH (H + 2) 0 m1 (Nat.zero_le _) (by omega) (TR_of T F1) (LR_of L F1) (MB_fr M e140) (uv_fr e140 H) (by rw [rem_fr (p3 138 (by decide)) e140]) (by unfold BM; rw [p3 123 (by decide)]; exact hB) V1
    have efu : fu1 ((Int32.toInt (m1 123 25)).toNat + 1) = H + 2 := by rw [p3 123 (by decide), hou_m T]; exact route_fu hH
    show ∃ m', f12_tryRoute (fm_tryRoute_D D) m (nI deep) (nI row) (nI e) = m' ∧ o12_tryRoute (fm_tryRoute_D D) (om_tryRoute_D D) m (nI deep) (nI row) (nI e) ∧ OF deep m m'
    unfold f12_tryRoute o12_tryRoute
    obtain ⟨b1, b2, b3⟩ := hB
    rw [b1, b2, b3, p1]
    have n1 : ¬ nI E < nI e := nI_nlt (by omega) (by omega)
    rw [if_neg n1, if_neg n1]
    have fin' : ∀ x4 : Int32, ∃ m', f12_tryRoute_c86 (fm_tryRoute_D D) (nI deep) (nI row) (nI e) x4 (fu1 ((Int32.toInt (m1 123 25)).toNat + 1)) 0 m1 = m' ∧ (o12_putAside m (nI deep) ∧ o12_tryRoute_c86 (fm_tryRoute_D D) (om_tryRoute_D D) (nI deep) (nI row) (nI e) x4 (fu1 ((Int32.toInt (m1 123 25)).toNat + 1)) 0 m1) ∧ OF deep m m' := fun x4 => by
      obtain ⟨m', l1, l2, l3⟩ := lp x4
      rw [efu]
      exact ⟨m', l1, ⟨p2, l2⟩, OF_tr F1 (OF_le l3 (by omega))⟩
    by_cases q : e = E
    · have q' : nI e = nI E := by rw [q]
      have hKd' : K ≤ deep := hKd (by omega)
      rw [if_pos q', if_pos q', if_neg (nI_nlt hKd' (by omega)), if_neg (nI_nlt hKd' (by omega))]
      by_cases k : deep = K
      · have k' : nI deep = nI K := by rw [k]
        have hRr : R ≤ row := by
          rw [← k] at hp
          exact Nat.le_of_mul_le_mul_right hp (Nat.pos_of_ne_zero (by rw [pw]; exact Nat.mul_ne_zero (by decide) (Nat.pos_iff_ne_zero.mp (Nat.pow_pos (by decide)))))
        rw [if_pos k', if_pos k', if_pos (nI_le hRr (by omega)), if_pos (nI_le hRr (by omega))]
        exact fin' 0
      · have k' : ¬ nI deep = nI K := ne_lit k (by omega) (by omega)
        rw [if_neg k', if_neg k']
        exact fin' 0
    · have q' : ¬ nI e = nI E := ne_lit q (by omega) (by omega)
      rw [if_neg q', if_neg q']
      exact fin' 0
