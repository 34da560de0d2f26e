/-! who had more by the order -/
def wv (n : Nat) (r : Nat → Nat) (m : SI) (v : Nat) : Prop := (if nI n ≤ m 149 v then (0 : Int32) else (if nI (r (m 149 v).toNatClampNeg) = m 150 v then 1 else 0)) = m 151 v
theorem bool_ii {a b : Bool} {P : Prop} (h1 : a = true ↔ P) (h2 : b = true ↔ P) : a = b := Bool.eq_iff_iff.mpr (h1.trans h2.symm)
def SEE (H b : Nat) (m : SI) : Prop := m 123 48 = nI b ∧ b ≤ 10 ∧ ∀ i, i < b → Bnd (m 149 i) 0 6 ∧ (∃ h, h < H ∧ m 150 i = nI h) ∧ (m 151 i = 0 ∨ m 151 i = 1)
theorem so_m {H b n : Nat} {r : Nat → Nat} {x y z : Int32} {m : SI} (hn : n ≤ 7) (S : SEE H b m) (hr : ∀ i, i < n → m 144 i = nI (r i)) (hx : x = 9 ∨ vp_in ((4 : Int32) * x + 2) 28) : ∀ (fu v : Nat) (f : Bool), v ≤ b → b < v + fu → ∃ t, f12_isSo_c71 m x y z (nI n) fu f (nI v) = (t, if x = 9 then m else sp m 138 ((4 : Int32) * x + 2).toNatClampNeg z) ∧ o12_isSo_c71 m x y z (nI n) fu f (nI v) ∧ (t = true ↔ f = true ∧ ∀ w, v ≤ w → w < b → wv n r m w) := by
  obtain ⟨s1, s2, s3⟩ := S
  intro fu
  induction fu with
  | zero => intro v f h1 h2; omega
  | succ fu ih =>
    intro v f h1 h2
    rw [f12_isSo_c71, o12_isSo_c71, s1]
    by_cases q : v = b
    · subst q
      rw [if_pos (nI_le (Nat.le_refl _) (by omega)), if_pos (nI_le (Nat.le_refl _) (by omega))]
      refine ⟨f, ?_, ?_, fun h => ⟨h, fun w a c => by omega⟩, fun h => h.1⟩
      · split <;> rfl
      · split
        · trivial
        · rename_i q9
          exact ⟨hx.resolve_left q9, trivial⟩
    · have hv : v < b := by omega
      rw [if_neg (nI_ge hv (by omega)), if_neg (nI_ge hv (by omega)), nI_1, nI_clamp (by omega)]
      obtain ⟨p1, ⟨h, hh, p2⟩, p3⟩ := s3 v hv
      obtain ⟨p, hp, ep⟩ := bnd_nI (hi := 6) p1
      have vp := vp_in_nI (n := v) (N := 10) (by omega) (by decide)
      have nx : ∀ f' : Bool, (f' = true ↔ f = true ∧ wv n r m v) → ∃ t, f12_isSo_c71 m x y z (nI n) fu f' (nI (v + 1)) = (t, if x = 9 then m else sp m 138 ((4 : Int32) * x + 2).toNatClampNeg z) ∧ o12_isSo_c71 m x y z (nI n) fu f' (nI (v + 1)) ∧ (t = true ↔ f = true ∧ ∀ w, v ≤ w → w < b → wv n r m w) := by
        intro f' hf
        obtain ⟨t, i1, i2, i3⟩ := ih (v + 1) f' (by omega) (by omega)
        refine ⟨t, i1, i2, i3.trans ⟨fun ⟨a, c⟩ => ⟨(hf.mp a).1, fun w d e => ?_⟩, fun ⟨a, c⟩ => ⟨hf.mpr ⟨a, c v (Nat.le_refl _) hv⟩, fun w d e => c w (by omega) e⟩⟩⟩
        by_cases e' : w = v
        · subst e'; exact (hf.mp a).2
        · exact c w (by omega) e
      have wve : wv n r m v ↔ (if nI n ≤ nI p then (0 : Int32) else (if nI (r p) = m 150 v then 1 else 0)) = m 151 v := by
        unfold wv
        rw [ep, nI_clamp (by omega)]
      cases f with
      | false =>
        rw [if_neg Bool.false_ne_true, if_neg Bool.false_ne_true]
        exact nx false ⟨fun a => absurd a Bool.false_ne_true, fun a => absurd a.1 Bool.false_ne_true⟩
      | true =>
        rw [if_pos rfl, if_pos rfl, ep]
        by_cases u : nI n ≤ nI p
        · rw [if_pos u] at wve
          rw [if_pos u, if_pos u]
          by_cases k : (0 : Int32) = m 151 v
          · rw [if_pos k, if_pos k]
            obtain ⟨t, i1, i2, i3⟩ := nx true ⟨fun _ => ⟨rfl, wve.mpr k⟩, fun _ => rfl⟩
            exact ⟨t, i1, ⟨vp, vp, i2⟩, i3⟩
          · rw [if_neg k, if_neg k]
            obtain ⟨t, i1, i2, i3⟩ := nx false ⟨fun a => absurd a Bool.false_ne_true, fun a => absurd (wve.mp a.2) k⟩
            exact ⟨t, i1, ⟨vp, vp, i2⟩, i3⟩
        · rw [if_neg u] at wve
          have hpn : p < n := by
            by_cases a : p < n
            · exact a
            · exact absurd (nI_le (by omega) (by omega)) u
          have vp2 := vp_in_nI (n := p) (N := 7) (by omega) (by decide)
          rw [if_neg u, if_neg u, nI_clamp (by omega), hr p hpn]
          by_cases l : nI (r p) = m 150 v
          · rw [if_pos l] at wve
            rw [if_pos l, if_pos l]
            by_cases k : (1 : Int32) = m 151 v
            · rw [if_pos k, if_pos k]
              obtain ⟨t, i1, i2, i3⟩ := nx true ⟨fun _ => ⟨rfl, wve.mpr k⟩, fun _ => rfl⟩
              exact ⟨t, i1, ⟨vp, vp, vp2, vp, vp, i2⟩, i3⟩
            · rw [if_neg k, if_neg k]
              obtain ⟨t, i1, i2, i3⟩ := nx false ⟨fun a => absurd a Bool.false_ne_true, fun a => absurd (wve.mp a.2) k⟩
              exact ⟨t, i1, ⟨vp, vp, vp2, vp, vp, i2⟩, i3⟩
          · rw [if_neg l] at wve
            rw [if_neg l, if_neg l]
            by_cases k : (0 : Int32) = m 151 v
            · rw [if_pos k, if_pos k]
              obtain ⟨t, i1, i2, i3⟩ := nx true ⟨fun _ => ⟨rfl, wve.mpr k⟩, fun _ => rfl⟩
              exact ⟨t, i1, ⟨vp, vp, vp2, vp, vp, i2⟩, i3⟩
            · rw [if_neg k, if_neg k]
              obtain ⟨t, i1, i2, i3⟩ := nx false ⟨fun a => absurd a Bool.false_ne_true, fun a => absurd (wve.mp a.2) k⟩
              exact ⟨t, i1, ⟨vp, vp, vp2, vp, vp, i2⟩, i3⟩
theorem so_c {H b n : Nat} {r g : Nat → Nat} {x y : Int32} {c m : SI} (hH : H ≤ 7) (hn : n ≤ 7) (S : SEE H b m) (hc : c 33 3 = nI b) (hrow : ∀ i, i < b → c 35 (3 * i) = m 149 i ∧ c 35 (3 * i + 1) = m 150 i ∧ c 35 (3 * i + 2) = m 151 i) (R : RW c n r g) : ∀ (fu v : Nat), v ≤ b → b < v + fu → ∃ t, f11_isSeenSo_c8 c x y fu (nI v) = (t, c) ∧ (t = true ↔ ∀ w, v ≤ w → w < b → wv n r m w) := by
  obtain ⟨s1, s2, s3⟩ := S
  intro fu
  induction fu with
  | zero => intro v h1 h2; omega
  | succ fu ih =>
    intro v h1 h2
    rw [f11_isSeenSo_c8, show f10_seens c = nI b from hc]
    by_cases q : v = b
    · subst q
      rw [if_pos (nI_le (Nat.le_refl _) (by omega))]
      exact ⟨true, rfl, fun _ w a d => by omega, fun _ => rfl⟩
    · have hv : v < b := by omega
      rw [if_neg (nI_ge hv (by omega)), nI_1]
      obtain ⟨p1, ⟨h, hh, p2⟩, p3⟩ := s3 v hv
      obtain ⟨p, hp, ep⟩ := bnd_nI (hi := 6) p1
      obtain ⟨x1, x2, x3⟩ := three_at (i := v) (by omega)
      obtain ⟨y1, y2, y3⟩ := hrow v hv
      have e1 : f10_seenPlace c (nI v) = nI p := by unfold f10_seenPlace; rw [x1, cell_at (by omega) (by decide), y1, ep]
      have e2 : f10_seenHouse c (nI v) = m 150 v := by unfold f10_seenHouse; rw [x2, cell_at (by omega) (by decide), y2]
      have e3 : b2i (f10_seenIs c (nI v)) = m 151 v := by
        unfold f10_seenIs
        rw [x3, cell_at (by omega) (by decide), y3]
        rcases p3 with k | k <;> rw [k] <;> rfl
      rw [e1, e2, e3]
      have wve : wv n r m v ↔ (if nI n ≤ nI p then (0 : Int32) else (if nI (r p) = m 150 v then 1 else 0)) = m 151 v := by
        unfold wv
        rw [ep, nI_clamp (by omega)]
      have nx : ∀ (k : Int32), (wv n r m v ↔ k = m 151 v) → ∃ t, (if k = m 151 v then f11_isSeenSo_c8 c x y fu (nI (v + 1)) else (false, c)) = (t, c) ∧ (t = true ↔ ∀ w, v ≤ w → w < b → wv n r m w) := by
        intro k hk
        by_cases u : k = m 151 v
        · rw [if_pos u]
          obtain ⟨t, i1, i2⟩ := ih (v + 1) (by omega) (by omega)
          refine ⟨t, i1, i2.trans ⟨fun a w d e => ?_, fun a w d e => a w (by omega) e⟩⟩
          by_cases e' : w = v
          · subst e'; exact hk.mpr u
          · exact a w (by omega) e
        · rw [if_neg u]
          exact ⟨false, rfl, fun a => absurd a Bool.false_ne_true, fun a => absurd (hk.mp (a v (Nat.le_refl _) hv)) u⟩
      by_cases u : p < n
      · rw [houseAt R hn u]
        rw [if_neg (nI_ge u (by omega))] at wve
        by_cases l : nI (r p) = m 150 v
        · rw [if_pos l] at wve
          rw [if_pos l]; exact nx 1 wve
        · rw [if_neg l] at wve
          rw [if_neg l]; exact nx 0 wve
      · rw [houseAt_no R hn (by omega) (by omega)]
        rw [if_pos (nI_le (by omega) (by omega))] at wve
        have ne : ¬ (-1 : Int32) = m 150 v := fun e => by rw [p2] at e; exact nI_ne_m1 (by omega) e.symm
        rw [if_neg ne]; exact nx 0 wve
noncomputable def tg (H : Nat) (m : SI) : Nat → Nat := fun k => if k < H then (m 138 (4 * k + 2)).toInt.toNat else 0
theorem tg_at {H B k : Nat} {c m : SI} (T : TR H B c m) (hk : k < H) : m 138 (4 * k + 2) = nI (tg H m k) ∧ tg H m k ≤ 30 := by
  obtain ⟨h1, h2⟩ := (T.2.2.2.2.2.2.2.2.2.2.2.1 k hk).2.2.1
  unfold tg
  rw [if_pos hk]
  exact ⟨nI_of_ti (by omega) (by omega), by omega⟩
theorem tg_b {H B : Nat} {c m : SI} (T : TR H B c m) (k : Nat) : tg H m k ≤ 30 := by
  by_cases q : k < H
  · exact (tg_at T q).2
  · unfold tg; rw [if_neg q]; omega
noncomputable def tgx (H : Nat) (m : SI) (h e : Nat) : Nat → Nat := fun k => if k = h ∧ k < H then min (tg H m k + e) 30 else tg H m k
theorem tgx_b {H B : Nat} {c m : SI} (T : TR H B c m) (h e k : Nat) : tgx H m h e k ≤ 30 := by
  unfold tgx
  split
  · exact Nat.min_le_right _ _
  · exact tg_b T k
theorem cap_at {a b : Nat} (ha : a ≤ 1000) (hb : b ≤ 1000) : (if nI a + nI b < 30 then nI a + nI b else 30) = nI (min (a + b) 30) := by
  rw [nI_add]
  by_cases q : a + b < 30
  · rw [if_pos (show nI (a + b) < 30 from nI_lt (b := 30) q (by decide)), Nat.min_eq_left (by omega)]
  · rw [if_neg (show ¬ nI (a + b) < 30 from nI_nlt (b := 30) (by omega) (by omega)), Nat.min_eq_right (by omega)]; rfl
theorem told_in {H B : Nat} {m : SI} {h e : Nat} (he : e ≤ 9) (hh : h < 10) : ∀ (fu j n : Nat) (r : Nat → Nat) (c : SI), TR H B c m → ORD j (fun k => bt 0 k = true) (tgx H m h e) n r → RW c n r (tgx H m h e) → j ≤ H → H < j + fu → ∃ n' r' c', f11_orderTold_c9 (nI h) (nI e) fu (nI j) c = c' ∧ ORD H (fun k => bt 0 k = true) (tgx H m h e) n' r' ∧ RW c' n' r' (tgx H m h e) ∧ RF c c' := by
  intro fu
  induction fu with
  | zero => intro j n r c _ _ _ h1 h2; omega
  | succ fu ih =>
    intro j n r c T O R h1 h2
    have hH := T.1
    rw [f11_orderTold_c9, hou_c T]
    by_cases q : j = H
    · subst q
      rw [if_pos (nI_le (Nat.le_refl _) (by omega))]
      exact ⟨n, r, c, rfl, O, R, fun _ _ _ _ => rfl⟩
    · have hj : j < H := by omega
      obtain ⟨g1, g2⟩ := tg_at T hj
      have nb : ¬ bt 0 j = true := by unfold bt; simp
      have e0 : (if nI (tg H m j) + 0 < 30 then nI (tg H m j) + 0 else 30) = nI (tg H m j) := by
        have := cap_at (a := tg H m j) (b := 0) (by omega) (by omega)
        rw [Nat.add_zero, Nat.min_eq_left g2] at this
        exact this
      rw [if_neg (nI_ge hj (by omega)), toldG_c T hj, g1, nI_1, cap_at (by omega) (by omega), e0]
      have eg : (j = h → nI (min (tg H m j + e) 30) = nI (tgx H m h e j)) ∧ (j ≠ h → nI (tg H m j) = nI (tgx H m h e j)) := by
        unfold tgx
        exact ⟨fun k => by rw [if_pos ⟨k, hj⟩], fun k => by rw [if_neg (fun a => k a.1)]⟩
      have nx : ∃ n' r' c', f11_orderTold_c9 (nI h) (nI e) fu (nI (j + 1)) (f6_put c (nI j) (nI (tgx H m h e j))) = c' ∧ ORD H (fun k => bt 0 k = true) (tgx H m h e) n' r' ∧ RW c' n' r' (tgx H m h e) ∧ RF c c' := by
        obtain ⟨n1, r1, c1, e1, O1, R1, F1⟩ := put_step (J := j) (by omega) O R (tgx_b T h e) nb
        rw [e1]
        obtain ⟨n', r', c', i1, i2, i3, i4⟩ := ih (j + 1) n1 r1 c1 (TR_sx T (RF_SX F1)) O1 R1 (by omega) (by omega)
        exact ⟨n', r', c', i1, i2, i3, RF_tr F1 i4⟩
      by_cases w : j = h
      · rw [if_pos (by rw [w]), eg.1 w]; exact nx
      · rw [if_neg (fun a => w ((nI_eq (a := j) (b := h) (by omega) (by omega)).mp a)), eg.2 w]; exact nx
theorem toldRow_c {H B : Nat} {c m : SI} {h e : Nat} (T : TR H B c m) (he : e ≤ 9) (hh : h < 10) : ∃ n r c', f11_orderTold c (nI h) (nI e) = c' ∧ ORD H (fun k => bt 0 k = true) (tgx H m h e) n r ∧ RW c' n r (tgx H m h e) ∧ RF c c' := by
  have hH := T.1
  unfold f11_orderTold f6_clear
  dsimp only
  have F0 : RF c (sp c 36 2 0) := fun a x y z => sp_n x
  have T0 := TR_sx T (RF_SX F0)
  rw [hou_c T0, fu_bd (by omega)]
  obtain ⟨n', r', c', i1, i2, i3, i4⟩ := told_in (h := h) (e := e) he hh (H + 1) 0 0 (fun _ => 0) (sp c 36 2 0) T0 ORD_nil ⟨sp_r, fun i hi => by omega⟩ (Nat.zero_le _) (by omega)
  exact ⟨n', r', c', i1, i2, i3, RF_tr F0 i4⟩
theorem SEE_of {H : Nat} {c m : SI} (W : WIT H c m) : ∃ b, SEE H b m ∧ c 33 3 = nI b ∧ (∀ i, i < b → c 35 (3 * i) = m 149 i ∧ c 35 (3 * i + 1) = m 150 i ∧ c 35 (3 * i + 2) = m 151 i) := by
  obtain ⟨_, b, hb, w1, w2, w3⟩ := W
  exact ⟨b, ⟨w2, hb, fun i hi => (w3 i hi).2.2.2⟩, w1, fun i hi => ⟨(w3 i hi).1, (w3 i hi).2.1, (w3 i hi).2.2.1⟩⟩
theorem SEE_fr {H b : Nat} {m m' : SI} (S : SEE H b m) (h : ∀ a, a ≠ 138 → a ≠ 144 → m' a = m a) : SEE H b m' := by unfold SEE; rw [h 123 (by decide) (by decide), h 149 (by decide) (by decide), h 150 (by decide) (by decide), h 151 (by decide) (by decide)]; exact S
def FO (m m' : SI) : Prop := ∀ a, a ≠ 144 → m' a = m a
theorem so_both {H B : Nat} {LL : List LW} {hd : Int32} {c m : SI} {h e : Nat} (X : CTX H B LL hd c m) (he : e ≤ 9) (hh : h < H ∨ h = 9) : ∃ t c' m', f11_isSeenSo c (nI h) (nI e) = (t, c') ∧ f12_isSo m (nI h) (nI e) = (t, m') ∧ o12_isSo m (nI h) (nI e) ∧ SX c c' ∧ FO m m' := by
  obtain ⟨T, L, D, W⟩ := X
  have hH := T.1
  obtain ⟨b, S, w1, w2⟩ := SEE_of W
  obtain ⟨n, r, c1, e1, O, R, F1⟩ := toldRow_c (h := h) (e := e) T he (by omega)
  have hn : n ≤ 7 := Nat.le_trans O.1 hH
  obtain ⟨t, k1, k2⟩ := so_c (x := nI h) (y := nI e) hH hn S (by rw [F1 33 (by decide) (by decide) (by decide)]; exact w1) (by rw [F1 35 (by decide) (by decide) (by decide)]; exact w2) R (b + 1) 0 (Nat.zero_le _) (by omega)
  have eC : f11_isSeenSo c (nI h) (nI e) = (t, c1) := by
    unfold f11_isSeenSo
    rw [e1]
    dsimp only
    rw [show f10_seens c1 = nI b by unfold f10_seens; rw [F1 33 (by decide) (by decide) (by decide)]; exact w1, fu_bd (by have := S.2.1; omega)]
    exact k1
  have gH : ∀ (M : SI) (g : Nat → Nat), TR H B c M ∨ True → (∀ k, k < H → M 138 (4 * k + 2) = nI (g k)) → ∀ k, k < H → f12_griefOf M (nI k) true = nI (g k) ∧ o12_griefOf M (nI k) true := by
    intro M g _ hg k hk
    unfold f12_griefOf o12_griefOf
    rw [if_pos rfl, if_pos rfl]
    obtain ⟨a1, a2⟩ := of_at (m := M) (h := k) (j := 2) (by omega) (by decide)
    exact ⟨a1.trans (hg k hk), a2, trivial⟩
  -- the model's run, once its row is laid
  have run : ∀ (m0 m1 : SI) (n' : Nat) (r' : Nat → Nat) (z : Int32), ORD H (fun k => bt 0 k = true) (tgx H m h e) n' r' → (∀ j, j < n' → m1 144 j = nI (r' j)) → (∀ a, a ≠ 144 → m1 a = m0 a) → (∀ a, a ≠ 138 → a ≠ 144 → m0 a = m a) → ∃ mf, f12_isSo_c71 m1 (nI h) (nI e) z (nI n') (fu1 ((Int32.toInt (m1 123 48) - Int32.toInt (0 : Int32)).toNat)) true 0 = (t, mf) ∧ o12_isSo_c71 m1 (nI h) (nI e) z (nI n') (fu1 ((Int32.toInt (m1 123 48) - Int32.toInt (0 : Int32)).toNat)) true 0 ∧ mf = (if nI h = 9 then m1 else sp m1 138 ((4 : Int32) * nI h + 2).toNatClampNeg z) := by
    intro m0 m1 n' r' z O' hr' f1 f0
    obtain ⟨en, er⟩ := ORD_one hH O' O
    subst en
    have fr : ∀ a, a ≠ 138 → a ≠ 144 → m1 a = m a := fun a x y => (f1 a y).trans (f0 a x y)
    have S1 := SEE_fr S fr
    rw [S1.1, fu_bd (by have := S.2.1; omega)]
    have hx : nI h = 9 ∨ vp_in ((4 : Int32) * nI h + 2) 28 := by
      rcases hh with q | q
      · right
        have : (4 : Int32) * nI h + 2 = nI (4 * h + 2) := by rw [show (4 : Int32) = nI 4 from rfl, pk_mul, show (2 : Int32) = nI 2 from rfl, nI_add]
        rw [this]; exact vp_in_nI (by omega) (by decide)
      · left; rw [q]; rfl
    obtain ⟨t', i1, i2, i3⟩ := so_m (x := nI h) (y := nI e) (z := z) hn S1 (fun i hi => by rw [hr' i hi, er i hi]) hx (b + 1) 0 true (Nat.zero_le _) (by omega)
    have wve : ∀ w, w < b → (wv n' r m1 w ↔ wv n' r m w) := fun w _ => by unfold wv; rw [fr 149 (by decide) (by decide), fr 150 (by decide) (by decide), fr 151 (by decide) (by decide)]
    have tt : t' = t := bool_ii (P := ∀ w, 0 ≤ w → w < b → wv n' r m w) (i3.trans ⟨fun a w d e => (wve w e).mp (a.2 w d e), fun a => ⟨rfl, fun w d e => (wve w e).mpr (a w d e)⟩⟩) k2
    rw [tt] at i1
    exact ⟨_, i1, i2, rfl⟩
  unfold f12_isSo o12_isSo
  rcases hh with q | q
  · have ne : ¬ nI h = 9 := fun a => by have := (nI_eq (a := h) (b := 9) (by omega) (by decide)).mp a; omega
    obtain ⟨a1, a2⟩ : f12_of m (nI h) 2 = m 138 (4 * h + 2) ∧ o12_of m (nI h) 2 := of_at (m := m) (h := h) (j := 2) (by omega) (by decide)
    obtain ⟨g1, g2⟩ := tg_at T q
    have e4 : (4 : Int32) * nI h + 2 = nI (4 * h + 2) := by rw [show (4 : Int32) = nI 4 from rfl, pk_mul, show (2 : Int32) = nI 2 from rfl, nI_add]
    have vp : vp_in ((4 : Int32) * nI h + 2) 28 := by rw [e4]; exact vp_in_nI (by omega) (by decide)
    simp only [if_neg ne, if_pos (isH_c T q).2]
    rw [a1, g1, cap_at (by omega) (by omega)]
    generalize hm0 : sp m 138 ((4 : Int32) * nI h + 2).toNatClampNeg (nI (min (tg H m h + e) 30)) = m0
    have e0 : m0 138 = upd (m 138) (4 * h + 2) (nI (min (tg H m h + e) 30)) := by rw [← hm0, e4, nI_clamp (by omega), sp_s]
    have f0 : ∀ a, a ≠ 138 → m0 a = m a := fun a ha => by rw [← hm0, sp_n ha]
    have gx : ∀ k, k < H → m0 138 (4 * k + 2) = nI (tgx H m h e k) := by
      intro k hk
      rw [e0]
      by_cases w : k = h
      · subst w; rw [upd_s]; unfold tgx; rw [if_pos ⟨rfl, hk⟩]
      · rw [upd_n _ _ (by omega), (tg_at T hk).1]; unfold tgx; rw [if_neg (fun a => w a.1)]
    have TT : TR H B (sp c 11 (3 + 4 * h + 2) (nI (min (tg H m h + e) 30))) m0 := by
      obtain ⟨t1, t2, t3, t4, t5, t6, t7, t8, t9, t10, t11, t12, t13⟩ := T
      unfold TR
      rw [f0 123 (by decide), f0 137 (by decide), f0 139 (by decide), sp_n (show 12 ≠ 11 by decide), e0]
      refine ⟨t1, t2, t3, t4, t5, t6, t7, fun j hj => by rw [sp_k (by omega)]; exact t8 j hj, fun k j hk hj => ?_, fun b hb => by rw [sp_k (by omega)]; exact t10 b hb, t11, fun k hk => ?_, t13⟩
      · by_cases w : 4 * k + j = 4 * h + 2
        · rw [w, upd_s, show 3 + 4 * k + j = 3 + 4 * h + 2 by omega, sp_r]
        · rw [upd_n _ _ w, sp_k (by omega)]; exact t9 k j hk hj
      · obtain ⟨u1, u2, u3, u4⟩ := t12 k hk
        rw [upd_n _ _ (by omega), upd_n _ _ (by omega), upd_n _ _ (show 4 * k + 3 ≠ 4 * h + 2 by omega)]
        refine ⟨u1, u2, ?_, u4⟩
        by_cases w : 4 * k + 2 = 4 * h + 2
        · rw [w, upd_s]; exact nI_bnd (by have := Nat.min_le_right (tg H m h + e) 30; omega) (by omega)
        · rw [upd_n _ _ w]; exact u3
    obtain ⟨n', r', m1, i1, i2, i3, i4, i5⟩ := lay (x0 := 0) TT (tgx_b T h e) (gH m0 _ (Or.inr trivial) gx)
    rw [i1]
    dsimp only
    obtain ⟨mf, j1, j2, j3⟩ := run m0 m1 n' r' (nI (tg H m h)) i3 i4 i5 (fun a x _ => f0 a x)
    rw [j1]
    refine ⟨t, c1, mf, eC, rfl, ⟨a2, vp, i2, j2⟩, RF_SX F1, fun a ha => ?_⟩
    rw [j3, if_neg ne, e4, nI_clamp (by omega)]
    by_cases w : a = 138
    · subst w
      rw [sp_s, i5 138 (by decide), e0]
      funext i
      by_cases u : i = 4 * h + 2
      · subst u; rw [upd_s, g1]
      · rw [upd_n _ _ u, upd_n _ _ u]
    · rw [sp_n w, i5 a ha, f0 a w]
  · subst q
    have e9 : nI 9 = 9 := rfl
    simp only [if_pos e9]
    have gx : ∀ k, k < H → m 138 (4 * k + 2) = nI (tgx H m 9 e k) := by
      intro k hk
      rw [(tg_at T hk).1]; unfold tgx; rw [if_neg (fun a => by omega)]
    obtain ⟨n', r', m1, i1, i2, i3, i4, i5⟩ := lay (x0 := 0) T (tgx_b T 9 e) (gH m _ (Or.inr trivial) gx)
    rw [i1]
    dsimp only
    obtain ⟨mf, j1, j2, j3⟩ := run m m1 n' r' 0 i3 i4 i5 (fun _ _ _ => rfl)
    rw [j1]
    refine ⟨t, c1, mf, eC, rfl, ⟨i2, j2⟩, RF_SX F1, fun a ha => ?_⟩
    rw [j3, if_pos e9]
    exact i5 a ha
