/-! reading a town: the whole tape -/
noncomputable def KFt : Bool → Bool → SI → Int32 × SI := fun (y1_1 : Bool) (y1_2 : Bool) (σk1 : SI) => if (σk1 123 4) = (-1 : Int32) then (let r93 := (f12_look σk1); if r93.1 = (-1 : Int32) then (if (f12_isWhole r93.2) = true then ((r93.2 123 4), r93.2) else (let s95 := (f12_bad r93.2); ((s95 123 4), s95))) else (let s94 := (f12_bad r93.2); ((s94 123 4), s94))) else ((σk1 123 4), σk1)
def oKFt : Bool → Bool → SI → Prop := fun (y1_1 : Bool) (y1_2 : Bool) (σk1 : SI) => if (σk1 123 4) = (-1 : Int32) then ((o12_look σk1) ∧ (let r93 := (f12_look σk1); if r93.1 = (-1 : Int32) then ((o12_isWhole r93.2) ∧ (if (f12_isWhole r93.2) = true then True else (let s95 := (f12_bad r93.2); True))) else (let s94 := (f12_bad r93.2); True))) else True
def TRES (c m : SI) (r : Bool × SI) (r' : Int32 × SI) : Prop := TFr c m r.2 r'.2 ∧ ((r.1 = true ∧ r'.1 = -1 ∧ ∃ v a b, DT v a b r.2 r'.2 ∧ 2 ≤ a ∧ 1 ≤ b) ∨ (r.1 = false ∧ ∃ w : Nat, w ≤ 240 ∧ r'.1 = nI w ∧ r.2 1 3 = nI w))
theorem TRES_base {c m c1 m1 : SI} {r : Bool × SI} {r' : Int32 × SI} (f : TFr c m c1 m1) (h : TRES c1 m1 r r') : TRES c m r r' := ⟨TFr_tr f h.1, h.2⟩
theorem off_c49 {K : Bool → Bool → SI → Int32 × SI} {oK' : Bool → Bool → SI → Prop} {fu : Nat} {v : Bool} {s : SI} : f12_readTown_c49 K (fu + 1) v false s = K v false s ∧ (oK' v false s → o12_readTown_c49 oK' (fu + 1) v false s) := by
  rw [f12_readTown_c49, o12_readTown_c49, if_neg Bool.false_ne_true, if_neg Bool.false_ne_true]
  exact ⟨rfl, fun o => o⟩
theorem DT_fr {v : Bool} {a b : Nat} {c m c' m' : SI} (D : DT v a b c m) (h5 : c' 5 = c 5) (h6 : c' 6 = c 6) (m4 : m' 134 = m 134) (m5 : m' 135 = m 135) (m6 : m' 136 = m 136) (m20 : m' 123 20 = m 123 20) (m21 : m' 123 21 = m 123 21) : DT v a b c' m' := by
  unfold DT IR at D ⊢
  rw [h5, h6, m4, m5, m6, m20, m21]
  exact D
theorem town_in : ∀ (n fc fm v a b : Nat) (r : Bool) (c m : SI), ln c - hd c < n → n ≤ fc → n + 1 ≤ fm → HP c m → DT r a b c m → 2 * v ≤ hd c → TRES c m (f9_reads_c16 fc (nI v) c) (f12_readTown_c49 KFt fm r true m) ∧ o12_readTown_c49 oKFt fm r true m := by
  intro n
  induction n with
  | zero => intro fc fm v a b r c m h1; omega
  | succ n ih =>
    intro fc fm v a b r c m h1 h2 h3 h D hv
    have hL := h.1.2.2.1
    have hhd := h.2.2.2.1
    obtain ⟨fc, rfl, _⟩ := fu_pos (n := 0) (fu := fc) (by omega)
    obtain ⟨fm, rfl, _⟩ := fu_pos (n := 0) (fu := fm) (by omega)
    obtain ⟨fm, rfl, _⟩ := fu_pos (n := 0) (fu := fm) (by omega)
    obtain ⟨v', s, t1, t2, E⟩ := clause (K := KFt) (oK' := oKFt) (fu := fm + 1) h D
    rw [f9_reads_c16, if_neg (show ¬ (240 : Int32) ≤ nI v from nI_ge (b := 240) (by omega) (by decide)), t1]
    obtain ⟨f, g⟩ := E
    rcases g with ⟨b1, b2, b3, b4, ⟨a', b', D'⟩, b6⟩ | ⟨b1, cm, b2, b3, b4, b5, b6, b7⟩ | ⟨b1, w, b2, b3, b4⟩
    · generalize f9_readsClause c = rc at b1 b2 b3 b4 D' b6 f
      have n32 : xh rc.2 ≠ 32 := by
        rcases b6 with e | e
        · rw [e]; decide
        · rw [e]; decide
      obtain ⟨p1, p2, p3⟩ := peek_id b2 n32
      have w : s 123 4 = -1 := b2.2.2.2.2
      rcases b6 with e | e
      · have tl : TL KFt (fm + 1) v' s = KFt v' false s := by
          unfold TL
          rw [if_pos w, p2]
          dsimp only
          rw [e, if_neg (show ¬ (-1 : Int32) = 59 by decide)]
          exact (off_c49 (oK' := oKFt)).1
        have hend := xh_end b2 e
        obtain ⟨i1, i2, i3⟩ := whole_b D'
        have kf : KFt v' false s = if f12_isWhole s = true then (-1, s) else (nI (hd rc.2), sp s 123 4 (nI (hd rc.2))) := by
          unfold KFt
          rw [if_pos w, p2]
          dsimp only
          rw [if_pos e, w, bad_at b2, sp_r]
        have okf : oKFt v' false s := by
          unfold oKFt
          rw [if_pos w, p2]
          dsimp only
          rw [if_pos e]
          exact ⟨p3, i2, by split <;> trivial⟩
        have otl : oTL oKFt (fm + 1) v' s := by
          unfold oTL
          rw [if_pos w, p2]
          dsimp only
          rw [e, if_neg (show ¬ (-1 : Int32) = 59 by decide)]
          exact ⟨p3, (off_c49 (K := KFt)).2 okf⟩
        rw [tl, kf, ← i1]
        dsimp only
        rw [b1, if_pos rfl, p1]
        dsimp only
        rw [if_pos e]
        refine ⟨?_, t2 otl⟩
        by_cases q : f8_isWhole 4 rc.2 = true
        · rw [if_pos q, if_pos q]
          exact ⟨f, Or.inl ⟨rfl, rfl, v', a', b', D', i3 q⟩⟩
        · rw [if_neg q, if_neg q]
          unfold f7_failsAtEnd
          dsimp only
          rw [if_neg Bool.false_ne_true, b2.1.1, ← hend]
          have f2 : TFr rc.2 s (sp rc.2 1 3 (nI (hd rc.2))) (sp s 123 4 (nI (hd rc.2))) := ⟨⟨fun a x _ _ => sp_n x, fun j _ y => sp_k y⟩, fun a x _ _ _ => sp_n x, fun j _ y _ _ => sp_k y⟩
          have g1 : (sp rc.2 1 3 (nI (hd rc.2))) 1 3 = nI (hd rc.2) := sp_r
          exact ⟨TFr_tr f f2, Or.inr ⟨rfl, hd rc.2, by omega, rfl, g1⟩⟩
      · have e1 : ¬ xh rc.2 = -1 := by rw [e]; decide
        obtain ⟨v2, q2⟩ := pass b2 e1
        obtain ⟨H2, e2, l2⟩ := MV_HP b2 v2 q2
        have tk : f7_takes rc.2 59 = (true, f7_pass rc.2) := by
          unfold f7_takes
          rw [p1]
          dsimp only
          rw [if_pos e]
        have D2 : DT v' a' b' (f7_pass rc.2) (sp s 123 3 (s 123 3 + 1)) := DT_fr D' (v2.1.1 5 (by decide)) (v2.1.1 6 (by decide)) (v2.2.1 134 (by decide)) (v2.2.1 135 (by decide)) (v2.2.1 136 (by decide)) (v2.2.2.1 20 (by decide)) (v2.2.2.1 21 (by decide))
        obtain ⟨i1, i2⟩ := ih fc (fm + 1) (v + 1) a' b' v' (f7_pass rc.2) (sp s 123 3 (s 123 3 + 1)) (by omega) (by omega) (by omega) H2 D2 (by omega)
        have tl : TL KFt (fm + 1) v' s = f12_readTown_c49 KFt (fm + 1) v' true (sp s 123 3 (s 123 3 + 1)) := by
          unfold TL
          rw [if_pos w, p2]
          dsimp only
          rw [if_pos e]
        have otl : oTL oKFt (fm + 1) v' s := by
          unfold oTL
          rw [if_pos w, p2]
          dsimp only
          rw [if_pos e]
          exact ⟨p3, i2⟩
        rw [tl]
        dsimp only
        rw [b1, if_pos rfl, p1]
        dsimp only
        rw [if_neg e1, tk]
        dsimp only
        rw [if_pos rfl, show nI v + 1 = nI (v + 1) from nI_add v 1]
        exact ⟨TRES_base (TFr_tr f (MV_TFr v2)) i1, t2 otl⟩
    · obtain ⟨p1, p2, p3⟩ := peek_id b2 b6
      have w : s 123 4 = -1 := b2.2.2.2.2
      have hL2 := b2.1.2.2.1
      have hh2 := b2.2.2.2.1
      have kf : KFt v' false s = (nI (hd cm), sp s 123 4 (nI (hd cm))) := by
        unfold KFt
        rw [if_pos w, p2]
        dsimp only
        rw [if_neg b4, bad_at b2, sp_r]
      have okf : oKFt v' false s := by
        unfold oKFt
        rw [if_pos w, p2]
        dsimp only
        rw [if_neg b4]
        exact ⟨p3, trivial⟩
      have tl : TL KFt (fm + 1) v' s = KFt v' false s := by
        unfold TL
        rw [if_pos w, p2]
        dsimp only
        rw [if_neg b5]
        exact (off_c49 (oK' := oKFt)).1
      have otl : oTL oKFt (fm + 1) v' s := by
        unfold oTL
        rw [if_pos w, p2]
        dsimp only
        rw [if_neg b5]
        exact ⟨p3, (off_c49 (K := KFt)).2 okf⟩
      rw [tl, kf]
      dsimp only
      rw [if_neg (show ¬ (f9_readsClause c).1 = true by rw [b1]; exact Bool.false_ne_true)]
      have f2 : TFr c m (f9_readsClause c).2 (sp s 123 4 (nI (hd cm))) := TFr_tr f ⟨⟨fun _ _ _ _ => rfl, fun _ _ _ => rfl⟩, fun a x _ _ _ => sp_n x, fun j _ y _ _ => sp_k y⟩
      exact ⟨⟨f2, Or.inr ⟨rfl, hd cm, by omega, rfl, b7⟩⟩, t2 otl⟩
    · have nw : ¬ s 123 4 = -1 := by rw [b4]; exact nI_ne_m1 (by omega)
      have kf : KFt v' false s = (nI w, s) := by
        unfold KFt
        rw [if_neg nw, b4]
      have okf : oKFt v' false s := by
        unfold oKFt
        rw [if_neg nw]
        trivial
      have tl : TL KFt (fm + 1) v' s = KFt v' false s := by
        unfold TL
        rw [if_neg nw]
        exact (off_c49 (oK' := oKFt)).1
      have otl : oTL oKFt (fm + 1) v' s := by
        unfold oTL
        rw [if_neg nw]
        exact (off_c49 (K := KFt)).2 okf
      rw [tl, kf]
      dsimp only
      rw [if_neg (show ¬ (f9_readsClause c).1 = true by rw [b1]; exact Bool.false_ne_true)]
      exact ⟨⟨f, Or.inr ⟨rfl, w, by omega, rfl, b3⟩⟩, t2 otl⟩
theorem clr_slots {K : Int32 → SI → SI} : ∀ (n v fu : Nat) (c : SI), v + n = 36 → n < fu → ∃ c1, f8_clear_c24 4 K fu (nI v) c = K (nI 36) c1 ∧ ∀ a, a ≠ 5 → c1 a = c a := by
  intro n
  induction n with
  | zero =>
    intro v fu c hv hf
    obtain ⟨k, rfl, -⟩ := fu_pos hf
    obtain rfl : v = 36 := by omega
    exact ⟨c, by rw [f8_clear_c24, if_pos (show (36 : Int32) ≤ nI 36 by decide)], fun _ _ => rfl⟩
  | succ n ih =>
    intro v fu c hv hf
    obtain ⟨k, rfl, hk⟩ := fu_pos hf
    obtain ⟨c1, e1, e2⟩ := ih (v + 1) k (f8_put 4 c (nI v) 0) (by omega) (by omega)
    have ep : f8_put 4 c (nI v) 0 = sp c 5 v 0 := set_at (k := 5) (n := 36) (by omega) (by decide)
    refine ⟨c1, ?_, fun a ha => (e2 a ha).trans (by rw [ep, sp_n ha])⟩
    rw [f8_clear_c24, if_neg (show ¬ (36 : Int32) ≤ nI v from nI_ge (b := 36) (by omega) (by decide))]
    dsimp only
    rw [show nI v + 1 = nI (v + 1) from nI_add v 1]
    exact e1
theorem clr_town {c : SI} : ∃ c', f8_clear 4 c = c' ∧ (∀ a, a ≠ 5 → a ≠ 6 → c' a = c a) ∧ (∀ k, k < 3 → c' 5 (0 + k) = nI (kU 0 k)) ∧ (∀ j, j < 3 → c' 6 j = 0) := by
  have ef : fu1 ((Int32.toInt (3 : Int32) - Int32.toInt (0 : Int32)).toNat) = 4 := fu_bd (a := 3) (by decide)
  have e36 : fu1 ((Int32.toInt (36 : Int32) - Int32.toInt (0 : Int32)).toNat) = 37 := fu_bd (a := 36) (by decide)
  have es : ∀ (s : SI) (j : Nat) (z : Int32), j < 3 → f11_setCell (4 + 2) 3 s (nI j) z = sp s 6 j z := fun s j z hj => set_at (k := 6) (n := 3) hj (by decide)
  obtain ⟨c1, e1, e2⟩ := clr_slots (K := fun (_ : Int32) (σ : SI) => f8_putUsual 4 σ 0 0) 36 0 (fu1 ((Int32.toInt (36 : Int32) - Int32.toInt (0 : Int32)).toNat)) (sp (sp (sp c 6 0 0) 6 1 0) 6 2 0) (by decide) (by rw [e36]; decide)
  obtain ⟨c', p1, p2, p3, p4⟩ := put_usual (κ := 0) (S := 0) (c := c1) (by decide) (by decide)
  refine ⟨c', ?_, fun a x y => by rw [p2 a x, e2 a x, sp_n y, sp_n y, sp_n y], p3, fun j hj => ?_⟩
  · unfold f8_clear
    rw [ef]
    show f8_clear_c2 4 4 (nI 0) c = c'
    rw [f8_clear_c2, if_neg (show ¬ (3 : Int32) ≤ nI 0 by decide)]
    dsimp only
    rw [es _ 0 _ (by decide), show nI 0 + 1 = nI 1 by decide, f8_clear_c2, if_neg (show ¬ (3 : Int32) ≤ nI 1 by decide)]
    dsimp only
    rw [es _ 1 _ (by decide), show nI 1 + 1 = nI 2 by decide, f8_clear_c2, if_neg (show ¬ (3 : Int32) ≤ nI 2 by decide)]
    dsimp only
    rw [es _ 2 _ (by decide), show nI 2 + 1 = nI 3 by decide, f8_clear_c2, if_pos (show (3 : Int32) ≤ nI 3 by decide)]
    exact e1.trans p1
  · rw [p2 6 (by decide), e2 6 (by decide)]
    rcases (by omega : j = 0 ∨ j = 1 ∨ j = 2) with rfl | rfl | rfl
    · rw [sp_k (by decide), sp_k (by decide), sp_r]
    · rw [sp_k (by decide), sp_r]
    · rw [sp_r]
theorem usu_134 {m : SI} : ∃ m', f12_readTown_c24 false 4 (nI 0) m = f12_readTown_c49 KFt (fu1 ((Int32.toInt (m' 123 2) - Int32.toInt (m' 123 3)).toNat + 1 + 1)) false true m' ∧ (o12_readTown_c49 oKFt (fu1 ((Int32.toInt (m' 123 2) - Int32.toInt (m' 123 3)).toNat + 1 + 1)) false true m' → o12_readTown_c24 false 4 (nI 0) m) ∧ (∀ a, a ≠ 134 → m' a = m a) ∧ (∀ k, k < 3 → m' 134 (0 + k) = nI (kU 0 k)) := by
  have u : ∀ k, k < 3 → f12_usual (115 : Int32) (nI k) = nI (kU 0 k) := fun k hk => (k_bounds 0 (by decide) k (by omega) hk).2.2.2.2.2.1
  have n0 : ¬ (3 : Int32) ≤ nI 0 := by decide
  have n1 : ¬ (3 : Int32) ≤ nI 1 := by decide
  have n2 : ¬ (3 : Int32) ≤ nI 2 := by decide
  have l3 : (3 : Int32) ≤ nI 3 := by decide
  refine ⟨sp (sp (sp m 134 0 (nI (kU 0 0))) 134 1 (nI (kU 0 1))) 134 2 (nI (kU 0 2)), ?_, fun o => ?_, fun a x => by rw [sp_n x, sp_n x, sp_n x], fun k hk => ?_⟩
  · rw [f12_readTown_c24, if_neg n0]
    dsimp only
    rw [u 0 (by decide), nI_clamp (by decide), show nI 0 + 1 = nI 1 by decide, f12_readTown_c24, if_neg n1]
    dsimp only
    rw [u 1 (by decide), nI_clamp (by decide), show nI 1 + 1 = nI 2 by decide, f12_readTown_c24, if_neg n2]
    dsimp only
    rw [u 2 (by decide), nI_clamp (by decide), show nI 2 + 1 = nI 3 by decide, f12_readTown_c24, if_pos l3]
    rfl
  · rw [o12_readTown_c24, if_neg n0]
    dsimp only
    rw [u 0 (by decide), nI_clamp (by decide), show nI 0 + 1 = nI 1 by decide, o12_readTown_c24, if_neg n1]
    dsimp only
    rw [u 1 (by decide), nI_clamp (by decide), show nI 1 + 1 = nI 2 by decide, o12_readTown_c24, if_neg n2]
    dsimp only
    rw [u 2 (by decide), nI_clamp (by decide), show nI 2 + 1 = nI 3 by decide, o12_readTown_c24, if_pos l3]
    exact ⟨vp_in_nI (by decide) (by decide), vp_in_nI (by decide) (by decide), vp_in_nI (by decide) (by decide), o⟩
  · rcases (by omega : k = 0 ∨ k = 1 ∨ k = 2) with rfl | rfl | rfl
    · rw [sp_k (by decide), sp_k (by decide), sp_r]
    · rw [sp_k (by decide), sp_r]
    · rw [sp_r]
theorem reads_town {c m : SI} (hT : TP c m) : TRES c m (f9_reads c) (f12_readTown m) ∧ o12_readTown m := by
  have hL := hT.2.2.1
  have e3 : fu1 ((Int32.toInt (3 : Int32) - Int32.toInt (0 : Int32)).toNat) = 4 := fu_bd (a := 3) (by decide)
  have e240 : fu1 ((Int32.toInt (240 : Int32) - Int32.toInt (0 : Int32)).toNat) = 241 := fu_bd (a := 240) (by decide)
  unfold f9_reads f7_rewind f12_readTown o12_readTown
  rw [e240, e3]
  dsimp only
  generalize hs : sp (sp c 1 2 0) 1 3 (-1) = s
  generalize hm : sp (sp (sp (sp m 123 3 0) 123 4 (-1)) 123 20 0) 123 21 0 = t
  have sa : ∀ a, a ≠ 1 → s a = c a := fun a x => by rw [← hs, sp_n x, sp_n x]
  have sj : ∀ j, j ≠ 2 → j ≠ 3 → s 1 j = c 1 j := fun j x y => by rw [← hs, sp_k y, sp_k x]
  have ta : ∀ a, a ≠ 123 → t a = m a := fun a x => by rw [← hm, sp_n x, sp_n x, sp_n x, sp_n x]
  have tj : ∀ j, j ≠ 3 → j ≠ 4 → j ≠ 20 → j ≠ 21 → t 123 j = m 123 j := fun j x y z w => by rw [← hm, sp_k w, sp_k z, sp_k y, sp_k x]
  obtain ⟨c1, p1, p2, p3, p4⟩ := clr_town (c := s)
  obtain ⟨m1, q1, q2, q3, q4⟩ := usu_134 (m := t)
  have c1a : ∀ a, a ≠ 1 → a ≠ 5 → a ≠ 6 → c1 a = c a := fun a x y z => by rw [p2 a y z, sa a x]
  have c11 : c1 1 = s 1 := p2 1 (by decide) (by decide)
  have m1a : ∀ a, a ≠ 123 → a ≠ 134 → m1 a = m a := fun a x y => by rw [q3 a y, ta a x]
  have m11 : m1 123 = t 123 := q3 123 (by decide)
  have F : TFr c m c1 m1 := ⟨⟨c1a, fun j x y => by rw [c11]; exact sj j x y⟩, fun a x y _ _ => m1a a x y, fun j x y z w => by rw [m11]; exact tj j x y z w⟩
  have l1 : ln c1 = ln c := by unfold ln; rw [c11, sj 1 (by decide) (by decide)]
  have h0 : c1 1 2 = nI 0 := by rw [c11, ← hs, sp_k (by decide), sp_r]; rfl
  have hd0 : hd c1 = 0 := hd_of h0 (by decide)
  have H : HP c1 m1 := by
    refine ⟨⟨?_, ?_, by rw [l1]; exact hL, fun i hi => ?_⟩, by rw [hd0]; exact h0, ?_, by omega, ?_⟩
    · rw [l1, c11, sj 1 (by decide) (by decide)]; exact hT.1
    · rw [l1, m11, tj 2 (by decide) (by decide) (by decide) (by decide)]; exact hT.2.1
    · rw [l1] at hi
      rw [c1a 2 (by decide) (by decide) (by decide), m1a 124 (by decide) (by decide)]
      exact hT.2.2.2 i hi
    · rw [hd0, m11, ← hm, sp_k (by decide), sp_k (by decide), sp_k (by decide), sp_r]; rfl
    · rw [m11, ← hm, sp_k (by decide), sp_k (by decide), sp_r]
  have D : DT false 0 0 c1 m1 := by
    refine ⟨p4 0 (by decide), p4 1 (by decide), p4 2 (by decide), ?_, ?_, by decide, by decide, fun k hk => ?_, fun h hh => absurd hh (Nat.not_lt_zero _), fun i hi => absurd hi (Nat.not_lt_zero _)⟩
    · rw [m11, ← hm, sp_k (by decide), sp_r]; rfl
    · rw [m11, ← hm, sp_r]; rfl
    · have b := k_bounds 0 (by decide) k (by have : k < 3 := hk; omega) hk
      rw [p3 k hk, q4 k hk]
      exact ⟨rfl, kU 0 k, rfl, b.2.2.2.2.2.2.1, b.2.2.2.2.2.2.2.1⟩
  have efu : fu1 ((Int32.toInt (m1 123 2) - Int32.toInt (m1 123 3)).toNat + 1 + 1) = ln c1 + 3 := by
    rw [H.1.2.1, H.2.2.1, hd0, toNat_sub_nI (by omega) (by decide), fu1_eq]
    omega
  obtain ⟨i1, i2⟩ := town_in (ln c1 + 1) 241 (ln c1 + 3) 0 0 0 false c1 m1 (by omega) (by omega) (by omega) H D (Nat.zero_le _)
  rw [p1]
  rw [efu] at q1 q2
  have q1' : f12_readTown_c24 false 4 0 t = _ := q1
  rw [q1']
  exact ⟨TRES_base F i1, q2 i2⟩
