/-! a whole law, read -/
theorem GF_3 {t r K : Nat} (m : SI) (x : Int32) : GF t r K m (sp m 123 3 x) :=
  ⟨fun a h _ _ _ _ _ _ _ => sp_n h, fun j h _ _ => sp_k h, fun j _ => ⟨by rw [sp_n (by decide)], by rw [sp_n (by decide)]⟩, fun k _ => ⟨by rw [sp_n (by decide)], by rw [sp_n (by decide)]⟩, fun k _ => ⟨by rw [sp_n (by decide)], by rw [sp_n (by decide)], by rw [sp_n (by decide)]⟩⟩
def COK (t k : Nat) (c m c' m' : SI) (cd sm : List (Nat × Nat)) : Prop := PS t 0 c' m' ∧ ql c' = ql c + (cw cd sm).length ∧ CF (ql c) c c' ∧ (∀ j x, (cw cd sm)[j]? = some x → c' 9 (ql c + j) = x) ∧ rl t m' = rl t m + (cd ++ sm).length ∧ (∀ j x, (cd ++ sm)[j]? = some x → m' 125 (520 * t + (rl t m + j)) = nI x.1 ∧ m' 126 (520 * t + (rl t m + j)) = nI x.2) ∧ m' 129 (140 * t + k) = nI (rl t m) ∧ m' 130 (140 * t + k) = nI (rl t m + cd.length) ∧ m' 131 (140 * t + k) = nI (rl t m + (cd ++ sm).length) ∧ m' 128 t = nI (k + 1) ∧ GF t (rl t m) (140 * t + k) m m' ∧ hd c + (cw cd sm).length + 2 ≤ hd c' ∧ (cd = [] ∨ tyc 18 cd [] = some [true]) ∧ tyc 18 sm [] = some [false]
theorem readsClause_eq (c : SI) : f3_readsClause c = if (f7_takes c 121).1 = true then (if (f7_takes (f7_takes c 121).2 58).1 = true then cB (f7_takes (f7_takes c 121).2 58).2 else (false, (f7_takes (f7_takes c 121).2 58).2)) else (false, (f7_takes c 121).2) := rfl
set_option maxRecDepth 100000 in
set_option maxHeartbeats 4000000 in
theorem clause_sim {t k : Nat} {c m : SI} (h : PS t 0 c m) (hq : ql c ≤ hd c) (h3 : 3 * k ≤ hd c) (hcl : m 128 t = nI k) : o12_clause m ∧ (((f3_readsClause c).1 = true ∧ ∃ cd sm, COK t k c m (f3_readsClause c).2 (f12_clause m) cd sm) ∨ ((f3_readsClause c).1 = false ∧ BX t (140 * t + k) c m (f3_readsClause c).2 (f12_clause m))) := by
  have ht := h.2.2.2.1
  have h14 := h.2.2.1
  have hw := h.1.2.2.2.2
  have hL := h.1.1.2.2.1
  have hH := h.1.2.2.2.1
  have hT : (nI t).toNatClampNeg = t := nI_clamp (by omega)
  have hk : k < 140 := by omega
  have hE0 : ((140 : Int32) * (m 123 14)) + (m 128 (Int32.toNatClampNeg (m 123 14))) = nI (140 * t + k) := by
    rw [h14, hT, hcl, show (140 : Int32) = nI 140 from rfl, pk_mul, nI_add]
  have hin := E0_in ht hk
  have hK : (nI (140 * t + k)).toNatClampNeg = 140 * t + k := nI_clamp (by omega)
  have v14 : vp_in (m 123 14) 5 := by rw [h14]; exact vp_in_nI ht (by decide)
  obtain ⟨E, hE⟩ : ∃ E, E = f12_clause m := ⟨_, rfl⟩
  rw [← hE, readsClause_eq]
  have hE := ite_t hE hw
  obtain ⟨c1, m1, p, r2, r3, r4, r5, r6, r8, r9, r10, r11⟩ := takes_at h.1 121
  obtain rfl : m1 = (f12_look m).2 := by rw [r2]
  obtain ⟨e0, e0h⟩ := MV_EM h r3 r4 r5
  have w1 := e0.1.1.2.2.2.2
  rcases r11 with ⟨q, r11⟩ | ⟨q, r11⟩
  · have l1 : (f12_look m).1 = 121 := by rw [r2]; exact q
    rw [r11]
    dsimp only
    rw [if_pos rfl]
    have hE := ite_t hE l1
    have hE := ite_t hE w1
    obtain ⟨v, hl⟩ := pass r8 (by rw [q]; decide)
    obtain ⟨e1, e1h⟩ := MV_EM e0.1 v (by omega) hl
    have e01 := EM_tr e0 e1
    obtain ⟨c3, m3, p3, s2, s3, s4, s5, s6, s8, s9, s10, s11⟩ := takes_at e1.1.1 58
    obtain rfl : m3 = (f12_look (sp (f12_look m).2 123 3 ((f12_look m).2 123 3 + 1))).2 := by rw [s2]
    obtain ⟨e2, e2h⟩ := MV_EM e1.1 s3 s4 s5
    have w3 := e2.1.1.2.2.2.2
    rcases s11 with ⟨q2, s11⟩ | ⟨q2, s11⟩
    · have l2 : (f12_look (sp (f12_look m).2 123 3 ((f12_look m).2 123 3 + 1))).1 = 58 := by rw [s2]; exact q2
      rw [s11]
      dsimp only
      rw [if_pos rfl]
      have hE := ite_t hE l2
      have hE := ite_t hE w3
      obtain ⟨v2, hl2⟩ := pass s8 (by rw [q2]; decide)
      obtain ⟨e3, e3h⟩ := MV_EM e2.1 v2 (by omega) hl2
      have e03 := EM_tr (EM_tr e01 e2) e3
      have g14 := e2.1.2.2.1
      have g127 : (f12_look (sp (f12_look m).2 123 3 ((f12_look m).2 123 3 + 1))).2 127 t = nI (rl t m) := by
        rw [e2.1.2.2.2.2.2.2.2.1]
        have a := e2.2.2.1
        have b := e1.2.2.1
        have d := e0.2.2.1
        rw [a, b, d]
        rfl
      have a2 := e03.2.1
      have a3 := e03.2.2.1
      obtain ⟨p1, p2⟩ := PS_sp (a := 129) (k := 140 * t + k) (x := nI (rl t m)) e03.1 (by decide) (by decide) (by decide)
      have hE : E = mB (((140 : Int32) * (m 123 14)) + (m 128 (Int32.toNatClampNeg (m 123 14)))) (sp (sp (f12_look (sp (f12_look m).2 123 3 ((f12_look m).2 123 3 + 1))).2 123 3 ((f12_look (sp (f12_look m).2 123 3 ((f12_look m).2 123 3 + 1))).2 123 3 + 1)) 129 (Int32.toNatClampNeg (((140 : Int32) * (m 123 14)) + (m 128 (Int32.toNatClampNeg (m 123 14))))) ((f12_look (sp (f12_look m).2 123 3 ((f12_look m).2 123 3 + 1))).2 127 (Int32.toNatClampNeg ((f12_look (sp (f12_look m).2 123 3 ((f12_look m).2 123 3 + 1))).2 123 14)))) := hE
      have oE : oB (((140 : Int32) * (m 123 14)) + (m 128 (Int32.toNatClampNeg (m 123 14)))) (sp (sp (f12_look (sp (f12_look m).2 123 3 ((f12_look m).2 123 3 + 1))).2 123 3 ((f12_look (sp (f12_look m).2 123 3 ((f12_look m).2 123 3 + 1))).2 123 3 + 1)) 129 (Int32.toNatClampNeg (((140 : Int32) * (m 123 14)) + (m 128 (Int32.toNatClampNeg (m 123 14))))) ((f12_look (sp (f12_look m).2 123 3 ((f12_look m).2 123 3 + 1))).2 127 (Int32.toNatClampNeg ((f12_look (sp (f12_look m).2 123 3 ((f12_look m).2 123 3 + 1))).2 123 14)))) → o12_clause m := fun z =>
        (And.intro v14 (o_t hw (And.intro r6 (o_t l1 (o_t w1 (And.intro s6 (o_t l2 (o_t w3 (And.intro (by rw [g14]; exact vp_in_nI ht (by decide)) (And.intro (by rw [hE0]; exact hin) z)))))))))
          : _ ∧ _)
      rw [hE0, hK, g14, hT, g127] at hE oE
      have hcl1 : sp (sp (f12_look (sp (f12_look m).2 123 3 ((f12_look m).2 123 3 + 1))).2 123 3 ((f12_look (sp (f12_look m).2 123 3 ((f12_look m).2 123 3 + 1))).2 123 3 + 1)) 129 (140 * t + k) (nI (rl t m)) 128 t = nI k := by
        rw [sp_n (by decide), e03.2.2.2.2.1.1 128 (by decide) (by decide) (by decide) (by decide)]; exact hcl
      obtain ⟨o, y⟩ := body_sim (E0 := nI (140 * t + k)) p1 (by rw [a2]; show ql c + 0 + 2 ≤ _; omega) rfl hk hcl1
      rw [hE]
      have gm : GF t (rl t m) (140 * t + k) m (sp (sp (f12_look (sp (f12_look m).2 123 3 ((f12_look m).2 123 3 + 1))).2 123 3 ((f12_look (sp (f12_look m).2 123 3 ((f12_look m).2 123 3 + 1))).2 123 3 + 1)) 129 (140 * t + k) (nI (rl t m))) := GF_tr (MF_GF _ e03.2.2.2.2.1) (GF_w _ _ (Or.inr ⟨rfl, by omega⟩)) (Nat.le_refl _)
      refine ⟨oE o, ?_⟩
      rcases y with ⟨y1, cd, sm, b1, b2, b3, b4, b5, b6, b7, b8, b9, d1, d2, d3, d4⟩ | ⟨y1, y2⟩
      · refine Or.inl ⟨y1, cd, sm, ?_⟩
        have z1 : ql (f7_pass c3) = ql c := a2
        have z2 : rl t (sp (sp (f12_look (sp (f12_look m).2 123 3 ((f12_look m).2 123 3 + 1))).2 123 3 ((f12_look (sp (f12_look m).2 123 3 ((f12_look m).2 123 3 + 1))).2 123 3 + 1)) 129 (140 * t + k) (nI (rl t m))) = rl t m := p2.trans a3
        rw [z1] at b2 b3 b4
        rw [z2] at b5 b6 b8 b9 d2
        rw [sp_r] at b7 b8
        refine ⟨b1, b2, CF_tr e03.2.2.2.1 b3 (Nat.le_refl _), b4, b5, b6, b7, ?_, b9, d1, GF_tr gm d2 (Nat.le_refl _), by omega, d4⟩
        rw [b8]
        by_cases hc : cd = []
        · rw [if_pos hc, hc]; rfl
        · rw [if_neg hc]
      · exact Or.inr ⟨y1, BX_base (CF_0 e03.2.2.2.1) gm y2⟩
    · have l2 : ¬ (f12_look (sp (f12_look m).2 123 3 ((f12_look m).2 123 3 + 1))).1 = 58 := by rw [s2]; exact q2
      rw [s11]
      have hE := ite_f hE l2
      obtain ⟨f1, f2⟩ := fail_here e2.1
      have f1' : ¬ (f7_fails c3).1 = true := by rw [f1]; exact Bool.false_ne_true
      have w4 := FS_ne f2.1
      have hE := ite_f hE w4
      rw [if_neg f1', hE]
      refine ⟨(And.intro v14 (o_t hw (And.intro r6 (o_t l1 (o_t w1 (And.intro s6 (o_f l2 (o_f w4 trivial))))))) : _ ∧ _), Or.inr ⟨rfl, ?_⟩⟩
      have e02 := EM_tr e01 e2
      obtain ⟨g1, g2, g3, g4⟩ := BX_base (K := 140 * t + k) (CF_0 e02.2.2.2.1) (MF_GF _ e02.2.2.2.2.1) (BAD_BX f2)
      exact ⟨by rw [sp_k (by decide)]; exact g1, by rw [sp_k (by decide)]; exact g2, g3, GF_tr g4 (GF_3 _ _) (Nat.le_refl _)⟩
  · have l1 : ¬ (f12_look m).1 = 121 := by rw [r2]; exact q
    rw [r11]
    have hE := ite_f hE l1
    obtain ⟨f1, f2⟩ := fail_here e0.1
    have f1' : ¬ (f7_fails c1).1 = true := by rw [f1]; exact Bool.false_ne_true
    have w4 := FS_ne f2.1
    have hE := ite_f hE w4
    have hE := ite_f hE w4
    rw [if_neg f1', hE]
    refine ⟨(And.intro v14 (o_t hw (And.intro r6 (o_f l1 (o_f w4 (o_f w4 trivial))))) : _ ∧ _), Or.inr ⟨rfl, ?_⟩⟩
    obtain ⟨g1, g2, g3, g4⟩ := BX_base (K := 140 * t + k) (CF_0 e0.2.2.2.1) (MF_GF _ e0.2.2.2.2.1) (BAD_BX f2)
    exact ⟨by rw [sp_k (by decide), sp_k (by decide)]; exact g1, by rw [sp_k (by decide), sp_k (by decide)]; exact g2, g3, GF_tr (GF_tr g4 (GF_3 _ _) (Nat.le_refl _)) (GF_3 _ _) (Nat.le_refl _)⟩
