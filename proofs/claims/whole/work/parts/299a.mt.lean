/-! fault; text told as a law -/
theorem LD_slf {t k : Nat} {L : LW} {cc : Nat → Int32} {m m' : SI} (h : LD k L cc m) (hk : k ≠ t) (hT : (tkL L).length ≤ 240) (h80 : L.length ≤ 80) (S : SLF t m m') : LD k L cc m' := by
  obtain ⟨a1, a2, a3, a4, a5⟩ := h
  obtain ⟨_, _, s3, s4, s5⟩ := S
  refine ⟨a1, (s3 k hk).2.trans a2, fun j x hx => ?_, fun i q hq => ?_, a5⟩
  · have hj := (List.getElem?_eq_some_iff.mp hx).1
    obtain ⟨e1, e2⟩ := s4 (520 * k + j) (by omega)
    rw [e1, e2]
    exact a3 j x hx
  · have hi := (List.getElem?_eq_some_iff.mp hq).1
    obtain ⟨e1, e2, e3⟩ := s5 (140 * k + i) (by omega)
    rw [e1, e2, e3]
    exact a4 i q hq
theorem LD_cc {t : Nat} {L : LW} {cc cc' : Nat → Int32} {m m' : SI} (h : LD t L cc m) (h2 : (cwL L).length ≤ 240) (hc : ∀ j, j < 240 → cc' j = cc j) (hm : ∀ a, 125 ≤ a → a ≤ 131 → m' a = m a) : LD t L cc' m' := by
  unfold LD at h ⊢
  rw [hm 125 (by decide) (by decide), hm 126 (by decide) (by decide), hm 128 (by decide) (by decide), hm 129 (by decide) (by decide), hm 130 (by decide) (by decide), hm 131 (by decide) (by decide)]
  exact ⟨fun j x hx => by rw [hc j (by have := (List.getElem?_eq_some_iff.mp hx).1; omega)]; exact h.1 j x hx, h.2⟩
theorem LR_slf {LL : List LW} {hd : Int32} {t : Nat} {c m c' m' : SI} (h : LR LL hd c m) (ht : LL.length ≤ t) (C : CF 0 c c') (S : SLF t m m') : LR LL hd c' m' := by
  obtain ⟨a1, a2, a3, a4, a5, a6, a7⟩ := h
  have cc : ∀ a, 13 ≤ a → c' a = c a := fun a x => C.1 a (by omega) (by omega) (by omega)
  refine ⟨a1, by rw [cc 13 (by decide)]; exact a2, (S.2.1 13 (by decide) (by decide) (by decide) (by decide)).trans a3, by rw [cc 13 (by decide)]; exact a4, (S.2.1 29 (by decide) (by decide) (by decide) (by decide)).trans a5, a6, fun k L hk => ?_⟩
  have hk4 : k < LL.length := (List.getElem?_eq_some_iff.mp hk).1
  obtain ⟨d1, d2, d3, d4, d5⟩ := a7 k L hk
  rw [cc _ (by omega), cc _ (by omega)]
  exact ⟨LD_slf d1 (by omega) d4 d5 S, d2, d3, d4, d5⟩
theorem IX_read {G : Nat} {c m c' m' : SI} {H B : Nat} {LL : List LW} {hd : Int32} {g n x t : Nat} {gs : Nat → Nat} (J : IX0 G c m H B LL hd g n x gs) (ht : LL.length ≤ t) (C : CF 0 c c') (S : SLF t m m') : IX0 G c' m' H B LL hd g n x gs := IX_lr J (Nat.le_refl _) (fun a q => C.1 a (by omega) (by omega) (by omega)) (C.2.1 1 (by decide) (by decide)) (by rw [C.1 0 (by decide) (by decide) (by decide)]) (fun a q => S.1 a (by omega) (by omega) (by omega) (by omega) (by omega) (by omega) (by omega) (by omega)) (fun j q => S.2.1 j (by omega) (by omega) (by omega) (by omega)) (LR_slf J.2.2.1 ht C S)
theorem TFr_K {c m c' m' : SI} (h : TFr c m c' m') : KC c c' ∧ KM m m' := by
  obtain ⟨⟨a1, a2⟩, a3, a4⟩ := h
  exact ⟨⟨fun a q => a1 a (by omega) (by omega) (by omega), by rw [a1 0 (by decide) (by decide) (by decide)], a2 1 (by decide) (by decide), by rw [a1 13 (by decide) (by decide) (by decide)], by rw [a1 13 (by decide) (by decide) (by decide)]⟩, fun a q => a3 a (by omega) (by omega) (by omega) (by omega), fun j q => a4 j (by omega) (by omega) (by omega) (by omega)⟩
theorem t_fault {G : Nat} {c m : SI} (I : INV G c m) (x : Int32) : RUN G (f11_fault c x) (f12_fault m x) (o12_fault m x) := by
  obtain ⟨H, B, LL, hd, g, n, y, gs, J⟩ := I
  have J : IX0 G c m H B LL hd g n y gs := J
  have hT : TP c m := J.1
  unfold f11_fault f12_fault o12_fault f7_wrongAt
  by_cases q0 : x = 0
  · rw [if_pos q0, if_pos q0, if_pos q0, if_pos q0]
    dsimp only
    obtain ⟨⟨f, r⟩, o⟩ := reads_town hT
    obtain ⟨KC', KM'⟩ := TFr_K f
    have V : INV G (f9_reads c).2 (f12_readTown m).2 := INV_k (IX0_inv J) KC' KM' (Nat.le_refl _)
    rcases r with ⟨r1, r2, _⟩ | ⟨r1, w, _, r2, r3⟩
    · rw [if_pos r1]
      exact ⟨r2.symm, ⟨o, trivial⟩, V⟩
    · rw [if_neg (show ¬ (f9_reads c).1 = true by rw [r1]; exact Bool.false_ne_true)]
      exact ⟨r3.trans r2.symm, ⟨o, trivial⟩, V⟩
  · rw [if_neg q0, if_neg q0, if_neg q0, if_neg q0]
    by_cases q1 : x = 1
    · rw [if_pos q1, if_pos q1, if_pos q1]
      dsimp only
      obtain ⟨o, C, S, r⟩ := reads_sim (t := 4) hT (by decide)
      have o' : o12_readLaw m 4 := o
      have S' : SLF 4 m (f12_readLaw m 4).2 := S
      have r' : ((f3_reads c).1 = true ∧ (f12_readLaw m 4).1 = -1 ∧ ∃ L, LOK 4 L (f3_reads c).2 (f12_readLaw m 4).2) ∨ ((f3_reads c).1 = false ∧ ∃ w : Nat, w ≤ 240 ∧ (f12_readLaw m 4).1 = nI w ∧ (f3_reads c).2 1 3 = nI w) := r
      have V : INV G (f3_reads c).2 (f12_readLaw m 4).2 := IX0_inv (IX_read J J.2.2.1.1 C S')
      rcases r' with ⟨r1, r2, _⟩ | ⟨r1, w, _, r2, r3⟩
      · rw [if_pos r1]
        exact ⟨r2.symm, ⟨o', trivial⟩, V⟩
      · rw [if_neg (show ¬ (f3_reads c).1 = true by rw [r1]; exact Bool.false_ne_true)]
        exact ⟨r3.trans r2.symm, ⟨o', trivial⟩, V⟩
    · simp only [if_neg q1]
      exact ⟨rfl, trivial, IX0_inv J⟩
theorem TP_nil {c m c' m' : SI} (h1 : c' 1 1 = 0) (h2 : m' 123 2 = 0) : TP c' m' := by
  have el : ln c' = 0 := ln_of (p := 0) h1 (by decide)
  unfold TP
  rw [el]
  exact ⟨h1, h2, Nat.zero_le _, fun i hi => absurd hi (Nat.not_lt_zero _)⟩
theorem cut_0 {c m : SI} (hT : TP c m) : f7_cut c 0 = sp c 1 1 0 := by
  unfold f7_cut
  rw [if_neg (show ¬ (0 : Int32) < 0 by decide), hT.1, if_neg (nI_pos (by have := hT.2.2.1; omega))]
theorem TP_cf {c m c' m' : SI} {t : Nat} (h : TP c m) (C : CF 0 c c') (S : SLF t m m') : TP c' m' := TP_fr h (C.2.1 1 (by decide) (by decide)) (C.1 2 (by decide) (by decide) (by decide)) (S.2.1 2 (by decide) (by decide) (by decide) (by decide)) (S.1 124 (by decide) (by decide) (by decide) (by decide) (by decide) (by decide) (by decide) (by decide))
theorem text_law {G : Nat} {c m : SI} (I : INV G c m) : RUN G (f11_text c 1) (f12_text m 1) (o12_text m 1) := by
  obtain ⟨H, B, LL, hd, g, n, y, gs, J⟩ := I
  have J : IX0 G c m H B LL hd g n y gs := J
  have hT : TP c m := J.1
  obtain ⟨l1, l2, l3, l4, l5, l6, l7⟩ := J.2.2.1
  have n10 : ¬ (1 : Int32) = 0 := by decide
  unfold f11_text f12_text o12_text f2_number
  rw [if_neg n10, if_neg n10, if_neg n10, if_pos rfl, if_pos rfl, if_pos rfl]
  by_cases q : 4 ≤ LL.length
  · have le1 : (4 : Int32) ≤ c 13 2 := by rw [l2]; exact nI_le (a := 4) q (by omega)
    have le2 : (4 : Int32) ≤ m 123 13 := by rw [l3]; exact nI_le (a := 4) q (by omega)
    rw [if_pos le1, if_pos le2, if_pos le2]
    exact ⟨rfl, trivial, IX0_inv J⟩
  · have le1 : ¬ (4 : Int32) ≤ c 13 2 := by rw [l2]; exact nI_ge (b := 4) (by omega) (by decide)
    have le2 : ¬ (4 : Int32) ≤ m 123 13 := by rw [l3]; exact nI_ge (b := 4) (by omega) (by decide)
    obtain ⟨o, C, S, r⟩ := reads_sim (t := LL.length) hT (by omega)
    have J2 := IX_read J (Nat.le_refl _) C S
    rw [if_neg le1, if_neg le2, if_neg le2, l3]
    have hT2 : TP (f3_reads c).2 (f12_readLaw m (nI LL.length)).2 := TP_cf hT C S
    dsimp only
    generalize f3_reads c = rc at C r J2 hT2
    generalize f12_readLaw m (nI LL.length) = rm at S r J2 hT2
    rcases r with ⟨r1, r2, L, r3, r4, r5, r6, r7⟩ | ⟨r1, w, hw, r2, r3⟩
    · have e13 : rc.2 13 2 = nI LL.length := by rw [C.1 13 (by decide) (by decide) (by decide)]; exact l2
      have em13 : rm.2 123 13 = nI LL.length := (S.2.1 13 (by decide) (by decide) (by decide) (by decide)).trans l3
      rw [if_pos r1, if_pos r2, if_pos r2, cut_0 hT2, em13, show nI LL.length + 1 = nI (LL.length + 1) from nI_add _ 1, show nI (LL.length + 1) - 1 = nI LL.length from nI_sub (b := 1) (by omega)]
      unfold f2_add
      rw [sp_n (show 13 ≠ 1 by decide), e13, law_at (by omega)]
      have e13' : (f1_copy (16 + 2 * LL.length) 8 (sp rc.2 1 1 0)) 13 2 = nI LL.length := by
        unfold f1_copy
        rw [sp_n (by omega), su_n _ _ (by omega), sp_n (by decide), e13]
      rw [oq_some rfl]
      dsimp only
      rw [e13', show nI LL.length + 1 = nI (LL.length + 1) from nI_add _ 1, show nI (LL.length + 1) - 1 = nI LL.length from nI_sub (b := 1) (by omega)]
      generalize hc : sp (f1_copy (16 + 2 * LL.length) 8 (sp rc.2 1 1 0)) 13 2 (nI (LL.length + 1)) = c'
      generalize hm : sp (sp rm.2 123 2 0) 123 13 (nI (LL.length + 1)) = m'
      unfold f1_copy at hc
      dsimp only at hc
      have ca : ∀ a, a ≠ 1 → a ≠ 13 → a ≠ 16 + 2 * LL.length → a ≠ 17 + 2 * LL.length → c' a = rc.2 a := fun a x1 x2 x3 x4 => by rw [← hc, sp_n x2, sp_n x3, su_n _ _ (by omega), sp_n x1]
      have c132 : c' 13 2 = nI (LL.length + 1) := by rw [← hc, sp_r]
      have c133 : c' 13 3 = rc.2 13 3 := by rw [← hc, sp_k (by decide), sp_n (by omega), su_n _ _ (by omega), sp_n (by decide)]
      have c11 : c' 1 1 = 0 := by rw [← hc, sp_n (by decide), sp_n (by omega), su_n _ _ (by omega), sp_r]
      have cK : c' (16 + 2 * LL.length) 1 = rc.2 8 1 := by rw [← hc, sp_n (by omega), sp_r, su_n _ _ (by omega), sp_n (by decide)]
      have cC : ∀ j, j < 240 → c' (17 + 2 * LL.length) j = rc.2 9 j := fun j hj => by
        rw [← hc, sp_n (by omega), sp_n (by omega), show 17 + 2 * LL.length = 16 + 2 * LL.length + 1 by omega, su_s, cpy_at hj, sp_n (by decide)]
      have ma : ∀ a, a ≠ 123 → m' a = rm.2 a := fun a x => by rw [← hm, sp_n x, sp_n x]
      have mj : ∀ j, j ≠ 2 → j ≠ 13 → m' 123 j = rm.2 123 j := fun j x z => by rw [← hm, sp_k z, sp_k x]
      have m2 : m' 123 2 = 0 := by rw [← hm, sp_k (by decide), sp_r]
      have m13 : m' 123 13 = nI (LL.length + 1) := by rw [← hm, sp_r]
      refine ⟨rfl, ⟨o, trivial⟩, ?_⟩
      dsimp only
      refine IX0_inv (IX_tplr (LL' := LL ++ [L]) (hd' := hd) J2 (Nat.le_refl _) (fun a q => ca a (by omega) (by omega) (by omega) (by omega)) (by rw [ca 0 (by decide) (by decide) (by omega) (by omega)]) (fun a q => ma a (by omega)) (fun j q => mj j (by omega) (by omega)) (TP_nil (c := c) (m := m) c11 m2) ?_)
      obtain ⟨_, _, _, k4, k5, k6, k7⟩ := J2.2.2.1
      refine ⟨by rw [List.length_append]; show LL.length + 1 ≤ 4; omega, by rw [List.length_append]; exact c132, by rw [List.length_append]; exact m13, c133.trans k4, (mj 29 (by decide) (by decide)).trans k5, ?_, fun k L' hk => ?_⟩
      · rcases k6 with e | ⟨k, hk, e⟩
        · exact Or.inl e
        · exact Or.inr ⟨k, by rw [List.length_append]; omega, e⟩
      · by_cases e : k < LL.length
        · rw [List.getElem?_append_left e] at hk
          obtain ⟨d1, d2, d3⟩ := k7 k L' hk
          rw [ca _ (by omega) (by omega) (by omega) (by omega), ca _ (by omega) (by omega) (by omega) (by omega)]
          exact ⟨LD_cc d1 d3.1 (fun _ _ => rfl) (fun a x1 x2 => ma a (by omega)), d2, d3⟩
        · have hk2 := (List.getElem?_eq_some_iff.mp hk).1
          rw [List.length_append] at hk2
          have hk2 : k < LL.length + 1 := hk2
          have ek : k = LL.length := by omega
          subst ek
          rw [List.getElem?_append_right (Nat.le_refl _), Nat.sub_self] at hk
          have eL : L = L' := by
            have := hk
            rw [List.getElem?_cons_zero] at this
            exact Option.some.inj this
          subst eL
          exact ⟨LD_cc r3 r5 cC (fun a x1 x2 => ma a (by omega)), cK.trans r4, r5, r6, r7⟩
    · have n1 : ¬ rm.1 = -1 := by rw [r2]; exact nI_ne_m1 (by omega)
      rw [if_neg (show ¬ rc.1 = true by rw [r1]; exact Bool.false_ne_true), if_neg n1, if_neg n1]
      exact ⟨rfl, ⟨o, trivial⟩, IX0_inv J2⟩
