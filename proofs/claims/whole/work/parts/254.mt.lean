/-! conditions -/
theorem sim_seq {t d M M1 M2 : Nat} {s0 : List Bool} {b1 b2 : Bool} {F1 F2 : SI → Bool × SI} {o1 o2 : SI → Prop} {G1 G2 : SI → SI} (h1 : SIM t d M1 s0 b1 F1 o1 G1) (h2 : SIM t d M2 [b1] b2 F2 o2 G2) (hG : ∀ m, ¬ m 123 4 = -1 → G2 m = m ∧ o2 m) (hM1 : M1 ≤ M) (hM2 : M2 ≤ M) : SIM t d M s0 b2 (fun c => if (F1 c).1 = true then F2 (F1 c).2 else (false, (F1 c).2)) (fun m => o1 m ∧ o2 (G1 m)) (fun m => G2 (G1 m)) := by
  intro c m h hs
  obtain ⟨oo, q⟩ := h1 c m h hs
  dsimp only
  rcases q with ⟨q1, seg, q2, q3, q4⟩ | ⟨q1, q2⟩
  · rw [if_pos q1]
    have a1 := q2.2.1
    obtain ⟨o, q5⟩ := h2 _ _ q2.1 (by omega)
    refine ⟨⟨oo, o⟩, ?_⟩
    rcases q5 with ⟨y1, seg2, y2, y3, y4⟩ | ⟨y1, y2⟩
    · exact Or.inl ⟨y1, seg ++ seg2, EM_tr q2 y2, by rw [List.length_append]; omega, tyc_then (tyc_mono q4 hM1) (tyc_mono y4 hM2)⟩
    · exact Or.inr ⟨y1, BAD_base q2 (by omega) y2⟩
  · have q1' : ¬ (F1 c).1 = true := by rw [q1]; exact Bool.false_ne_true
    obtain ⟨g1, g2⟩ := hG _ (FS_ne q2.1)
    rw [if_neg q1', g1]
    exact ⟨⟨oo, g2⟩, Or.inr ⟨rfl, q2⟩⟩
def opA (x : Int32) : Nat := if x = 38 then 10 else 0
def opO (x : Int32) : Nat := if x = 124 then 11 else 0
theorem opA_ok {M : Nat} (x : Int32) (h : opA x ≠ 0) : x ≠ -1 ∧ ce (opA x, 0) = -x ∧ stp M (opA x, 0) [true, true] = some [true] := by
  unfold opA at h ⊢
  by_cases h1 : x = 38
  · subst h1; exact ⟨by decide, rfl, rfl⟩
  rw [if_neg h1] at h
  exact absurd rfl h
theorem opO_ok {M : Nat} (x : Int32) (h : opO x ≠ 0) : x ≠ -1 ∧ ce (opO x, 0) = -x ∧ stp M (opO x, 0) [true, true] = some [true] := by
  unfold opO at h ⊢
  by_cases h1 : x = 124
  · subst h1; exact ⟨by decide, rfl, rfl⟩
  rw [if_neg h1] at h
  exact absurd rfl h
theorem opA_1 {x : Int32} (h : x = 38) : opA x = 10 := if_pos h
theorem opA_0 {x : Int32} (h : ¬ x = 38) : opA x = 0 := if_neg h
theorem opO_1 {x : Int32} (h : x = 124) : opO x = 11 := if_pos h
theorem opO_0 {x : Int32} (h : ¬ x = 124) : opO x = 0 := if_neg h
theorem A_hC (U : SI → Int32 → Bool × SI) (x1 : Int32) (x2 : Bool) (fu : Nat) (v : Int32) (c : SI) : f3_readsTruth_c16 U x1 x2 (fu + 1) v c = if (240 : Int32) ≤ v then f7_fails c else if opA (f7_peek c).1 = 0 then (true, (f7_peek c).2) else if (U (f7_pass (f7_peek c).2) x1).1 = true then f3_readsTruth_c16 U x1 x2 fu (v + 1) (f1_add 8 (U (f7_pass (f7_peek c).2) x1).2 (-(f7_peek c).1)) else (false, (U (f7_pass (f7_peek c).2) x1).2) := by
  rw [f3_readsTruth_c16]
  by_cases h0 : (240 : Int32) ≤ v
  · rw [if_pos h0, if_pos h0]
  rw [if_neg h0, if_neg h0]
  dsimp only
  by_cases h1 : (f7_peek c).1 = 38
  · rw [if_pos h1, opA_1 h1, if_neg (show ¬ (10 : Nat) = 0 by decide), h1]
  rw [if_neg h1, opA_0 h1, if_pos rfl]
theorem O_hC (T : SI → Int32 → Bool → Bool × SI) (x1 : Int32) (x2 : Bool) (fu : Nat) (v : Int32) (c : SI) : f3_readsCondition_c13 T x1 x2 (fu + 1) v c = if (240 : Int32) ≤ v then f7_fails c else if opO (f7_peek c).1 = 0 then (true, (f7_peek c).2) else if (T (f7_pass (f7_peek c).2) x1 false).1 = true then f3_readsCondition_c13 T x1 x2 fu (v + 1) (f1_add 8 (T (f7_pass (f7_peek c).2) x1 false).2 (-(f7_peek c).1)) else (false, (T (f7_pass (f7_peek c).2) x1 false).2) := by
  rw [f3_readsCondition_c13]
  by_cases h0 : (240 : Int32) ≤ v
  · rw [if_pos h0, if_pos h0]
  rw [if_neg h0, if_neg h0]
  dsimp only
  by_cases h1 : (f7_peek c).1 = 124
  · rw [if_pos h1, opO_1 h1, if_neg (show ¬ (11 : Nat) = 0 by decide), h1]
  rw [if_neg h1, opO_0 h1, if_pos rfl]
theorem A_hM (U : SI → SI) (fu : Nat) (m : SI) : f12_goOnAnd_c0 U (fu + 1) m = if m 123 4 = -1 then (if opA (f12_look m).1 = 0 then (f12_look m).2 else f12_goOnAnd_c0 U fu (f12_put (U (sp (f12_look m).2 123 3 ((f12_look m).2 123 3 + 1))) (nI (opA (f12_look m).1)) 0)) else m := by
  rw [f12_goOnAnd_c0]
  by_cases hw : m 123 4 = -1
  · rw [if_pos hw, if_pos hw]
    dsimp only
    by_cases h1 : (f12_look m).1 = 38
    · rw [if_pos h1, opA_1 h1, if_neg (show ¬ (10 : Nat) = 0 by decide)]
      rfl
    rw [if_neg h1, opA_0 h1, if_pos rfl]
  · rw [if_neg hw, if_neg hw]
theorem O_hM (A U : SI → SI) (fu : Nat) (m : SI) : f12_goOnOr_c0 A U (fu + 1) m = if m 123 4 = -1 then (if opO (f12_look m).1 = 0 then (f12_look m).2 else f12_goOnOr_c0 A U fu (f12_put (A (U (sp (f12_look m).2 123 3 ((f12_look m).2 123 3 + 1)))) (nI (opO (f12_look m).1)) 0)) else m := by
  rw [f12_goOnOr_c0]
  by_cases hw : m 123 4 = -1
  · rw [if_pos hw, if_pos hw]
    dsimp only
    by_cases h1 : (f12_look m).1 = 124
    · rw [if_pos h1, opO_1 h1, if_neg (show ¬ (11 : Nat) = 0 by decide)]
      rfl
    rw [if_neg h1, opO_0 h1, if_pos rfl]
  · rw [if_neg hw, if_neg hw]
theorem A_hO (U : SI → SI) (oU : SI → Prop) (fu : Nat) (m : SI) (h : m 123 4 = -1 → o12_look m ∧ (opA (f12_look m).1 ≠ 0 → oU (sp (f12_look m).2 123 3 ((f12_look m).2 123 3 + 1)) ∧ o12_put (U (sp (f12_look m).2 123 3 ((f12_look m).2 123 3 + 1))) (nI (opA (f12_look m).1)) 0 ∧ o12_goOnAnd_c0 U oU fu (f12_put (U (sp (f12_look m).2 123 3 ((f12_look m).2 123 3 + 1))) (nI (opA (f12_look m).1)) 0))) : o12_goOnAnd_c0 U oU (fu + 1) m := by
  rw [o12_goOnAnd_c0]
  by_cases hw : m 123 4 = -1
  · rw [if_pos hw]
    obtain ⟨h0, h⟩ := h hw
    refine ⟨h0, ?_⟩
    dsimp only
    by_cases h1 : (f12_look m).1 = 38
    · rw [opA_1 h1] at h
      rw [if_pos h1]
      exact h (by decide)
    rw [if_neg h1]
    trivial
  · rw [if_neg hw]
    trivial
theorem O_hO (A U : SI → SI) (oU oA : SI → Prop) (fu : Nat) (m : SI) (h : m 123 4 = -1 → o12_look m ∧ (opO (f12_look m).1 ≠ 0 → (oU (sp (f12_look m).2 123 3 ((f12_look m).2 123 3 + 1)) ∧ oA (U (sp (f12_look m).2 123 3 ((f12_look m).2 123 3 + 1)))) ∧ o12_put (A (U (sp (f12_look m).2 123 3 ((f12_look m).2 123 3 + 1)))) (nI (opO (f12_look m).1)) 0 ∧ o12_goOnOr_c0 A U oU oA fu (f12_put (A (U (sp (f12_look m).2 123 3 ((f12_look m).2 123 3 + 1)))) (nI (opO (f12_look m).1)) 0))) : o12_goOnOr_c0 A U oU oA (fu + 1) m := by
  rw [o12_goOnOr_c0]
  by_cases hw : m 123 4 = -1
  · rw [if_pos hw]
    obtain ⟨h0, h⟩ := h hw
    refine ⟨h0, ?_⟩
    dsimp only
    by_cases h1 : (f12_look m).1 = 124
    · rw [opO_1 h1] at h
      rw [if_pos h1]
      obtain ⟨⟨a, b⟩, e, f⟩ := h (by decide)
      exact ⟨a, b, e, f⟩
    rw [if_neg h1]
    trivial
  · rw [if_neg hw]
    trivial
theorem fuel0 {c m : SI} (h : HP c m) : ln c - hd (f7_peek c).2 < fu1 ((Int32.toInt (m 123 2) - Int32.toInt (m 123 3)).toNat + 1) ∧ ln c - hd (f7_peek c).2 < fu1 ((Int32.toInt (240 : Int32) - Int32.toInt (0 : Int32)).toNat) := by
  obtain ⟨c1, m1, p, r1, r2, r3, r4, r5, r6, r7, r8, r9, r10⟩ := peek h
  have hL := h.1.2.2.1
  have hH := h.2.2.2.1
  rw [fu1_eq, fu1_eq, r1, h.1.2.1, h.2.2.1, toNat_sub_nI (by omega) (by omega)]
  have e240 : (Int32.toInt (240 : Int32) - Int32.toInt (0 : Int32)).toNat = 240 := rfl
  rw [e240]
  show ln c - hd c1 < _ ∧ ln c - hd c1 < _
  omega
theorem and_sim {t d MU : Nat} {U : SI → Int32 → Bool × SI} {oU : SI → Prop} {Um : SI → SI} (bb : Bool) (hU : SIM t d MU [] true (fun c => U c (nI d)) oU Um) : SIM t d (MU + 1) [true] true (fun c => f3_readsTruth_c16 U (nI d) bb (fu1 ((Int32.toInt (240 : Int32) - Int32.toInt (0 : Int32)).toNat)) 0 c) (o12_goOnAnd Um oU) (f12_goOnAnd Um) := by
  intro c m h hs
  obtain ⟨f1, f2⟩ := fuel0 h.1
  have := loop_sim (A_hC U (nI d) bb) (A_hM Um) (A_hO Um oU) (M := MU + 1) hU (Nat.le_refl _) opA_ok (fu1 ((Int32.toInt (m 123 2) - Int32.toInt (m 123 3)).toNat + 1)) (fu1 ((Int32.toInt (240 : Int32) - Int32.toInt (0 : Int32)).toNat)) c m 0 h hs (by omega) f2 f1
  exact this
theorem or_sim {t d MT : Nat} {T : SI → Int32 → Bool → Bool × SI} {oU oA : SI → Prop} {Um Am : SI → SI} (bb : Bool) (hT : SIM t d MT [] true (fun c => T c (nI d) false) (fun m => oU m ∧ oA (Um m)) (fun m => Am (Um m))) : SIM t d (MT + 1) [true] true (fun c => f3_readsCondition_c13 T (nI d) bb (fu1 ((Int32.toInt (240 : Int32) - Int32.toInt (0 : Int32)).toNat)) 0 c) (o12_goOnOr Am Um oU oA) (f12_goOnOr Am Um) := by
  intro c m h hs
  obtain ⟨f1, f2⟩ := fuel0 h.1
  have := loop_sim (opn := opO) (LC := f3_readsCondition_c13 T (nI d) bb) (SC := fun c => T c (nI d) false) (LM := f12_goOnOr_c0 Am Um) (SM := fun m => Am (Um m)) (oLM := o12_goOnOr_c0 Am Um oU oA) (oSM := fun m => oU m ∧ oA (Um m)) (O_hC T (nI d) bb) (O_hM Am Um) (O_hO Am Um oU oA) (M := MT + 1) hT (Nat.le_refl _) opO_ok (fu1 ((Int32.toInt (m 123 2) - Int32.toInt (m 123 3)).toNat + 1)) (fu1 ((Int32.toInt (240 : Int32) - Int32.toInt (0 : Int32)).toNat)) c m 0 h hs (by omega) f2 f1
  exact this
theorem and_bad (U : SI → SI) (oU : SI → Prop) (m : SI) (h : ¬ m 123 4 = -1) : f12_goOnAnd U m = m ∧ o12_goOnAnd U oU m := by
  unfold f12_goOnAnd o12_goOnAnd
  rw [fu1_eq, f12_goOnAnd_c0, if_neg h, o12_goOnAnd_c0, if_neg h]
  exact ⟨rfl, trivial⟩
theorem or_bad (A U : SI → SI) (oU oA : SI → Prop) (m : SI) (h : ¬ m 123 4 = -1) : f12_goOnOr A U m = m ∧ o12_goOnOr A U oU oA m := by
  unfold f12_goOnOr o12_goOnOr
  rw [fu1_eq, f12_goOnOr_c0, if_neg h, o12_goOnOr_c0, if_neg h]
  exact ⟨rfl, trivial⟩
theorem truth_sim {t d MU : Nat} {U : SI → Int32 → Bool × SI} {oU : SI → Prop} {Um : SI → SI} (hU : SIM t d MU [] true (fun c => U c (nI d)) oU Um) : SIM t d (MU + 1) [] true (fun c => f3_readsTruth U c (nI d) false) (fun m => oU m ∧ o12_goOnAnd Um oU (Um m)) (fun m => f12_goOnAnd Um (Um m)) := by
  have := sim_seq (M := MU + 1) hU (and_sim false hU) (fun m h => and_bad Um oU m h) (by omega) (Nat.le_refl _)
  exact this
theorem cond_sim {t d MU : Nat} {U : SI → Int32 → Bool × SI} {oU : SI → Prop} {Um : SI → SI} (hU : SIM t d MU [] true (fun c => U c (nI d)) oU Um) : SIM t d (MU + 2) [] true (fun c => f3_readsCondition (f3_readsTruth U) c (nI d) false) (o12_condition (f12_goOnOr (f12_goOnAnd Um) Um) (f12_goOnAnd Um) Um oU (o12_goOnAnd Um oU) (o12_goOnOr (f12_goOnAnd Um) Um oU (o12_goOnAnd Um oU))) (f12_condition (f12_goOnOr (f12_goOnAnd Um) Um) (f12_goOnAnd Um) Um) := by
  have h := sim_seq (M := MU + 2) (truth_sim hU) (or_sim false (truth_sim hU)) (fun m h => or_bad _ _ _ _ m h) (by omega) (Nat.le_refl _)
  intro c m hp hs
  obtain ⟨⟨⟨o1, o2⟩, o3⟩, q⟩ := h c m hp hs
  exact ⟨⟨o1, o2, o3, trivial⟩, q⟩
theorem cond_begun {t d MU : Nat} {U : SI → Int32 → Bool × SI} {oU : SI → Prop} {Um : SI → SI} (hU : SIM t d MU [] true (fun c => U c (nI d)) oU Um) : SIM t d (MU + 2) [true] true (fun c => f3_readsCondition (f3_readsTruth U) c (nI d) true) (fun m => o12_goOnAnd Um oU m ∧ o12_goOnOr (f12_goOnAnd Um) Um oU (o12_goOnAnd Um oU) (f12_goOnAnd Um m)) (fun m => f12_goOnOr (f12_goOnAnd Um) Um (f12_goOnAnd Um m)) := by
  have h := sim_seq (M := MU + 2) (and_sim true hU) (or_sim true (truth_sim hU)) (fun m h => or_bad _ _ _ _ m h) (by omega) (Nat.le_refl _)
  exact h
def opR (x : Int32) : Nat := if x = 61 then 6 else if x = 60 then 7 else 8
theorem rel_of {x : Int32} (h : f3_isRelation x = true) : x ≠ -1 ∧ ce (opR x, 0) = -x ∧ (∀ M, stp M (opR x, 0) [false, false] = some [true]) := by
  unfold f3_isRelation at h
  unfold opR
  by_cases h1 : x = 61
  · subst h1; exact ⟨by decide, rfl, fun _ => rfl⟩
  by_cases h2 : x = 60
  · subst h2; exact ⟨by decide, rfl, fun _ => rfl⟩
  by_cases h3 : x = 62
  · subst h3; exact ⟨by decide, rfl, fun _ => rfl⟩
  rw [if_neg h1, if_neg h2, if_neg h3] at h
  cases h
theorem sign_same (x : Int32) : f12_isSign x = f3_isRelation x := rfl
theorem rel_sim (t d : Nat) (hd6 : d ≤ 6) : SIM t d (4 + 2 * (6 - d)) [false] true (fun c => f3_readsRelation c (nI d)) o12_compare f12_compare := by
  intro c m h hs
  obtain ⟨c1, m1, p, r1, r2, r3, r4, r5, r6, r7, r8, r9, r10⟩ := peek h.1
  obtain ⟨e0, e0h⟩ := MV_EM h r3 r4 r5
  have hL := h.1.1.2.2.1
  have hw := h.1.2.2.2.2
  have hq0 : ql c1 = ql c := e0.2.1
  have hr0 : rl t m1 = rl t m := e0.2.2.1
  have hr1 : rl t m ≤ hd c := h.2.2.2.2.2.2.2.2
  dsimp only
  unfold f3_readsRelation f12_compare o12_compare
  rw [if_pos hw, if_pos hw]
  simp only [r1, r2, sign_same]
  by_cases x : f3_isRelation (xh c1) = true
  · rw [if_pos x, if_pos x, if_pos x]
    obtain ⟨x1, x2, x3⟩ := rel_of x
    obtain ⟨v1, hl⟩ := pass r8 x1
    obtain ⟨e1, e1h⟩ := MV_EM e0.1 v1 (by omega) hl
    have hq1 : ql (f7_pass c1) = ql c1 := e1.2.1
    have e01 := EM_tr e0 e1
    have hr2 : rl t (sp m1 123 3 (m1 123 3 + 1)) = rl t m1 := e1.2.2.1
    obtain ⟨oo, q⟩ := sum_sim t d hd6 _ _ e1.1 (by omega)
    dsimp only at q
    have ePut : (if xh c1 = 61 then f12_put (f12_sumR (sp m1 123 3 (m1 123 3 + 1))) 6 0 else if xh c1 = 60 then f12_put (f12_sumR (sp m1 123 3 (m1 123 3 + 1))) 7 0 else f12_put (f12_sumR (sp m1 123 3 (m1 123 3 + 1))) 8 0) = f12_put (f12_sumR (sp m1 123 3 (m1 123 3 + 1))) (nI (opR (xh c1))) 0 := by
      unfold opR
      by_cases h1 : xh c1 = 61
      · rw [if_pos h1, if_pos h1]; rfl
      by_cases h2 : xh c1 = 60
      · rw [if_neg h1, if_pos h2, if_neg h1, if_pos h2]; rfl
      rw [if_neg h1, if_neg h2, if_neg h1, if_neg h2]; rfl
    have oPut : o12_put (f12_sumR (sp m1 123 3 (m1 123 3 + 1))) (nI (opR (xh c1))) 0 → (if xh c1 = 61 then o12_put (f12_sumR (sp m1 123 3 (m1 123 3 + 1))) 6 0 ∧ True else if xh c1 = 60 then o12_put (f12_sumR (sp m1 123 3 (m1 123 3 + 1))) 7 0 ∧ True else o12_put (f12_sumR (sp m1 123 3 (m1 123 3 + 1))) 8 0 ∧ True) := by
      unfold opR
      intro o
      by_cases h1 : xh c1 = 61
      · rw [if_pos h1] at o; rw [if_pos h1]; exact ⟨o, trivial⟩
      by_cases h2 : xh c1 = 60
      · rw [if_neg h1, if_pos h2] at o; rw [if_neg h1, if_pos h2]; exact ⟨o, trivial⟩
      rw [if_neg h1, if_neg h2] at o; rw [if_neg h1, if_neg h2]; exact ⟨o, trivial⟩
    rw [ePut]
    rcases q with ⟨q1, seg, q2, q3, q4⟩ | ⟨q1, q2⟩
    · rw [if_pos q1]
      have l1 := tyc_pos q4
      have a1 := q2.2.1
      have a2 := q2.2.2.1
      have a4 := q2.1.1.2.2.2.1
      have a5 : ln (f3_sum (f7_pass c1) (nI d)).2 = ln c := (EM_ln q2).trans (EM_ln e01)
      obtain ⟨o, e3⟩ := add_put q2.1 (by omega) (by omega) (opR (xh c1), 0)
      rw [x2] at e3
      have b2 := e3.2.2.2.2.2.1
      refine ⟨⟨r6, oo, oPut o⟩, Or.inl ⟨rfl, seg ++ [(opR (xh c1), 0)], EM_tr (EM_tr e01 q2) e3, ?_, ?_⟩⟩
      · rw [List.length_append, List.length_singleton]
        dsimp only at b2 ⊢
        omega
      · have z1 := tyc_mono (M' := 4 + 2 * (6 - d)) (tyc_lift (k := 1) (b := [false]) q4 (Nat.le_refl _)) (by omega)
        refine tyc_then z1 ?_
        show (stp _ (opR (xh c1), 0) [false, false]).bind (tyc _ []) = _
        rw [x3]
        rfl
    · have q1' : ¬ (f3_sum (f7_pass c1) (nI d)).1 = true := by rw [q1]; exact Bool.false_ne_true
      rw [if_neg q1']
      obtain ⟨f1, f2, f3⟩ := q2
      have f4 := FS_base (k := 1) e01 (by show hd c + 0 + 1 ≤ _; omega) f1
      obtain ⟨g1, g2, g3⟩ := FS_put (s := 0) hL (by omega) h.2.2.2.1 (FS_less f4 (by omega)) (nI (opR (xh c1))) 0
      refine ⟨⟨r6, oo, oPut g1⟩, Or.inr ⟨rfl, g2, ?_, ?_⟩⟩
      · rw [g3]; exact f2
      · exact ⟨fun a x y z => (f3.1 a x y z).trans (e01.2.2.2.1.1 a x y z), fun j x y => (f3.2.1 j x y).trans (e01.2.2.2.1.2.1 j x y), fun j x => (f3.2.2.1 j x).trans (e01.2.2.2.1.2.2.1 j x), fun k hk => absurd hk (Nat.not_lt_zero k)⟩
  · rw [if_neg x, if_neg x, if_neg x]
    obtain ⟨f1, f2⟩ := fail_here e0.1
    exact ⟨⟨r6, trivial⟩, Or.inr ⟨f1, BAD_base e0 (by rw [List.length_nil]; omega) f2⟩⟩
theorem rel_bad (m : SI) (h : ¬ m 123 4 = -1) : f12_compare m = f12_bad m ∧ o12_compare m := by
  unfold f12_compare o12_compare
  rw [if_neg h, if_neg h, if_neg (show ¬ f12_isSign (-1) = true by decide), if_neg (show ¬ f12_isSign (-1) = true by decide)]
  exact ⟨rfl, trivial⟩
theorem FS_deep {t d s : Nat} {c m m' : SI} (x5 : Int32) (h : FS t (d + 1) s c m m') : FS t d s c m (sp m' 123 5 x5) ∧ (sp m' 123 5 x5) 123 4 = m' 123 4 := by
  obtain ⟨w, a, r, h1, h2, h3, h4, h5, h6, h7, h8, h9⟩ := h
  have k1 : ∀ j, j ≠ 5 → (sp m' 123 5 x5) 123 j = m' 123 j := fun j h => sp_k h
  have k2 : ∀ a, a ≠ 123 → (sp m' 123 5 x5) a = m' a := fun a h => sp_n h
  exact ⟨⟨w, a, r, h1, by rw [k1 4 (by decide)]; exact h2, by rw [k1 3 (by decide)]; exact h3, by rw [k2 127 (by decide)]; exact h4, by omega, h6, h7, by rw [k1 14 (by decide)]; exact h8, ⟨fun a x y z w => (k2 a x).trans (h9.1 a x y z w), fun j x y z => (k1 j z).trans (h9.2.1 j x y z), fun j x => by rw [k2 127 (by decide)]; exact h9.2.2.1 j x, fun k x => ⟨by rw [k2 125 (by decide)]; exact (h9.2.2.2 k x).1, by rw [k2 126 (by decide)]; exact (h9.2.2.2 k x).2⟩⟩⟩, k1 4 (by decide)⟩
theorem unit_sim {t d : Nat} (hd6 : d ≤ 6) {C : SI → Int32 → Bool → Bool × SI} {U : SI → Int32 → Bool × SI} {oC oU : SI → Prop} {Cm Um : SI → SI} (hC : d < 6 → SIM t (d + 1) (4 + 2 * (6 - d)) [] true (fun c => C c (nI (d + 1)) false) oC Cm) (hU : d < 6 → SIM t (d + 1) (2 + 2 * (6 - d)) [] true (fun c => U c (nI (d + 1))) oU Um) : SIM t d (4 + 2 * (6 - d)) [] true (fun c => f3_readsUnit C U c (nI d)) (o12_unit Cm Um oU oC) (f12_unit Cm Um) := by
  intro c m h hs
  obtain ⟨c1, m1, p, r1, r2, r3, r4, r5, r6, r7, r8, r9, r10⟩ := peek h.1
  obtain ⟨e0, e0h⟩ := MV_EM h r3 r4 r5
  have hL := h.1.1.2.2.1
  have hq0 : ql c1 = ql c := e0.2.1
  have hr0 : rl t m1 = rl t m := e0.2.2.1
  have hr1 : rl t m ≤ hd c := h.2.2.2.2.2.2.2.2
  dsimp only
  unfold f3_readsUnit f12_unit o12_unit
  simp only [r1, r2]
  by_cases x1 : xh c1 = 33
  · rw [if_pos x1, if_pos x1, if_pos x1]
    have hne : xh c1 ≠ -1 := by rw [x1]; decide
    have h40 : ¬ xh c1 = 40 := by rw [x1]; decide
    by_cases x4 : d < 6
    · rw [if_pos (show nI d < 6 from nI_lt x4 (by decide)), if_neg h40]
      obtain ⟨e1, e1h, w1⟩ := open_ok e0.1 hne x4
      have e01 := EM_tr e0 e1
      have hq1 : ql (f7_pass c1) = ql c1 := e1.2.1
      have hr2 : rl t (f12_opens m1) = rl t m1 := e1.2.2.1
      rw [if_pos w1, if_pos w1, show nI d + 1 = nI (d + 1) from nI_1 d]
      obtain ⟨oo, q⟩ := hU x4 _ _ e1.1 (by omega)
      dsimp only at q
      rcases q with ⟨q1, seg, q2, q3, q4⟩ | ⟨q1, q2⟩
      · rw [if_pos q1]
        have l1 := tyc_pos q4
        have a1 := q2.2.1
        have a2 := q2.2.2.1
        have a4 := q2.1.1.2.2.2.1
        have a5 : ln (U (f7_pass c1) (nI (d + 1))).2 = ln c := (EM_ln q2).trans (EM_ln e01)
        obtain ⟨o, e3⟩ := add_put q2.1 (by omega) (by omega) (9, 0)
        have b2 := e3.2.2.2.2.2.1
        have e4 := EM_deep (EM_tr (EM_tr e01 q2) e3) hd6
        have h5 : f12_put (Um (f12_opens m1)) (nI 9) (nI 0) 123 5 = nI (d + 1) := e3.1.2.1
        refine ⟨⟨r6, oo, o, trivial⟩, Or.inl ⟨rfl, seg ++ [(9, 0)], ?_, ?_, ?_⟩⟩
        · show EM t d c m (f1_add 8 (U (f7_pass c1) (nI (d + 1))).2 (-33)) (sp (f12_put (Um (f12_opens m1)) (nI 9) (nI 0)) 123 5 (f12_put (Um (f12_opens m1)) (nI 9) (nI 0) 123 5 - 1)) (seg ++ [(9, 0)])
          rw [h5, nI_pred]
          exact e4
        · rw [List.length_append, List.length_singleton]
          show hd c + (seg.length + 1) ≤ hd (f1_add 8 (U (f7_pass c1) (nI (d + 1))).2 (ce (9, 0)))
          omega
        · refine tyc_then (tyc_mono q4 (by omega)) ?_
          rfl
      · have q1' : ¬ (U (f7_pass c1) (nI (d + 1))).1 = true := by rw [q1]; exact Bool.false_ne_true
        rw [if_neg q1']
        obtain ⟨f1, f2, f3⟩ := q2
        have f4 := FS_base (k := 1) e01 (by show hd c + 0 + 1 ≤ _; omega) f1
        obtain ⟨g1, g2, g3⟩ := FS_put (s := 0) hL (by omega) h.2.2.2.1 (FS_less f4 (by omega)) 9 0
        obtain ⟨k1, k2⟩ := FS_deep (f12_put (Um (f12_opens m1)) 9 0 123 5 - 1) g2
        refine ⟨⟨r6, oo, g1, trivial⟩, Or.inr ⟨rfl, k1, ?_, ?_⟩⟩
        · refine f2.trans ?_
          rw [k2, g3]
        · exact ⟨fun a x y z => (f3.1 a x y z).trans (e01.2.2.2.1.1 a x y z), fun j x y => (f3.2.1 j x y).trans (e01.2.2.2.1.2.1 j x y), fun j x => (f3.2.2.1 j x).trans (e01.2.2.2.1.2.2.1 j x), fun k hk => absurd hk (Nat.not_lt_zero k)⟩
    · obtain rfl : d = 6 := by omega
      rw [if_neg (show ¬ nI 6 < 6 by decide)]
      have b := open_bad e0.1 hne
      rw [if_neg (FS_ne b.1), if_neg (FS_ne b.1)]
      refine ⟨⟨r6, trivial⟩, Or.inr ⟨?_, BAD_base e0 (by rw [List.length_nil]; omega) b⟩⟩
      rw [fails_at r8]
  · rw [if_neg x1, if_neg x1, if_neg x1]
    by_cases x3 : xh c1 = 40
    · rw [if_pos x3, if_pos x3, if_pos x3]
      have hne : xh c1 ≠ -1 := by rw [x3]; decide
      by_cases x4 : d < 6
      · rw [if_pos (show nI d < 6 from nI_lt x4 (by decide)), if_pos x3]
        obtain ⟨e1, e1h, w1⟩ := open_ok e0.1 hne x4
        have hq1 : ql (f7_pass c1) = ql c1 := e1.2.1
        rw [if_pos w1, if_pos w1, show nI d + 1 = nI (d + 1) from nI_1 d]
        obtain ⟨oo, q⟩ := hC x4 _ _ e1.1 (by omega)
        dsimp only at q
        rcases q with ⟨q1, seg, q2, q3, q4⟩ | ⟨q1, q2⟩
        · rw [if_pos q1]
          obtain ⟨k1, k2⟩ := close_ok q2.1 (x := 41) (by decide)
          rcases k2 with ⟨k2, k3, k4⟩ | ⟨k2, k3⟩
          · rw [if_pos k2]
            refine ⟨⟨r6, oo, k1, trivial⟩, Or.inl ⟨rfl, seg, ?_, ?_, q4⟩⟩
            · have := EM_tr (EM_tr (EM_tr e0 e1) q2) k3
              rw [List.append_nil] at this
              exact this
            · show _ ≤ hd (f7_takes _ 41).2
              omega
          · have k2' : ¬ (f7_takes (C (f7_pass c1) (nI (d + 1)) false).2 41).1 = true := by rw [k2]; exact Bool.false_ne_true
            rw [if_neg k2']
            exact ⟨⟨r6, oo, k1, trivial⟩, Or.inr ⟨rfl, BAD_base (EM_tr (EM_tr e0 e1) q2) (by rw [List.nil_append, List.nil_append]; omega) k3⟩⟩
        · have q1' : ¬ (C (f7_pass c1) (nI (d + 1)) false).1 = true := by rw [q1]; exact Bool.false_ne_true
          rw [if_neg q1']
          obtain ⟨f1, f2, f3⟩ := q2
          obtain ⟨k1, k2, k3⟩ := close_bad f1 41
          exact ⟨⟨r6, oo, k1, trivial⟩, Or.inr ⟨rfl, BAD_base (EM_tr e0 e1) (by rw [List.nil_append, List.length_nil]; omega) ⟨k2, f2.trans k3.symm, f3⟩⟩⟩
      · obtain rfl : d = 6 := by omega
        rw [if_neg (show ¬ nI 6 < 6 by decide)]
        have b := open_bad e0.1 hne
        rw [if_neg (FS_ne b.1), if_neg (FS_ne b.1)]
        rw [if_pos x3]
        refine ⟨⟨r6, trivial⟩, Or.inr ⟨?_, BAD_base e0 (by rw [List.length_nil]; omega) b⟩⟩
        rw [fails_at r8]
    · rw [if_neg x3, if_neg x3, if_neg x3]
      obtain ⟨oo, q⟩ := sum_sim t d hd6 _ _ e0.1 (by omega)
      dsimp only at q
      rcases q with ⟨q1, seg, q2, q3, q4⟩ | ⟨q1, q2⟩
      · rw [if_pos q1]
        have w := q2.1.1.2.2.2.2
        have a1 := q2.2.1
        rw [if_pos w, if_pos w]
        obtain ⟨o, q5⟩ := rel_sim t d hd6 _ _ q2.1 (by omega)
        dsimp only at q5
        rcases q5 with ⟨y1, seg2, y2, y3, y4⟩ | ⟨y1, y2⟩
        · rw [if_pos y1]
          exact ⟨⟨r6, oo, o, trivial⟩, Or.inl ⟨rfl, seg ++ seg2, EM_tr (EM_tr e0 q2) y2, by rw [List.length_append]; show _ ≤ hd (f3_readsRelation _ _).2; omega, tyc_then (tyc_mono q4 (by omega)) y4⟩⟩
        · have y1' : ¬ (f3_readsRelation (f3_sum c1 (nI d)).2 (nI d)).1 = true := by rw [y1]; exact Bool.false_ne_true
          rw [if_neg y1']
          exact ⟨⟨r6, oo, o, trivial⟩, Or.inr ⟨rfl, BAD_base (EM_tr e0 q2) (by rw [List.nil_append]; omega) y2⟩⟩
      · have q1' : ¬ (f3_sum c1 (nI d)).1 = true := by rw [q1]; exact Bool.false_ne_true
        have w := FS_ne q2.1
        rw [if_neg q1', if_neg w, if_neg w]
        exact ⟨⟨r6, oo, trivial⟩, Or.inr ⟨rfl, BAD_base e0 (by rw [List.length_nil]; omega) q2⟩⟩
theorem unitD_sim (t : Nat) : ∀ (D E d : Nat), 6 - d < D → 6 - d < E → d ≤ 6 → SIM t d (4 + 2 * (6 - d)) [] true (fun c => fUnitD D c (nI d)) (omUnitD E) (fmUnitD E) := by
  intro D
  induction D with
  | zero => intro E d h1 h2 h3; omega
  | succ D ih =>
    intro E d h1 h2 h3
    obtain ⟨E, rfl, -⟩ := fu_pos (Nat.lt_of_le_of_lt (Nat.zero_le _) h2)
    refine unit_sim h3 (fun hd6 => ?_) (fun hd6 => ?_)
    · have := cond_sim (ih E (d + 1) (by omega) (by omega) (by omega))
      rw [show 4 + 2 * (6 - (d + 1)) + 2 = 4 + 2 * (6 - d) by omega] at this
      exact this
    · have := ih E (d + 1) (by omega) (by omega) (by omega)
      rw [show 4 + 2 * (6 - (d + 1)) = 2 + 2 * (6 - d) by omega] at this
      exact this
theorem unitR_sim (t : Nat) : SIM t 0 16 [] true (fun c => fUnitD (blk 7) c (nI 0)) (omUnitD (blk 8)) (fmUnitD (blk 8)) := unitD_sim t (blk 7) (blk 8) 0 (by rw [blk_eq]; omega) (by rw [blk_eq]; omega) (by decide)
theorem condR_sim (t : Nat) : SIM t 0 18 [] true (fun c => f3_cond c (nI 0) false) o12_conditionR f12_conditionR := cond_sim (unitR_sim t)
theorem begunR_sim (t : Nat) : SIM t 0 18 [true] true (fun c => f3_cond c (nI 0) true) (fun m => o12_goOnAndR m ∧ o12_goOnOrR (f12_goOnAndR m)) (fun m => f12_goOnOrR (f12_goOnAndR m)) := cond_begun (unitR_sim t)
