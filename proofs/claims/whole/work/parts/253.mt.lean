/-! rows of signs: one loop for all four; terms, sums -/
theorem loop_sim {t d M M' : Nat} {b b' : Bool} {opn : Int32 → Nat} {LC : Nat → Int32 → SI → Bool × SI} {SC : SI → Bool × SI} {LM : Nat → SI → SI} {SM : SI → SI} {oLM : Nat → SI → Prop} {oSM : SI → Prop}
    (hC : ∀ (fu : Nat) (v : Int32) (c : SI), LC (fu + 1) v c = if (240 : Int32) ≤ v then f7_fails c else if opn (f7_peek c).1 = 0 then (true, (f7_peek c).2) else if (SC (f7_pass (f7_peek c).2)).1 = true then LC fu (v + 1) (f1_add 8 (SC (f7_pass (f7_peek c).2)).2 (-(f7_peek c).1)) else (false, (SC (f7_pass (f7_peek c).2)).2))
    (hM : ∀ (fu : Nat) (m : SI), LM (fu + 1) m = if m 123 4 = -1 then (if opn (f12_look m).1 = 0 then (f12_look m).2 else LM fu (f12_put (SM (sp (f12_look m).2 123 3 ((f12_look m).2 123 3 + 1))) (nI (opn (f12_look m).1)) 0)) else m)
    (hO : ∀ (fu : Nat) (m : SI), (m 123 4 = -1 → o12_look m ∧ (opn (f12_look m).1 ≠ 0 → oSM (sp (f12_look m).2 123 3 ((f12_look m).2 123 3 + 1)) ∧ o12_put (SM (sp (f12_look m).2 123 3 ((f12_look m).2 123 3 + 1))) (nI (opn (f12_look m).1)) 0 ∧ oLM fu (f12_put (SM (sp (f12_look m).2 123 3 ((f12_look m).2 123 3 + 1))) (nI (opn (f12_look m).1)) 0))) → oLM (fu + 1) m)
    (hS : SIM t d M' [] b' SC oSM SM) (hM' : M' + 1 ≤ M)
    (hop : ∀ x, opn x ≠ 0 → x ≠ -1 ∧ ce (opn x, 0) = -x ∧ stp M (opn x, 0) [b', b] = some [b]) :
    ∀ (fu' fu : Nat) (c m : SI) (nv : Nat), PS t d c m → ql c + 2 ≤ hd c → nv < hd c → ln c - hd (f7_peek c).2 < fu → ln c - hd (f7_peek c).2 < fu' → oLM fu' m ∧ (((LC fu (nI nv) c).1 = true ∧ ∃ seg, EM t d c m (LC fu (nI nv) c).2 (LM fu' m) seg ∧ hd c + seg.length ≤ hd (LC fu (nI nv) c).2 ∧ tyc M seg [b] = some [b]) ∨ ((LC fu (nI nv) c).1 = false ∧ BAD t d c m (LC fu (nI nv) c).2 (LM fu' m))) := by
  intro fu'
  induction fu' with
  | zero => intro fu c m nv h hs hv hf hf'; omega
  | succ k ih =>
    intro fu c m nv h hs hv hf hf'
    obtain ⟨f, rfl, -⟩ := fu_pos (Nat.lt_of_le_of_lt (Nat.zero_le _) hf)
    obtain ⟨c1, m1, p, r1, r2, r3, r4, r5, r6, r7, r8, r9, r10⟩ := peek h.1
    obtain ⟨e0, e0h⟩ := MV_EM h r3 r4 r5
    have hL := h.1.1.2.2.1
    have hH := h.1.2.2.2.1
    have hw := h.1.2.2.2.2
    have hq0 : ql c1 = ql c := e0.2.1
    have hr0 : rl t m1 = rl t m := e0.2.2.1
    have hr1 : rl t m ≤ hd c := h.2.2.2.2.2.2.2.2
    have hO' := hO
    have hO := hO k m
    rw [r1] at hf hf'
    rw [hC, hM, if_neg (show ¬ (240 : Int32) ≤ nI nv from nI_ge (b := 240) (by omega) (by decide)), if_pos hw, r1, r2]
    rw [r2] at hO
    dsimp only at hf hf' hO ⊢
    by_cases x : opn (xh c1) = 0
    · rw [if_pos x, if_pos x]
      exact ⟨hO (fun _ => ⟨r6, fun q => absurd x q⟩), Or.inl ⟨rfl, [], e0, by show hd c + 0 ≤ hd c1; omega, rfl⟩⟩
    · rw [if_neg x, if_neg x]
      obtain ⟨x1, x2, x3⟩ := hop _ x
      obtain ⟨v1, hl⟩ := pass r8 x1
      obtain ⟨e1, e1h⟩ := MV_EM e0.1 v1 (by omega) hl
      have hq1 : ql (f7_pass c1) = ql c1 := e1.2.1
      have e01 := EM_tr e0 e1
      obtain ⟨oo, q⟩ := hS _ _ e1.1 (by omega)
      rcases q with ⟨q1, seg, q2, q3, q4⟩ | ⟨q1, q2⟩
      · rw [if_pos q1]
        have l1 := tyc_pos q4
        have a1 := q2.2.1
        have a2 := q2.2.2.1
        have a3 : rl t (sp m1 123 3 (m1 123 3 + 1)) = rl t m1 := e1.2.2.1
        have a4 := q2.1.1.2.2.2.1
        have a5 : ln (SC (f7_pass c1)).2 = ln c := (EM_ln q2).trans (EM_ln e01)
        obtain ⟨o, e3⟩ := add_put q2.1 (by omega) (by omega) (opn (xh c1), 0)
        rw [x2] at e3
        have e4 := EM_tr (EM_tr e01 q2) e3
        have b1 : ql _ = _ + 1 := e3.2.1
        have b2 := e3.2.2.2.2.2.1
        have b3 := EM_ln e4
        obtain ⟨c4, m4, p4, s1, -, -, s2, -, -, -, -, s3, -⟩ := peek e4.1.1
        have hlt : ln c - hd (f7_peek (f1_add 8 (SC (f7_pass c1)).2 (-xh c1))).2 < k := by rw [s1]; show ln c - hd c4 < k; omega
        have hlt2 : ln c - hd (f7_peek (f1_add 8 (SC (f7_pass c1)).2 (-xh c1))).2 < f := by rw [s1]; show ln c - hd c4 < f; omega
        obtain ⟨oL, q5⟩ := ih f _ _ (nv + 1) e4.1 (by omega) (by omega) (by rw [b3]; exact hlt2) (by rw [b3]; exact hlt)
        rw [nI_succ] at q5
        refine ⟨hO (fun _ => ⟨r6, fun _ => ⟨oo, o, oL⟩⟩), ?_⟩
        have ty1 : tyc M (seg ++ [(opn (xh c1), 0)]) [b] = some [b] := by
          have z1 := tyc_mono (tyc_lift (k := 1) (b := [b]) q4 (Nat.le_refl _)) hM'
          refine tyc_then z1 ?_
          show (stp M (opn (xh c1), 0) [b', b]).bind (tyc M []) = _
          rw [x3]
          rfl
        rcases q5 with ⟨y1, seg2, y2, y3, y4⟩ | ⟨y1, y2⟩
        · refine Or.inl ⟨y1, (seg ++ [(opn (xh c1), 0)]) ++ seg2, ?_, ?_, tyc_then ty1 y4⟩
          · exact EM_tr e4 y2
          · rw [List.length_append, List.length_append, List.length_singleton]; omega
        · refine Or.inr ⟨y1, BAD_base e4 ?_ y2⟩
          rw [List.length_append, List.length_append, List.length_singleton]
          show hd c + (0 + seg.length + 1) ≤ _
          omega
      · rw [if_neg (by rw [q1]; exact Bool.false_ne_true)]
        obtain ⟨f1, f2, f3⟩ := q2
        have f4 := FS_base (k := 1) e01 (by show hd c + 0 + 1 ≤ _; omega) f1
        obtain ⟨g1, g2, g3⟩ := FS_put (s := 0) hL (by omega) h.2.2.2.1 (FS_less f4 (by omega)) (nI (opn (xh c1))) 0
        obtain ⟨k1, rfl, -⟩ := fu_pos (show 0 < k by omega)
        rw [hM, if_neg (FS_ne g2)]
        refine ⟨hO (fun _ => ⟨r6, fun _ => ⟨oo, g1, hO' k1 _ (fun w => absurd w (FS_ne g2))⟩⟩), Or.inr ⟨rfl, g2, ?_, ?_⟩⟩
        · rw [g3]; exact f2
        · exact ⟨fun a x y z => (f3.1 a x y z).trans (e01.2.2.2.1.1 a x y z), fun j x y => (f3.2.1 j x y).trans (e01.2.2.2.1.2.1 j x y), fun j x => (f3.2.2.1 j x).trans (e01.2.2.2.1.2.2.1 j x), fun k hk => absurd hk (Nat.not_lt_zero k)⟩
theorem look_fuel {c m : SI} (h : HP c m) : (Int32.toInt ((f12_look m).2 123 2) - Int32.toInt ((f12_look m).2 123 3)).toNat = ln c - hd (f7_peek c).2 ∧ ln c ≤ 240 := by
  obtain ⟨c1, m1, p, r1, r2, r3, r4, r5, r6, r7, r8, r9, r10⟩ := peek h
  have hL := r8.1.2.2.1
  have hH := r8.2.2.2.1
  rw [r1, r2]
  show (Int32.toInt (m1 123 2) - Int32.toInt (m1 123 3)).toNat = ln c - hd c1 ∧ _
  rw [r8.1.2.1, r8.2.2.1, toNat_sub_nI (by omega) (by omega)]
  omega
def opT (x : Int32) : Nat := if x = 42 then 4 else if x = 47 then 5 else 0
noncomputable def LMT (A : SI → SI) (fu : Nat) (m : SI) : SI := if m 123 4 = -1 then f12_term_c21 A fu (f12_look m).1 (f12_look m).2 else f12_term_c21 A fu (-1) m
def oLMT (A : SI → SI) (oA : SI → Prop) (fu : Nat) (m : SI) : Prop := if m 123 4 = -1 then o12_look m ∧ o12_term_c21 A oA fu (f12_look m).1 (f12_look m).2 else o12_term_c21 A oA fu (-1) m
theorem opT_ok {M : Nat} (x : Int32) (h : opT x ≠ 0) : x ≠ -1 ∧ ce (opT x, 0) = -x ∧ stp M (opT x, 0) [false, false] = some [false] := by
  unfold opT at h ⊢
  by_cases h1 : x = 42
  · subst h1; exact ⟨by decide, rfl, rfl⟩
  by_cases h2 : x = 47
  · subst h2; exact ⟨by decide, rfl, rfl⟩
  rw [if_neg h1, if_neg h2] at h
  exact absurd rfl h
theorem opT_1 {x : Int32} (h : x = 42) : opT x = 4 := if_pos h
theorem opT_2 {x : Int32} (h1 : ¬ x = 42) (h : x = 47) : opT x = 5 := (if_neg h1).trans (if_pos h)
theorem opT_0 {x : Int32} (h1 : ¬ x = 42) (h : ¬ x = 47) : opT x = 0 := (if_neg h1).trans (if_neg h)
theorem T_hC (A : SI → Int32 → Bool × SI) (x1 : Int32) (fu : Nat) (v : Int32) (c : SI) : f3_readsTerm_c12 A x1 (fu + 1) v c = if (240 : Int32) ≤ v then f7_fails c else if opT (f7_peek c).1 = 0 then (true, (f7_peek c).2) else if (A (f7_pass (f7_peek c).2) x1).1 = true then f3_readsTerm_c12 A x1 fu (v + 1) (f1_add 8 (A (f7_pass (f7_peek c).2) x1).2 (-(f7_peek c).1)) else (false, (A (f7_pass (f7_peek c).2) x1).2) := by
  rw [f3_readsTerm_c12]
  by_cases h0 : (240 : Int32) ≤ v
  · rw [if_pos h0, if_pos h0]
  rw [if_neg h0, if_neg h0]
  dsimp only
  by_cases h1 : (f7_peek c).1 = 42
  · rw [if_pos h1, opT_1 h1, if_neg (show ¬ (4 : Nat) = 0 by decide)]
  rw [if_neg h1]
  by_cases h2 : (f7_peek c).1 = 47
  · rw [if_pos h2, opT_2 h1 h2, if_neg (show ¬ (5 : Nat) = 0 by decide)]
  rw [if_neg h2, opT_0 h1 h2, if_pos rfl]
theorem T_hM (A : SI → SI) (fu : Nat) (m : SI) : LMT A (fu + 1) m = if m 123 4 = -1 then (if opT (f12_look m).1 = 0 then (f12_look m).2 else LMT A fu (f12_put (A (sp (f12_look m).2 123 3 ((f12_look m).2 123 3 + 1))) (nI (opT (f12_look m).1)) 0)) else m := by
  show (if m 123 4 = -1 then f12_term_c21 A (fu + 1) (f12_look m).1 (f12_look m).2 else f12_term_c21 A (fu + 1) (-1) m) = _
  by_cases hw : m 123 4 = -1
  · rw [if_pos hw, if_pos hw, f12_term_c21]
    by_cases h1 : (f12_look m).1 = 42
    · rw [if_pos h1, if_pos h1, opT_1 h1, if_neg (show ¬ (4 : Nat) = 0 by decide)]
      rfl
    rw [if_neg h1]
    by_cases h2 : (f12_look m).1 = 47
    · rw [if_pos h2, if_neg h1, opT_2 h1 h2, if_neg (show ¬ (5 : Nat) = 0 by decide)]
      rfl
    rw [if_neg h2, opT_0 h1 h2, if_pos rfl]
  · rw [if_neg hw, if_neg hw, f12_term_c21, if_neg (show ¬ (-1 : Int32) = 42 by decide), if_neg (show ¬ (-1 : Int32) = 47 by decide)]
theorem T_hO (A : SI → SI) (oA : SI → Prop) (fu : Nat) (m : SI) (h : m 123 4 = -1 → o12_look m ∧ (opT (f12_look m).1 ≠ 0 → oA (sp (f12_look m).2 123 3 ((f12_look m).2 123 3 + 1)) ∧ o12_put (A (sp (f12_look m).2 123 3 ((f12_look m).2 123 3 + 1))) (nI (opT (f12_look m).1)) 0 ∧ oLMT A oA fu (f12_put (A (sp (f12_look m).2 123 3 ((f12_look m).2 123 3 + 1))) (nI (opT (f12_look m).1)) 0))) : oLMT A oA (fu + 1) m := by
  show (if m 123 4 = -1 then o12_look m ∧ o12_term_c21 A oA (fu + 1) (f12_look m).1 (f12_look m).2 else o12_term_c21 A oA (fu + 1) (-1) m)
  by_cases hw : m 123 4 = -1
  · rw [if_pos hw]
    obtain ⟨h0, h⟩ := h hw
    refine ⟨h0, ?_⟩
    rw [o12_term_c21]
    by_cases h1 : (f12_look m).1 = 42
    · rw [opT_1 h1] at h
      obtain ⟨a, b, e⟩ := h (by decide)
      rw [if_pos h1]
      refine ⟨a, ?_⟩
      dsimp only
      rw [if_pos h1]
      exact ⟨b, e⟩
    rw [if_neg h1]
    by_cases h2 : (f12_look m).1 = 47
    · rw [opT_2 h1 h2] at h
      obtain ⟨a, b, e⟩ := h (by decide)
      rw [if_pos h2]
      refine ⟨a, ?_⟩
      dsimp only
      rw [if_neg h1]
      exact ⟨b, e⟩
    rw [if_neg h2]
    trivial
  · rw [if_neg hw, o12_term_c21, if_neg (show ¬ (-1 : Int32) = 42 by decide), if_neg (show ¬ (-1 : Int32) = 47 by decide)]
    trivial
theorem T_sim {t d : Nat} {A : SI → Int32 → Bool × SI} {oA : SI → Prop} {Am : SI → SI} (hA : SIM t d (1 + 2 * (6 - d)) [] false (fun c => A c (nI d)) oA Am) : SIM t d (2 + 2 * (6 - d)) [] false (fun c => f3_readsTerm A c (nI d)) (o12_term Am oA) (f12_term Am) := by
  intro c m h hs
  obtain ⟨oo, q⟩ := hA c m h hs
  have hL := h.1.1.2.2.1
  dsimp only at q ⊢
  unfold f3_readsTerm f12_term o12_term
  dsimp only
  rcases q with ⟨q1, seg, q2, q3, q4⟩ | ⟨q1, q2⟩
  · rw [if_pos q1]
    have w := q2.1.1.2.2.2.2
    have l1 := tyc_pos q4
    have a1 := q2.2.1
    have a5 := EM_ln q2
    rw [if_pos w, if_pos w]
    obtain ⟨oL, q5⟩ := loop_sim (T_hC A (nI d)) (T_hM Am) (T_hO Am oA) (M := 2 + 2 * (6 - d)) hA (by omega) opT_ok (fu1 ((Int32.toInt ((f12_look (Am m)).2 123 2) - Int32.toInt ((f12_look (Am m)).2 123 3)).toNat + 1)) (fu1 ((Int32.toInt (240 : Int32) - Int32.toInt (0 : Int32)).toNat)) _ _ 0 q2.1 (by omega) (by omega)
      (by rw [fu1_eq]; have := look_fuel q2.1.1; have e240 : (Int32.toInt (240 : Int32) - Int32.toInt (0 : Int32)).toNat = 240 := rfl; omega) (by rw [fu1_eq]; have := look_fuel q2.1.1; omega)
    rw [nI_0] at q5
    have eLM : LMT Am (fu1 ((Int32.toInt ((f12_look (Am m)).2 123 2) - Int32.toInt ((f12_look (Am m)).2 123 3)).toNat + 1)) (Am m) = f12_term_c21 Am (fu1 ((Int32.toInt ((f12_look (Am m)).2 123 2) - Int32.toInt ((f12_look (Am m)).2 123 3)).toNat + 1)) (f12_look (Am m)).1 (f12_look (Am m)).2 := if_pos w
    have eO : oLMT Am oA (fu1 ((Int32.toInt ((f12_look (Am m)).2 123 2) - Int32.toInt ((f12_look (Am m)).2 123 3)).toNat + 1)) (Am m) = (o12_look (Am m) ∧ o12_term_c21 Am oA (fu1 ((Int32.toInt ((f12_look (Am m)).2 123 2) - Int32.toInt ((f12_look (Am m)).2 123 3)).toNat + 1)) (f12_look (Am m)).1 (f12_look (Am m)).2) := if_pos w
    rw [eLM] at q5
    rw [eO] at oL
    refine ⟨⟨oo, oL⟩, ?_⟩
    rcases q5 with ⟨y1, seg2, y2, y3, y4⟩ | ⟨y1, y2⟩
    · refine Or.inl ⟨y1, seg ++ seg2, EM_tr q2 y2, by rw [List.length_append]; omega, tyc_then (tyc_mono q4 (by omega)) y4⟩
    · exact Or.inr ⟨y1, BAD_base q2 (by omega) y2⟩
  · have w := FS_ne q2.1
    have q1' : ¬ (A c (nI d)).1 = true := by rw [q1]; exact Bool.false_ne_true
    rw [if_neg q1', if_neg w, if_neg w, fu1_eq, f12_term_c21, if_neg (show ¬ (-1 : Int32) = 42 by decide), if_neg (show ¬ (-1 : Int32) = 47 by decide), o12_term_c21, if_neg (show ¬ (-1 : Int32) = 42 by decide), if_neg (show ¬ (-1 : Int32) = 47 by decide)]
    exact ⟨⟨oo, trivial⟩, Or.inr ⟨rfl, q2⟩⟩
def opS (x : Int32) : Nat := if x = 43 then 2 else if x = 45 then 3 else 0
noncomputable def LMS (A : SI → SI) (fu : Nat) (m : SI) : SI := if m 123 4 = -1 then f12_sum_c21 A fu (f12_look m).1 (f12_look m).2 else f12_sum_c21 A fu (-1) m
def oLMS (A : SI → SI) (oA : SI → Prop) (fu : Nat) (m : SI) : Prop := if m 123 4 = -1 then o12_look m ∧ o12_sum_c21 A oA fu (f12_look m).1 (f12_look m).2 else o12_sum_c21 A oA fu (-1) m
theorem opS_ok {M : Nat} (x : Int32) (h : opS x ≠ 0) : x ≠ -1 ∧ ce (opS x, 0) = -x ∧ stp M (opS x, 0) [false, false] = some [false] := by
  unfold opS at h ⊢
  by_cases h1 : x = 43
  · subst h1; exact ⟨by decide, rfl, rfl⟩
  by_cases h2 : x = 45
  · subst h2; exact ⟨by decide, rfl, rfl⟩
  rw [if_neg h1, if_neg h2] at h
  exact absurd rfl h
theorem opS_1 {x : Int32} (h : x = 43) : opS x = 2 := if_pos h
theorem opS_2 {x : Int32} (h1 : ¬ x = 43) (h : x = 45) : opS x = 3 := (if_neg h1).trans (if_pos h)
theorem opS_0 {x : Int32} (h1 : ¬ x = 43) (h : ¬ x = 45) : opS x = 0 := (if_neg h1).trans (if_neg h)
theorem S_hC (A : SI → Int32 → Bool × SI) (x1 : Int32) (fu : Nat) (v : Int32) (c : SI) : f3_readsSum_c12 A x1 (fu + 1) v c = if (240 : Int32) ≤ v then f7_fails c else if opS (f7_peek c).1 = 0 then (true, (f7_peek c).2) else if (A (f7_pass (f7_peek c).2) x1).1 = true then f3_readsSum_c12 A x1 fu (v + 1) (f1_add 8 (A (f7_pass (f7_peek c).2) x1).2 (-(f7_peek c).1)) else (false, (A (f7_pass (f7_peek c).2) x1).2) := by
  rw [f3_readsSum_c12]
  by_cases h0 : (240 : Int32) ≤ v
  · rw [if_pos h0, if_pos h0]
  rw [if_neg h0, if_neg h0]
  dsimp only
  by_cases h1 : (f7_peek c).1 = 43
  · rw [if_pos h1, opS_1 h1, if_neg (show ¬ (2 : Nat) = 0 by decide)]
  rw [if_neg h1]
  by_cases h2 : (f7_peek c).1 = 45
  · rw [if_pos h2, opS_2 h1 h2, if_neg (show ¬ (3 : Nat) = 0 by decide)]
  rw [if_neg h2, opS_0 h1 h2, if_pos rfl]
theorem S_hM (A : SI → SI) (fu : Nat) (m : SI) : LMS A (fu + 1) m = if m 123 4 = -1 then (if opS (f12_look m).1 = 0 then (f12_look m).2 else LMS A fu (f12_put (A (sp (f12_look m).2 123 3 ((f12_look m).2 123 3 + 1))) (nI (opS (f12_look m).1)) 0)) else m := by
  show (if m 123 4 = -1 then f12_sum_c21 A (fu + 1) (f12_look m).1 (f12_look m).2 else f12_sum_c21 A (fu + 1) (-1) m) = _
  by_cases hw : m 123 4 = -1
  · rw [if_pos hw, if_pos hw, f12_sum_c21]
    by_cases h1 : (f12_look m).1 = 43
    · rw [if_pos h1, if_pos h1, opS_1 h1, if_neg (show ¬ (2 : Nat) = 0 by decide)]
      rfl
    rw [if_neg h1]
    by_cases h2 : (f12_look m).1 = 45
    · rw [if_pos h2, if_neg h1, opS_2 h1 h2, if_neg (show ¬ (3 : Nat) = 0 by decide)]
      rfl
    rw [if_neg h2, opS_0 h1 h2, if_pos rfl]
  · rw [if_neg hw, if_neg hw, f12_sum_c21, if_neg (show ¬ (-1 : Int32) = 43 by decide), if_neg (show ¬ (-1 : Int32) = 45 by decide)]
theorem S_hO (A : SI → SI) (oA : SI → Prop) (fu : Nat) (m : SI) (h : m 123 4 = -1 → o12_look m ∧ (opS (f12_look m).1 ≠ 0 → oA (sp (f12_look m).2 123 3 ((f12_look m).2 123 3 + 1)) ∧ o12_put (A (sp (f12_look m).2 123 3 ((f12_look m).2 123 3 + 1))) (nI (opS (f12_look m).1)) 0 ∧ oLMS A oA fu (f12_put (A (sp (f12_look m).2 123 3 ((f12_look m).2 123 3 + 1))) (nI (opS (f12_look m).1)) 0))) : oLMS A oA (fu + 1) m := by
  show (if m 123 4 = -1 then o12_look m ∧ o12_sum_c21 A oA (fu + 1) (f12_look m).1 (f12_look m).2 else o12_sum_c21 A oA (fu + 1) (-1) m)
  by_cases hw : m 123 4 = -1
  · rw [if_pos hw]
    obtain ⟨h0, h⟩ := h hw
    refine ⟨h0, ?_⟩
    rw [o12_sum_c21]
    by_cases h1 : (f12_look m).1 = 43
    · rw [opS_1 h1] at h
      obtain ⟨a, b, e⟩ := h (by decide)
      rw [if_pos h1]
      refine ⟨a, ?_⟩
      dsimp only
      rw [if_pos h1]
      exact ⟨b, e⟩
    rw [if_neg h1]
    by_cases h2 : (f12_look m).1 = 45
    · rw [opS_2 h1 h2] at h
      obtain ⟨a, b, e⟩ := h (by decide)
      rw [if_pos h2]
      refine ⟨a, ?_⟩
      dsimp only
      rw [if_neg h1]
      exact ⟨b, e⟩
    rw [if_neg h2]
    trivial
  · rw [if_neg hw, o12_sum_c21, if_neg (show ¬ (-1 : Int32) = 43 by decide), if_neg (show ¬ (-1 : Int32) = 45 by decide)]
    trivial
theorem S_sim {t d : Nat} {A : SI → Int32 → Bool × SI} {oA : SI → Prop} {Am : SI → SI} (hA : SIM t d (2 + 2 * (6 - d)) [] false (fun c => A c (nI d)) oA Am) : SIM t d (3 + 2 * (6 - d)) [] false (fun c => f3_readsSum A c (nI d)) (o12_sum Am oA) (f12_sum Am) := by
  intro c m h hs
  obtain ⟨oo, q⟩ := hA c m h hs
  have hL := h.1.1.2.2.1
  dsimp only at q ⊢
  unfold f3_readsSum f12_sum o12_sum
  dsimp only
  rcases q with ⟨q1, seg, q2, q3, q4⟩ | ⟨q1, q2⟩
  · rw [if_pos q1]
    have w := q2.1.1.2.2.2.2
    have l1 := tyc_pos q4
    have a1 := q2.2.1
    have a5 := EM_ln q2
    rw [if_pos w, if_pos w]
    obtain ⟨oL, q5⟩ := loop_sim (S_hC A (nI d)) (S_hM Am) (S_hO Am oA) (M := 3 + 2 * (6 - d)) hA (by omega) opS_ok (fu1 ((Int32.toInt ((f12_look (Am m)).2 123 2) - Int32.toInt ((f12_look (Am m)).2 123 3)).toNat + 1)) (fu1 ((Int32.toInt (240 : Int32) - Int32.toInt (0 : Int32)).toNat)) _ _ 0 q2.1 (by omega) (by omega)
      (by rw [fu1_eq]; have := look_fuel q2.1.1; have e240 : (Int32.toInt (240 : Int32) - Int32.toInt (0 : Int32)).toNat = 240 := rfl; omega) (by rw [fu1_eq]; have := look_fuel q2.1.1; omega)
    rw [nI_0] at q5
    have eLM : LMS Am (fu1 ((Int32.toInt ((f12_look (Am m)).2 123 2) - Int32.toInt ((f12_look (Am m)).2 123 3)).toNat + 1)) (Am m) = f12_sum_c21 Am (fu1 ((Int32.toInt ((f12_look (Am m)).2 123 2) - Int32.toInt ((f12_look (Am m)).2 123 3)).toNat + 1)) (f12_look (Am m)).1 (f12_look (Am m)).2 := if_pos w
    have eO : oLMS Am oA (fu1 ((Int32.toInt ((f12_look (Am m)).2 123 2) - Int32.toInt ((f12_look (Am m)).2 123 3)).toNat + 1)) (Am m) = (o12_look (Am m) ∧ o12_sum_c21 Am oA (fu1 ((Int32.toInt ((f12_look (Am m)).2 123 2) - Int32.toInt ((f12_look (Am m)).2 123 3)).toNat + 1)) (f12_look (Am m)).1 (f12_look (Am m)).2) := if_pos w
    rw [eLM] at q5
    rw [eO] at oL
    refine ⟨⟨oo, oL⟩, ?_⟩
    rcases q5 with ⟨y1, seg2, y2, y3, y4⟩ | ⟨y1, y2⟩
    · refine Or.inl ⟨y1, seg ++ seg2, EM_tr q2 y2, by rw [List.length_append]; omega, tyc_then (tyc_mono q4 (by omega)) y4⟩
    · exact Or.inr ⟨y1, BAD_base q2 (by omega) y2⟩
  · have w := FS_ne q2.1
    have q1' : ¬ (A c (nI d)).1 = true := by rw [q1]; exact Bool.false_ne_true
    rw [if_neg q1', if_neg w, if_neg w, fu1_eq, f12_sum_c21, if_neg (show ¬ (-1 : Int32) = 43 by decide), if_neg (show ¬ (-1 : Int32) = 45 by decide), o12_sum_c21, if_neg (show ¬ (-1 : Int32) = 43 by decide), if_neg (show ¬ (-1 : Int32) = 45 by decide)]
    exact ⟨⟨oo, trivial⟩, Or.inr ⟨rfl, q2⟩⟩
theorem sumD_sim (t : Nat) : ∀ (D E d : Nat), 6 - d < D → 6 - d < E → d ≤ 6 → SIM t d (3 + 2 * (6 - d)) [] false (fun c => fSumD D c (nI d)) (omSumD E) (fmSumD E) := by
  intro D
  induction D with
  | zero => intro E d h1 h2 h3; omega
  | succ D ih =>
    intro E d h1 h2 h3
    obtain ⟨E, rfl, -⟩ := fu_pos (Nat.lt_of_le_of_lt (Nat.zero_le _) h2)
    refine S_sim (T_sim (atom_sim (fun hd6 => ?_)))
    have := ih E (d + 1) (by omega) (by omega) (by omega)
    rw [show 3 + 2 * (6 - (d + 1)) = 1 + 2 * (6 - d) by omega] at this
    exact this
theorem sum_sim (t d : Nat) (hd6 : d ≤ 6) : SIM t d (3 + 2 * (6 - d)) [] false (fun c => f3_sum c (nI d)) o12_sumR f12_sumR := by
  have := sumD_sim t (blk 7) (blk 8) d (by rw [blk_eq]; omega) (by rw [blk_eq]; omega) hd6
  exact this
