/-! MATHEMATICS. c: the class's state; m: the model's (both are states of the one world). Tokens of a law: (work, value); ce: the class's number of a token; tyc M: the stack's types (true: 0 or 1) through tokens, at most M high -/
def ceL : List Int32 := [0, 0, -43, -45, -42, -47, -61, -60, -62, -33, -38, -124]
def ltL : List Int32 := [-103, -113, -116, -110, -100, -121]
def ce (t : Nat × Nat) : Int32 := if t.1 = 0 then nI t.2 else if t.1 = 1 then ltL.getD t.2 0 else ceL.getD t.1 0
def stp (M : Nat) (t : Nat × Nat) (s : List Bool) : Option (List Bool) :=
  if t.1 = 0 then (if t.2 < 10000 ∧ s.length < M then some (false :: s) else none)
  else if t.1 = 1 then (if t.2 < 6 ∧ s.length < M then some (false :: s) else none)
  else if t.2 = 0 ∧ t.1 < 12 then
    (if t.1 = 9 then (match s with | true :: r => some (true :: r) | _ => none)
     else if t.1 < 6 then (match s with | _ :: _ :: r => some (false :: r) | _ => none)
     else if t.1 < 9 then (match s with | _ :: _ :: r => some (true :: r) | _ => none)
     else (match s with | true :: true :: r => some (true :: r) | _ => none))
  else none
def tyc (M : Nat) : List (Nat × Nat) → List Bool → Option (List Bool)
  | [], s => some s
  | t :: l, s => (stp M t s).bind (tyc M l)
theorem tyc_app (M : Nat) (l1 l2 : List (Nat × Nat)) (s : List Bool) : tyc M (l1 ++ l2) s = (tyc M l1 s).bind (tyc M l2) := by
  induction l1 generalizing s with
  | nil => rfl
  | cons t l ih =>
    show (stp M t s).bind (tyc M (l ++ l2)) = ((stp M t s).bind (tyc M l)).bind (tyc M l2)
    cases stp M t s with
    | none => rfl
    | some s' => exact ih s'
theorem stp_lift {M k : Nat} {t : Nat × Nat} {s s' b : List Bool} (h : stp M t s = some s') (hb : b.length ≤ k) : stp (M + k) t (s ++ b) = some (s' ++ b) := by
  unfold stp at h ⊢
  by_cases h0 : t.1 = 0
  · rw [if_pos h0] at h ⊢
    by_cases h1 : t.2 < 10000 ∧ s.length < M
    · rw [if_pos h1] at h
      rw [if_pos ⟨h1.1, by rw [List.length_append]; omega⟩]
      cases h; rfl
    · rw [if_neg h1] at h; cases h
  rw [if_neg h0] at h ⊢
  by_cases h1 : t.1 = 1
  · rw [if_pos h1] at h ⊢
    by_cases h2 : t.2 < 6 ∧ s.length < M
    · rw [if_pos h2] at h
      rw [if_pos ⟨h2.1, by rw [List.length_append]; omega⟩]
      cases h; rfl
    · rw [if_neg h2] at h; cases h
  rw [if_neg h1] at h ⊢
  by_cases h2 : t.2 = 0 ∧ t.1 < 12
  · rw [if_pos h2] at h ⊢
    by_cases h3 : t.1 = 9
    · rw [if_pos h3] at h ⊢
      rcases s with _ | ⟨a, r⟩
      · cases h
      · cases a
        · cases h
        · cases h; rfl
    rw [if_neg h3] at h ⊢
    by_cases h4 : t.1 < 6
    · rw [if_pos h4] at h ⊢
      rcases s with _ | ⟨a, _ | ⟨a2, r⟩⟩
      · cases h
      · cases h
      · cases h; rfl
    rw [if_neg h4] at h ⊢
    by_cases h5 : t.1 < 9
    · rw [if_pos h5] at h ⊢
      rcases s with _ | ⟨a, _ | ⟨a2, r⟩⟩
      · cases h
      · cases h
      · cases h; rfl
    rw [if_neg h5] at h ⊢
    rcases s with _ | ⟨a, _ | ⟨a2, r⟩⟩
    · cases h
    · cases a <;> cases h
    · cases a <;> cases a2 <;> first | (cases h; rfl) | cases h
  · rw [if_neg h2] at h; cases h
theorem tyc_lift {M k : Nat} {l : List (Nat × Nat)} {s s' b : List Bool} (h : tyc M l s = some s') (hb : b.length ≤ k) : tyc (M + k) l (s ++ b) = some (s' ++ b) := by
  induction l generalizing s with
  | nil => cases h; rfl
  | cons t l ih =>
    change (stp M t s).bind (tyc M l) = some s' at h
    cases hs : stp M t s with
    | none => rw [hs] at h; cases h
    | some s1 =>
      rw [hs] at h
      show (stp (M + k) t (s ++ b)).bind (tyc (M + k) l) = _
      rw [stp_lift hs hb]
      exact ih h
theorem tyc_mono {M M' : Nat} {l : List (Nat × Nat)} {s s' : List Bool} (h : tyc M l s = some s') (hM : M ≤ M') : tyc M' l s = some s' := by
  have := tyc_lift (k := M' - M) (b := []) h (Nat.zero_le _)
  rw [List.append_nil, List.append_nil, show M + (M' - M) = M' by omega] at this
  exact this
theorem tyc_then {M : Nat} {l1 l2 : List (Nat × Nat)} {s s1 s2 : List Bool} (h1 : tyc M l1 s = some s1) (h2 : tyc M l2 s1 = some s2) : tyc M (l1 ++ l2) s = some s2 := by
  rw [tyc_app, h1]; exact h2
theorem tyc_pos {M : Nat} {l : List (Nat × Nat)} {b : Bool} (h : tyc M l [] = some [b]) : 1 ≤ l.length := by
  cases l with
  | nil => cases h
  | cons t l => simp
/-! the tape, and where both heads stand -/
def ql (c : SI) : Nat := (c 8 1).toNatClampNeg
def hd (c : SI) : Nat := (c 1 2).toNatClampNeg
def ln (c : SI) : Nat := (c 1 1).toNatClampNeg
def rl (t : Nat) (m : SI) : Nat := (m 127 t).toNatClampNeg
def TP (c m : SI) : Prop := c 1 1 = nI (ln c) ∧ m 123 2 = nI (ln c) ∧ ln c ≤ 240 ∧ ∀ i, i < ln c → c 2 i = m 124 i ∧ 0 ≤ (c 2 i).toInt ∧ (c 2 i).toInt ≤ 255
def HP (c m : SI) : Prop := TP c m ∧ c 1 2 = nI (hd c) ∧ m 123 3 = nI (hd c) ∧ hd c ≤ ln c ∧ m 123 4 = -1
def MV (c m c' m' : SI) (p : Nat) : Prop := ((∀ a, a ≠ 1 → c' a = c a) ∧ (∀ j, j ≠ 2 → c' 1 j = c 1 j) ∧ c' 1 2 = nI p) ∧ (∀ a, a ≠ 123 → m' a = m a) ∧ (∀ j, j ≠ 3 → m' 123 j = m 123 j) ∧ m' 123 3 = nI p
def xh (c : SI) : Int32 := if hd c < ln c then c 2 (hd c) else -1
theorem cl31 {n : Nat} (h : n < 2 ^ 31) : (nI n).toNatClampNeg = n := nI_clamp h
theorem hd_of {c : SI} {p : Nat} (h : c 1 2 = nI p) (hp : p < 2 ^ 31) : hd c = p := by unfold hd; rw [h, nI_clamp hp]
theorem ln_of {c : SI} {p : Nat} (h : c 1 1 = nI p) (hp : p < 2 ^ 31) : ln c = p := by unfold ln; rw [h, nI_clamp hp]
theorem ql_of {c : SI} {p : Nat} (h : c 8 1 = nI p) (hp : p < 2 ^ 31) : ql c = p := by unfold ql; rw [h, nI_clamp hp]
theorem rl_of {t : Nat} {m : SI} {p : Nat} (h : m 127 t = nI p) (hp : p < 2 ^ 31) : rl t m = p := by unfold rl; rw [h, nI_clamp hp]
theorem MV_tr {c m c1 m1 c2 m2 : SI} {p q : Nat} (h1 : MV c m c1 m1 p) (h2 : MV c1 m1 c2 m2 q) : MV c m c2 m2 q := by
  obtain ⟨⟨a1, a2, a3⟩, a4, a5, a6⟩ := h1
  obtain ⟨⟨b1, b2, b3⟩, b4, b5, b6⟩ := h2
  exact ⟨⟨fun a h => (b1 a h).trans (a1 a h), fun j h => (b2 j h).trans (a2 j h), b3⟩, fun a h => (b4 a h).trans (a4 a h), fun j h => (b5 j h).trans (a5 j h), b6⟩
theorem MV_rf {c m : SI} (h : HP c m) : MV c m c m (hd c) := ⟨⟨fun _ _ => rfl, fun _ _ => rfl, h.2.1⟩, fun _ _ => rfl, fun _ _ => rfl, h.2.2.1⟩
theorem MV_HP {c m c' m' : SI} {p : Nat} (h : HP c m) (v : MV c m c' m' p) (hp : p ≤ ln c) : HP c' m' ∧ hd c' = p ∧ ln c' = ln c := by
  obtain ⟨⟨t1, t2, t3, t4⟩, h1, h2, h3, h4⟩ := h
  obtain ⟨⟨a1, a2, a3⟩, a4, a5, a6⟩ := v
  have e1 : ln c' = ln c := by unfold ln; rw [a2 1 (by decide)]
  have e2 : hd c' = p := hd_of a3 (by omega)
  refine ⟨⟨⟨?_, ?_, by omega, fun i hi => ?_⟩, by rw [e2]; exact a3, by rw [e2]; exact a6, by omega, by rw [a5 4 (by decide)]; exact h4⟩, e2, e1⟩
  · rw [e1, a2 1 (by decide)]; exact t1
  · rw [e1, a5 2 (by decide)]; exact t2
  · rw [e1] at hi
    rw [a1 2 (by decide), a4 124 (by decide)]
    exact t4 i hi
theorem byte_nI {x : Int32} (h0 : 0 ≤ x.toInt) (h1 : x.toInt ≤ 255) : ∃ s : Nat, s ≤ 255 ∧ x = nI s := by
  obtain ⟨j, hj, e⟩ := nI_of (x := x) (by rw [lt_ti]; show ¬ x.toInt < 0; omega)
  refine ⟨j, ?_, e⟩
  rw [e, nI_toInt hj] at h1
  omega
theorem xh_cases {c m : SI} (h : HP c m) : (hd c < ln c ∧ xh c = c 2 (hd c) ∧ ∃ s : Nat, s ≤ 255 ∧ xh c = nI s) ∨ (hd c = ln c ∧ xh c = -1) := by
  by_cases q : hd c < ln c
  · have e : xh c = c 2 (hd c) := if_pos q
    obtain ⟨-, b, d⟩ := h.1.2.2.2 _ q
    obtain ⟨s, hs, e2⟩ := byte_nI b d
    exact Or.inl ⟨q, e, s, hs, e.trans e2⟩
  · exact Or.inr ⟨by have := h.2.2.2.1; omega, if_neg q⟩
theorem nI_ne_m1 {s : Nat} (h : s < 2 ^ 31) : nI s ≠ -1 := fun e => by
  have := congrArg Int32.toInt e
  rw [nI_toInt h, ti_m1] at this
  omega
theorem xh_lt {c m : SI} (h : HP c m) (hx : xh c ≠ -1) : hd c < ln c := by
  rcases xh_cases h with ⟨q, -⟩ | ⟨-, q⟩
  · exact q
  · exact absurd q hx
theorem xh_end {c m : SI} (h : HP c m) (hx : xh c = -1) : hd c = ln c := by
  rcases xh_cases h with ⟨-, -, s, hs, e⟩ | ⟨q, -⟩
  · exact absurd (e.symm.trans hx) (nI_ne_m1 (by omega))
  · exact q
theorem sah {c m : SI} (h : HP c m) : f7_signAtHead c = xh c ∧ f12_here m = xh c ∧ o12_here m := by
  obtain ⟨⟨t1, t2, t3, t4⟩, h1, h2, h3, h4⟩ := id h
  unfold f7_signAtHead f12_here o12_here
  rw [t1, h1, t2, h2]
  by_cases q : hd c < ln c
  · have e : xh c = c 2 (hd c) := if_pos q
    rw [e, if_neg (nI_pos (by omega)), if_neg (nI_ge q (by omega)), if_neg (show ¬ (240 : Int32) ≤ nI (hd c) from nI_ge (b := 240) (by omega) (by decide)), if_neg (nI_ge q (by omega)), if_neg (nI_ge q (by omega)), nI_clamp (by omega)]
    exact ⟨rfl, (t4 _ q).1.symm, vp_in_nI (by omega) (by decide), trivial⟩
  · have e : xh c = -1 := if_neg q
    have e2 : hd c = ln c := by omega
    rw [e, e2, if_neg (nI_pos (by omega)), if_pos (nI_le (Nat.le_refl _) (by omega)), if_pos (nI_le (Nat.le_refl _) (by omega)), if_pos (nI_le (Nat.le_refl _) (by omega))]
    exact ⟨rfl, rfl, trivial⟩
theorem fu_pos {n fu : Nat} (h : n < fu) : ∃ k, fu = k + 1 ∧ n ≤ k := ⟨fu - 1, by omega, by omega⟩
theorem blank_step {c m : SI} (h : HP c m) (hq : hd c < ln c) : MV c m (sp c 1 2 (c 1 2 + 1)) (sp m 123 3 (m 123 3 + 1)) (hd c + 1) := by
  obtain ⟨⟨t1, t2, t3, t4⟩, h1, h2, h3, h4⟩ := id h
  refine ⟨⟨fun a ha => sp_n ha, fun j hj => ?_, ?_⟩, fun a ha => sp_n ha, fun j hj => ?_, ?_⟩
  · rw [sp_s]; exact if_neg hj
  · rw [sp_r, h1, nI_1]
  · rw [sp_s]; exact if_neg hj
  · rw [sp_r, h2, nI_1]
theorem peek_ind : ∀ (n : Nat) (c m : SI) (fu fu' : Nat), HP c m → n = ln c - hd c → n < fu → n < fu' → ∃ (c' m' : SI) (p : Nat), f7_peek_c0 fu c = (xh c', c') ∧ f12_look_c0 fu' m = (xh c', m') ∧ MV c m c' m' p ∧ hd c ≤ p ∧ p ≤ ln c ∧ o12_look_c0 fu' m ∧ xh c' ≠ 32 := by
  intro n
  induction n with
  | zero =>
    intro c m fu fu' h hn hf hf'
    obtain ⟨k, rfl, -⟩ := fu_pos hf
    obtain ⟨k', rfl, -⟩ := fu_pos hf'
    obtain ⟨s1, s2, s3⟩ := sah h
    have e2 : hd c = ln c := by have := h.2.2.2.1; omega
    have e : xh c = -1 := if_neg (by omega)
    have ne : xh c ≠ 32 := by rw [e]; decide
    refine ⟨c, m, hd c, ?_, ?_, MV_rf h, Nat.le_refl _, h.2.2.2.1, ?_, ne⟩
    · rw [f7_peek_c0, if_neg (by rw [h.2.1]; exact nI_pos (by have := h.1.2.2.1; omega)), if_pos (by rw [h.1.1, h.2.1, e2]; exact nI_le (Nat.le_refl _) (by have := h.1.2.2.1; omega)), e]
    · rw [f12_look_c0, s2, if_neg ne]
    · rw [o12_look_c0, s2, if_neg ne]; exact ⟨s3, s3, trivial⟩
  | succ n ih =>
    intro c m fu fu' h hn hf hf'
    obtain ⟨k, rfl, -⟩ := fu_pos hf
    obtain ⟨k', rfl, -⟩ := fu_pos hf'
    obtain ⟨s1, s2, s3⟩ := sah h
    have hq : hd c < ln c := by omega
    have hL := h.1.2.2.1
    have hge : ¬ c 1 1 ≤ c 1 2 := by rw [h.1.1, h.2.1]; exact nI_ge hq (by omega)
    have hpo : ¬ c 1 2 < 0 := by rw [h.2.1]; exact nI_pos (by omega)
    have h24 : ¬ (240 : Int32) ≤ c 1 2 := by rw [h.2.1]; exact nI_ge (b := 240) (by omega) (by decide)
    have hsx : c 2 (Int32.toNatClampNeg (c 1 2)) = xh c := by rw [h.2.1, nI_clamp (by omega)]; exact (if_pos hq : xh c = c 2 (hd c)).symm
    by_cases e : xh c = 32
    · have v := blank_step h hq
      obtain ⟨h', e1, e2⟩ := MV_HP h v (by omega)
      obtain ⟨c', m', p, r1, r2, r3, r4, r5, r6, r7⟩ := ih _ _ k k' h' (by omega) (by omega) (by omega)
      refine ⟨c', m', p, ?_, ?_, MV_tr v r3, by omega, by omega, ?_, r7⟩
      · rw [f7_peek_c0, if_neg hpo, if_neg hge, if_neg h24, hsx, if_pos e]; exact r1
      · rw [f12_look_c0, s2, if_pos e]; exact r2
      · rw [o12_look_c0, s2, if_pos e]; exact ⟨s3, r6⟩
    · refine ⟨c, m, hd c, ?_, ?_, MV_rf h, Nat.le_refl _, h.2.2.2.1, ?_, e⟩
      · rw [f7_peek_c0, if_neg hpo, if_neg hge, if_neg h24, hsx, if_neg e]
      · rw [f12_look_c0, s2, if_neg e]
      · rw [o12_look_c0, s2, if_neg e]; exact ⟨s3, s3, trivial⟩
theorem toNat_sub_nI {a b : Nat} (ha : a < 2 ^ 31) (hb : b < 2 ^ 31) : (Int32.toInt (nI a) - Int32.toInt (nI b)).toNat = a - b := by
  rw [nI_toInt ha, nI_toInt hb]; omega
theorem peek {c m : SI} (h : HP c m) : ∃ (c' m' : SI) (p : Nat), f7_peek c = (xh c', c') ∧ f12_look m = (xh c', m') ∧ MV c m c' m' p ∧ hd c ≤ p ∧ p ≤ ln c ∧ o12_look m ∧ xh c' ≠ 32 ∧ HP c' m' ∧ hd c' = p ∧ ln c' = ln c := by
  have hL := h.1.2.2.1
  have hH := h.2.2.2.1
  obtain ⟨c', m', p, r1, r2, r3, r4, r5, r6, r7⟩ := peek_ind _ c m (fu1 ((Int32.toInt (c 1 1) - Int32.toInt (c 1 2)).toNat)) (fu1 ((Int32.toInt (m 123 2) - Int32.toInt (m 123 3)).toNat + 1)) h rfl (by rw [fu1_eq, h.1.1, h.2.1, toNat_sub_nI (by omega) (by omega)]; omega) (by rw [fu1_eq, h.1.2.1, h.2.2.1, toNat_sub_nI (by omega) (by omega)]; omega)
  obtain ⟨h', e1, e2⟩ := MV_HP h r3 r5
  exact ⟨c', m', p, r1, r2, r3, r4, r5, r6, r7, h', e1, e2⟩
theorem pass {c m : SI} (h : HP c m) (hx : xh c ≠ -1) : MV c m (f7_pass c) (sp m 123 3 (m 123 3 + 1)) (hd c + 1) ∧ hd c + 1 ≤ ln c := by
  have hq := xh_lt h hx
  have hL := h.1.2.2.1
  have e : f7_pass c = sp c 1 2 (c 1 2 + 1) := by
    unfold f7_pass
    rw [if_neg (by rw [h.1.1, h.2.1]; exact nI_ge hq (by omega))]
  rw [e]
  exact ⟨blank_step h hq, hq⟩
theorem bad_at {c m : SI} (h : HP c m) : f12_bad m = sp m 123 4 (nI (hd c)) := by
  unfold f12_bad
  rw [if_pos h.2.2.2.2, h.2.2.1]
theorem fails_at {c m : SI} (h : HP c m) : f7_fails c = (false, sp c 1 3 (nI (hd c))) := by
  unfold f7_fails
  rw [h.2.1]
theorem digit_of {x : Int32} (h : f11_isDigit x = true) : ∃ s : Nat, 48 ≤ s ∧ s ≤ 57 ∧ x = nI s := by
  unfold f11_isDigit at h
  by_cases h1 : x < 48
  · rw [if_pos h1] at h; cases h
  rw [if_neg h1] at h
  by_cases h2 : 57 < x
  · rw [if_pos h2] at h; cases h
  have h0 : ¬ x < 0 := fun q => h1 (by rw [lt_ti] at q ⊢; exact Int.lt_trans q (by decide))
  obtain ⟨j, hj, rfl⟩ := nI_of h0
  refine ⟨j, Nat.le_of_not_lt fun q => h1 ((nI_ltI hj (b := 48) (by decide)).mpr q), Nat.le_of_not_lt fun q => h2 ((nI_ltI (a := 57) (by decide) hj).mpr q), rfl⟩
theorem isDigit_same (x : Int32) : f12_isDigit x = f11_isDigit x := rfl
