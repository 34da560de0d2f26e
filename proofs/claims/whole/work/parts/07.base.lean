/-! what the walks take: bounds, measures, families of cells, ends, cases -/
theorem vp_g {i : Int32} {n : Nat} (hn : n < 2 ^ 31) (h0 : ¬ i < 0) (h1 : ¬ Int32.ofNat n ≤ i) : vp_in i n := by
  obtain ⟨j, hj, rfl⟩ := nI_of h0
  have h2 : ¬ nI n ≤ nI j := h1
  rw [nI_leI hn hj] at h2
  exact vp_in_nI (by omega) hn
theorem vp_ge {i : Int32} (h : 0 ≤ i) : ¬ i < 0 := by
  rw [Int32.lt_iff_toInt_lt]
  rw [Int32.le_iff_toInt_le] at h
  omega
theorem vp_lt {a b : Int32} (h : a < b) : ¬ b ≤ a := by
  rw [Int32.le_iff_toInt_le]
  rw [Int32.lt_iff_toInt_lt] at h
  omega
theorem ti_add (a b : Int32) : (a + b).toInt = (a.toInt + b.toInt).bmod (2 ^ 32) := Int32.toInt_add a b
theorem ti_rng (x : Int32) : -2147483648 ≤ x.toInt ∧ x.toInt < 2147483648 := by
  have h1 := Int32.le_toInt x
  have h2 := Int32.toInt_lt x
  exact ⟨by omega, by omega⟩
theorem bm_id {z : Int} (h1 : -2147483648 ≤ z) (h2 : z < 2147483648) : z.bmod (2 ^ 32) = z := by
  rw [Int.bmod_eq_of_le] <;> omega
theorem ti_add' {a b : Int32} (h1 : -2147483648 ≤ a.toInt + b.toInt) (h2 : a.toInt + b.toInt < 2147483648) : (a + b).toInt = a.toInt + b.toInt := by
  rw [Int32.toInt_add, bm_id h1 h2]
theorem ti_sub' {a b : Int32} (h1 : -2147483648 ≤ a.toInt - b.toInt) (h2 : a.toInt - b.toInt < 2147483648) : (a - b).toInt = a.toInt - b.toInt := by
  rw [Int32.toInt_sub, bm_id h1 h2]
theorem ti_mul' {a b : Int32} (h1 : -2147483648 ≤ a.toInt * b.toInt) (h2 : a.toInt * b.toInt < 2147483648) : (a * b).toInt = a.toInt * b.toInt := by
  rw [Int32.toInt_mul, bm_id h1 h2]
theorem le_ti {a b : Int32} : a ≤ b ↔ a.toInt ≤ b.toInt := Int32.le_iff_toInt_le
theorem lt_ti {a b : Int32} : a < b ↔ a.toInt < b.toInt := Int32.lt_iff_toInt_lt
theorem ti_1 : (1 : Int32).toInt = 1 := rfl
theorem up_v {v B : Int32} (h : ¬ B ≤ v) : (v + 1).toInt = v.toInt + 1 := by
  rw [le_ti] at h
  have := ti_rng B
  have := ti_rng v
  rw [ti_add' (by rw [ti_1]; omega) (by rw [ti_1]; omega), ti_1]
theorem up_dec {v B : Int32} (h : ¬ B ≤ v) : (B.toInt - (v + 1).toInt).toNat < (B.toInt - v.toInt).toNat := by
  rw [up_v h]
  rw [le_ti] at h
  omega
theorem up_vE {v B : Int32} (hB : B.toInt < 2147483647) (h : ¬ B < v) : (v + 1).toInt = v.toInt + 1 := by
  rw [lt_ti] at h
  have := ti_rng v
  rw [ti_add' (by rw [ti_1]; omega) (by rw [ti_1]; omega), ti_1]
theorem up_decE {v B : Int32} (hB : B.toInt < 2147483647) (h : ¬ B < v) : (B.toInt + 1 - (v + 1).toInt).toNat < (B.toInt + 1 - v.toInt).toNat := by
  rw [up_vE hB h]
  rw [lt_ti] at h
  omega
theorem up_nn {v B : Int32} (h0 : ¬ v < 0) (h : ¬ B ≤ v) : ¬ v + 1 < 0 := by
  rw [lt_ti, up_v h]
  rw [lt_ti] at h0
  have : (0 : Int32).toInt = 0 := rfl
  omega
theorem ti_m1 : (-1 : Int32).toInt = -1 := rfl
theorem dn_dec {v : Int32} (h : ¬ v ≤ 0) : (Int32.toInt (v + (-1))).toNat < (Int32.toInt v).toNat := by
  rw [le_ti] at h
  have h0 : (0 : Int32).toInt = 0 := rfl
  have := ti_rng v
  rw [ti_add' (by rw [ti_m1]; omega) (by rw [ti_m1]; omega), ti_m1]
  omega
theorem dn_dec8 {v : Int32} (h : ¬ v < 0) : (Int32.toInt (v + (-8)) + 8).toNat < (Int32.toInt v + 8).toNat := by
  rw [lt_ti] at h
  have h0 : (0 : Int32).toInt = 0 := rfl
  have h8 : (-8 : Int32).toInt = -8 := rfl
  have := ti_rng v
  rw [ti_add' (by rw [h8]; omega) (by rw [h8]; omega), h8]
  omega
theorem zL_lt : ∀ {j : Nat}, j < 9 → zL j < 2 ^ 31 := by decide
theorem i2l_ne {j : Int32} (h : 0 < j) : ¬ Int32.toInt64 j = 0 := by
  intro e
  rw [lt_ti] at h
  have h1 := congrArg Int64.toInt e
  rw [Int32.toInt_toInt64] at h1
  have h0 : (0 : Int32).toInt = 0 := rfl
  have h2 : (0 : Int64).toInt = 0 := rfl
  omega
theorem ne_of_nle {x : Int32} (h : ¬ x ≤ 0) : ¬ x = 0 := fun e => h (by rw [e]; decide)
theorem vp_pop {t : Int32} (h0 : ¬ t ≤ 0) (h1 : t ≤ 32) : vp_in (t - 1) 32 := by
  rw [le_ti] at h0 h1
  have z0 : (0 : Int32).toInt = 0 := rfl
  have z1 : (32 : Int32).toInt = 32 := rfl
  have h : (t - 1).toInt = t.toInt - 1 := by rw [ti_sub' (by rw [ti_1]; omega) (by rw [ti_1]; omega), ti_1]
  rw [vp_in_iff, h]
  omega
theorem ne_of_pos {x : Int32} (h : 0 < x) : ¬ x = 0 := fun e => by rw [e] at h; exact absurd h (by decide)
theorem sp_n {σ : SI} {k j a : Nat} {x : Int32} (h : a ≠ k) : sp σ k j x a = σ a := su_n _ _ h
theorem sp_s {σ : SI} {k j : Nat} {x : Int32} : sp σ k j x k = upd (σ k) j x := su_s _ _ _
theorem sp_r {σ : SI} {k j : Nat} {x : Int32} : sp σ k j x k j = x := by rw [sp_s]; exact if_pos rfl
theorem hr_le {a b maxL : Nat} (h : a + 1 ≤ b) (h2 : maxL ≤ 45) : a + 1 ≤ (rmN b).frames ∧ 8 + (maxL + 11) + 64 * a ≤ (rmN b).locals := ⟨h, by show _ ≤ 64 * b; omega⟩
theorem b2i_y {b : Bool} (h : ¬ b2i b = 0) : b = true := b2i_1.mp h
theorem b2i_n {b : Bool} (h : b2i b = 0) : ¬ b = true := by rw [b2i_0.mp h]; decide
theorem b2i_fit (b : Bool) : fits .boolean (.int (b2i b)) = true := by cases b <;> rfl
theorem b2i_vnar (b : Bool) : vp_nar .boolean (b2i b) = b2i b := by cases b <;> rfl
theorem e_i {v r : Int32} {σ a : SI} {τ b : SL} (h1 : r = v) (h2 : a = σ) (h3 : b = τ) : Ei v σ τ r a b := ⟨h1, h2, h3⟩
theorem e_l {v r : Int64} {σ a : SI} {τ b : SL} (h1 : r = v) (h2 : a = σ) (h3 : b = τ) : El v σ τ r a b := ⟨h1, h2, h3⟩
theorem e_q {v r : Option Nat} {σ a : SI} {τ b : SL} (h1 : r = v) (h2 : a = σ) (h3 : b = τ) : Eq1 v σ τ r a b := ⟨h1, h2, h3⟩
theorem e_v {σ a : SI} {τ b : SL} (h2 : a = σ) (h3 : b = τ) : Ev σ τ a b := ⟨h2, h3⟩
def isTown (k : Nat) : Prop := k + 2 < NW ∧ kd k = 8 ∧ kd (k + 1) = 136 ∧ kd (k + 2) = 103
def isLaw (k : Nat) : Prop := k + 1 < NW ∧ kd k = 1 ∧ kd (k + 1) = 340
def isDay (k : Nat) : Prop := k + 1 < NW ∧ kd k = 0 ∧ kd (k + 1) = 107
theorem day_all : ∀ j, j < 40 → isDay (43 + 2 * j) := by unfold isDay; decide
theorem law_all : ∀ j, j < 4 → isLaw (16 + 2 * j) := by unfold isLaw; decide
def oq {α : Type} (o : Option Nat) (a : α) (b : Nat → α) : α := match o with
  | none => a
  | some k => b k
theorem oq_none {α : Type} {o : Option Nat} {a : α} {b : Nat → α} (h : o = none) : oq o a b = a := by rw [h]; rfl
theorem oq_some {α : Type} {o : Option Nat} {a : α} {b : Nat → α} {k : Nat} (h : o = some k) : oq o a b = b k := by rw [h]; rfl
/-! numbers that no unfolding sees through: fuel, and the depths of the recursions -/
theorem blk_ex (k : Nat) : ∃ n : Nat, n = k := ⟨k, rfl⟩
noncomputable def blk (k : Nat) : Nat := Classical.choose (blk_ex k)
theorem blk_eq (k : Nat) : blk k = k := Classical.choose_spec (blk_ex k)
noncomputable def fu1 (m : Nat) : Nat := m + blk 1
theorem fu1_eq (m : Nat) : fu1 m = m + 1 := by unfold fu1; rw [blk_eq]
theorem fu1_lt (m : Nat) : m < fu1 m := by rw [fu1_eq]; exact Nat.lt_succ_self m
theorem ite_t {α : Type} {E x y : α} {c : Prop} {i : Decidable c} (h : E = @ite α c i x y) (hc : c) : E = x := h.trans (if_pos hc)
theorem ite_f {α : Type} {E x y : α} {c : Prop} {i : Decidable c} (h : E = @ite α c i x y) (hc : ¬ c) : E = y := h.trans (if_neg hc)
theorem ite_tP {x y : Prop} {c : Prop} {i : Decidable c} (h : @ite Prop c i x y) (hc : c) : x := (Eq.mp (if_pos hc) h)
theorem ite_fP {x y : Prop} {c : Prop} {i : Decidable c} (h : @ite Prop c i x y) (hc : ¬ c) : y := (Eq.mp (if_neg hc) h)
theorem fr_ite {c : Prop} {i : Decidable c} {x y : SI} {a : Nat} {v : Nat → Int32} (hx : x a = v) (hy : y a = v) : (@ite SI c i x y) a = v := by split <;> assumption
def Fp2 {α : Type} (r : α × SI) (a : Nat) (v : Nat → Int32) : Prop := r.2 a = v
def Fp1 {α : Type} (r : SI × α) (a : Nat) (v : Nat → Int32) : Prop := r.1 a = v
def Fp21 {α β : Type} (r : α × SI × β) (a : Nat) (v : Nat → Int32) : Prop := r.2.1 a = v
theorem fp_of2 {α : Type} {r : α × SI} {a : Nat} {v : Nat → Int32} (h : r.2 a = v) : Fp2 r a v := h
theorem fp_of1 {α : Type} {r : SI × α} {a : Nat} {v : Nat → Int32} (h : r.1 a = v) : Fp1 r a v := h
theorem fp_of21 {α β : Type} {r : α × SI × β} {a : Nat} {v : Nat → Int32} (h : r.2.1 a = v) : Fp21 r a v := h
theorem fp_to2 {α : Type} {r : α × SI} {a : Nat} {v : Nat → Int32} (h : Fp2 r a v) : r.2 a = v := h
theorem fp_to1 {α : Type} {r : SI × α} {a : Nat} {v : Nat → Int32} (h : Fp1 r a v) : r.1 a = v := h
theorem fp_to21 {α β : Type} {r : α × SI × β} {a : Nat} {v : Nat → Int32} (h : Fp21 r a v) : r.2.1 a = v := h
theorem fr_ite2 {α : Type} {c : Prop} {i : Decidable c} {x y : α × SI} {a : Nat} {v : Nat → Int32} (hx : Fp2 x a v) (hy : Fp2 y a v) : Fp2 (@ite (α × SI) c i x y) a v := by split <;> assumption
theorem fr_ite1 {α : Type} {c : Prop} {i : Decidable c} {x y : SI × α} {a : Nat} {v : Nat → Int32} (hx : Fp1 x a v) (hy : Fp1 y a v) : Fp1 (@ite (SI × α) c i x y) a v := by split <;> assumption
theorem fr_ite21 {α β : Type} {c : Prop} {i : Decidable c} {x y : α × SI × β} {a : Nat} {v : Nat → Int32} (hx : Fp21 x a v) (hy : Fp21 y a v) : Fp21 (@ite (α × SI × β) c i x y) a v := by split <;> assumption
theorem fr_mk21 {α : Type} {x : α} {y : SI} {a : Nat} {v : Nat → Int32} (h : y a = v) : Fp2 (x, y) a v := h
theorem fr_mk20 {α : Type} {x : α} {y : SI} {a : Nat} {v : Nat → Int32} (h : y a = v) : Fp1 (y, x) a v := h
theorem fr_mk31 {α β : Type} {x : α} {y : SI} {z : β} {a : Nat} {v : Nat → Int32} (h : y a = v) : Fp21 (x, y, z) a v := h
theorem pr_fst {α β : Type} {E : α × β} {a : α} {b : β} (h : E = (a, b)) : a = E.1 := by rw [h]
theorem pr_snd {α β : Type} {E : α × β} {a : α} {b : β} (h : E = (a, b)) : b = E.2 := by rw [h]
theorem pr_1 {α β γ : Type} {E : α × β × γ} {a : α} {b : β} {c : γ} (h : E = (a, b, c)) : a = E.1 := by rw [h]
theorem pr_2 {α β γ : Type} {E : α × β × γ} {a : α} {b : β} {c : γ} (h : E = (a, b, c)) : b = E.2.1 := by rw [h]
theorem pr_3 {α β γ : Type} {E : α × β × γ} {a : α} {b : β} {c : γ} (h : E = (a, b, c)) : c = E.2.2 := by rw [h]
theorem oq_all {α : Type} {P : α → Prop} {o : Option Nat} {a : α} {b : Nat → α} (h1 : o = none → P a) (h2 : ∀ k, o = some k → P (b k)) : P (oq o a b) := by
  cases o with
  | none => exact h1 rfl
  | some k => exact h2 k rfl
theorem sw_out {x : Int32} {lo hi : Int} (h : ∀ j : Int, lo ≤ j → j ≤ hi → ¬ x = Int32.ofInt j) : x.toInt < lo ∨ hi < x.toInt := by
  rcases Int.lt_or_le x.toInt lo with q | q
  · exact Or.inl q
  · rcases Int.lt_or_le hi x.toInt with r | r
    · exact Or.inr r
    · exact absurd (Int32.ofInt_toInt x).symm (h x.toInt q r)
theorem dec_c {B B' v : Int32} {u : Nat} (h : B' = B) (k : (B.toInt - v.toInt).toNat < u) : (B'.toInt - v.toInt).toNat < u := by rw [h]; exact k
theorem sw_eq {x : Int32} {j : Int} (h : x.toInt = j) : x = Int32.ofInt j := by rw [← h, Int32.ofInt_toInt]
theorem sw_def (ps : List (Int × Int)) (d x : Int) (h0 : True) (h : ∀ q ∈ ps, ¬ x = q.1) : Op.lookupswitch.offset ps d x = d := by
  induction ps with
  | nil => rfl
  | cons a l ih =>
    have h1 : ¬ x = a.1 := h a List.mem_cons_self
    obtain ⟨a1, a2⟩ := a
    rw [Op.lookupswitch.offset_cons, if_neg (Ne.symm h1)]
    exact ih (fun q hq => h q (List.mem_cons_of_mem _ hq))
section BB
variable {p : Program} {l : Launch} {e : Env} {R : Room} {s : State} {m : MethodId} {args : Array Value} {below : List Frame} {meth : Method} {c : Code} {H : Heap} {locs : List Loc} {cells slots : Nat} {Q : State → Prop}
variable {pc : Nat} {ls : Array Slot} {rest st : List Value} {G : GT} {σ : SI} {τ : SL} {cc : ByteArray} {own : String} {nL : Nat} {ret : Option FieldType}
theorem r_eqs {v : Option Nat} {σ1 : SI} {τ1 : SL} {a : Array Value} {st0 : List Value} (I : IX G s H locs σ τ) (hr : va_Run p l e R s m args below meth c H locs cells slots 0 0 (F0 m pc ls st0) rest (Qq G (Eq1 (v.map G.2.1) σ1 τ1) H.size a) (AW G H.size))
    (kn : v = none → ∀ (H1 : Heap) (locs1 : List Loc), IX G s H1 locs1 σ1 τ1 → W p l e R s m args below meth c H1 locs1 cells slots Q (F0 m (pc + 3) ls (.null :: rest)))
    (ks : ∀ k : Nat, v = some k → ∀ (H1 : Heap) (locs1 : List Loc), IX G s H1 locs1 σ1 τ1 → W p l e R s m args below meth c H1 locs1 cells slots Q (F0 m (pc + 3) ls (.ref (G.2.1 k) :: rest))) : W p l e R s m args below meth c H locs cells slots Q (F0 m pc ls st0) := by
  cases v with
  | none => exact r_eq I hr (fun H1 locs1 I1 => kn rfl H1 locs1 I1)
  | some k => exact r_eq I hr (fun H1 locs1 I1 => ks k rfl H1 locs1 I1)
theorem r_eqc {v : Option Nat} {x : Nat} {σ1 : SI} {τ1 : SL} {a : Array Value} {st0 : List Value} (I : IX G s H locs σ τ) (hr : va_Run p l e R s m args below meth c H locs cells slots 0 0 (F0 m pc ls st0) rest (Qq G (Eq1 v σ1 τ1) H.size a) (AW G H.size)) (hv : v = some x)
    (kk : ∀ (H1 : Heap) (locs1 : List Loc), IX G s H1 locs1 σ1 τ1 → W p l e R s m args below meth c H1 locs1 cells slots Q (F0 m (pc + 3) ls (.ref x :: rest))) : W p l e R s m args below meth c H locs cells slots Q (F0 m pc ls st0) := by
  subst hv
  exact r_eq I hr kk
theorem r_dayld (X : CX p s m args meth c cc own nL ret G) (I : IX G s H locs σ τ) {k : Nat} (hk : k < NW) (h : kd k = 20) {i : Int32} (hin : vp_in i 40) (hdg : decode cc pc = .ok (.aaload, 1))
    (kk : W p l e R s m args below meth c H locs cells slots Q (F0 m (pc + 1) ls (.ref (G.2.1 (43 + 2 * i.toNatClampNeg)) :: rest))) : W p l e R s m args below meth c H locs cells slots Q (F0 m pc ls (.int i :: .ref (G.2.1 k) :: rest)) := by
  obtain ⟨hx, hb, hr, hts, hown, hml, hlk, hD, hK, -⟩ := X
  exact va_aldq (D := G.1) (cl := vwCl) (tys := tyW G) (ws := wW G σ τ) (f := fun i => some (G.2.1 (43 + 2 * i))) hx hb hK I.1 k 3 (by rw [wW_at hk, cl_20 h]) rfl hin hdg kk
theorem r_lawld (X : CX p s m args meth c cc own nL ret G) (I : IX G s H locs σ τ) {k : Nat} (hk : k < NW) (h : kd k = 21) {i : Int32} (hin : vp_in i 4) (hdg : decode cc pc = .ok (.aaload, 1))
    (kk : W p l e R s m args below meth c H locs cells slots Q (F0 m (pc + 1) ls (.ref (G.2.1 (16 + 2 * i.toNatClampNeg)) :: rest))) : W p l e R s m args below meth c H locs cells slots Q (F0 m pc ls (.int i :: .ref (G.2.1 k) :: rest)) := by
  obtain ⟨hx, hb, hr, hts, hown, hml, hlk, hD, hK, -⟩ := X
  exact va_aldq (D := G.1) (cl := vwCl) (tys := tyW G) (ws := wW G σ τ) (f := fun i => some (G.2.1 (16 + 2 * i))) hx hb hK I.1 k 4 (by rw [wW_at hk, cl_21 h]) rfl hin hdg kk
theorem r_alen20 (X : CX p s m args meth c cc own nL ret G) (I : IX G s H locs σ τ) {k : Nat} (hk : k < NW) (h : kd k = 20) (hdg : decode cc pc = .ok (.arraylength, 1))
    (kk : W p l e R s m args below meth c H locs cells slots Q (F0 m (pc + 1) ls (.int 40 :: rest))) : W p l e R s m args below meth c H locs cells slots Q (F0 m pc ls (.ref (G.2.1 k) :: rest)) := by
  obtain ⟨hx, hb, hr, hts, hown, hml, hlk, hD, hK, -⟩ := X
  exact va_alen (D := G.1) (cl := vwCl) (tys := tyW G) (ws := wW G σ τ) hx hb hK I.1 k 3 (by rw [wW_at hk, cl_20 h]) (ty := .object RX0) rfl rfl hdg kk
theorem r_alen21 (X : CX p s m args meth c cc own nL ret G) (I : IX G s H locs σ τ) {k : Nat} (hk : k < NW) (h : kd k = 21) (hdg : decode cc pc = .ok (.arraylength, 1))
    (kk : W p l e R s m args below meth c H locs cells slots Q (F0 m (pc + 1) ls (.int 4 :: rest))) : W p l e R s m args below meth c H locs cells slots Q (F0 m pc ls (.ref (G.2.1 k) :: rest)) := by
  obtain ⟨hx, hb, hr, hts, hown, hml, hlk, hD, hK, -⟩ := X
  exact va_alen (D := G.1) (cl := vwCl) (tys := tyW G) (ws := wW G σ τ) hx hb hK I.1 k 4 (by rw [wW_at hk, cl_21 h]) (ty := .object RX1) rfl rfl hdg kk
theorem lv_tableD (hx : p.tables.exec = Jvm.exec) (hb : c.code = cc) {dflt lo hi : Int} {offs : Array Int} {len : Nat} {x : Int32} {tgt : Nat} {L : List Int} (hdg : decode cc pc = .ok (.tableswitch dflt lo hi offs, len)) (hc : ∀ j : Fin (hi + 1 - lo).toNat, offs[j.val]? = some dflt ∨ (lo + (j.val : Int)) ∈ L) (hL : ∀ j ∈ L, ¬ x = Int32.ofInt j) (ht : (pc : Int) + dflt = (tgt : Int))
    (k : W p l e R s m args below meth c H locs cells slots Q (F0 m tgt ls rest)) : W p l e R s m args below meth c H locs cells slots Q (F0 m pc ls (.int x :: rest)) := by
  by_cases h1 : x.toInt < lo
  · exact lv_tableOut hx hb hdg (Or.inl h1) ht k
  · by_cases h2 : hi < x.toInt
    · exact lv_tableOut hx hb hdg (Or.inr h2) ht k
    · have hj : (x.toInt - lo).toNat < (hi + 1 - lo).toNat := by omega
      rcases hc ⟨(x.toInt - lo).toNat, hj⟩ with q | q
      · exact lv_tableIn hx hb hdg h1 h2 q ht k
      · refine absurd ?_ (hL _ q)
        have e : lo + (((x.toInt - lo).toNat : Nat) : Int) = x.toInt := by omega
        show x = Int32.ofInt (lo + (((x.toInt - lo).toNat : Nat) : Int))
        rw [e, Int32.ofInt_toInt]
theorem r_copy (X : CX p s m args meth c cc own nL ret G) (I : IX G s H locs σ τ) (hsz : ls.size = nL) {k0 n0 k1 n1 N : Nat} (h0 : k0 < NW) (d0 : kd k0 = 100 + n0) (h1 : k1 < NW) (d1 : kd k1 = 100 + n1) {n : Int32} (z0 : ¬ (0 : Int32) < 0) (z1 : (0 : Int32).toNatClampNeg = 0) (z2 : ¬ n < 0) (hN : n.toNatClampNeg = N) (hl0 : N ≤ n0) (hl1 : N ≤ n1) {index : Nat} (hlink : Cond.methodLink own index arraycopyName ∈ ALL)
    (hdg : decode cc pc = .ok (.invokestatic index, 3)) (hf : 1 ≤ R.frames) (hlo : (rest.map fun v => v.category).sum + (nativeFrameWords "java/lang/System" "arraycopy" 5 + 11) ≤ R.locals)
    (kk : ∀ (H1 : Heap) (locs1 : List Loc), IX G s H1 locs1 (su σ k1 (va_cpy (σ k0) (σ k1) 0 0 N)) τ → W p l e R s m args below meth c H1 locs1 cells slots Q (F0 m (pc + 3) ls rest)) : W p l e R s m args below meth c H locs cells slots Q (F0 m pc ls (.int n :: .int 0 :: .ref (G.2.1 k1) :: .int 0 :: .ref (G.2.1 k0) :: rest)) := by
  obtain ⟨hx, hb, hr, hts, hown, hml, hlk, hD, hK, -⟩ := X
  refine va_copyi (D := G.1) (cl := vwCl) (tys := tyW G) (ws := wW G σ τ) hx hb (hml.trans hsz.symm) hown (hts _ hlink) (hts _ lv_nat_System_arraycopy) (hts _ ls_System_arraycopy) (hts _ ln_J10) hK I.1 (dW hD s.heap.size σ τ) I.2 k0 k1 0 0 (ty := .int) (by rw [wW_at h0, cl_arr d0]) (by rw [wW_at h1, cl_arr d1]) rfl rfl rfl z0 z0 z2 (by rw [z1, hN]; omega) (by rw [z1, hN]; omega) (fun i _ => rfl) hf hlo hdg (fun H1 locs1 hP hD1 hS => kk H1 locs1 ⟨?_, hS⟩)
  rw [z1, hN] at hP
  rw [wW_set h1 (cl_arr d1)] at hP
  exact hP
theorem r_mmaxL (X : CX p s m args meth c cc own nL ret G) (hsz : ls.size = nL) {index : Nat} (h1 : Cond.methodLink own index Lib.MathLoose.max_long.x ∈ ALL) (h2 : Cond.static Lib.MathLoose.max_long.x ∈ ALL) (h3 : Cond.initialized "java/lang/Math" ∈ ALL) (h4 : Cond.code Lib.MathLoose.max_long.x Lib.MathLoose.max_long.code 4 (some .long) ∈ ALL) (hf : 1 ≤ R.frames) (hlo : (rest.map fun v => v.category).sum + 15 ≤ R.locals) (hc : cells ≤ R.cells) (hs : slots ≤ R.slots) {x y : Int64} (hdg : decode cc pc = .ok (.invokestatic index, 3))
    (kk : W p l e R s m args below meth c H locs cells slots Q (F0 m (pc + 3) ls (.long (if y < x then x else y) :: rest))) : W p l e R s m args below meth c H locs cells slots Q (F0 m pc ls (.long y :: .long x :: rest)) :=
  va_mmax_long X.1 X.2.1 (X.2.2.2.2.2.1.trans hsz.symm) X.2.2.2.2.1 (X.2.2.2.1 _ h1) (X.2.2.2.1 _ h2) (X.2.2.2.1 _ h3) (X.2.2.2.1 _ h4) hf hlo hc hs hdg kk
theorem r_mminL (X : CX p s m args meth c cc own nL ret G) (hsz : ls.size = nL) {index : Nat} (h1 : Cond.methodLink own index Lib.MathLoose.min_long.x ∈ ALL) (h2 : Cond.static Lib.MathLoose.min_long.x ∈ ALL) (h3 : Cond.initialized "java/lang/Math" ∈ ALL) (h4 : Cond.code Lib.MathLoose.min_long.x Lib.MathLoose.min_long.code 4 (some .long) ∈ ALL) (hf : 1 ≤ R.frames) (hlo : (rest.map fun v => v.category).sum + 15 ≤ R.locals) (hc : cells ≤ R.cells) (hs : slots ≤ R.slots) {x y : Int64} (hdg : decode cc pc = .ok (.invokestatic index, 3))
    (kk : W p l e R s m args below meth c H locs cells slots Q (F0 m (pc + 3) ls (.long (if y < x then y else x) :: rest))) : W p l e R s m args below meth c H locs cells slots Q (F0 m pc ls (.long y :: .long x :: rest)) :=
  va_mmin_long X.1 X.2.1 (X.2.2.2.2.2.1.trans hsz.symm) X.2.2.2.2.1 (X.2.2.2.1 _ h1) (X.2.2.2.1 _ h2) (X.2.2.2.1 _ h3) (X.2.2.2.1 _ h4) hf hlo hc hs hdg kk
end BB
/-- a house's slot -/
theorem vp_slot {x1 x2 : Int32} (h0 : ¬ x1 < 0) (h1 : ¬ (7 : Int32) ≤ x1) (h2 : ¬ x2 < 0) (h3 : ¬ (4 : Int32) ≤ x2) : vp_in ((3 : Int32) + x1 * 4 + x2) 36 := by
  obtain ⟨j, hj, rfl⟩ := nI_of h0
  obtain ⟨k, hk, rfl⟩ := nI_of h2
  have a : ¬ nI 7 ≤ nI j := h1
  have b : ¬ nI 4 ≤ nI k := h3
  rw [nI_leI (by decide) hj] at a
  rw [nI_leI (by decide) hk] at b
  have e : (3 : Int32) + nI j * 4 + nI k = nI (3 + j * 4 + k) := by
    rw [show (3 : Int32) = nI 3 from rfl, show (4 : Int32) = nI 4 from rfl, pk_mul, nI_add, nI_add]
  rw [e]
  exact vp_in_nI (by omega) (by decide)
