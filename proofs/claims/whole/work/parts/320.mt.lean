/-! what holds at the law's entry: classes, arrays, statics, the words of a throw -/
theorem w0_al {args : Array Value} {s : State} (h : ∀ w ∈ lw_tbl, w.before args s = true) : ∀ w ∈ ALL, w.before args s = true := fun w hw => h w (List.mem_filter.mp hw).1
theorem w0_cls {args : Array Value} {s : State} (hts : ∀ w ∈ ALL, w.before args s = true) : ∃ D : va_G, ∀ (k : Nat) (q : vw_C), vwCl[k]? = some q → u_Kn s q.1 q.2.1 q.2.2 (D.1 k) (D.2 k) := by
  have h1 : ∀ (k : Nat) (q : vw_C), vwCl[k]? = some q → ∃ z : ClassId × (Nat → Nat), u_Kn s q.1 q.2.1 q.2.2 z.1 z.2 := by
    intro k q hq
    have pk : ∀ {P : ClassId → (Nat → Nat) → Prop}, (∃ (c : ClassId) (i : Nat → Nat), P c i) → ∃ z : ClassId × (Nat → Nat), P z.1 z.2 := fun h => by
      obtain ⟨c, i, h⟩ := h
      exact ⟨(c, i), h⟩
    match k, hq with
    | 0, hq => cases hq; exact pk (u_known hts inX0 (hts _ la_X0))
    | 1, hq => cases hq; exact pk (u_known hts inX1 (hts _ la_X1))
    | 2, hq => cases hq; exact pk (u_known hts inX2 (hts _ la_X2))
    | 3, hq => cases hq; exact pk (u_known hts inX3 (hts _ la_X3))
    | 4, hq => cases hq; exact pk (u_known hts inX4 (hts _ la_X4))
    | 5, hq => cases hq; exact pk (u_known hts inX5 (hts _ la_X5))
    | 6, hq => cases hq; exact pk (u_known hts inX6 (hts _ la_X6))
    | 7, hq => cases hq; exact pk (u_known hts inX7 (hts _ la_X7))
    | 8, hq => cases hq; exact pk (u_known hts inX8 (hts _ la_X8))
    | 9, hq => cases hq; exact pk (u_known hts inX9 (hts _ la_X9))
    | 10, hq => cases hq; exact pk (u_known hts inX10 (hts _ la_X10))
    | 11, hq => cases hq; exact pk (u_known hts inX11 (hts _ la_X11))
    | 12, hq => cases hq; exact pk (u_known hts inX12 (hts _ la_X12))
    | k + 13, hq => exact absurd hq (by simp [vwCl])
  have h2 : ∀ k : Nat, ∃ z : ClassId × (Nat → Nat), ∀ q : vw_C, vwCl[k]? = some q → u_Kn s q.1 q.2.1 q.2.2 z.1 z.2 := by
    intro k
    cases e : vwCl[k]? with
    | none => exact ⟨((0 : Nat), fun _ => 0), fun q h => by cases h⟩
    | some q =>
      obtain ⟨z, hz⟩ := h1 k q e
      exact ⟨z, fun q' h => by cases h; exact hz⟩
  obtain ⟨f, hf⟩ := Classical.axiomOfChoice h2
  exact ⟨(fun k => (f k).1, fun k => (f k).2), hf⟩
theorem w0_arr {args : Array Value} {s : State} (hts : ∀ w ∈ ALL, w.before args s = true) (hO : AO2 s) : ∃ cA : Nat → ClassId, ∀ (k : Nat) (q : ClassId × FieldType), ([(cA 0, .int), (cA 1, .boolean), (cA 2, .long), (cA 3, .object RX0), (cA 4, .object RX1)] : List (ClassId × FieldType))[k]? = some q → ArrOfT s q.1 q.2 ∧ va_RA s q.1 q.2 := by
  obtain ⟨c0, k0, p0, f0, i0, e0⟩ := Cond.arrayClass_spec (hts _ lt_int)
  obtain ⟨c1, k1, p1, f1, i1, e1⟩ := Cond.arrayClass_spec (hts _ lt_boolean)
  obtain ⟨c2, k2, p2, f2, i2, e2⟩ := Cond.arrayClass_spec (hts _ lt_long)
  obtain ⟨p3, c3, k3, g3, -, i3, e3, f3⟩ := Cond.arrayOver_spec hO.1
  obtain ⟨p4, c4, k4, g4, -, i4, e4, f4⟩ := Cond.arrayOver_spec hO.2
  refine ⟨fun j => [c0, c1, c2, c3, c4].getD j c0, fun k q hq => ?_⟩
  match k, hq with
  | 0, hq => cases hq; exact ⟨fun N z => ⟨fun k h => (by cases h), k0, i0, p0, e0⟩, f0⟩
  | 1, hq => cases hq; exact ⟨fun N z => ⟨fun k h => (by cases h), k1, i1, p1, e1⟩, f1⟩
  | 2, hq => cases hq; exact ⟨fun N z => ⟨fun k h => (by cases h), k2, i2, p2, e2⟩, f2⟩
  | 3, hq => cases hq; exact ⟨fun N z => ⟨fun k h => (by cases h), k3, i3, p3, e3⟩, k3, p3, i3, e3, g3, f3⟩
  | 4, hq => cases hq; exact ⟨fun N z => ⟨fun k h => (by cases h), k4, i4, p4, e4⟩, k4, p4, i4, e4, g4, f4⟩
  | k + 5, hq => exact absurd hq (by simp)
theorem w0_nM : ∀ q ∈ nestM, Cond.methodLinkNest q.1 q.2.1 q.2.2 RX11 ∈ lw_tbl := by decide +kernel
theorem w0_nF : ∀ q ∈ nestF, Cond.fieldLinkNest q.1 q.2.1 RX11 q.2.2 "[I" RX11 ∈ lw_tbl := by decide +kernel
theorem w0_ls : ∀ j : Fin 9, Cond.laysStatic RX11 (zN j.val) "[I" ∈ lw_tbl := by decide +kernel
theorem w0_ao : ∀ w ∈ [Cond.arrayOver (.object RX0), Cond.arrayOver (.object RX1)], w ∈ lw_tbl := by decide +kernel
theorem w0_nb : ∀ w ∈ NBH, w ∈ lw_tbl := by decide +kernel
theorem w0_th : ∀ w ∈ [Cond.laysStatic Bundle.tN "UNASSIGNED_STACK" Bundle.steD, Cond.laysStatic Bundle.tN "SUPPRESSED_SENTINEL" Bundle.listD, Cond.initialized Bundle.tN], w ∈ lw_tbl := by decide +kernel
theorem w0_tr : ∀ w ∈ [Cond.isRef (.static Bundle.tN "UNASSIGNED_STACK" Bundle.steD), Cond.isRef (.static Bundle.tN "SUPPRESSED_SENTINEL" Bundle.listD)], w ∈ flatC (Jvm.Cond.and given_1 narrow_1) := by decide +kernel
theorem w0_sa : ∀ j : Fin 9, Cond.arrayOf (.static RX11 (zN j.val) "[I") .int ∈ flatC (Jvm.Cond.and given_1 narrow_1) := by decide +kernel
theorem w0_sn : ∀ j : Fin 9, Cond.eq (.length (.static RX11 (zN j.val) "[I")) (.int (Int32.ofNat (zL j.val))) ∈ flatC (Jvm.Cond.and given_1 narrow_1) := by decide +kernel
theorem w0_se : ∀ j : Fin 9, ∀ i : Fin (zL j.val), Cond.eq (.elem (.static RX11 (zN j.val) "[I") (.int (Int32.ofNat i.val))) (.int (zF j.val i.val)) ∈ flatC (Jvm.Cond.and given_1 narrow_1) := by decide +kernel
