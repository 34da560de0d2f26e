def posW (k : Nat) : Nat := if k ≤ 14 then k else if k = 15 then 23 else if k ≤ 23 then k - 1 else if k ≤ 27 then k else if k ≤ 42 then k + 80 else if k ≤ 122 then k - 15 else k
theorem posW_inj {i j : Nat} (h : posW i = posW j) : i = j := by
  unfold posW at h
  repeat' split at h
  all_goals omega
abbrev GW (base : Nat) (D : va_G) (cA : Nat → ClassId) (st : Nat → Nat) : GT := (D, fun k => base + posW k, cA, st)
theorem DW_W {base : Nat} {D : va_G} {cA : Nat → ClassId} {st : Nat → Nat} : DW (GW base D cA st) := fun i j _ _ e => posW_inj (Nat.add_left_cancel (show base + posW i = base + posW j from e))
theorem AW_W {base : Nat} {D : va_G} {cA : Nat → ClassId} {st : Nat → Nat} {q : Nat} : AW (GW base D cA st) base q ↔ base ≤ q := by
  constructor
  · intro h
    rcases h with ⟨k, _, h⟩ | h
    · rw [h]; exact Nat.le_add_right _ _
    · exact h
  · exact Or.inr
theorem w0_st {args : Array Value} {s : State} (hgv : (Jvm.Cond.and given_1 narrow_1).before args s = true) {A : Nat → Prop} (hA : ∀ a : Nat, a < s.heap.size → ¬ A a) : ∃ st : Nat → Nat, ∀ j : Nat, j < 9 → (Term.static RX11 (zN j) "[I").eval args s none [] s = some (.ref (st j)) ∧ va_T .int (st j) (zL j) (fun i => .int (zF j i)) A s s.heap := by
  have hg := flat_of_before _ hgv
  have h2 : ∀ j : Nat, ∃ t : Nat, j < 9 → (Term.static RX11 (zN j) "[I").eval args s none [] s = some (.ref t) ∧ va_T .int t (zL j) (fun i => .int (zF j i)) A s s.heap := by
    intro j
    by_cases hj : j < 9
    · obtain ⟨t, h1, h2⟩ := va_Tof (args := args) (s := s) (tm := .static RX11 (zN j) "[I") (ty := .int) (N := zL j) (f := fun i => .int (zF j i)) (A := A) (zL_lt hj) (hg _ (w0_sa ⟨j, hj⟩)) (va_eqt (hg _ (w0_sn ⟨j, hj⟩))) (fun i hi => va_eqt (hg _ (w0_se ⟨j, hj⟩ ⟨i, hi⟩))) hA
      exact ⟨t, fun _ => ⟨h1, h2⟩⟩
    · exact ⟨0, fun h => absurd h hj⟩
  exact Classical.axiomOfChoice h2
theorem w0_all {b : Nat} {s : State} (hts : ∀ w ∈ lw_tbl, w.before #[Value.ref b] s = true) (hgv : (Jvm.Cond.and given_1 narrow_1).before #[Value.ref b] s = true) : AO2 s ∧ ∃ (D : va_G) (cA : Nat → ClassId) (st : Nat → Nat), KZ (GW s.heap.size D cA st) (AW (GW s.heap.size D cA st) s.heap.size) s s.heap ∧ HX (AW (GW s.heap.size D cA st) s.heap.size) s s.heap := by
  have hal := w0_al hts
  have hg := flat_of_before _ hgv
  have hO : AO2 s := ⟨va_AO.of (hts _ (w0_ao _ List.mem_cons_self)), va_AO.of (hts _ (w0_ao _ (List.mem_cons_of_mem _ List.mem_cons_self)))⟩
  refine ⟨hO, ?_⟩
  obtain ⟨D, hD⟩ := w0_cls hal
  obtain ⟨cA, hcA⟩ := w0_arr hal hO
  obtain ⟨st, hst⟩ := w0_st hgv (A := fun q => s.heap.size ≤ q) (fun a h1 h2 => by omega)
  have hA : ∀ a : Nat, a < s.heap.size → ¬ AW (GW s.heap.size D cA st) s.heap.size a := fun a h1 h2 => by
    have := AW_W.mp h2
    omega
  refine ⟨D, cA, st, ⟨⟨hD, hcA⟩, fun q hq => va_Nw.of rfl (hts _ (w0_nM q hq)), fun q hq => va_Nw.of rfl (hts _ (w0_nF q hq)), fun j hj => ⟨va_Zref (hts _ (w0_ls ⟨j, hj⟩)) (hal _ ln_X11) (hst j hj).1 hA, (hst j hj).2.narrow (fun q h => AW_W.mp h)⟩⟩, fun w hw => va_Nw.of (NBH_on (List.all_eq_true.mp NBH_ok w hw)) (hts _ (w0_nb w hw)), ?_, ?_⟩
  · exact vx_Zqof (hts _ (w0_th _ List.mem_cons_self)) (hts _ (w0_th _ (List.mem_cons_of_mem _ (List.mem_cons_of_mem _ List.mem_cons_self)))) (hg _ (w0_tr _ List.mem_cons_self)) hA
  · exact vx_Zqof (hts _ (w0_th _ (List.mem_cons_of_mem _ List.mem_cons_self))) (hts _ (w0_th _ (List.mem_cons_of_mem _ (List.mem_cons_of_mem _ List.mem_cons_self)))) (hg _ (w0_tr _ (List.mem_cons_of_mem _ List.mem_cons_self))) hA
