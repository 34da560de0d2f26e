/-! the law's own rules: what the constructors' rules are, for a static method -/
abbrev LNk (p : Program) (s : State) (m : MethodId) (args : Array Value) (c : Code) (cc : ByteArray) (own : String) (nL : Nat) (G : GT) (A : Nat → Prop) : Prop :=
  p.tables.exec = Jvm.exec ∧ c.code = cc ∧ (∀ w ∈ ALL, w.before args s = true) ∧ s.vm.findClass own = some m.cls ∧ c.maxLocals = nL ∧ KZ G A s s.heap
section CC
variable {p : Program} {l : Launch} {e : Env} {R : Room} {s : State} {m : MethodId} {args : Array Value} {below : List Frame} {meth : Method} {c : Code} {H : Heap} {locs : List Loc} {cells slots : Nat} {Q : State → Prop}
variable {pc : Nat} {ls : Array Slot} {rest st : List Value} {G : GT} {A : Nat → Prop} {ws : va_W} {cc : ByteArray} {own : String} {nL : Nat}
theorem l_obj (X : LNk p s m args c cc own nL G A) (I : IN G A s H locs ws) {C : String} {T : u_T} {N ci index a : Nat} (hin : ∀ w ∈ u_ws C T N, w ∈ ALL) (ty : Nat → FieldType) (hty : ∀ k, k < N → parseFieldDescriptor (T k).2.2.1 = some (ty k)) (hcl : Cond.classLink own index C ∈ ALL) (hinst : Cond.instantiable C N ∈ ALL) (hini : Cond.initialized C ∈ ALL) (hc : vwCl[ci]? = some (C, T, N)) {fs : List Value} (hfs : ∀ j, j < N → defaultValue (ty j) = vp_V fs j) (hcells : cells + 1 ≤ R.cells) (hslots : slots + N ≤ R.slots) (ha : a = H.size) (hdg : decode cc pc = .ok (.new index, 3))
    (kk : ∀ H1 : Heap, H1.size = a + 1 → IN G A s H1 locs (ws ++ [(a, .inr (ci, fs))]) → W p l e R s m args below meth c H1 locs (cells + 1) (slots + N) Q (F0 m (pc + 3) ls (.ref a :: rest))) : W p l e R s m args below meth c H locs cells slots Q (F0 m pc ls rest) := by
  obtain ⟨hx, hb, hts, hown, hml, hK⟩ := X
  have hKn := hK.1.1 ci _ hc
  refine W.newcK hx hb hown (hts _ hcl) (hts _ hinst) (hts _ hini) rfl hdg hcells hslots hKn.2.1 ha.symm fun H1 kC hkC e1 z1 o1 => ?_
  exact kk H1 z1 (n_grow I ha z1 o1 ⟨_, hc, (u_born ty hts hin hKn hkC e1 hty).to hfs⟩)
theorem l_call (X : LNk p s m args c cc own nL G A) (hO : AO2 s) {ws0 : va_W} {k ci : Nat} {fs av : List Value} {L : List Nat} {σ : SI} {τ : SL} {y : MethodName} {bytes : ByteArray} {maxL nc ns index ar : Nat} {rm : Room} (I : IN G A s H locs (ws0 ++ [(G.2.1 k, .inr (ci, fs))])) (hM : Kc l y bytes maxL rm nc ns G k av ci fs L σ τ) (ha : ∀ i q, L[i]? = some q → G.2.1 q = H.size + i) (pk : PKb y bytes maxL none ar) (hi : Cond.instanceMethod y ∈ ALL) (hyi : y.name = "<init>") (hl : Cond.methodLink own index y ∈ ALL) (hn : av.length = ar) (hsz : ls.size = nL) (hst : st = av.reverse ++ .ref (G.2.1 k) :: rest) (hW : (rest.map fun v => v.category).sum ≤ 8) (hdg : decode cc pc = .ok (.invokespecial index, 3)) (hR : rm.frames + 1 ≤ R.frames ∧ 8 + (maxL + 11) + rm.locals ≤ R.locals) (hrm : rm.cells = nc ∧ rm.slots = ns) (hf : cells + nc ≤ R.cells ∧ slots + ns ≤ R.slots)
    (kk : ∀ (H1 : Heap) (locs1 : List Loc), H1.size = H.size + L.length → IN G A s H1 locs1 (ws0 ++ nW G (k :: L) σ τ) → W p l e R s m args below meth c H1 locs1 (cells + nc) (slots + ns) Q (F0 m (pc + 3) ls rest)) : W p l e R s m args below meth c H locs cells slots Q (F0 m pc ls st) := by
  obtain ⟨hx, hb, hts, hown, hml, hK⟩ := X
  obtain ⟨hP, hD, hS, hA⟩ := I
  have hx0 : (ws0 ++ [((G.2.1 k, .inr (ci, fs)) : Nat × va_E)])[ws0.length]? = some (G.2.1 k, .inr (ci, fs)) := by rw [List.getElem?_append_right (Nat.le_refl _), Nat.sub_self]; rfl
  have hlt : G.2.1 k < H.size := (hP _ _ hx0).lt
  have hAk : A (G.2.1 k) := hD.2 _ _ hx0
  have hA1 : ∀ q, A1k (G.2.1 k) H.size q → A q := fun q h => by
    rcases h with h | h
    · rw [h]; exact hAk
    · exact hA q (Nat.le_trans hS.1 h)
  have hs1 : va_P G.1 vwCl [(G.2.1 k, .inr (ci, fs))] H := fun i q h => by
    have z : i < 1 := (List.getElem?_eq_some_iff.mp h).1
    rw [show i = 0 by omega] at h
    cases h
    exact hP _ _ hx0
  have hb1 : FrameBlind (va_Pc (.ref (G.2.1 k) :: av) (fun U => U.heap.size = H.size ∧ va_P G.1 vwCl [(G.2.1 k, .inr (ci, fs))] U.heap ∧ KZ G (A1k (G.2.1 k) H.size) U U.heap ∧ AO2 U)) := by
    intro a U g mk q
    obtain ⟨q0, q1, qP, ⟨qK, qM, qF, qZ⟩, qO⟩ := q
    exact ⟨q0, q1, qP, ⟨va_K.moved (u := U) (U := U.calling g mk a) (Vm.Alike.refl U.vm) qK, fun w hw => va_Nw.same rfl (u := U) (U := U.calling g mk a) rfl (qM w hw), fun w hw => va_Nw.same rfl (u := U) (U := U.calling g mk a) rfl (qF w hw), fun j hj => ⟨va_Z.moved (u := U) (U := U.calling g mk a) (Vm.Alike.refl U.vm) (qZ j hj).1, va_T.moved (u := U) (U := U.calling g mk a) (Vm.Alike.refl U.vm) (qZ j hj).2⟩⟩, ⟨va_AO.moved (u := U) (U := U.calling g mk a) (Vm.Alike.refl U.vm) qO.1, va_AO.moved (u := U) (U := U.calling g mk a) (Vm.Alike.refl U.vm) qO.2⟩⟩
  have hrun := va_runI (l := l) (p := p) (e := e) (below := below) (meth := meth) (locs := locs) (cells := cells) (slots := slots) (As := av) (rest := rest) ⟨hx, hb, hml, hown, hts⟩ (hM H.size ha hlt) (cwI ar hts (good_cons pk.1) rfl hrm.1 hrm.2 (hts _ pk.2.1) (hts _ hl) (hts _ hi) hyi pk.2.2 hR) ⟨hb1, fun U hU hW' => ⟨rfl, by rw [hU], by rw [hU]; exact hs1, by rw [hU]; exact KZ_nar hK hS hW' hA1, va_AO.moved hW'.alike hO.1, va_AO.moved hW'.alike hO.2⟩⟩ rfl hn hsz hst (lv_room hW) hdg hf
  refine va_callv hrun hS (fun q _ h => hA1 q h) hA1 (fun u t H1 locs1 ht hvm hp hB hz hk hS1 => ?_)
  obtain ⟨hP1, hz1⟩ := hB
  rw [ht] at hP1 hz1
  have hws : ∀ (i : Nat) (q : Nat × va_E), ws0[i]? = some q → q.1 < H.size ∧ q.1 ≠ G.2.1 k ∧ va_at G.1 vwCl q H := fun i q h => by
    have hil : i < ws0.length := (List.getElem?_eq_some_iff.mp h).1
    have h2 : (ws0 ++ [((G.2.1 k, .inr (ci, fs)) : Nat × va_E)])[i]? = some q := by rw [List.getElem?_append_left hil]; exact h
    refine ⟨(hP i q h2).lt, fun e2 => ?_, hP i q h2⟩
    have := hD.1 i ws0.length q _ h2 hx0 e2
    omega
  refine kk H1 locs1 hz1 ⟨va_P.app (fun i q h => ?_) hP1, d_app ⟨fun i j p q hi hj e2 => ?_, fun i q h => ?_⟩ ⟨fun i j p q hi hj e2 => ?_, fun i q h => ?_⟩ (fun i j p q hi hj => ?_), hS1, hA⟩
  · obtain ⟨z1, z2, z3⟩ := hws i q h
    exact z3.kept (hk q.1 z1 (fun h => by rcases h with h | h; exact z2 h; exact absurd h (Nat.not_le.mpr z1)))
  · have hil : i < ws0.length := (List.getElem?_eq_some_iff.mp hi).1
    have hjl : j < ws0.length := (List.getElem?_eq_some_iff.mp hj).1
    exact hD.1 i j p q (by rw [List.getElem?_append_left hil]; exact hi) (by rw [List.getElem?_append_left hjl]; exact hj) e2
  · have hil : i < ws0.length := (List.getElem?_eq_some_iff.mp h).1
    exact hD.2 i q (by rw [List.getElem?_append_left hil]; exact h)
  · obtain ⟨c1, d1, rfl⟩ := nW_at hi
    obtain ⟨c2, d2, rfl⟩ := nW_at hj
    dsimp only at e2
    cases i with
    | zero => cases j with
      | zero => rfl
      | succ j => cases d1; rw [ha j c2 d2] at e2; omega
    | succ i => cases j with
      | zero => cases d2; rw [ha i c1 d1] at e2; omega
      | succ j => rw [ha i c1 d1, ha j c2 d2] at e2; omega
  · obtain ⟨c1, d1, rfl⟩ := nW_at h
    cases i with
    | zero => cases d1; exact hAk
    | succ i => show A (G.2.1 c1); rw [ha i c1 d1]; exact hA _ (Nat.le_trans hS.1 (by omega))
  · obtain ⟨z1, z2, -⟩ := hws i p hi
    obtain ⟨c2, d2, rfl⟩ := nW_at hj
    dsimp only
    cases j with
    | zero => cases d2; exact z2
    | succ j => rw [ha j c2 d2]; omega
theorem l_newl (X : LNk p s m args c cc own nL G A) (I : IN G A s H locs ws) (harr : Cond.arrayClass (newarray.typeOf .long) ∈ ALL) {n : Int32} {N a : Nat} (hn : ¬ n < 0) (hN : n.toNatClampNeg = N) (hbytes : N * componentBytes (newarray.typeOf .long) ≤ 536870912) (hcells : cells + 1 ≤ R.cells) (hslots : slots + N ≤ R.slots) (ha : a = H.size) (hdg : decode cc pc = .ok (.newarray .long, 2))
    (kk : ∀ H1 : Heap, H1.size = a + 1 → IN G A s H1 locs (ws ++ [(a, .inl (G.2.2.1 2, N, .inr (.inl (fun _ => 0))))]) → W p l e R s m args below meth c H1 locs (cells + 1) (slots + N) Q (F0 m (pc + 2) ls (.ref a :: rest))) : W p l e R s m args below meth c H locs cells slots Q (F0 m pc ls (.int n :: rest)) := by
  obtain ⟨hx, hb, hts, hown, hml, hK⟩ := X
  refine va_newaK hx hb (hts _ harr) rfl hdg rfl hn hN hbytes hcells hslots ha.symm fun H1 cA e1 z1 o1 hAr hNm => ?_
  have h0 : s.vm.findClass ("[" ++ FieldType.long.toString) = some (G.2.2.1 2) := (hK.1.2 2 _ rfl).2
  obtain rfl : cA = G.2.2.1 2 := Option.some.inj (hNm.symm.trans h0)
  exact kk H1 z1 (n_grow I ha z1 o1 e1)
end CC
