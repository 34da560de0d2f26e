section CC
variable {p : Program} {l : Launch} {e : Env} {R : Room} {s : State} {m : MethodId} {args : Array Value} {below : List Frame} {meth : Method} {c : Code} {H : Heap} {locs : List Loc} {cells slots : Nat} {Q : State → Prop}
variable {pc : Nat} {ls : Array Slot} {rest st : List Value} {G : GT} {A : Nat → Prop} {ws : va_W} {cc : ByteArray} {own : String} {nL : Nat}
theorem arrV_cg {cI : ClassId} {N : Nat} {f g : Nat → Value} (h : ∀ j, j < N → f j = g j) : arrV cI N f = arrV cI N g := by
  have e : (fun j : Fin N => f j.val) = fun j => g j.val := funext fun j => h j.val j.isLt
  unfold arrV
  rw [e]
theorem IN_cg {w1 w2 : va_W} (h : w1 = w2) (I : IN G A s H locs w1) : IN G A s H locs w2 := by rw [← h]; exact I
def sI : SI := fun k j => if kd k = 0 ∧ j = 4 then -1 else if kd k = 7 ∧ j = 3 then -1 else if kd k = 2 ∧ j = 3 then -1 else if kd k = 11 ∧ j = 14 then 7 else if kd k = 12 ∧ j = 29 then -1 else if kd k = 12 ∧ j = 30 then 7 else 0
def t0 : SL := fun _ => 0
theorem sI_z {k : Nat} (h0 : kd k ≠ 0) (h1 : kd k ≠ 7) (h2 : kd k ≠ 2) (h3 : kd k ≠ 11) (h4 : kd k ≠ 12) : sI k = fun _ => 0 := by
  funext j
  unfold sI
  rw [if_neg (fun h => h0 h.1), if_neg (fun h => h1 h.1), if_neg (fun h => h2 h.1), if_neg (fun h => h3 h.1), if_neg (fun h => h4 h.1), if_neg (fun h => h4 h.1)]
theorem nW_app (L1 L2 : List Nat) (σ : SI) (τ : SL) : nW G L1 σ τ ++ nW G L2 σ τ = nW G (L1 ++ L2) σ τ := by unfold nW; rw [List.map_append]
theorem nW_cg {L : List Nat} {σ σ' : SI} {τ : SL} (h : ∀ x ∈ L, σ x = σ' x) : nW G L σ τ = nW G L σ' τ := by
  unfold nW
  exact List.map_congr_left fun x hx => by rw [h x hx]
theorem nW_at {L : List Nat} {σ : SI} {τ : SL} {i : Nat} {q : Nat × va_E} (h : (nW G L σ τ)[i]? = some q) : ∃ c, L[i]? = some c ∧ q = (G.2.1 c, clW G c (σ c) (τ c)) := by
  unfold nW at h
  rw [List.getElem?_map] at h
  cases hc : L[i]? with
  | none => rw [hc] at h; cases h
  | some c => rw [hc] at h; exact ⟨c, rfl, (Option.some.inj h).symm⟩
theorem Kc_cg {y : MethodName} {maxL : Nat} {rm : Room} {nc ns k ci : Nat} {av fs : List Value} {L : List Nat} {σ σ' : SI} {τ : SL} (h : ∀ x ∈ k :: L, σ x = σ' x) (hM : Kc l y cc maxL rm nc ns G k av ci fs L σ τ) : Kc l y cc maxL rm nc ns G k av ci fs L σ' τ := by
  unfold Kc at hM ⊢
  rw [nW_cg h] at hM
  exact hM
theorem d_app {w1 w2 : va_W} (h1 : va_D A w1) (h2 : va_D A w2) (hx : ∀ (i j : Nat) (p q : Nat × va_E), w1[i]? = some p → w2[j]? = some q → p.1 ≠ q.1) : va_D A (w1 ++ w2) := by
  refine ⟨fun i j p q hi hj e => ?_, fun k q h => ?_⟩
  · by_cases a : i < w1.length
    · rw [List.getElem?_append_left a] at hi
      by_cases b : j < w1.length
      · rw [List.getElem?_append_left b] at hj
        exact h1.1 i j p q hi hj e
      · rw [List.getElem?_append_right (by omega)] at hj
        exact absurd e (hx _ _ _ _ hi hj)
    · rw [List.getElem?_append_right (by omega)] at hi
      by_cases b : j < w1.length
      · rw [List.getElem?_append_left b] at hj
        exact absurd e.symm (hx _ _ _ _ hj hi)
      · rw [List.getElem?_append_right (by omega)] at hj
        have := h2.1 _ _ p q hi hj e
        omega
  · by_cases a : k < w1.length
    · rw [List.getElem?_append_left a] at h
      exact h1.2 k q h
    · rw [List.getElem?_append_right (by omega)] at h
      exact h2.2 _ q h
theorem KZ_nar {A' : Nat → Prop} {U : State} (h : KZ G A s s.heap) (hS : va_S A s.heap H locs) (hW : s.WarmedH U.vm) (hA : ∀ q, A' q → A q) : KZ G A' U H := by
  obtain ⟨h1, h2, h3, h4⟩ := h
  refine ⟨va_K.moved hW.alike h1, fun q hq => va_Nw.warmM hW (h2 q hq), fun q hq => va_Nw.warmF hW (h3 q hq), fun j hj => ?_⟩
  obtain ⟨a, b⟩ := h4 j hj
  exact ⟨((va_Z.moved hW.alike a).kept (fun q h h' => hS.2.1 q h h')).narrow hA, ((va_T.moved hW.alike b).kept (fun q h h' => hS.2.1 q h h')).narrow hA⟩
theorem n_newz (X : CNk p s m args meth c cc own nL G A) (I : IN G A s H locs ws) (harr : Cond.arrayClass (newarray.typeOf .boolean) ∈ ALL) {n : Int32} {N a : Nat} (hn : ¬ n < 0) (hN : n.toNatClampNeg = N) (hbytes : N * componentBytes (newarray.typeOf .boolean) ≤ 536870912) (hcells : cells + 1 ≤ R.cells) (hslots : slots + N ≤ R.slots) (ha : a = H.size) (hdg : decode cc pc = .ok (.newarray .boolean, 2))
    (kk : ∀ H1 : Heap, H1.size = a + 1 → IN G A s H1 locs (ws ++ [(a, .inl (G.2.2.1 1, N, .inl (fun _ => 0)))]) → W p l e R s m args below meth c H1 locs (cells + 1) (slots + N) Q (F0 m (pc + 2) ls (.ref a :: rest))) : W p l e R s m args below meth c H locs cells slots Q (F0 m pc ls (.int n :: rest)) := by
  obtain ⟨hx, hb, hr, hts, hown, hml, hlk, hnm, hK⟩ := X
  refine va_newaK hx hb (hts _ harr) rfl hdg rfl hn hN hbytes hcells hslots ha.symm fun H1 cA e1 z1 o1 hAr hNm => ?_
  have h0 : s.vm.findClass ("[" ++ FieldType.boolean.toString) = some (G.2.2.1 1) := (hK.1.2 1 _ rfl).2
  obtain rfl : cA = G.2.2.1 1 := Option.some.inj (hNm.symm.trans h0)
  exact kk H1 z1 (n_grow I ha z1 o1 e1)
theorem n_newq (X : CNk p s m args meth c cc own nL G A) (I : IN G A s H locs ws) {C : String} {index t0 : Nat} {cI : ClassId} (hclink : Cond.classLink own index C ∈ ALL) (hover : va_AO C s) (ht : (tyW G)[t0]? = some (cI, .object C)) {n : Int32} {N a : Nat} (hn : ¬ n < 0) (hN : n.toNatClampNeg = N) (hbytes : N * 4 ≤ 536870912) (hcells : cells + 1 ≤ R.cells) (hslots : slots + N ≤ R.slots) (ha : a = H.size) (f0 : Nat → Option Nat) (hf : ∀ j, j < N → f0 j = none) (hdg : decode cc pc = .ok (.anewarray index, 3))
    (kk : ∀ H1 : Heap, H1.size = a + 1 → IN G A s H1 locs (ws ++ [(a, .inl (cI, N, .inr (.inr (.inr (.inr f0)))))]) → W p l e R s m args below meth c H1 locs (cells + 1) (slots + N) Q (F0 m (pc + 3) ls (.ref a :: rest))) : W p l e R s m args below meth c H locs cells slots Q (F0 m pc ls (.int n :: rest)) := by
  obtain ⟨hx, hb, hr, hts, hown, hml, hlk, hnm, hK⟩ := X
  subst hN
  refine W.anew hx hb hown (hts _ hclink) (va_AO.use hover) rfl hdg rfl hn hbytes hcells hslots fun cA kA comp f1 f2 f3 f4 => ?_
  obtain ⟨_, _, _, _, _, h0⟩ := (hK.1.2 t0 _ ht).2
  obtain rfl : cA = cI := Option.some.inj (f1.symm.trans h0)
  generalize hH1 : H.push ({ cls := cA, slots := Array.replicate n.toNatClampNeg .null, vm := .none } : Cell) = H1
  have z1 : H1.size = H.size + 1 := by rw [← hH1, Array.size_push]
  have e1 : H1[H.size]? = some (arrV cA n.toNatClampNeg (fun _ => .null)) := by rw [← hH1, Array.getElem?_push_size, ← arrV_new]
  have o1 : ∀ q : Nat, q < H.size → H1[q]? = H[q]? := fun q hq => by rw [← hH1, Array.getElem?_push, if_neg (Nat.ne_of_lt hq)]
  subst ha
  refine kk H1 z1 (n_grow I rfl z1 o1 ?_)
  show H1[H.size]? = some (vp_cell cA (n.toNatClampNeg, .inr (.inr (.inr (.inr f0)))))
  rw [vp_cell_q, e1]
  exact congrArg some (arrV_cg fun j hj => by rw [hf j hj]; rfl)
theorem n_astq (X : CNk p s m args meth c cc own nL G A) (I : IN G A s H locs ws) (q0 t0 qk ci : Nat) {a : Nat} {cA : ClassId} {r : vw_C} {n v : Nat} {vs : List Value} {f : Nat → Option Nat} (ha : ws[q0]? = some (a, .inl (cA, n, .inr (.inr (.inr (.inr f)))))) (ht : (tyW G)[t0]? = some (cA, .object r.1)) (hv : ws[qk]? = some (v, .inr (ci, vs))) (hc : vwCl[ci]? = some r) {i : Int32} (hin : vp_in i n) (hdg : decode cc pc = .ok (.aastore, 1))
    (kk : ∀ (H1 : Heap) (locs1 : List Loc), H1.size = H.size → IN G A s H1 locs1 (ws.set q0 (a, .inl (cA, n, .inr (.inr (.inr (.inr (va_up f i.toNatClampNeg (some v)))))))) → W p l e R s m args below meth c H1 locs1 cells slots Q (F0 m (pc + 1) ls rest)) : W p l e R s m args below meth c H locs cells slots Q (F0 m pc ls (.ref v :: .int i :: .ref a :: rest)) := by
  obtain ⟨hx, hb, hr, hts, hown, hml, hlk, hnm, hK⟩ := X
  obtain ⟨hP, hD, hS, hA⟩ := I
  have hlt : i.toNatClampNeg < n := Nat.not_le.mp fun q => hin (Or.inr q)
  have h0 : ¬ i < 0 := fun q => hin (Or.inl q)
  obtain ⟨r', hr', cellV, g1, g2, g3, -⟩ := hP qk _ hv
  have hcls := (hK.1.1 ci r hc).2
  obtain ⟨kA, comp, k1, k2, k3, -⟩ := (hK.1.2 t0 _ ht).2
  have hcomp : comp = G.1.1 ci := Option.some.inj (k3.symm.trans hcls.1)
  subst hcomp
  obtain ⟨kC, hkC, -⟩ := hcls.2
  refine W.aast hx hb (hP q0 _ ha) (fun q h => by cases h) (fun h => by cases h) k1 k2 rfl hkC ⟨h0, by show _ < (arrV _ _ _).slots.size; rw [arrV_size]; exact hlt⟩ g1 (fun q h => by rw [g3] at h; cases h) (by rw [g2]; exact hkC) (by rw [g2]; exact va_assign hcls) rfl rfl hdg fun H1 e z oq => ?_
  refine kk H1 _ z ⟨hP.set hD ha ?_ oq, hD.set ha, hS.put z oq (hD.2 q0 _ ha), hA⟩
  show H1[a]? = some (vp_cell _ _)
  rw [e]
  rw [vp_cell_q, vp_cell_q, arrV_store]
  congr 2
  funext q
  by_cases hq : q = i.toNatClampNeg
  · subst hq
    simp [updV, va_up, va_rf]
  · simp [updV, va_up, hq]
theorem n_get (X : CNk p s m args meth c cc own nL G A) (I : IN G A s H locs ws) (q0 : Nat) {a ci : Nat} {fs : List Value} (he : ws[q0]? = some (a, .inr (ci, fs))) {C : String} {T : u_T} {N : Nat} (hc : vwCl[ci]? = some (C, T, N)) (hin : ∀ w ∈ u_ws C T N, w ∈ ALL) (j : Nat) (hj : j < N) {index : Nat} (hlink : Cond.fieldLink own index (T j).1 (T j).2.1 (T j).2.2.1 ∈ ALL) {v : Value} (hv : fs[j]? = some v) (hdg : decode cc pc = .ok (.getfield index, 3))
    (kk : W p l e R s m args below meth c H locs cells slots Q (F0 m (pc + 3) ls (v :: rest))) : W p l e R s m args below meth c H locs cells slots Q (F0 m pc ls (.ref a :: rest)) := by
  obtain ⟨hx, hb, hr, hts, hown, hml, hlk, hnm, hK⟩ := X
  exact va_get (D := G.1) (cl := vwCl) (tys := tyW G) (ws := ws) hx hb hts hin hown hK.1 I.1 q0 he hc j hj (hts _ hlink) (fun _ h => h) hv hdg kk
theorem n_call (X : CNk p s m args meth c cc own nL G A) (hO : AO2 s) {ws0 : va_W} {k ci : Nat} {fs av : List Value} {L : List Nat} {σ : SI} {τ : SL} {y : MethodName} {bytes : ByteArray} {maxL nc ns index ar : Nat} {rm : Room} (I : IN G A s H locs (ws0 ++ [(G.2.1 k, .inr (ci, fs))])) (hM : Kc l y bytes maxL rm nc ns G k av ci fs L σ τ) (ha : ∀ i q, L[i]? = some q → G.2.1 q = H.size + i) (pk : PKb y bytes maxL none ar) (hi : Cond.instanceMethod y ∈ ALL) (hyi : y.name = "<init>") (hl : Cond.methodLink own index y ∈ ALL) (hn : av.length = ar) (hsz : ls.size = nL) (hst : st = av.reverse ++ .ref (G.2.1 k) :: rest) (hW : (rest.map fun v => v.category).sum ≤ 8) (hdg : decode cc pc = .ok (.invokespecial index, 3)) (hR : rm.frames + 1 ≤ R.frames ∧ 8 + (maxL + 11) + rm.locals ≤ R.locals) (hrm : rm.cells = nc ∧ rm.slots = ns) (hf : cells + nc ≤ R.cells ∧ slots + ns ≤ R.slots)
    (kk : ∀ (H1 : Heap) (locs1 : List Loc), H1.size = H.size + L.length → IN G A s H1 locs1 (ws0 ++ nW G (k :: L) σ τ) → W p l e R s m args below meth c H1 locs1 (cells + nc) (slots + ns) Q (F0 m (pc + 3) ls rest)) : W p l e R s m args below meth c H locs cells slots Q (F0 m pc ls st) := by
  obtain ⟨hx, hb, hr, hts, hown, hml, hlk, hnm, hK⟩ := X
  obtain ⟨hP, hD, hS, hA⟩ := I
  have hx0 : (ws0 ++ [((G.2.1 k, .inr (ci, fs)) : Nat × va_E)])[ws0.length]? = some (G.2.1 k, .inr (ci, fs)) := by rw [List.getElem?_append_right (Nat.le_refl _), Nat.sub_self]; rfl
  have hlt : G.2.1 k < H.size := (hP _ _ hx0).lt
  have hAk : A (G.2.1 k) := hD.2 _ _ hx0
  have hA1 : ∀ q, A1k (G.2.1 k) H.size q → A q := fun q h => by
    rcases h with h | h
    · rw [h]; exact hAk
    · exact hA q (Nat.le_trans hS.1 h)
  have hs1 : va_P G.1 vwCl [(G.2.1 k, .inr (ci, fs))] H := fun i q h => by
    have z : i < 1 := (List.getElem?_eq_some_iff.mp h).1
    rw [show i = 0 by omega] at h
    cases h
    exact hP _ _ hx0
  have hb1 : FrameBlind (va_Pc (.ref (G.2.1 k) :: av) (fun U => U.heap.size = H.size ∧ va_P G.1 vwCl [(G.2.1 k, .inr (ci, fs))] U.heap ∧ KZ G (A1k (G.2.1 k) H.size) U U.heap ∧ AO2 U)) := by
    intro a U g mk q
    obtain ⟨q0, q1, qP, ⟨qK, qM, qF, qZ⟩, qO⟩ := q
    exact ⟨q0, q1, qP, ⟨va_K.moved (u := U) (U := U.calling g mk a) (Vm.Alike.refl U.vm) qK, fun w hw => va_Nw.same rfl (u := U) (U := U.calling g mk a) rfl (qM w hw), fun w hw => va_Nw.same rfl (u := U) (U := U.calling g mk a) rfl (qF w hw), fun j hj => ⟨va_Z.moved (u := U) (U := U.calling g mk a) (Vm.Alike.refl U.vm) (qZ j hj).1, va_T.moved (u := U) (U := U.calling g mk a) (Vm.Alike.refl U.vm) (qZ j hj).2⟩⟩, ⟨va_AO.moved (u := U) (U := U.calling g mk a) (Vm.Alike.refl U.vm) qO.1, va_AO.moved (u := U) (U := U.calling g mk a) (Vm.Alike.refl U.vm) qO.2⟩⟩
  have hrun := va_runI (l := l) (p := p) (e := e) (below := below) (meth := meth) (locs := locs) (cells := cells) (slots := slots) (As := av) (rest := rest) ⟨hx, hb, hml, hown, hts⟩ (hM H.size ha hlt) (cwI ar hts (good_cons pk.1) rfl hrm.1 hrm.2 (hts _ pk.2.1) (hts _ hl) (hts _ hi) hyi pk.2.2 hR) ⟨hb1, fun U hU hW' => ⟨rfl, by rw [hU], by rw [hU]; exact hs1, by rw [hU]; exact KZ_nar hK hS hW' hA1, va_AO.moved hW'.alike hO.1, va_AO.moved hW'.alike hO.2⟩⟩ rfl hn hsz hst (lv_room hW) hdg hf
  refine va_callv hrun hS (fun q _ h => hA1 q h) hA1 (fun u t H1 locs1 ht hvm hp hB hz hk hS1 => ?_)
  obtain ⟨hP1, hz1⟩ := hB
  rw [ht] at hP1 hz1
  have hws : ∀ (i : Nat) (q : Nat × va_E), ws0[i]? = some q → q.1 < H.size ∧ q.1 ≠ G.2.1 k ∧ va_at G.1 vwCl q H := fun i q h => by
    have hil : i < ws0.length := (List.getElem?_eq_some_iff.mp h).1
    have h2 : (ws0 ++ [((G.2.1 k, .inr (ci, fs)) : Nat × va_E)])[i]? = some q := by rw [List.getElem?_append_left hil]; exact h
    refine ⟨(hP i q h2).lt, fun e2 => ?_, hP i q h2⟩
    have := hD.1 i ws0.length q _ h2 hx0 e2
    omega
  refine kk H1 locs1 hz1 ⟨va_P.app (fun i q h => ?_) hP1, d_app ⟨fun i j p q hi hj e2 => ?_, fun i q h => ?_⟩ ⟨fun i j p q hi hj e2 => ?_, fun i q h => ?_⟩ (fun i j p q hi hj => ?_), hS1, hA⟩
  · obtain ⟨z1, z2, z3⟩ := hws i q h
    exact z3.kept (hk q.1 z1 (fun h => by rcases h with h | h; exact z2 h; exact absurd h (Nat.not_le.mpr z1)))
  · have hil : i < ws0.length := (List.getElem?_eq_some_iff.mp hi).1
    have hjl : j < ws0.length := (List.getElem?_eq_some_iff.mp hj).1
    exact hD.1 i j p q (by rw [List.getElem?_append_left hil]; exact hi) (by rw [List.getElem?_append_left hjl]; exact hj) e2
  · have hil : i < ws0.length := (List.getElem?_eq_some_iff.mp h).1
    exact hD.2 i q (by rw [List.getElem?_append_left hil]; exact h)
  · obtain ⟨c1, d1, rfl⟩ := nW_at hi
    obtain ⟨c2, d2, rfl⟩ := nW_at hj
    dsimp only at e2
    cases i with
    | zero => cases j with
      | zero => rfl
      | succ j => cases d1; rw [ha j c2 d2] at e2; omega
    | succ i => cases j with
      | zero => cases d2; rw [ha i c1 d1] at e2; omega
      | succ j => rw [ha i c1 d1, ha j c2 d2] at e2; omega
  · obtain ⟨c1, d1, rfl⟩ := nW_at h
    cases i with
    | zero => cases d1; exact hAk
    | succ i => show A (G.2.1 c1); rw [ha i c1 d1]; exact hA _ (Nat.le_trans hS.1 (by omega))
  · obtain ⟨z1, z2, -⟩ := hws i p hi
    obtain ⟨c2, d2, rfl⟩ := nW_at hj
    dsimp only
    cases j with
    | zero => cases d2; exact z2
    | succ j => rw [ha j c2 d2]; omega
/-- the same on a world whose first cell is the receiver's own -/
theorem s_newa (X : CNk p s m args meth c cc own nL G A) {x : Nat × va_E} {L : List Nat} {k N i : Nat} (I : IN G A s H locs (x :: nW G L sI t0)) (hk : kd k = 100 + N) (hL : G.2.1 k = s.heap.size + i) (z : H.size = s.heap.size + i) {n : Int32} (hn : ¬ n < 0) (hN : n.toNatClampNeg = N) (hbytes : N * componentBytes (newarray.typeOf .int) ≤ 536870912) (hcells : cells + 1 ≤ R.cells) (hslots : slots + N ≤ R.slots) (hdg : decode cc pc = .ok (.newarray .int, 2))
    (kk : ∀ H1 : Heap, H1.size = s.heap.size + (i + 1) → IN G A s H1 locs (x :: nW G (L ++ [k]) sI t0) → W p l e R s m args below meth c H1 locs (cells + 1) (slots + N) Q (F0 m (pc + 2) ls (.ref (G.2.1 k) :: rest))) : W p l e R s m args below meth c H locs cells slots Q (F0 m pc ls (.int n :: rest)) := by
  refine n_newa X I lt_int hn hN hbytes hcells hslots (hL.trans z.symm) hdg (fun H1 z1 I => ?_)
  refine kk H1 (by rw [z1, hL]; omega) (IN_cg ?_ I)
  rw [← nW_app]
  show x :: (nW G L sI t0 ++ _) = _
  congr 2
  unfold nW
  rw [List.map_cons, List.map_nil, cl_arr hk, sI_z (by omega) (by omega) (by omega) (by omega) (by omega)]
theorem s_newz (X : CNk p s m args meth c cc own nL G A) {x : Nat × va_E} {L : List Nat} {k i : Nat} (I : IN G A s H locs (x :: nW G L sI t0)) (hk : kd k = 23) (hL : G.2.1 k = s.heap.size + i) (z : H.size = s.heap.size + i) {n : Int32} (hn : ¬ n < 0) (hN : n.toNatClampNeg = 10) (hcells : cells + 1 ≤ R.cells) (hslots : slots + 10 ≤ R.slots) (hdg : decode cc pc = .ok (.newarray .boolean, 2))
    (kk : ∀ H1 : Heap, H1.size = s.heap.size + (i + 1) → IN G A s H1 locs (x :: nW G (L ++ [k]) sI t0) → W p l e R s m args below meth c H1 locs (cells + 1) (slots + 10) Q (F0 m (pc + 2) ls (.ref (G.2.1 k) :: rest))) : W p l e R s m args below meth c H locs cells slots Q (F0 m pc ls (.int n :: rest)) := by
  refine n_newz X I lt_boolean hn hN (by decide) hcells hslots (hL.trans z.symm) hdg (fun H1 z1 I => ?_)
  refine kk H1 (by rw [z1, hL]; omega) (IN_cg ?_ I)
  rw [← nW_app]
  show x :: (nW G L sI t0 ++ _) = _
  congr 2
  unfold nW
  rw [List.map_cons, List.map_nil, cl_23 hk, sI_z (by omega) (by omega) (by omega) (by omega) (by omega)]
theorem s_putF (X : CNk p s m args meth c cc own nL G A) {a ci : Nat} {fs : List Value} {w : va_W} (I : IN G A s H locs ((a, .inr (ci, fs)) :: w)) {C : String} {T : u_T} {N index : Nat} (hin : ∀ w ∈ u_ws C T N, w ∈ ALL) (ty0 : Nat → FieldType) (hty : ∀ k, k < N → parseFieldDescriptor (T k).2.2.1 = some (ty0 k)) (hnm : ∀ a, a < N → ∀ b, b < N → a ≠ b → (T a).2.1 ≠ (T b).2.1) (hc : vwCl[ci]? = some (C, T, N)) (hlen : fs.length = N) (k : Nat) (hk : k < N) (hlink : Cond.fieldLink own index (T k).1 (T k).2.1 (T k).2.2.1 ∈ ALL) (hfin : (T k).2.2.2 = true) (hdecl : (T k).1 = own) {ty : FieldType} {v : Value} (hd : parseFieldDescriptor (T k).2.2.1 = some ty) (hn : narrow ty v = v) (hfit : fits ty v = true) (hdg : decode cc pc = .ok (.putfield index, 3))
    (kk : ∀ (H1 : Heap) (locs1 : List Loc) (fs1 : List Value), H1.size = H.size → fs1 = fs.set k v → fs1.length = N → IN G A s H1 locs1 ((a, .inr (ci, fs1)) :: w) → W p l e R s m args below meth c H1 locs1 cells slots Q (F0 m (pc + 3) ls rest)) : W p l e R s m args below meth c H locs cells slots Q (F0 m pc ls (v :: .ref a :: rest)) :=
  n_putF X I hin ty0 hty hnm 0 rfl hc k hk hlink hfin hdecl hd hn hfit (by rw [hlen]; exact hk) hdg (fun H1 locs1 z I => kk H1 locs1 _ z rfl (by rw [List.length_set]; exact hlen) I)
theorem s_put (X : CNk p s m args meth c cc own nL G A) {a ci : Nat} {fs : List Value} {w : va_W} (I : IN G A s H locs ((a, .inr (ci, fs)) :: w)) {C : String} {T : u_T} {N index : Nat} (hin : ∀ w ∈ u_ws C T N, w ∈ ALL) (ty0 : Nat → FieldType) (hty : ∀ k, k < N → parseFieldDescriptor (T k).2.2.1 = some (ty0 k)) (hnm : ∀ a, a < N → ∀ b, b < N → a ≠ b → (T a).2.1 ≠ (T b).2.1) (hc : vwCl[ci]? = some (C, T, N)) (hlen : fs.length = N) (k : Nat) (hk : k < N) (hlink : Cond.fieldLink own index (T k).1 (T k).2.1 (T k).2.2.1 ∈ ALL) (hfin : (T k).2.2.2 = false) {ty : FieldType} {v : Value} (hd : parseFieldDescriptor (T k).2.2.1 = some ty) (hn : narrow ty v = v) (hfit : fits ty v = true) (hdg : decode cc pc = .ok (.putfield index, 3))
    (kk : ∀ (H1 : Heap) (locs1 : List Loc) (fs1 : List Value), H1.size = H.size → fs1 = fs.set k v → fs1.length = N → IN G A s H1 locs1 ((a, .inr (ci, fs1)) :: w) → W p l e R s m args below meth c H1 locs1 cells slots Q (F0 m (pc + 3) ls rest)) : W p l e R s m args below meth c H locs cells slots Q (F0 m pc ls (v :: .ref a :: rest)) :=
  n_put X I hin ty0 hty hnm 0 rfl hc k hk hlink hfin hd hn hfit (by rw [hlen]; exact hk) hdg (fun H1 locs1 z I => kk H1 locs1 _ z rfl (by rw [List.length_set]; exact hlen) I)
end CC
