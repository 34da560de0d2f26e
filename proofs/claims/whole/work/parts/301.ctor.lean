/-- arrays of these classes can be made -/
def AO2 (U : State) : Prop := va_AO RX0 U ∧ va_AO RX1 U
/-- the contract of a constructor: its own cell alone before; its whole block after -/
def nW (G : GT) (L : List Nat) (σ : SI) (τ : SL) : va_W := L.map (fun k => (G.2.1 k, clW G k (σ k) (τ k)))
def Kc (l : Launch) (y : MethodName) (cc : ByteArray) (maxL : Nat) (rm : Room) (nc ns : Nat) (G : GT) (k : Nat) (av : List Value) (ci : Nat) (fs : List Value) (L : List Nat) (σ : SI) (τ : SL) : Prop :=
  ∀ sz, (∀ i q, L[i]? = some q → G.2.1 q = sz + i) → G.2.1 k < sz → Met l y (Cond.code y cc maxL none :: ALL) rm (va_Pc (.ref (G.2.1 k) :: av) (fun U => U.heap.size = sz ∧ va_P G.1 vwCl [(G.2.1 k, .inr (ci, fs))] U.heap ∧ KZ G (A1k (G.2.1 k) sz) U U.heap ∧ AO2 U)) (va_Qv (fun _ : Unit => True) (fun _ t => va_P G.1 vwCl (nW G (k :: L) σ τ) t.heap ∧ t.heap.size = sz + L.length) (A1k (G.2.1 k) sz)) nc ns (A1k (G.2.1 k) sz)
theorem k_start {l : Launch} {y : MethodName} {rm : Room} {nc ns k ci : Nat} {G : GT} {av fs : List Value} {L : List Nat} {σ : SI} {τ : SL} {cc : ByteArray} {maxL : Nat} {own : String}
    (hy : plainFor y = true) (hlen : ∀ a : Nat, (lg_sl (.ref a :: av)).length ≤ maxL) (ho : y.cls = own) (hi : y.name = "<init>")
    (body : ∀ (p : Program) (e : Env) (s : State) (m : MethodId) (args : Array Value) (below : List Frame) (meth : Method) (c : Code) (ls : Array Slot) (A : Nat → Prop), A = A1k (G.2.1 k) s.heap.size → (∀ i q, L[i]? = some q → G.2.1 q = s.heap.size + i) → CNk p s m args meth c cc own maxL G A → IN G A s s.heap [] [(G.2.1 k, .inr (ci, fs))] → lv_has ls maxL (lv_args 0 (.ref (G.2.1 k) :: av)) → AO2 s →
      W p l e rm s m args below meth c s.heap [] 0 0 (MQ below (va_Qv (fun _ : Unit => True) (fun _ t => va_P G.1 vwCl (nW G (k :: L) σ τ) t.heap ∧ t.heap.size = s.heap.size + L.length) A) args s nc ns A) (F0 m 0 ls [])) : Kc l y cc maxL rm nc ns G k av ci fs L σ τ := by
  intro sz hL hk
  refine met_ofWF (cc := cc) (maxL := maxL) (ret := none) hy rfl ?_
  intro p e s m args below meth c s₁ B hml hv
  obtain ⟨rfl, rfl, hP, hK, hO⟩ := hv
  rw [lg_entry_eq]
  refine body p e s m _ below meth c _ _ rfl hL ⟨B.exec, B.bytes, B.returns, fun w hw => atoms_spec (ws := Cond.code y cc maxL none :: ALL) B.pre w (List.mem_cons_of_mem _ hw), by rw [← ho]; exact findClass_of_methodNamed B.named, hml, B.notSynchronized, by rw [(name_of_methodNamed B.named B.method).1, hi], hK⟩ ⟨hP, ⟨fun i j p q h1 h2 e => ?_, fun i q h => ?_⟩, va_S.rf, fun q h => Or.inr h⟩ (lv_entry _ (hlen _)) hO
  · have z1 : i < 1 := (List.getElem?_eq_some_iff.mp h1).1
    have z2 : j < 1 := (List.getElem?_eq_some_iff.mp h2).1
    omega
  · have z1 : i < 1 := (List.getElem?_eq_some_iff.mp h).1
    rw [show i = 0 by omega] at h
    cases h
    exact Or.inl rfl
