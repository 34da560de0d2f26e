theorem and63 (y : Int32) : 0 ≤ (y &&& 63).toInt := by
  have hm : (y &&& 63).toBitVec.msb = false := by
    rw [Int32.toBitVec_and, BitVec.msb_and]
    exact Bool.and_eq_false_iff.mpr (Or.inr (by decide))
  show 0 ≤ (y &&& 63).toBitVec.toInt
  rw [BitVec.toInt_eq_msb_cond, hm]
  exact Int.natCast_nonneg _
set_option maxHeartbeats 4000000 in
set_option maxRecDepth 100000 in
/-- THE LAW'S LOOP: at its head, n calls done -/
theorem law_loop {p : Program} {l : Launch} {e : Env} {s : State} {m : MethodId} {below : List Frame} {meth : Method} {c : Code} {Q : State → Prop} {G : GT} {b L : Nat} {xs : Nat → Int32} (hl0 : l.stackTraces = false) (hH : HX (AW G s.heap.size) s s.heap) (X : LX p s m b L xs meth c G) (hL : L ≤ 3072)
    (fin : ∀ (H : Heap) (locs : List Loc) (σ : SI) (τ : SL) (ls : Array Slot), IX G s H locs σ τ → W p l e room_1 s m #[Value.ref b] below meth c H locs 601024 7293034 Q (F0 m 1587 ls [])) :
    ∀ (d n : Nat), 6 * n ≤ L → L < 6 * n + d → ∀ (x4 : Int32), x4 = nI (6 * n) → ∀ (H : Heap) (locs : List Loc) (σ : SI) (τ : SL) (ls : Array Slot), IX G s H locs σ τ → INV (60 * n) σ σ → lv_has ls 7 (LB G b x4) → W p l e room_1 s m #[Value.ref b] below meth c H locs (160 + n) (25000 + 6 * n) Q (F0 m 23 ls []) := by
  intro d
  induction d with
  | zero => intro n h1 h2; exact absurd h2 (by omega)
  | succ d ih =>
    intro n h1 h2 x4 ex H locs σ τ ls I J hl
    obtain ⟨Xc, hX, hbl, hbA⟩ := id X
    refine lv_iload Xc.1 Xc.2.1 dL_law_23 (lv_at hl 0 rfl) ?_
    refine lv_aload_n Xc.1 Xc.2.1 dL_law_25 rfl (lv_at hl 4 rfl) ?_
    refine va_slen Xc.1 Xc.2.1 hX hbl hbA I.2 dL_law_26 ?_
    refine lv_bipush (v := 6) Xc.1 Xc.2.1 dL_law_27 (by decide) ?_
    refine lv_isub Xc.1 Xc.2.1 dL_law_29 ?_
    have eL : (nI L - 6).toInt = (L : Int) - 6 := by
      have e1 : (nI L).toInt = L := nI_toInt (by omega)
      have e2 : (6 : Int32).toInt = 6 := rfl
      rw [ti_sub' (by rw [e1, e2]; omega) (by rw [e1, e2]; omega), e1, e2]
    have e4 : x4.toInt = ((6 * n : Nat) : Int) := by rw [ex]; exact nI_toInt (by omega)
    refine lv_icmp_gt (tgt := 1587) Xc.1 Xc.2.1 dL_law_30 (by decide) (fun q => ?_) (fun q => ?_)
    · exact W.widen (by omega) (by omega) (fin H locs σ τ ls I)
    · have hlt : 6 * n + 6 ≤ L := by
        have q2 : ¬ (nI L - 6) < x4 := q
        rw [lt_ti, eL, e4] at q2
        omega
      have vk : ∀ k : Nat, k < 6 → vp_in (x4 + nI k) L := fun k hk => by
        rw [ex, nI_add]
        exact vp_in_nI (by omega) (by omega)
      have hin : vp_in x4 L := by rw [ex]; exact vp_in_nI (by omega) (by omega)
      refine lv_aload_n Xc.1 Xc.2.1 dL_law_33 rfl (lv_at hl 4 rfl) ?_
      refine lv_iload Xc.1 Xc.2.1 dL_law_34 (lv_at hl 0 rfl) ?_
      refine va_sld Xc.1 Xc.2.1 hX hbl hbA I.2 hin dL_law_36 ?_
      refine lv_bipush (v := 63) Xc.1 Xc.2.1 dL_law_37 (by decide) ?_
      refine lv_iand Xc.1 Xc.2.1 dL_law_39 ?_
      refine law_turn hl0 hH X J (by omega) I hl ⟨vk 1 (by decide), vk 2 (by decide), vk 3 (by decide), vk 4 (by decide), vk 5 (by decide)⟩ ⟨by omega, by omega⟩ (and63 _) (fun H1 locs1 σ1 τ1 ls1 hl1 I1 J1 => ?_)
      obtain ⟨x5, e5⟩ : ∃ y : Int32, y = x4 + 6 := ⟨_, rfl⟩
      refine lv_iinc (v := x5) (lv' := LB G b x5) Xc.1 Xc.2.1 dL_law_1581 hl1 (k := 0) rfl (by rw [e5]; rfl) (by decide) rfl (fun ls2 hl2 => ?_)
      refine lv_goto (tgt := 23) Xc.1 Xc.2.1 dL_law_1584 (by decide) ?_
      refine ih (n + 1) (by omega) (by omega) x5 ?_ H1 locs1 σ1 τ1 ls2 I1 J1 hl2
      rw [e5, ex]
      show nI (6 * n) + nI 6 = nI (6 * n + 6)
      exact nI_add (6 * n) 6
