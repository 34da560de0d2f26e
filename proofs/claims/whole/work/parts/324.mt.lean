theorem sz_ {k j : Nat} (h : (kd k != 0 && kd k != 7 && kd k != 2 && kd k != 11 && kd k != 12) = true) : sI k j = 0 := by
  simp only [Bool.and_eq_true, bne_iff_ne, ne_eq] at h
  obtain ⟨⟨⟨⟨h0, h1⟩, h2⟩, h3⟩, h4⟩ := h
  rw [sI_z h0 h1 h2 h3 h4]
theorem bn_0 {lo hi : Int} (h1 : lo ≤ 0) (h2 : 0 ≤ hi) : Bnd (0 : Int32) lo hi := ⟨h1, h2⟩
theorem INV_0 : INV 0 sI sI := by
  refine ⟨0, 0, [], -1, 0, 0, 0, fun _ => 0, ?_, ?_, ?_, ?_, ?_, ?_, ?_, ?_, Nat.le_refl _, ?_⟩
  · have e : ln sI = 0 := rfl
    refine ⟨rfl, rfl, by rw [e]; decide, fun i hi => ?_⟩
    rw [e] at hi
    exact absurd hi (Nat.not_lt_zero i)
  · refine ⟨by decide, by decide, fun h => absurd rfl h, rfl, rfl, rfl, rfl, fun j _ => ?_, fun h j hh => absurd hh (Nat.not_lt_zero h), fun b hb => absurd hb (Nat.not_lt_zero b), ⟨?_, ?_, ?_⟩, fun h hh => absurd hh (Nat.not_lt_zero h), fun b hb => absurd hb (Nat.not_lt_zero b)⟩
    · rw [sz_ (k := 11) rfl, sz_ (k := 137) rfl]
    · rw [sz_ (k := 137) rfl]; exact bn_0 (by decide) (by decide)
    · rw [sz_ (k := 137) rfl]; exact bn_0 (by decide) (by decide)
    · rw [sz_ (k := 137) rfl]; exact bn_0 (by decide) (by decide)
  · exact ⟨by decide, rfl, rfl, rfl, rfl, Or.inl rfl, fun k L h => by simp at h⟩
  · refine ⟨fun h hh => absurd hh (Nat.not_lt_zero h), ⟨?_, ?_⟩, ⟨?_, ?_⟩, ⟨?_, ?_⟩, fun h => absurd rfl h, fun _ => rfl, ?_, ⟨?_, ?_⟩, ?_, ?_, ?_, ?_⟩
    all_goals first | rfl | (rw [sz_ (k := 140) rfl]; first | rfl | exact bn_0 (by decide) (by decide) | decide | exact ⟨0, by decide, rfl⟩)
  · exact fun j q hj => absurd hj (by rw [show min 60 0 = 0 from rfl]; exact Nat.not_lt_zero j)
  · refine ⟨by decide, by decide, rfl, rfl, rfl, rfl, fun i j _ _ => ⟨Nat.le_refl _, Nat.le_add_right _ _⟩, fun i hi => absurd hi (Nat.not_lt_zero i)⟩
  · exact Or.inl ⟨rfl, rfl⟩
  · refine ⟨rfl, ⟨by decide, by decide⟩, fun i _ => ?_⟩
    rw [sz_ (k := 39) rfl, sz_ (k := 141) rfl]
  · exact ⟨⟨0, by decide, rfl, rfl, fun i hi => absurd hi (Nat.not_lt_zero i)⟩, 0, by decide, rfl, rfl, fun i hi => absurd hi (Nat.not_lt_zero i)⟩
