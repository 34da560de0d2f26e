/-! the invariant of both sides -/
def WIT (H : Nat) (c m : SI) : Prop := (∃ a : Nat, a ≤ 10 ∧ c 33 2 = nI a ∧ m 123 43 = nI a ∧ ∀ i, i < a → c 34 (3 * i) = m 145 i ∧ c 34 (3 * i + 1) = m 146 i ∧ c 34 (3 * i + 2) = m 147 i ∧ Bnd (m 146 i) 0 99) ∧ (∃ b : Nat, b ≤ 10 ∧ c 33 3 = nI b ∧ m 123 48 = nI b ∧ ∀ i, i < b → c 35 (3 * i) = m 149 i ∧ c 35 (3 * i + 1) = m 150 i ∧ c 35 (3 * i + 2) = m 151 i ∧ Bnd (m 149 i) 0 6 ∧ (∃ h, h < H ∧ m 150 i = nI h) ∧ (m 151 i = 0 ∨ m 151 i = 1))
def FTH (c m : SI) : Prop := c 0 14 = m 123 30 ∧ Bnd (m 123 30) 0 9 ∧ ∀ i, i < 5 → c 39 i = m 141 i
def IMG (H G : Nat) (c m : SI) : Prop := (c 26 6 = 0 ∧ m 123 50 = 0) ∨ (c 26 6 = 1 ∧ m 123 50 = 1 ∧ ∃ gi, gi ≤ G ∧ DAY H gi c 29 (m 152) 0 ∧ LOG gi (c 31) (m 152) 0)
def KPT (H g n x : Nat) (gs : Nat → Nat) (c m : SI) : Prop := n ≤ 40 ∧ x < 40 ∧ c 26 4 = nI n ∧ m 123 32 = nI n ∧ c 26 5 = nI x ∧ gs n = g ∧ (∀ i j, i ≤ j → j ≤ n → gs i ≤ gs j ∧ gs j ≤ gs i + (j - i)) ∧ (∀ i, i < n → DAY H (gs i) c (43 + 2 * ((x + 40 - n + i) % 40)) (m 142) (255 * i) ∧ LOG (gs i) (c 28) (m 142) (255 * i))
def INV (G : Nat) (c m : SI) : Prop := ∃ (H B : Nat) (LL : List LW) (hd : Int32) (g n x : Nat) (gs : Nat → Nat), TP c m ∧ TR H B c m ∧ LR LL hd c m ∧ DAY H g c 24 (m 140) 0 ∧ LOG g (c 28) (m 140) 0 ∧ KPT H g n x gs c m ∧ IMG H G c m ∧ FTH c m ∧ g ≤ G ∧ WIT H c m
theorem TP_fr {c m c' m' : SI} (h : TP c m) (h1 : c' 1 1 = c 1 1) (h2 : c' 2 = c 2) (h3 : m' 123 2 = m 123 2) (h4 : m' 124 = m 124) : TP c' m' := by unfold TP ln at h ⊢; rw [h1, h2, h3, h4]; exact h
theorem WIT_fr {H : Nat} {c m c' m' : SI} (h : WIT H c m) (h1 : c' 33 = c 33) (h2 : c' 34 = c 34) (h3 : c' 35 = c 35) (m1 : m' 123 43 = m 123 43) (m2 : m' 123 48 = m 123 48) (m3 : m' 145 = m 145) (m4 : m' 146 = m 146) (m5 : m' 147 = m 147) (m6 : m' 149 = m 149) (m7 : m' 150 = m 150) (m8 : m' 151 = m 151) : WIT H c' m' := by unfold WIT; rw [h1, h2, h3, m1, m2, m3, m4, m5, m6, m7, m8]; exact h
theorem FTH_fr {c m c' m' : SI} (h : FTH c m) (h1 : c' 0 14 = c 0 14) (h2 : c' 39 = c 39) (h3 : m' 123 30 = m 123 30) (h4 : m' 141 = m 141) : FTH c' m' := by unfold FTH; rw [h1, h2, h3, h4]; exact h
theorem IMG_fr {H G : Nat} {c m c' m' : SI} (h : IMG H G c m) (h1 : c' 26 6 = c 26 6) (h2 : c' 29 = c 29) (h3 : c' 30 = c 30) (h4 : c' 31 = c 31) (m1 : m' 123 50 = m 123 50) (m2 : m' 152 = m 152) : IMG H G c' m' := by unfold IMG DAY; rw [h1, h2, show c' (29 + 1) = c (29 + 1) from h3, h4, m1, m2]; exact h
theorem IMG_le {H G G' : Nat} {c m : SI} (h : IMG H G c m) (hG : G ≤ G') : IMG H G' c m := by
  rcases h with h | ⟨h1, h2, gi, h3, h4⟩
  · exact Or.inl h
  · exact Or.inr ⟨h1, h2, gi, Nat.le_trans h3 hG, h4⟩
theorem KPT_fr {H g n x : Nat} {gs : Nat → Nat} {c m c' m' : SI} (h : KPT H g n x gs c m) (h1 : c' 26 4 = c 26 4) (h2 : c' 26 5 = c 26 5) (h3 : c' 28 = c 28) (h4 : ∀ a, 43 ≤ a → a ≤ 122 → c' a = c a) (m1 : m' 123 32 = m 123 32) (m2 : m' 142 = m 142) : KPT H g n x gs c' m' := by
  obtain ⟨a1, a2, a3, a4, a5, a6, a7, a8⟩ := h
  refine ⟨a1, a2, h1.trans a3, m1.trans a4, h2.trans a5, a6, a7, fun i hi => ?_⟩
  obtain ⟨d1, d2⟩ := a8 i hi
  have hr : (x + 40 - n + i) % 40 < 40 := Nat.mod_lt _ (by decide)
  unfold DAY at d1 ⊢
  rw [h3, m2, h4 (43 + 2 * ((x + 40 - n + i) % 40)) (by omega) (by omega), h4 (43 + 2 * ((x + 40 - n + i) % 40) + 1) (by omega) (by omega)]
  exact ⟨d1, d2⟩
theorem DAY_f2 {H g k : Nat} {c m c' m' : SI} {a o : Nat} (h : DAY H g c k (m a) o) (h1 : c' k = c k) (h2 : c' (k + 1) = c (k + 1)) (h3 : m' a = m a) : DAY H g c' k (m' a) o := by unfold DAY; rw [h1, h2, h3]; exact h
def KC (c c' : SI) : Prop := (∀ a, ¬ (a = 0 ∨ a = 1 ∨ (3 ≤ a ∧ a ≤ 10) ∨ a = 13 ∨ a = 14 ∨ a = 15 ∨ a = 27 ∨ a = 32 ∨ (36 ≤ a ∧ a ≤ 38) ∨ (40 ≤ a ∧ a ≤ 42) ∨ 123 ≤ a) → c' a = c a) ∧ c' 0 14 = c 0 14 ∧ c' 1 1 = c 1 1 ∧ c' 13 2 = c 13 2 ∧ c' 13 3 = c 13 3
def KM (m m' : SI) : Prop := (∀ a, ¬ (a < 123 ∨ a = 123 ∨ a = 127 ∨ (132 ≤ a ∧ a ≤ 136) ∨ a = 143 ∨ a = 144 ∨ a = 148 ∨ 153 ≤ a) → m' a = m a) ∧ (∀ j, j = 2 ∨ j = 13 ∨ j = 25 ∨ j = 26 ∨ j = 29 ∨ j = 30 ∨ j = 32 ∨ j = 43 ∨ j = 48 ∨ j = 50 → m' 123 j = m 123 j)
theorem KC_rf (c : SI) : KC c c := ⟨fun _ _ => rfl, rfl, rfl, rfl, rfl⟩
theorem KM_rf (m : SI) : KM m m := ⟨fun _ _ => rfl, fun _ _ => rfl⟩
theorem KC_tr {c c1 c2 : SI} (h1 : KC c c1) (h2 : KC c1 c2) : KC c c2 := ⟨fun a x => (h2.1 a x).trans (h1.1 a x), h2.2.1.trans h1.2.1, h2.2.2.1.trans h1.2.2.1, h2.2.2.2.1.trans h1.2.2.2.1, h2.2.2.2.2.trans h1.2.2.2.2⟩
theorem KM_tr {m m1 m2 : SI} (h1 : KM m m1) (h2 : KM m1 m2) : KM m m2 := ⟨fun a x => (h2.1 a x).trans (h1.1 a x), fun j x => (h2.2 j x).trans (h1.2 j x)⟩
theorem SX_KC {c c' : SI} (h : SX c c') : KC c c' := ⟨fun a x => h.1 a (by omega) (by omega) (by omega) (by omega) (by omega) (by omega) (by omega) (by omega) (by omega), by rw [h.1 0 (by decide) (by decide) (by decide) (by decide) (by decide) (by decide) (by decide) (by decide) (by decide)], by rw [h.1 1 (by decide) (by decide) (by decide) (by decide) (by decide) (by decide) (by decide) (by decide) (by decide)], h.2.1, h.2.2⟩
theorem FM_KM {m m' : SI} (h : FM m m') : KM m m' := ⟨fun a x => h a (by omega) (by omega), fun j _ => by rw [h 123 (by decide) (by decide)]⟩
theorem INV_k {G G' : Nat} {c m c' m' : SI} (h : INV G c m) (C : KC c c') (M : KM m m') (hG : G ≤ G') : INV G' c' m' := by
  obtain ⟨H, B, LL, hd, g, n, x, gs, h1, h2, h3, h4, h5, h6, h7, h8, h9, h10⟩ := h
  obtain ⟨C0, C1, C2, C3, C4⟩ := C
  obtain ⟨M0, M1⟩ := M
  refine ⟨H, B, LL, hd, g, n, x, gs, TP_fr h1 C2 (C0 _ (by decide)) (M1 _ (by decide)) (M0 _ (by decide)), TR_fr h2 (C0 _ (by decide)) (C0 _ (by decide)) (M1 _ (by decide)) (M1 _ (by decide)) (M0 _ (by decide)) (M0 _ (by decide)) (M0 _ (by decide)), LR_fr h3 (fun a x y => C0 a (by omega)) C3 C4 (fun a x y z => M0 a (by omega)) (M1 _ (by decide)) (M1 _ (by decide)), DAY_f2 h4 (C0 _ (by decide)) (C0 _ (by decide)) (M0 _ (by decide)), ?_, KPT_fr h6 (by rw [C0 26 (by decide)]) (by rw [C0 26 (by decide)]) (C0 _ (by decide)) (fun a x y => C0 a (by omega)) (M1 _ (by decide)) (M0 _ (by decide)), IMG_le (IMG_fr h7 (by rw [C0 26 (by decide)]) (C0 _ (by decide)) (C0 _ (by decide)) (C0 _ (by decide)) (M1 _ (by decide)) (M0 _ (by decide))) hG, FTH_fr h8 C1 (C0 _ (by decide)) (M1 _ (by decide)) (M0 _ (by decide)), Nat.le_trans h9 hG, WIT_fr h10 (C0 _ (by decide)) (C0 _ (by decide)) (C0 _ (by decide)) (M1 _ (by decide)) (M1 _ (by decide)) (M0 _ (by decide)) (M0 _ (by decide)) (M0 _ (by decide)) (M0 _ (by decide)) (M0 _ (by decide)) (M0 _ (by decide))⟩
  rw [C0 28 (by decide), M0 140 (by decide)]
  exact h5
theorem INV_sx {G : Nat} {c m c' m' : SI} (h : INV G c m) (S : SX c c') (F : FM m m') : INV G c' m' := INV_k h (SX_KC S) (FM_KM F) (Nat.le_refl _)
theorem INV_pick {G : Nat} {c m : SI} (h : INV G c m) : ∃ (H B : Nat) (LL : List LW) (hd : Int32), TR H B c m ∧ LR LL hd c m ∧ DN H c m := by
  obtain ⟨H, B, LL, hd, g, n, x, gs, h1, h2, h3, h4, h5, h6, h7, h8, h9, h10⟩ := h
  exact ⟨H, B, LL, hd, h2, h3, DAY_DN h4⟩
def RUN (G : Nat) (r r' : Int32 × SI) (o : Prop) : Prop := r.1 = r'.1 ∧ o ∧ INV G r.2 r'.2
def RUNb (G : Nat) (r r' : Bool × SI) (o : Prop) : Prop := r.1 = r'.1 ∧ o ∧ INV G r.2 r'.2
