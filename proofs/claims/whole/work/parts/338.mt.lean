set_option maxHeartbeats 4000000 in
set_option maxRecDepth 100000 in
/-- one round of the loop, from the switch -/
theorem law_turn {p : Program} {l : Launch} {e : Env} {s : State} {m : MethodId} {below : List Frame} {meth : Method} {c : Code} {H : Heap} {locs : List Loc} {cells slots : Nat} {Q : State → Prop} {ls : Array Slot} {G : GT} {σ : SI} {τ : SL} {b L : Nat} {xs : Nat → Int32} {x4 x : Int32} {g : Nat} (hl0 : l.stackTraces = false) (hH : HX (AW G s.heap.size) s s.heap) (X : LX p s m b L xs meth c G) (J : INV g σ σ) (hg : g + 61 < 2 ^ 31) (I : IX G s H locs σ τ) (hl : lv_has ls 7 (LB G b x4)) (hv : LV x4 L) (hcs : cells + 1 ≤ 601024 ∧ slots + 6 ≤ 7293034) (hx0 : 0 ≤ x.toInt)
    (kkN : ∀ (H1 : Heap) (locs1 : List Loc) (σ1 : SI) (τ1 : SL) (ls1 : Array Slot), lv_has ls1 7 (LB G b x4) → IX G s H1 locs1 σ1 τ1 → INV (g + 60) σ1 σ1 → W p l e room_1 s m #[Value.ref b] below meth c H1 locs1 (cells + 1) (slots + 6) Q (F0 m 1581 ls1 [])) : W p l e room_1 s m #[Value.ref b] below meth c H locs cells slots Q (F0 m 40 ls [.int x]) := by
  have kkR : ∀ (H1 : Heap) (locs1 : List Loc) (σ1 : SI) (τ1 : SL), IX G s H1 locs1 σ1 τ1 → INV (g + 60) σ1 σ1 → W p l e room_1 s m #[Value.ref b] below meth c H1 locs1 (cells + 1) (slots + 6) Q (F0 m 1581 ls []) := fun H1 locs1 σ1 τ1 I1 J1 => kkN H1 locs1 σ1 τ1 ls hl I1 J1
  have wd : cells ≤ cells + 1 ∧ slots ≤ slots + 6 := ⟨by omega, by omega⟩
  by_cases h2 : (41 : Int) < x.toInt
  · exact lv_tableOut (tgt := 1581) X.1.1 X.1.2.1 dL_law_40 (Or.inr h2) (by decide) (W.widen wd.1 wd.2 (kkR H locs σ τ I (INV_up J (by omega))))
  · have h1 : ¬ x.toInt < (0 : Int) := by omega
    obtain ⟨j, hj⟩ : ∃ j : Nat, x.toInt = (j : Int) := ⟨x.toInt.toNat, (Int.toNat_of_nonneg hx0).symm⟩
    have ho : ∀ {offs : Array Int} (off : Int), offs[j]? = some off → offs[(x.toInt - 0).toNat]? = some off := fun off h => by
      rw [show (x.toInt - 0).toNat = j by omega]
      exact h
    rcases (show j = 0 ∨ j = 1 ∨ j = 2 ∨ j = 3 ∨ j = 4 ∨ j = 5 ∨ j = 6 ∨ j = 7 ∨ j = 8 ∨ j = 9 ∨ j = 10 ∨ j = 11 ∨ j = 12 ∨ j = 13 ∨ j = 14 ∨ j = 15 ∨ j = 16 ∨ j = 17 ∨ j = 18 ∨ j = 19 ∨ j = 20 ∨ j = 21 ∨ j = 22 ∨ j = 23 ∨ j = 24 ∨ j = 25 ∨ j = 26 ∨ j = 27 ∨ j = 28 ∨ j = 29 ∨ j = 30 ∨ j = 31 ∨ j = 32 ∨ j = 33 ∨ j = 34 ∨ j = 35 ∨ j = 36 ∨ j = 37 ∨ j = 38 ∨ j = 39 ∨ j = 40 ∨ j = 41 by omega) with rfl | rfl | rfl | rfl | rfl | rfl | rfl | rfl | rfl | rfl | rfl | rfl | rfl | rfl | rfl | rfl | rfl | rfl | rfl | rfl | rfl | rfl | rfl | rfl | rfl | rfl | rfl | rfl | rfl | rfl | rfl | rfl | rfl | rfl | rfl | rfl | rfl | rfl | rfl | rfl | rfl | rfl
    · exact lv_tableIn (off := 184) (tgt := 224) X.1.1 X.1.2.1 dL_law_40 h1 h2 (ho _ rfl) (by decide) (W.widen wd.1 wd.2 (lc_feed X J hg I hl hv hcs kkR))
    · exact lv_tableIn (off := 257) (tgt := 297) X.1.1 X.1.2.1 dL_law_40 h1 h2 (ho _ rfl) (by decide) (W.widen wd.1 wd.2 (lc_end X J hg I hl hv hcs kkR))
    · exact lv_tableIn (off := 282) (tgt := 322) X.1.1 X.1.2.1 dL_law_40 h1 h2 (ho _ rfl) (by decide) (W.widen wd.1 wd.2 (lc_fault X J hg I hl hv hcs kkR))
    · exact lv_tableIn (off := 307) (tgt := 347) X.1.1 X.1.2.1 dL_law_40 h1 h2 (ho _ rfl) (by decide) (W.widen wd.1 wd.2 (lc_text X J hg I hl hv hcs kkR))
    · exact lv_tableIn (off := 332) (tgt := 372) X.1.1 X.1.2.1 dL_law_40 h1 h2 (ho _ rfl) (by decide) (W.widen wd.1 wd.2 (lc_rule X J hg I hl hv hcs kkR))
    · exact lv_tableIn (off := 357) (tgt := 397) X.1.1 X.1.2.1 dL_law_40 h1 h2 (ho _ rfl) (by decide) (lc_house hl0 hH X J hg I hl hv hcs kkN)
    · exact lv_tableIn (off := 425) (tgt := 465) X.1.1 X.1.2.1 dL_law_40 h1 h2 (ho _ rfl) (by decide) (W.widen wd.1 wd.2 (lc_bearer X J hg I hl hv hcs kkR))
    · exact lv_tableIn (off := 450) (tgt := 490) X.1.1 X.1.2.1 dL_law_40 h1 h2 (ho _ rfl) (by decide) (W.widen wd.1 wd.2 (lc_law X J hg I hl hv hcs kkR))
    · exact lv_tableIn (off := 475) (tgt := 515) X.1.1 X.1.2.1 dL_law_40 h1 h2 (ho _ rfl) (by decide) (W.widen wd.1 wd.2 (lc_steps X J hg I hl hv hcs kkR))
    · exact lv_tableIn (off := 512) (tgt := 552) X.1.1 X.1.2.1 dL_law_40 h1 h2 (ho _ rfl) (by decide) (W.widen wd.1 wd.2 (lc_stands X J hg I hl hv hcs kkR))
    · exact lv_tableIn (off := 537) (tgt := 577) X.1.1 X.1.2.1 dL_law_40 h1 h2 (ho _ rfl) (by decide) (W.widen wd.1 wd.2 (lc_carry X J hg I hl hv hcs kkR))
    · exact lv_tableIn (off := 562) (tgt := 602) X.1.1 X.1.2.1 dL_law_40 h1 h2 (ho _ rfl) (by decide) (W.widen wd.1 wd.2 (lc_rest X J hg I hl hv hcs kkR))
    · exact lv_tableIn (off := 575) (tgt := 615) X.1.1 X.1.2.1 dL_law_40 h1 h2 (ho _ rfl) (by decide) (W.widen wd.1 wd.2 (lc_gift X J hg I hl hv hcs kkR))
    · exact lv_tableIn (off := 612) (tgt := 652) X.1.1 X.1.2.1 dL_law_40 h1 h2 (ho _ rfl) (by decide) (W.widen wd.1 wd.2 (lc_give X J hg I hl hv hcs kkR))
    · exact lv_tableIn (off := 637) (tgt := 677) X.1.1 X.1.2.1 dL_law_40 h1 h2 (ho _ rfl) (by decide) (W.widen wd.1 wd.2 (lc_year X J hg I hl hv hcs kkR))
    · exact lv_tableIn (off := 650) (tgt := 690) X.1.1 X.1.2.1 dL_law_40 h1 h2 (ho _ rfl) (by decide) (W.widen wd.1 wd.2 (lc_faith X J hg I hl hv hcs kkR))
    · exact lv_tableIn (off := 675) (tgt := 715) X.1.1 X.1.2.1 dL_law_40 h1 h2 (ho _ rfl) (by decide) (W.widen wd.1 wd.2 (lc_decades X J hg I hl hv hcs kkR))
    · exact lv_tableIn (off := 744) (tgt := 784) X.1.1 X.1.2.1 dL_law_40 h1 h2 (ho _ rfl) (by decide) (W.widen wd.1 wd.2 (lc_status X J hg I hl hv hcs kkR))
    · exact lv_tableIn (off := 769) (tgt := 809) X.1.1 X.1.2.1 dL_law_40 h1 h2 (ho _ rfl) (by decide) (W.widen wd.1 wd.2 (lc_undo X J hg I hl hv hcs kkR))
    · exact lv_tableIn (off := 782) (tgt := 822) X.1.1 X.1.2.1 dL_law_40 h1 h2 (ho _ rfl) (by decide) (W.widen wd.1 wd.2 (lc_log X J hg I hl hv hcs kkR))
    · exact lv_tableIn (off := 819) (tgt := 859) X.1.1 X.1.2.1 dL_law_40 h1 h2 (ho _ rfl) (by decide) (W.widen wd.1 wd.2 (lc_route X J hg I hl hv hcs kkR))
    · exact lv_tableIn (off := 844) (tgt := 884) X.1.1 X.1.2.1 dL_law_40 h1 h2 (ho _ rfl) (by decide) (W.widen wd.1 wd.2 (lc_order X J hg I hl hv hcs kkR))
    · exact lv_tableIn (off := 869) (tgt := 909) X.1.1 X.1.2.1 dL_law_40 h1 h2 (ho _ rfl) (by decide) (W.widen wd.1 wd.2 (lc_shorter X J hg I hl hv hcs kkR))
    · exact lv_tableIn (off := 906) (tgt := 946) X.1.1 X.1.2.1 dL_law_40 h1 h2 (ho _ rfl) (by decide) (W.widen wd.1 wd.2 (lc_roster X J hg I hl hv hcs kkR))
    · exact lv_tableIn (off := 931) (tgt := 971) X.1.1 X.1.2.1 dL_law_40 h1 h2 (ho _ rfl) (by decide) (W.widen wd.1 wd.2 (lc_stood X J hg I hl hv hcs kkR))
    · exact lv_tableIn (off := 980) (tgt := 1020) X.1.1 X.1.2.1 dL_law_40 h1 h2 (ho _ rfl) (by decide) (W.widen wd.1 wd.2 (lc_fits X J hg I hl hv hcs kkR))
    · exact lv_tableIn (off := 1017) (tgt := 1057) X.1.1 X.1.2.1 dL_law_40 h1 h2 (ho _ rfl) (by decide) (W.widen wd.1 wd.2 (lc_ask X J hg I hl hv hcs kkR))
    · exact lv_tableIn (off := 1042) (tgt := 1082) X.1.1 X.1.2.1 dL_law_40 h1 h2 (ho _ rfl) (by decide) (W.widen wd.1 wd.2 (lc_game X J hg I hl hv hcs kkR))
    · exact lv_tableIn (off := 1115) (tgt := 1155) X.1.1 X.1.2.1 dL_law_40 h1 h2 (ho _ rfl) (by decide) (W.widen wd.1 wd.2 (lc_rests X J hg I hl hv hcs kkR))
    · exact lv_tableIn (off := 1164) (tgt := 1204) X.1.1 X.1.2.1 dL_law_40 h1 h2 (ho _ rfl) (by decide) (W.widen wd.1 wd.2 (lc_rival X J hg I hl hv hcs kkR))
    · exact lv_tableIn (off := 1189) (tgt := 1229) X.1.1 X.1.2.1 dL_law_40 h1 h2 (ho _ rfl) (by decide) (W.widen wd.1 wd.2 (lc_meets X J hg I hl hv hcs kkR))
    · exact lv_tableIn (off := 1214) (tgt := 1254) X.1.1 X.1.2.1 dL_law_40 h1 h2 (ho _ rfl) (by decide) (W.widen wd.1 wd.2 (lc_seen X J hg I hl hv hcs kkR))
    · exact lv_tableIn (off := 1279) (tgt := 1319) X.1.1 X.1.2.1 dL_law_40 h1 h2 (ho _ rfl) (by decide) (W.widen wd.1 wd.2 (lc_who X J hg I hl hv hcs kkR))
    · exact lv_tableIn (off := 1316) (tgt := 1356) X.1.1 X.1.2.1 dL_law_40 h1 h2 (ho _ rfl) (by decide) (W.widen wd.1 wd.2 (lc_odds X J hg I hl hv hcs kkR))
    · exact lv_tableIn (off := 1353) (tgt := 1393) X.1.1 X.1.2.1 dL_law_40 h1 h2 (ho _ rfl) (by decide) (W.widen wd.1 wd.2 (lc_shares X J hg I hl hv hcs kkR))
    · exact lv_tableIn (off := 1390) (tgt := 1430) X.1.1 X.1.2.1 dL_law_40 h1 h2 (ho _ rfl) (by decide) (W.widen wd.1 wd.2 (lc_most X J hg I hl hv hcs kkR))
    · exact lv_tableIn (off := 1415) (tgt := 1455) X.1.1 X.1.2.1 dL_law_40 h1 h2 (ho _ rfl) (by decide) (W.widen wd.1 wd.2 (lc_years X J hg I hl hv hcs kkR))
    · exact lv_tableIn (off := 1440) (tgt := 1480) X.1.1 X.1.2.1 dL_law_40 h1 h2 (ho _ rfl) (by decide) (W.widen wd.1 wd.2 (lc_waits X J hg I hl hv hcs kkR))
    · exact lv_tableIn (off := 1465) (tgt := 1505) X.1.1 X.1.2.1 dL_law_40 h1 h2 (ho _ rfl) (by decide) (W.widen wd.1 wd.2 (lc_remains X J hg I hl hv hcs kkR))
    · exact lv_tableIn (off := 1490) (tgt := 1530) X.1.1 X.1.2.1 dL_law_40 h1 h2 (ho _ rfl) (by decide) (W.widen wd.1 wd.2 (lc_image X J hg I hl hv hcs kkR))
    · exact lv_tableIn (off := 1503) (tgt := 1543) X.1.1 X.1.2.1 dL_law_40 h1 h2 (ho _ rfl) (by decide) (W.widen wd.1 wd.2 (lc_back X J hg I hl hv hcs kkR))
    · exact lv_tableIn (off := 1516) (tgt := 1556) X.1.1 X.1.2.1 dL_law_40 h1 h2 (ho _ rfl) (by decide) (W.widen wd.1 wd.2 (lc_count X J hg I hl hv hcs kkR))
