/-! THE REFERENCE: the words -/
set_option maxRecDepth 4000 in
set_option maxHeartbeats 400000 in
theorem m_word {G : GI} {S : Hp} {z : Nat} (hz : z < 9) : Fn m_X13_word G [.int (nI z)] S (some (.ref (gK G 2 z))) S := by
  refine Cn.of rfl (by decide) (Nat.le_of_ble_eq_true rfl) (fun hN hM => ?_)
  show Wx _ G _ 0 [(0, .int (nI (z)))] [] _
  refine r_iload_n dX13_word_0 rfl 0 rfl ?_
  obtain rfl | rfl | rfl | rfl | rfl | rfl | rfl | rfl | rfl : z = 0 ∨ z = 1 ∨ z = 2 ∨ z = 3 ∨ z = 4 ∨ z = 5 ∨ z = 6 ∨ z = 7 ∨ z = 8 := by omega
  · refine r_tableIn (off := 47) (tgt := 48) dX13_word_1 (by decide) (by decide) rfl (by decide) ?_
    refine r_ldcwS (a := gK G 2 0) (tx := "machine") (fun U h => h.2.2.2.1.2 ("LotInspectorModel", 310, "machine", 0) (List.mem_of_getElem? (i := 14) rfl)) dX13_word_48 ?_
    exact r_aret (v := some (gK G 2 0)) dX13_word_51 rfl (Or.inl ⟨_, rfl⟩) ⟨rfl, rfl⟩
  · refine r_tableIn (off := 51) (tgt := 52) dX13_word_1 (by decide) (by decide) rfl (by decide) ?_
    refine r_ldcwS (a := gK G 2 1) (tx := "product") (fun U h => h.2.2.2.1.2 ("LotInspectorModel", 312, "product", 1) (List.mem_of_getElem? (i := 15) rfl)) dX13_word_52 ?_
    exact r_aret (v := some (gK G 2 1)) dX13_word_55 rfl (Or.inl ⟨_, rfl⟩) ⟨rfl, rfl⟩
  · refine r_tableIn (off := 55) (tgt := 56) dX13_word_1 (by decide) (by decide) rfl (by decide) ?_
    refine r_ldcwS (a := gK G 2 2) (tx := "raw") (fun U h => h.2.2.2.1.2 ("LotInspectorModel", 314, "raw", 2) (List.mem_of_getElem? (i := 16) rfl)) dX13_word_56 ?_
    exact r_aret (v := some (gK G 2 2)) dX13_word_59 rfl (Or.inl ⟨_, rfl⟩) ⟨rfl, rfl⟩
  · refine r_tableIn (off := 59) (tgt := 60) dX13_word_1 (by decide) (by decide) rfl (by decide) ?_
    refine r_ldcwS (a := gK G 2 3) (tx := "make") (fun U h => h.2.2.2.1.2 ("LotInspectorModel", 316, "make", 3) (List.mem_of_getElem? (i := 17) rfl)) dX13_word_60 ?_
    exact r_aret (v := some (gK G 2 3)) dX13_word_63 rfl (Or.inl ⟨_, rfl⟩) ⟨rfl, rfl⟩
  · refine r_tableIn (off := 63) (tgt := 64) dX13_word_1 (by decide) (by decide) rfl (by decide) ?_
    refine r_ldcwS (a := gK G 2 4) (tx := "inspect") (fun U h => h.2.2.2.1.2 ("LotInspectorModel", 318, "inspect", 4) (List.mem_of_getElem? (i := 18) rfl)) dX13_word_64 ?_
    exact r_aret (v := some (gK G 2 4)) dX13_word_67 rfl (Or.inl ⟨_, rfl⟩) ⟨rfl, rfl⟩
  · refine r_tableIn (off := 67) (tgt := 68) dX13_word_1 (by decide) (by decide) rfl (by decide) ?_
    refine r_ldcwS (a := gK G 2 5) (tx := "sort") (fun U h => h.2.2.2.1.2 ("LotInspectorModel", 320, "sort", 5) (List.mem_of_getElem? (i := 19) rfl)) dX13_word_68 ?_
    exact r_aret (v := some (gK G 2 5)) dX13_word_71 rfl (Or.inl ⟨_, rfl⟩) ⟨rfl, rfl⟩
  · refine r_tableIn (off := 71) (tgt := 72) dX13_word_1 (by decide) (by decide) rfl (by decide) ?_
    refine r_ldcwS (a := gK G 2 6) (tx := "ship") (fun U h => h.2.2.2.1.2 ("LotInspectorModel", 322, "ship", 6) (List.mem_of_getElem? (i := 20) rfl)) dX13_word_72 ?_
    exact r_aret (v := some (gK G 2 6)) dX13_word_75 rfl (Or.inl ⟨_, rfl⟩) ⟨rfl, rfl⟩
  · refine r_tableIn (off := 75) (tgt := 76) dX13_word_1 (by decide) (by decide) rfl (by decide) ?_
    refine r_ldcwS (a := gK G 2 7) (tx := "release") (fun U h => h.2.2.2.1.2 ("LotInspectorModel", 324, "release", 7) (List.mem_of_getElem? (i := 21) rfl)) dX13_word_76 ?_
    exact r_aret (v := some (gK G 2 7)) dX13_word_79 rfl (Or.inl ⟨_, rfl⟩) ⟨rfl, rfl⟩
  · refine r_tableOut (tgt := 80) dX13_word_1 (by decide) (by decide) ?_
    refine r_ldcwS (a := gK G 2 8) (tx := "seed") (fun U h => h.2.2.2.1.2 ("LotInspectorModel", 326, "seed", 8) (List.mem_of_getElem? (i := 22) rfl)) dX13_word_80 ?_
    exact r_aret (v := some (gK G 2 8)) dX13_word_83 rfl (Or.inl ⟨_, rfl⟩) ⟨rfl, rfl⟩
