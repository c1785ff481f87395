/-! CHARACTERS OF CONSTANT TEXTS -/
set_option maxRecDepth 4000 in
set_option maxHeartbeats 400000 in
theorem j_strLatin {G : GI} {S : Hp} {q : Nat} (hq : q < 23) : Fn m_J0_isLatin1_aae02 G [.ref (gK G 2 q)] S (some (.int (nI (1)))) S := by
  refine Cn.of rfl (by decide) (Nat.le_of_ble_eq_true rfl) (fun hN hM => ?_)
  show Wx _ G _ 0 [(0, .ref (gK G 2 q))] [] _
  refine r_gets (C := "java/lang/String") (n := "COMPACT_STRINGS") (d := "Z") (v := .int 1) (fun U h => h.2.2.2.2.1) dJ0_isLatin1_aae02_0 (sg6 25 rfl rfl) ?_
  refine Wx.top (y := nI 1) (by decide) ?_
  refine r_if_eqN (tgt := 17) dJ0_isLatin1_aae02_3 (by decide) (by omega) (fun zz3 => ?_) (fun zz3 => ?_)
  · exact absurd zz3 (by decide)
  · refine r_aload_n dJ0_isLatin1_aae02_6 rfl 0 rfl ?_
    refine r_getC (o := "java/lang/String") (n := "coder") (d := "B") (v := .int 0) (fun U h => (h.2.2.2.1.1.1 q hq).2.1) dJ0_isLatin1_aae02_7 (Or.inl (sg7 57 rfl rfl)) ?_
    refine Wx.top (y := nI 0) (by decide) ?_
    refine r_if_neN (tgt := 17) dJ0_isLatin1_aae02_10 (by decide) (by omega) (fun zz10 => ?_) (fun zz10 => ?_)
    · exact absurd zz10 (by decide)
    · refine r_iconst (v := nI 1) dJ0_isLatin1_aae02_13 (by decide) ?_
      refine r_goto (tgt := 18) dJ0_isLatin1_aae02_14 (by decide) ?_
      exact r_iret (ty := .boolean) dJ0_isLatin1_aae02_18 rfl (by decide) ⟨rfl, rfl⟩
set_option maxRecDepth 4000 in
set_option maxHeartbeats 400000 in
theorem j_str1 {G : GI} {S : Hp} {q : Nat} (hq : q < 23) {i : Nat} (hi : i < strL.getD q 0) : Fn m_J1_charAt_3b067 G [.ref (gK G 3 q), .int (nI (i))] S (some (.int (nI (sBn q i)))) S := by
  refine Cn.of rfl (by decide) (Nat.le_of_ble_eq_true rfl) (fun hN hM => ?_)
  show Wx _ G _ 0 [(0, .ref (gK G 3 q)), (1, .int (nI (i)))] [] _
  have hL := sL_n q hq
  refine r_iload_n dJ1_charAt_3b067_0 rfl 1 rfl ?_
  refine r_aload_n dJ1_charAt_3b067_1 rfl 0 rfl ?_
  refine r_alenT (fun U h => (h.2.2.2.1.1.1 q hq).2.2.2) dJ1_charAt_3b067_2 ?_
  refine r_fnS (M2 := m_J0_checkIndex_df160) (As := [.int (nI (i)), .int (nI (strL.getD q 0))]) (rest := []) (v := none) dJ1_charAt_3b067_3 cc_J1_charAt_3b067_9 rfl rfl rfl (Nat.le_of_ble_eq_true rfl) (j_check hi (by have := sL_n q hq; omega)) rfl ?_
  refine r_aload_n dJ1_charAt_3b067_6 rfl 0 rfl ?_
  refine r_iload_n dJ1_charAt_3b067_7 rfl 1 rfl ?_
  refine r_baldT (N := strL.getD q 0) (f := fun j => .int ((strB.getD q []).getD j 0)) (i := nI (i)) (fun U h => (h.2.2.2.1.1.1 q hq).2.2.2) dJ1_charAt_3b067_8 (vp_in_nI (by (first | omega | (have := sL_n q hq; omega))) (by (first | omega | (have := sL_n q hq; omega)))) ?_
  refine Wx.top (show (strB.getD q []).getD (nI (i)).toNatClampNeg 0 = nI (sBn q i) by rw [nI_clamp (by omega)]; exact (sB_n q hq i (by omega)).1) ?_
  refine r_sipush (v := nI 255) dJ1_charAt_3b067_9 (by decide) ?_
  refine r_iandM (k := 8) (c := 256) rfl rfl dJ1_charAt_3b067_12 (by decide) ?_
  refine Wx.topN (show sBn q i % 256 = sBn q i from Nat.mod_eq_of_lt (by have := (sB_n q hq i (by omega)).2; omega)) ?_
  refine r_i2c dJ1_charAt_3b067_13 ?_
  refine Wx.top (i2c_n (by have := (sB_n q hq i (by omega)).2; omega)) ?_
  exact r_iret (ty := .char) dJ1_charAt_3b067_14 rfl (show narrow .char (.int (nI (sBn q i))) = .int (nI (sBn q i)) from (pk_charN (by have := (sB_n q hq i (by omega)).2; omega)).1) ⟨rfl, rfl⟩
set_option maxRecDepth 4000 in
set_option maxHeartbeats 400000 in
theorem j_strChar {G : GI} {S : Hp} {q : Nat} (hq : q < 23) {i : Nat} (hi : i < strL.getD q 0) : Fn m_J0_charAt_5068e G [.ref (gK G 2 q), .int (nI (i))] S (some (.int (nI (sBn q i)))) S := by
  refine Cn.of rfl (by decide) (Nat.le_of_ble_eq_true rfl) (fun hN hM => ?_)
  show Wx _ G _ 0 [(0, .ref (gK G 2 q)), (1, .int (nI (i)))] [] _
  have hL := sL_n q hq
  refine r_aload_n dJ0_charAt_5068e_0 rfl 0 rfl ?_
  refine r_fnVC (M2 := m_J0_isLatin1_aae02) (As := []) (rest := []) (v := some (.int (nI (1)))) (fun U h => (h.2.2.2.1.1.1 q hq).1) dJ0_charAt_5068e_1 cc_J0_charAt_5068e_492 rfl rfl rfl (Nat.le_of_ble_eq_true rfl) (j_strLatin hq) rfl ?_
  refine r_if_eqN (tgt := 16) dJ0_charAt_5068e_4 (by decide) (by omega) (fun zz4 => ?_) (fun zz4 => ?_)
  · exact absurd zz4 (by decide)
  · refine r_aload_n dJ0_charAt_5068e_7 rfl 0 rfl ?_
    refine r_getC (o := "java/lang/String") (n := "value") (d := "[B") (v := .ref (gK G 3 q)) (fun U h => (h.2.2.2.1.1.1 q hq).2.2.1) dJ0_charAt_5068e_8 (Or.inl (sg7 56 rfl rfl)) ?_
    refine r_iload_n dJ0_charAt_5068e_11 rfl 1 rfl ?_
    refine r_fnS (M2 := m_J1_charAt_3b067) (As := [.ref (gK G 3 q), .int (nI (i))]) (rest := []) (v := some (.int (nI (sBn q i)))) dJ0_charAt_5068e_12 cc_J0_charAt_5068e_495 rfl rfl rfl (Nat.le_of_ble_eq_true rfl) (j_str1 hq hi) rfl ?_
    exact r_iret (ty := .char) dJ0_charAt_5068e_15 rfl (show narrow .char (.int (nI (sBn q i))) = .int (nI (sBn q i)) from (pk_charN (by have := (sB_n q hq i (by omega)).2; omega)).1) ⟨rfl, rfl⟩
