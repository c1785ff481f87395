/-! THE CLASS's side -/
theorem zI_us {S : Hp} {f a : Nat} {x : Int32} : zI (uI S f a x) f a = x := if_pos ⟨rfl, rfl⟩
theorem zI_un {S : Hp} {f a g b : Nat} {x : Int32} (h : g ≠ f ∨ b ≠ a) : zI (uI S f a x) g b = zI S g b := if_neg (by omega)
theorem zA_us {S : Hp} {a i : Nat} {x : Int32} : zA (uA S a i x) a i = x := if_pos ⟨rfl, rfl⟩
theorem zA_un {S : Hp} {a i b j : Nat} {x : Int32} (h : b ≠ a ∨ j ≠ i) : zA (uA S a i x) b j = zA S b j := if_neg (by omega)
theorem vp_no {x : Int32} {n : Nat} (hn : n < 2 ^ 31) (hx : ¬ vp_in x n) (h1 : ¬ x < 0) (h2 : ¬ nI n ≤ x) : False := by
  obtain ⟨j, hj, rfl⟩ := nI_of h1
  have h3 : j < n := Nat.lt_of_not_le fun q => h2 (nI_le q hj)
  exact hx (vp_in_nI h3 hn)
/-- an office's shape: sixteen cells in a row -/
def OfS (S : Hp) (o : Nat) : Prop := zT S o = 10 ∧ (zP S 288 o = some (o + 1) ∧ zP S 289 o = some (o + 2) ∧ zP S 290 o = some (o + 3) ∧ zP S 291 o = some (o + 4) ∧ zP S 292 o = some (o + 5)) ∧ (zT S (o + 1) = 113 ∧ zN S (o + 1) = 6) ∧ (zT S (o + 2) = 115 ∧ zN S (o + 2) = 4) ∧ (zT S (o + 3) = 112 ∧ zN S (o + 3) = 24) ∧ (zT S (o + 4) = 101 ∧ zN S (o + 4) = 28) ∧ (zT S (o + 5) = 101 ∧ zN S (o + 5) = 200) ∧ (∀ i, i < 6 → zQ S (o + 1) i = some (o + 6 + i) ∧ zT S (o + 6 + i) = 9) ∧ ∀ i, i < 4 → zQ S (o + 2) i = some (o + 12 + i) ∧ zT S (o + 12 + i) = 11
set_option maxRecDepth 4000 in
theorem k_machineAt {G : GI} {S : Hp} {o : Nat} (ho : OfS S o) {i : Nat} (hi : i < 6) : Fn m_X7_machineAt G [.ref (o), .int (nI (i))] S (some (.ref (o + 6 + i))) S := by
  refine Cn.of rfl (by decide) (Nat.le_of_ble_eq_true rfl) (fun hN hM => ?_)
  show Wx _ G _ 0 [(0, .ref (o)), (1, .int (nI (i)))] [] _
  refine r_iload_n dX7_machineAt_0 rfl 1 rfl ?_
  refine r_if_ltN (tgt := 22) dX7_machineAt_1 (by decide) (by omega) ?_
  refine r_iload_n dX7_machineAt_4 rfl 1 rfl ?_
  refine r_aload_n dX7_machineAt_5 rfl 0 rfl ?_
  refine r_getR (ci := 9) (k := 0) (b := o + 1) dX7_machineAt_6 fr_X7_11 ho.1 rfl ho.2.1.1 ?_
  refine r_alenQ dX7_machineAt_9 ho.2.2.1.1 (by decide) (by decide) ?_
  refine Wx.top (congrArg nI ho.2.2.1.2) ?_
  refine r_icmp_geN (tgt := 22) dX7_machineAt_10 (by decide) (by omega) (by omega) (fun h10 => ?_) (fun h10 => ?_)
  · exact absurd h10 (by omega)
  · refine r_aload_n dX7_machineAt_13 rfl 0 rfl ?_
    refine r_getR (ci := 9) (k := 0) (b := o + 1) dX7_machineAt_14 fr_X7_11 ho.1 rfl ho.2.1.1 ?_
    refine r_iload_n dX7_machineAt_17 rfl 1 rfl ?_
    refine r_aaldR (b := o + 6 + i) dX7_machineAt_18 ho.2.2.1.1 (by decide) (by decide) (by rw [show zN _ (o + 1) = 6 from ho.2.2.1.2]; exact vp_in_nI (by omega) (by decide)) (by rw [nI_clamp (by omega)]; exact (ho.2.2.2.2.2.2.2.1 i (by omega)).1) ?_
    refine r_goto (tgt := 23) dX7_machineAt_19 (by decide) ?_
    exact r_aret (v := some (o + 6 + i)) dX7_machineAt_23 rfl (Or.inl ⟨_, rfl⟩) ⟨rfl, rfl⟩
set_option maxRecDepth 4000 in
theorem k_machineAt_no {G : GI} {S : Hp} {o : Nat} (ho : OfS S o) {x : Int32} (hx : ¬ vp_in x 6) : Fn m_X7_machineAt G [.ref (o), .int (x)] S (some .null) S := by
  refine Cn.of rfl (by decide) (Nat.le_of_ble_eq_true rfl) (fun hN hM => ?_)
  show Wx _ G _ 0 [(0, .ref (o)), (1, .int (x))] [] _
  refine r_iload_n dX7_machineAt_0 rfl 1 rfl ?_
  refine r_if_lt (tgt := 22) dX7_machineAt_1 (by decide) (fun h1 => ?_) (fun h1 => ?_)
  · refine r_null dX7_machineAt_22 ?_
    exact r_aret (v := none) dX7_machineAt_23 rfl (Or.inl ⟨_, rfl⟩) ⟨rfl, rfl⟩
  · refine r_iload_n dX7_machineAt_4 rfl 1 rfl ?_
    refine r_aload_n dX7_machineAt_5 rfl 0 rfl ?_
    refine r_getR (ci := 9) (k := 0) (b := o + 1) dX7_machineAt_6 fr_X7_11 ho.1 rfl ho.2.1.1 ?_
    refine r_alenQ dX7_machineAt_9 ho.2.2.1.1 (by decide) (by decide) ?_
    refine Wx.top (congrArg nI ho.2.2.1.2) ?_
    refine r_icmp_ge (tgt := 22) dX7_machineAt_10 (by decide) (fun h10 => ?_) (fun h10 => ?_)
    · refine r_null dX7_machineAt_22 ?_
      exact r_aret (v := none) dX7_machineAt_23 rfl (Or.inl ⟨_, rfl⟩) ⟨rfl, rfl⟩
    · exact (vp_no (by decide) hx h1 h10).elim
set_option maxRecDepth 4000 in
theorem k_productAt {G : GI} {S : Hp} {o : Nat} (ho : OfS S o) {i : Nat} (hi : i < 4) : Fn m_X7_productAt G [.ref (o), .int (nI (i))] S (some (.ref (o + 12 + i))) S := by
  refine Cn.of rfl (by decide) (Nat.le_of_ble_eq_true rfl) (fun hN hM => ?_)
  show Wx _ G _ 0 [(0, .ref (o)), (1, .int (nI (i)))] [] _
  refine r_iload_n dX7_productAt_0 rfl 1 rfl ?_
  refine r_if_ltN (tgt := 22) dX7_productAt_1 (by decide) (by omega) ?_
  refine r_iload_n dX7_productAt_4 rfl 1 rfl ?_
  refine r_aload_n dX7_productAt_5 rfl 0 rfl ?_
  refine r_getR (ci := 9) (k := 1) (b := o + 2) dX7_productAt_6 fr_X7_19 ho.1 rfl ho.2.1.2.1 ?_
  refine r_alenQ dX7_productAt_9 ho.2.2.2.1.1 (by decide) (by decide) ?_
  refine Wx.top (congrArg nI ho.2.2.2.1.2) ?_
  refine r_icmp_geN (tgt := 22) dX7_productAt_10 (by decide) (by omega) (by omega) (fun h10 => ?_) (fun h10 => ?_)
  · exact absurd h10 (by omega)
  · refine r_aload_n dX7_productAt_13 rfl 0 rfl ?_
    refine r_getR (ci := 9) (k := 1) (b := o + 2) dX7_productAt_14 fr_X7_19 ho.1 rfl ho.2.1.2.1 ?_
    refine r_iload_n dX7_productAt_17 rfl 1 rfl ?_
    refine r_aaldR (b := o + 12 + i) dX7_productAt_18 ho.2.2.2.1.1 (by decide) (by decide) (by rw [show zN _ (o + 2) = 4 from ho.2.2.2.1.2]; exact vp_in_nI (by omega) (by decide)) (by rw [nI_clamp (by omega)]; exact (ho.2.2.2.2.2.2.2.2 i (by omega)).1) ?_
    refine r_goto (tgt := 23) dX7_productAt_19 (by decide) ?_
    exact r_aret (v := some (o + 12 + i)) dX7_productAt_23 rfl (Or.inl ⟨_, rfl⟩) ⟨rfl, rfl⟩
set_option maxRecDepth 4000 in
theorem k_productAt_no {G : GI} {S : Hp} {o : Nat} (ho : OfS S o) {x : Int32} (hx : ¬ vp_in x 4) : Fn m_X7_productAt G [.ref (o), .int (x)] S (some .null) S := by
  refine Cn.of rfl (by decide) (Nat.le_of_ble_eq_true rfl) (fun hN hM => ?_)
  show Wx _ G _ 0 [(0, .ref (o)), (1, .int (x))] [] _
  refine r_iload_n dX7_productAt_0 rfl 1 rfl ?_
  refine r_if_lt (tgt := 22) dX7_productAt_1 (by decide) (fun h1 => ?_) (fun h1 => ?_)
  · refine r_null dX7_productAt_22 ?_
    exact r_aret (v := none) dX7_productAt_23 rfl (Or.inl ⟨_, rfl⟩) ⟨rfl, rfl⟩
  · refine r_iload_n dX7_productAt_4 rfl 1 rfl ?_
    refine r_aload_n dX7_productAt_5 rfl 0 rfl ?_
    refine r_getR (ci := 9) (k := 1) (b := o + 2) dX7_productAt_6 fr_X7_19 ho.1 rfl ho.2.1.2.1 ?_
    refine r_alenQ dX7_productAt_9 ho.2.2.2.1.1 (by decide) (by decide) ?_
    refine Wx.top (congrArg nI ho.2.2.2.1.2) ?_
    refine r_icmp_ge (tgt := 22) dX7_productAt_10 (by decide) (fun h10 => ?_) (fun h10 => ?_)
    · refine r_null dX7_productAt_22 ?_
      exact r_aret (v := none) dX7_productAt_23 rfl (Or.inl ⟨_, rfl⟩) ⟨rfl, rfl⟩
    · exact (vp_no (by decide) hx h1 h10).elim
