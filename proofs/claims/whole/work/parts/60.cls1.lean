/-! THE CLASS's side -/
theorem zI_us {S : Hp} {f a : Nat} {x : Int32} : zI (uI S f a x) f a = x := if_pos ⟨rfl, rfl⟩
theorem zI_un {S : Hp} {f a g b : Nat} {x : Int32} (h : g ≠ f ∨ b ≠ a) : zI (uI S f a x) g b = zI S g b := if_neg (by omega)
theorem zA_us {S : Hp} {a i : Nat} {x : Int32} : zA (uA S a i x) a i = x := if_pos ⟨rfl, rfl⟩
theorem zA_un {S : Hp} {a i b j : Nat} {x : Int32} (h : b ≠ a ∨ j ≠ i) : zA (uA S a i x) b j = zA S b j := if_neg (by omega)
theorem vp_no {x : Int32} {n : Nat} (hn : n < 2 ^ 31) (hx : ¬ vp_in x n) (h1 : ¬ x < 0) (h2 : ¬ nI n ≤ x) : False := by
  obtain ⟨j, hj, rfl⟩ := nI_of h1
  have h3 : j < n := Nat.lt_of_not_le fun q => h2 (nI_le q hj)
  exact hx (vp_in_nI h3 hn)
/-- an office's shape: sixteen cells in a row -/
def OfS (S : Hp) (o : Nat) : Prop := zT S o = 10 ∧ (zP S 288 o = some (o + 1) ∧ zP S 289 o = some (o + 2) ∧ zP S 290 o = some (o + 3) ∧ zP S 291 o = some (o + 4) ∧ zP S 292 o = some (o + 5)) ∧ (zT S (o + 1) = 113 ∧ zN S (o + 1) = 6) ∧ (zT S (o + 2) = 115 ∧ zN S (o + 2) = 4) ∧ (zT S (o + 3) = 112 ∧ zN S (o + 3) = 24) ∧ (zT S (o + 4) = 101 ∧ zN S (o + 4) = 28) ∧ (zT S (o + 5) = 101 ∧ zN S (o + 5) = 200) ∧ (∀ i, i < 6 → zQ S (o + 1) i = some (o + 6 + i) ∧ zT S (o + 6 + i) = 9) ∧ ∀ i, i < 4 → zQ S (o + 2) i = some (o + 12 + i) ∧ zT S (o + 12 + i) = 11
set_option maxRecDepth 4000 in
theorem k_machineAt {G : GI} {S : Hp} {o : Nat} (ho : OfS S o) {i : Nat} (hi : i < 6) : Fn m_X7_machineAt G [.ref (o), .int (nI (i))] S (some (.ref (o + 6 + i))) S := by
  refine Cn.of rfl (by decide) (Nat.le_of_ble_eq_true rfl) (fun hN hM => ?_)
  show Wx _ G _ 0 [(0, .ref (o)), (1, .int (nI (i)))] [] _
  refine r_iload_n dX7_machineAt_0 rfl 1 rfl ?_
  refine r_if_ltN (tgt := 22) dX7_machineAt_1 (by decide) (by omega) ?_
  refine r_iload_n dX7_machineAt_4 rfl 1 rfl ?_
  refine r_aload_n dX7_machineAt_5 rfl 0 rfl ?_
  refine r_getR (ci := 9) (k := 0) (b := o + 1) dX7_machineAt_6 fr_X7_11 ho.1 rfl ho.2.1.1 ?_
  refine r_alenQ dX7_machineAt_9 ho.2.2.1.1 (by decide) (by decide) ?_
  refine Wx.top (congrArg nI ho.2.2.1.2) ?_
  refine r_icmp_geN (tgt := 22) dX7_machineAt_10 (by decide) (by omega) (by omega) (fun h10 => ?_) (fun h10 => ?_)
  · exact absurd h10 (by omega)
  · refine r_aload_n dX7_machineAt_13 rfl 0 rfl ?_
    refine r_getR (ci := 9) (k := 0) (b := o + 1) dX7_machineAt_14 fr_X7_11 ho.1 rfl ho.2.1.1 ?_
    refine r_iload_n dX7_machineAt_17 rfl 1 rfl ?_
    refine r_aaldR (b := o + 6 + i) dX7_machineAt_18 ho.2.2.1.1 (by decide) (by decide) (by rw [show zN S (o + 1) = 6 from ho.2.2.1.2]; exact vp_in_nI (by omega) (by decide)) (by rw [nI_clamp (by omega)]; exact (ho.2.2.2.2.2.2.2.1 i (by omega)).1) ?_
    refine r_goto (tgt := 23) dX7_machineAt_19 (by decide) ?_
    exact r_aret (v := some (o + 6 + i)) dX7_machineAt_23 rfl (Or.inl ⟨_, rfl⟩) ⟨rfl, rfl⟩
set_option maxRecDepth 4000 in
theorem k_machineAt_no {G : GI} {S : Hp} {o : Nat} (ho : OfS S o) {x : Int32} (hx : ¬ vp_in x 6) : Fn m_X7_machineAt G [.ref (o), .int (x)] S (some .null) S := by
  refine Cn.of rfl (by decide) (Nat.le_of_ble_eq_true rfl) (fun hN hM => ?_)
  show Wx _ G _ 0 [(0, .ref (o)), (1, .int (x))] [] _
  refine r_iload_n dX7_machineAt_0 rfl 1 rfl ?_
  refine r_if_lt (tgt := 22) dX7_machineAt_1 (by decide) (fun h1 => ?_) (fun h1 => ?_)
  · refine r_null dX7_machineAt_22 ?_
    exact r_aret (v := none) dX7_machineAt_23 rfl (Or.inl ⟨_, rfl⟩) ⟨rfl, rfl⟩
  · refine r_iload_n dX7_machineAt_4 rfl 1 rfl ?_
    refine r_aload_n dX7_machineAt_5 rfl 0 rfl ?_
    refine r_getR (ci := 9) (k := 0) (b := o + 1) dX7_machineAt_6 fr_X7_11 ho.1 rfl ho.2.1.1 ?_
    refine r_alenQ dX7_machineAt_9 ho.2.2.1.1 (by decide) (by decide) ?_
    refine Wx.top (congrArg nI ho.2.2.1.2) ?_
    refine r_icmp_ge (tgt := 22) dX7_machineAt_10 (by decide) (fun h10 => ?_) (fun h10 => ?_)
    · refine r_null dX7_machineAt_22 ?_
      exact r_aret (v := none) dX7_machineAt_23 rfl (Or.inl ⟨_, rfl⟩) ⟨rfl, rfl⟩
    · exact (vp_no (by decide) hx h1 h10).elim
set_option maxRecDepth 4000 in
theorem k_productAt {G : GI} {S : Hp} {o : Nat} (ho : OfS S o) {i : Nat} (hi : i < 4) : Fn m_X7_productAt G [.ref (o), .int (nI (i))] S (some (.ref (o + 12 + i))) S := by
  refine Cn.of rfl (by decide) (Nat.le_of_ble_eq_true rfl) (fun hN hM => ?_)
  show Wx _ G _ 0 [(0, .ref (o)), (1, .int (nI (i)))] [] _
  refine r_iload_n dX7_productAt_0 rfl 1 rfl ?_
  refine r_if_ltN (tgt := 22) dX7_productAt_1 (by decide) (by omega) ?_
  refine r_iload_n dX7_productAt_4 rfl 1 rfl ?_
  refine r_aload_n dX7_productAt_5 rfl 0 rfl ?_
  refine r_getR (ci := 9) (k := 1) (b := o + 2) dX7_productAt_6 fr_X7_19 ho.1 rfl ho.2.1.2.1 ?_
  refine r_alenQ dX7_productAt_9 ho.2.2.2.1.1 (by decide) (by decide) ?_
  refine Wx.top (congrArg nI ho.2.2.2.1.2) ?_
  refine r_icmp_geN (tgt := 22) dX7_productAt_10 (by decide) (by omega) (by omega) (fun h10 => ?_) (fun h10 => ?_)
  · exact absurd h10 (by omega)
  · refine r_aload_n dX7_productAt_13 rfl 0 rfl ?_
    refine r_getR (ci := 9) (k := 1) (b := o + 2) dX7_productAt_14 fr_X7_19 ho.1 rfl ho.2.1.2.1 ?_
    refine r_iload_n dX7_productAt_17 rfl 1 rfl ?_
    refine r_aaldR (b := o + 12 + i) dX7_productAt_18 ho.2.2.2.1.1 (by decide) (by decide) (by rw [show zN S (o + 2) = 4 from ho.2.2.2.1.2]; exact vp_in_nI (by omega) (by decide)) (by rw [nI_clamp (by omega)]; exact (ho.2.2.2.2.2.2.2.2 i (by omega)).1) ?_
    refine r_goto (tgt := 23) dX7_productAt_19 (by decide) ?_
    exact r_aret (v := some (o + 12 + i)) dX7_productAt_23 rfl (Or.inl ⟨_, rfl⟩) ⟨rfl, rfl⟩
set_option maxRecDepth 4000 in
theorem k_productAt_no {G : GI} {S : Hp} {o : Nat} (ho : OfS S o) {x : Int32} (hx : ¬ vp_in x 4) : Fn m_X7_productAt G [.ref (o), .int (x)] S (some .null) S := by
  refine Cn.of rfl (by decide) (Nat.le_of_ble_eq_true rfl) (fun hN hM => ?_)
  show Wx _ G _ 0 [(0, .ref (o)), (1, .int (x))] [] _
  refine r_iload_n dX7_productAt_0 rfl 1 rfl ?_
  refine r_if_lt (tgt := 22) dX7_productAt_1 (by decide) (fun h1 => ?_) (fun h1 => ?_)
  · refine r_null dX7_productAt_22 ?_
    exact r_aret (v := none) dX7_productAt_23 rfl (Or.inl ⟨_, rfl⟩) ⟨rfl, rfl⟩
  · refine r_iload_n dX7_productAt_4 rfl 1 rfl ?_
    refine r_aload_n dX7_productAt_5 rfl 0 rfl ?_
    refine r_getR (ci := 9) (k := 1) (b := o + 2) dX7_productAt_6 fr_X7_19 ho.1 rfl ho.2.1.2.1 ?_
    refine r_alenQ dX7_productAt_9 ho.2.2.2.1.1 (by decide) (by decide) ?_
    refine Wx.top (congrArg nI ho.2.2.2.1.2) ?_
    refine r_icmp_ge (tgt := 22) dX7_productAt_10 (by decide) (fun h10 => ?_) (fun h10 => ?_)
    · refine r_null dX7_productAt_22 ?_
      exact r_aret (v := none) dX7_productAt_23 rfl (Or.inl ⟨_, rfl⟩) ⟨rfl, rfl⟩
    · exact (vp_no (by decide) hx h1 h10).elim
set_option maxRecDepth 4000 in
theorem k_setMachine_1 {G : GI} {S : Hp} {o : Nat} (ho : OfS S o) {x : Int32} (hx : ¬ vp_in x 6) {y z : Int32} : Fn m_X7_setMachine G [.ref (o), .int (x), .int (y), .int (z)] S (some (.int ((-1)))) S := by
  refine Cn.of rfl (by decide) (Nat.le_of_ble_eq_true rfl) (fun hN hM => ?_)
  show Wx _ G _ 0 [(0, .ref (o)), (1, .int (x)), (2, .int (y)), (3, .int (z))] [] _
  refine r_aload_n dX7_setMachine_0 rfl 0 rfl ?_
  refine r_iload_n dX7_setMachine_1 rfl 1 rfl ?_
  refine r_fnV (M2 := m_X7_machineAt) (As := [.int (x)]) (rest := []) (v := some (.null)) dX7_setMachine_2 cc_X7_setMachine_82 rfl rfl rfl (Nat.le_of_ble_eq_true rfl) ho.1 rfl rfl (by decide) (k_machineAt_no ho hx) rfl ?_
  refine r_astoreN (lv' := [(4, .null), (0, .ref (o)), (1, .int (x)), (2, .int (y)), (3, .int (z))]) dX7_setMachine_5 (by decide) rfl ?_
  refine r_aloadN dX7_setMachine_7 0 rfl ?_
  refine r_ifnonnullN dX7_setMachine_9 ?_
  refine r_iconst (v := (-1)) dX7_setMachine_12 (by decide) ?_
  exact r_iret (ty := .int) dX7_setMachine_13 rfl rfl ⟨rfl, rfl⟩
set_option maxRecDepth 4000 in
theorem k_setMachine_0 {G : GI} {S : Hp} {o : Nat} (ho : OfS S o) {i p0 k0 : Nat} (hi : i < 6) (h1 : zI S 256 (o + 6 + i) = nI p0) (h2 : zI S 257 (o + 6 + i) = nI k0) {y z : Nat} (hy : y < 51) (hz : z < 4) : Fn m_X7_setMachine G [.ref (o), .int (nI (i)), .int (nI (y)), .int (nI (z))] S (some (.int (nI (10 * p0 + k0)))) (uI (uI S 256 (o + 6 + i) (nI y)) 257 (o + 6 + i) (nI z)) := by
  refine Cn.of rfl (by decide) (Nat.le_of_ble_eq_true rfl) (fun hN hM => ?_)
  show Wx _ G _ 0 [(0, .ref (o)), (1, .int (nI (i))), (2, .int (nI (y))), (3, .int (nI (z)))] [] _
  refine r_aload_n dX7_setMachine_0 rfl 0 rfl ?_
  refine r_iload_n dX7_setMachine_1 rfl 1 rfl ?_
  refine r_fnV (M2 := m_X7_machineAt) (As := [.int (nI (i))]) (rest := []) (v := some (.ref (o + 6 + i))) dX7_setMachine_2 cc_X7_setMachine_82 rfl rfl rfl (Nat.le_of_ble_eq_true rfl) ho.1 rfl rfl (by decide) (k_machineAt ho (by omega)) rfl ?_
  refine r_astore (lv' := [(4, .ref (o + 6 + i)), (0, .ref (o)), (1, .int (nI (i))), (2, .int (nI (y))), (3, .int (nI (z)))]) dX7_setMachine_5 (by decide) rfl ?_
  refine r_aload dX7_setMachine_7 0 rfl ?_
  refine r_ifnonnull (tgt := 14) dX7_setMachine_9 (by decide) ?_
  refine r_iload_n dX7_setMachine_14 rfl 3 rfl ?_
  refine r_if_ltN (tgt := 33) dX7_setMachine_15 (by decide) (by omega) ?_
  refine r_iload_n dX7_setMachine_18 rfl 3 rfl ?_
  refine r_bipush (v := nI 50) dX7_setMachine_19 (by decide) ?_
  refine r_icmp_gtN (tgt := 33) dX7_setMachine_21 (by decide) (by omega) (by omega) (fun h21 => ?_) (fun h21 => ?_)
  · exact absurd h21 (by omega)
  · refine r_iload_n dX7_setMachine_24 rfl 4 rfl ?_
    refine r_if_ltN (tgt := 33) dX7_setMachine_25 (by decide) (by omega) ?_
    refine r_iload_n dX7_setMachine_28 rfl 4 rfl ?_
    refine r_iconst (v := nI 4) dX7_setMachine_29 (by decide) ?_
    refine r_icmp_ltN (tgt := 36) dX7_setMachine_30 (by decide) (by omega) (by omega) (fun h30 => ?_) (fun h30 => ?_)
    · refine r_bipush (v := nI 10) dX7_setMachine_36 (by decide) ?_
      refine r_aload dX7_setMachine_38 0 rfl ?_
      refine r_getI (ci := 8) (k := 0) dX7_setMachine_40 fr_X7_86 (ho.2.2.2.2.2.2.2.1 i (by omega)).2 rfl ?_
      refine Wx.top h1 ?_
      refine r_imulN dX7_setMachine_43 ?_
      refine r_aload dX7_setMachine_44 0 rfl ?_
      refine r_getI (ci := 8) (k := 1) dX7_setMachine_46 fr_X7_89 (ho.2.2.2.2.2.2.2.1 i (by omega)).2 rfl ?_
      refine Wx.top h2 ?_
      refine r_iaddN dX7_setMachine_49 ?_
      refine r_istore (lv' := [(5, .int (nI (10 * p0 + k0))), (4, .ref (o + 6 + i)), (0, .ref (o)), (1, .int (nI (i))), (2, .int (nI (y))), (3, .int (nI (z)))]) dX7_setMachine_50 (by decide) rfl ?_
      refine r_aload dX7_setMachine_52 1 rfl ?_
      refine r_iload_n dX7_setMachine_54 rfl 4 rfl ?_
      refine r_putI (ci := 8) (k := 0) dX7_setMachine_55 fw_X7_setMachine_86 (ho.2.2.2.2.2.2.2.1 i (by omega)).2 rfl rfl rfl ?_
      refine r_aload dX7_setMachine_58 1 rfl ?_
      refine r_iload_n dX7_setMachine_60 rfl 5 rfl ?_
      refine r_putI (ci := 8) (k := 1) dX7_setMachine_61 fw_X7_setMachine_89 (ho.2.2.2.2.2.2.2.1 i (by omega)).2 rfl rfl rfl ?_
      refine r_iload dX7_setMachine_64 0 rfl ?_
      exact r_iret (ty := .int) dX7_setMachine_66 rfl rfl ⟨rfl, rfl⟩
    · exact absurd hz h30
set_option maxRecDepth 4000 in
theorem k_become {G : GI} {S : Hp} {o : Nat} (ho : OfS S o) {a s : Nat} (ha : zT S a = 11) : Fn m_X8_become G [.ref (a), .int (nI (s))] S none (uI (uI (uI (uI S 323 (a) (nI s)) 324 (a) (nI 0)) 325 (a) (nI 0)) 326 (a) (nI 0)) := by
  refine Cn.of rfl (by decide) (Nat.le_of_ble_eq_true rfl) (fun hN hM => ?_)
  show Wx _ G _ 0 [(0, .ref (a)), (1, .int (nI (s)))] [] _
  refine r_aload_n dX8_become_0 rfl 0 rfl ?_
  refine r_iload_n dX8_become_1 rfl 1 rfl ?_
  refine r_putI (ci := 10) (k := 3) dX8_become_2 fw_X8_become_21 ha rfl rfl rfl ?_
  refine r_aload_n dX8_become_5 rfl 0 rfl ?_
  refine r_iconst (v := nI 0) dX8_become_6 (by decide) ?_
  refine r_putI (ci := 10) (k := 4) dX8_become_7 fw_X8_become_24 ha rfl rfl rfl ?_
  refine r_aload_n dX8_become_10 rfl 0 rfl ?_
  refine r_iconst (v := nI 0) dX8_become_11 (by decide) ?_
  refine r_putI (ci := 10) (k := 5) dX8_become_12 fw_X8_become_27 ha rfl rfl rfl ?_
  refine r_aload_n dX8_become_15 rfl 0 rfl ?_
  refine r_iconst (v := nI 0) dX8_become_16 (by decide) ?_
  refine r_putI (ci := 10) (k := 6) dX8_become_17 fw_X8_become_30 ha rfl rfl rfl ?_
  exact r_vret dX8_become_20 rfl ⟨rfl, rfl⟩
set_option maxRecDepth 4000 in
theorem k_setSeed_1 {G : GI} {S : Hp} {o : Nat} (ho : OfS S o) {x : Int32} (hx : x < 0) : Fn m_X7_setSeed G [.ref (o), .int (x)] S (some (.int ((-2)))) S := by
  refine Cn.of rfl (by decide) (Nat.le_of_ble_eq_true rfl) (fun hN hM => ?_)
  show Wx _ G _ 0 [(0, .ref (o)), (1, .int (x))] [] _
  refine r_iload_n dX7_setSeed_0 rfl 1 rfl ?_
  refine r_if_ge (tgt := 7) dX7_setSeed_1 (by decide) (fun h1 => ?_) (fun h1 => ?_)
  · exact absurd hx (Int32.not_lt.mpr h1)
  · refine r_bipush (v := (-2)) dX7_setSeed_4 (by decide) ?_
    exact r_iret (ty := .int) dX7_setSeed_6 rfl rfl ⟨rfl, rfl⟩
set_option maxRecDepth 4000 in
theorem k_setSeed_0 {G : GI} {S : Hp} {o : Nat} (ho : OfS S o) {n s0 : Nat} (hn : n < 2147483648) (h1 : zI S 296 o = nI s0) : Fn m_X7_setSeed G [.ref (o), .int (nI (n))] S (some (.int (nI (s0)))) (uI S 296 (o) (nI n)) := by
  refine Cn.of rfl (by decide) (Nat.le_of_ble_eq_true rfl) (fun hN hM => ?_)
  show Wx _ G _ 0 [(0, .ref (o)), (1, .int (nI (n)))] [] _
  refine r_iload_n dX7_setSeed_0 rfl 1 rfl ?_
  refine r_if_geN (tgt := 7) dX7_setSeed_1 (by decide) (by omega) ?_
  refine r_aload_n dX7_setSeed_7 rfl 0 rfl ?_
  refine r_getI (ci := 9) (k := 8) dX7_setSeed_8 fr_X7_36 ho.1 rfl ?_
  refine Wx.top h1 ?_
  refine r_istore_n (lv' := [(2, .int (nI (s0))), (0, .ref (o)), (1, .int (nI (n)))]) dX7_setSeed_11 rfl (by decide) rfl ?_
  refine r_aload_n dX7_setSeed_12 rfl 1 rfl ?_
  refine r_iload_n dX7_setSeed_13 rfl 2 rfl ?_
  refine r_putI (ci := 9) (k := 8) dX7_setSeed_14 fw_X7_setSeed_36 ho.1 rfl rfl rfl ?_
  refine r_iload_n dX7_setSeed_17 rfl 0 rfl ?_
  exact r_iret (ty := .int) dX7_setSeed_18 rfl rfl ⟨rfl, rfl⟩
set_option maxRecDepth 4000 in
theorem k_setProduct_1 {G : GI} {S : Hp} {o : Nat} (ho : OfS S o) {x : Int32} (hx : ¬ vp_in x 4) {y z z2 : Int32} : Fn m_X7_setProduct G [.ref (o), .int (x), .int (y), .int (z), .int (z2)] S (some (.int ((-1)))) S := by
  refine Cn.of rfl (by decide) (Nat.le_of_ble_eq_true rfl) (fun hN hM => ?_)
  show Wx _ G _ 0 [(0, .ref (o)), (1, .int (x)), (2, .int (y)), (3, .int (z)), (4, .int (z2))] [] _
  refine r_aload_n dX7_setProduct_0 rfl 0 rfl ?_
  refine r_iload_n dX7_setProduct_1 rfl 1 rfl ?_
  refine r_fnV (M2 := m_X7_productAt) (As := [.int (x)]) (rest := []) (v := some (.null)) dX7_setProduct_2 cc_X7_setProduct_75 rfl rfl rfl (Nat.le_of_ble_eq_true rfl) ho.1 rfl rfl (by decide) (k_productAt_no ho hx) rfl ?_
  refine r_astoreN (lv' := [(5, .null), (0, .ref (o)), (1, .int (x)), (2, .int (y)), (3, .int (z)), (4, .int (z2))]) dX7_setProduct_5 (by decide) rfl ?_
  refine r_aloadN dX7_setProduct_7 0 rfl ?_
  refine r_ifnonnullN dX7_setProduct_9 ?_
  refine r_iconst (v := (-1)) dX7_setProduct_12 (by decide) ?_
  exact r_iret (ty := .int) dX7_setProduct_13 rfl rfl ⟨rfl, rfl⟩
set_option maxRecDepth 4000 in
theorem k_setProduct_0 {G : GI} {S : Hp} {o : Nat} (ho : OfS S o) {i q0 q1 q2 : Nat} (hi : i < 4) (hq0 : zI S 320 (o + 12 + i) = nI q0) (hq1 : zI S 321 (o + 12 + i) = nI q1) (hq2 : zI S 322 (o + 12 + i) = nI q2) {x y z : Nat} (hx : x < 31) (hy : y < 16) (hz : z < 16) : Fn m_X7_setProduct G [.ref (o), .int (nI (i)), .int (nI (x)), .int (nI (y)), .int (nI (z))] S (some (.int (nI (q0)))) (uI (uI (uI S 320 (o + 12 + i) (nI x)) 321 (o + 12 + i) (nI y)) 322 (o + 12 + i) (nI z)) := by
  refine Cn.of rfl (by decide) (Nat.le_of_ble_eq_true rfl) (fun hN hM => ?_)
  show Wx _ G _ 0 [(0, .ref (o)), (1, .int (nI (i))), (2, .int (nI (x))), (3, .int (nI (y))), (4, .int (nI (z)))] [] _
  refine r_aload_n dX7_setProduct_0 rfl 0 rfl ?_
  refine r_iload_n dX7_setProduct_1 rfl 1 rfl ?_
  refine r_fnV (M2 := m_X7_productAt) (As := [.int (nI (i))]) (rest := []) (v := some (.ref (o + 12 + i))) dX7_setProduct_2 cc_X7_setProduct_75 rfl rfl rfl (Nat.le_of_ble_eq_true rfl) ho.1 rfl rfl (by decide) (k_productAt ho (by omega)) rfl ?_
  refine r_astore (lv' := [(5, .ref (o + 12 + i)), (0, .ref (o)), (1, .int (nI (i))), (2, .int (nI (x))), (3, .int (nI (y))), (4, .int (nI (z)))]) dX7_setProduct_5 (by decide) rfl ?_
  refine r_aload dX7_setProduct_7 0 rfl ?_
  refine r_ifnonnull (tgt := 14) dX7_setProduct_9 (by decide) ?_
  refine r_iload_n dX7_setProduct_14 rfl 3 rfl ?_
  refine r_if_ltN (tgt := 46) dX7_setProduct_15 (by decide) (by omega) ?_
  refine r_iload_n dX7_setProduct_18 rfl 3 rfl ?_
  refine r_bipush (v := nI 30) dX7_setProduct_19 (by decide) ?_
  refine r_icmp_gtN (tgt := 46) dX7_setProduct_21 (by decide) (by omega) (by omega) (fun h21 => ?_) (fun h21 => ?_)
  · exact absurd h21 (by omega)
  · refine r_iload_n dX7_setProduct_24 rfl 4 rfl ?_
    refine r_if_ltN (tgt := 46) dX7_setProduct_25 (by decide) (by omega) ?_
    refine r_iload_n dX7_setProduct_28 rfl 4 rfl ?_
    refine r_bipush (v := nI 15) dX7_setProduct_29 (by decide) ?_
    refine r_icmp_gtN (tgt := 46) dX7_setProduct_31 (by decide) (by omega) (by omega) (fun h31 => ?_) (fun h31 => ?_)
    · exact absurd h31 (by omega)
    · refine r_iload dX7_setProduct_34 5 rfl ?_
      refine r_if_ltN (tgt := 46) dX7_setProduct_36 (by decide) (by omega) ?_
      refine r_iload dX7_setProduct_39 5 rfl ?_
      refine r_bipush (v := nI 15) dX7_setProduct_41 (by decide) ?_
      refine r_icmp_leN (tgt := 49) dX7_setProduct_43 (by decide) (by omega) (by omega) (fun h43 => ?_) (fun h43 => ?_)
      · refine r_aload dX7_setProduct_49 0 rfl ?_
        refine r_getI (ci := 10) (k := 0) dX7_setProduct_51 fr_X7_92 (ho.2.2.2.2.2.2.2.2 i (by omega)).2 rfl ?_
        refine Wx.top hq0 ?_
        refine r_istore (lv' := [(6, .int (nI (q0))), (5, .ref (o + 12 + i)), (0, .ref (o)), (1, .int (nI (i))), (2, .int (nI (x))), (3, .int (nI (y))), (4, .int (nI (z)))]) dX7_setProduct_54 (by decide) rfl ?_
        refine r_aload dX7_setProduct_56 1 rfl ?_
        refine r_iload_n dX7_setProduct_58 rfl 4 rfl ?_
        refine r_putI (ci := 10) (k := 0) dX7_setProduct_59 fw_X7_setProduct_92 (ho.2.2.2.2.2.2.2.2 i (by omega)).2 rfl rfl rfl ?_
        refine r_aload dX7_setProduct_62 1 rfl ?_
        refine r_iload_n dX7_setProduct_64 rfl 5 rfl ?_
        refine r_putI (ci := 10) (k := 1) dX7_setProduct_65 fw_X7_setProduct_79 (ho.2.2.2.2.2.2.2.2 i (by omega)).2 rfl rfl rfl ?_
        refine r_aload dX7_setProduct_68 1 rfl ?_
        refine r_iload dX7_setProduct_70 6 rfl ?_
        refine r_putI (ci := 10) (k := 2) dX7_setProduct_72 fw_X7_setProduct_95 (ho.2.2.2.2.2.2.2.2 i (by omega)).2 rfl rfl rfl ?_
        refine r_iload dX7_setProduct_75 0 rfl ?_
        exact r_iret (ty := .int) dX7_setProduct_77 rfl rfl ⟨rfl, rfl⟩
      · exact absurd h43 (by omega)
/-- a lot's shape: eight cells in a row -/
def LoS (S : Hp) (a : Nat) : Prop := zT S a = 8 ∧ (zP S 234 a = some (a + 1) ∧ zP S 235 a = some (a + 2) ∧ zP S 236 a = some (a + 3) ∧ zP S 237 a = some (a + 4) ∧ zP S 238 a = some (a + 5) ∧ zP S 239 a = some (a + 6) ∧ zP S 240 a = some (a + 7)) ∧ (zT S (a + 1) = 101 ∧ zN S (a + 1) = 3) ∧ (zT S (a + 2) = 101 ∧ zN S (a + 2) = 200) ∧ (zT S (a + 3) = 101 ∧ zN S (a + 3) = 200) ∧ (zT S (a + 4) = 101 ∧ zN S (a + 4) = 200) ∧ (zT S (a + 5) = 101 ∧ zN S (a + 5) = 200) ∧ (zT S (a + 6) = 101 ∧ zN S (a + 6) = 200) ∧ (zT S (a + 7) = 101 ∧ zN S (a + 7) = 200)
set_option maxRecDepth 4000 in
theorem k_has_1 {G : GI} {S : Hp} {a : Nat} (ha : LoS S a) {n : Nat} (hn : zI S 226 a = nI n) (hn2 : n ≤ 200) {u : Nat} (hu : u < n) : Fn m_X5_has G [.ref (a), .int (nI (u))] S (some (.int (nI (1)))) S := by
  refine Cn.of rfl (by decide) (Nat.le_of_ble_eq_true rfl) (fun hN hM => ?_)
  show Wx _ G _ 0 [(0, .ref (a)), (1, .int (nI (u)))] [] _
  refine r_iload_n dX5_has_0 rfl 1 rfl ?_
  refine r_if_ltN (tgt := 16) dX5_has_1 (by decide) (by omega) ?_
  refine r_iload_n dX5_has_4 rfl 1 rfl ?_
  refine r_aload_n dX5_has_5 rfl 0 rfl ?_
  refine r_getI (ci := 7) (k := 2) dX5_has_6 fr_X5_46 ha.1 rfl ?_
  refine Wx.top hn ?_
  refine r_icmp_geN (tgt := 16) dX5_has_9 (by decide) (by omega) (by omega) (fun h9 => ?_) (fun h9 => ?_)
  · exact absurd h9 (by omega)
  · refine r_iconst (v := nI 1) dX5_has_12 (by decide) ?_
    refine r_goto (tgt := 17) dX5_has_13 (by decide) ?_
    exact r_iret (ty := .boolean) dX5_has_17 rfl (by decide) ⟨rfl, rfl⟩
set_option maxRecDepth 4000 in
theorem k_has_0 {G : GI} {S : Hp} {a : Nat} (ha : LoS S a) {n : Nat} (hn : zI S 226 a = nI n) (hn2 : n ≤ 200) {x : Int32} (hx : ¬ vp_in x n) : Fn m_X5_has G [.ref (a), .int (x)] S (some (.int (nI (0)))) S := by
  refine Cn.of rfl (by decide) (Nat.le_of_ble_eq_true rfl) (fun hN hM => ?_)
  show Wx _ G _ 0 [(0, .ref (a)), (1, .int (x))] [] _
  refine r_iload_n dX5_has_0 rfl 1 rfl ?_
  refine r_if_lt (tgt := 16) dX5_has_1 (by decide) (fun h1 => ?_) (fun h1 => ?_)
  · refine r_iconst (v := nI 0) dX5_has_16 (by decide) ?_
    exact r_iret (ty := .boolean) dX5_has_17 rfl (by decide) ⟨rfl, rfl⟩
  · refine r_iload_n dX5_has_4 rfl 1 rfl ?_
    refine r_aload_n dX5_has_5 rfl 0 rfl ?_
    refine r_getI (ci := 7) (k := 2) dX5_has_6 fr_X5_46 ha.1 rfl ?_
    refine Wx.top hn ?_
    refine r_icmp_ge (tgt := 16) dX5_has_9 (by decide) (fun h9 => ?_) (fun h9 => ?_)
    · refine r_iconst (v := nI 0) dX5_has_16 (by decide) ?_
      exact r_iret (ty := .boolean) dX5_has_17 rfl (by decide) ⟨rfl, rfl⟩
    · exact (vp_no (by omega) hx h1 h9).elim
set_option maxRecDepth 4000 in
theorem k_unitsIn {G : GI} {S : Hp} {a : Nat} (ha : LoS S a) {n : Nat} (hn : zI S 226 a = nI n) (hn2 : n ≤ 200) {st : Nat → Nat} (hst : ∀ u, u < n → zA S (a + 2) u = nI (st u)) (hs8 : ∀ u, u < n → st u < 8) {x : Nat} (hx : x < 8) : Fn m_X5_unitsIn G [.ref (a), .int (nI (x))] S (some (.int (nI (cnt (fun u => st u = x) n)))) S := by
  refine Cn.of rfl (by decide) (Nat.le_of_ble_eq_true rfl) (fun hN hM => ?_)
  show Wx _ G _ 0 [(0, .ref (a)), (1, .int (nI (x)))] [] _
  refine r_iconst (v := nI 0) dX5_unitsIn_0 (by decide) ?_
  refine r_istore_n (lv' := [(2, .int (nI (0))), (0, .ref (a)), (1, .int (nI (x)))]) dX5_unitsIn_1 rfl (by decide) rfl ?_
  refine r_iconst (v := nI 0) dX5_unitsIn_2 (by decide) ?_
  refine r_istore_n (lv' := [(3, .int (nI (0))), (2, .int (nI (0))), (0, .ref (a)), (1, .int (nI (x)))]) dX5_unitsIn_3 rfl (by decide) rfl ?_
  refine Wx.sub [2, 3, 1, 0] rfl ?_
  refine Wx.loop (fun u => S) (fun u => [(0, .ref (a)), (1, .int (nI (x))), (2, .int (nI (cnt (fun u => st u = x) u))), (3, .int (nI (u)))]) (n) (0) (Nat.zero_le _) (fun u hge hle next => ?_)
  show Wx _ G (S) 4 [(0, .ref (a)), (1, .int (nI (x))), (2, .int (nI (cnt (fun u => st u = x) u))), (3, .int (nI (u)))] [] _
  refine r_iload_n dX5_unitsIn_4 rfl 3 rfl ?_
  refine r_aload_n dX5_unitsIn_5 rfl 0 rfl ?_
  refine r_getI (ci := 7) (k := 2) dX5_unitsIn_6 fr_X5_46 ha.1 rfl ?_
  refine Wx.top hn ?_
  refine r_icmp_geN (tgt := 31) dX5_unitsIn_9 (by decide) (by (first | omega | (have := hs8 u (by omega); omega))) (by (first | omega | (have := hs8 u (by omega); omega))) (fun h9 => ?_) (fun h9 => ?_)
  · refine r_iload_n dX5_unitsIn_31 rfl 2 rfl ?_
    obtain rfl : u = n := by omega
    exact r_iret (ty := .int) dX5_unitsIn_32 rfl rfl ⟨rfl, rfl⟩
  · refine r_aload_n dX5_unitsIn_12 rfl 0 rfl ?_
    refine r_getR (ci := 7) (k := 11) (b := a + 2) dX5_unitsIn_13 fr_X5_15 ha.1 rfl ha.2.1.2.1 ?_
    refine r_iload_n dX5_unitsIn_16 rfl 3 rfl ?_
    refine r_iald dX5_unitsIn_17 ha.2.2.2.1.1 (by rw [show zN S (a + 2) = 200 from ha.2.2.2.1.2]; exact vp_in_nI (by (first | omega | (have := hs8 u (by omega); omega))) (by decide)) ?_
    refine Wx.top (congrArg (zA _ _) (nI_clamp (by (first | omega | (have := hs8 u (by omega); omega))))) ?_
    refine Wx.top (hst _ (by omega)) ?_
    refine r_iload_n dX5_unitsIn_18 rfl 1 rfl ?_
    refine r_icmp_neN (tgt := 25) dX5_unitsIn_19 (by decide) (by (first | omega | (have := hs8 u (by omega); omega))) (by (first | omega | (have := hs8 u (by omega); omega))) (fun h19 => ?_) (fun h19 => ?_)
    · refine r_iincN (k := 1) (lv' := [(3, .int (nI (u + 1))), (0, .ref (a)), (1, .int (nI (x))), (2, .int (nI (cnt (fun u => st u = x) u)))]) dX5_unitsIn_25 (by decide) 3 rfl (by decide) rfl ?_
      refine r_goto (tgt := 4) dX5_unitsIn_28 (by decide) ?_
      refine Wx.sub [1, 2, 3, 0] rfl ?_
      have n2 := next (by omega)
      rw [cnt_f (p := fun u => st u = x) h19] at n2
      exact n2
    · refine r_iincN (k := 1) (lv' := [(2, .int (nI (cnt (fun u => st u = x) u + 1))), (0, .ref (a)), (1, .int (nI (x))), (3, .int (nI (u)))]) dX5_unitsIn_22 (by decide) 2 rfl (by decide) rfl ?_
      refine r_iincN (k := 1) (lv' := [(3, .int (nI (u + 1))), (2, .int (nI (cnt (fun u => st u = x) u + 1))), (0, .ref (a)), (1, .int (nI (x)))]) dX5_unitsIn_25 (by decide) 3 rfl (by decide) rfl ?_
      refine r_goto (tgt := 4) dX5_unitsIn_28 (by decide) ?_
      refine Wx.sub [2, 3, 1, 0] rfl ?_
      have n2 := next (by omega)
      rw [cnt_t (p := fun u => st u = x) h19] at n2
      exact n2
set_option maxRecDepth 4000 in
theorem k_isBad {G : GI} {S : Hp} {a : Nat} (ha : LoS S a) {n : Nat} (hn : zI S 226 a = nI n) (hn2 : n ≤ 200) {df : Nat → Nat} (hdf : ∀ u, u < n → zA S (a + 3) u = nI (df u)) (hd16 : ∀ u, u < n → df u < 16) {u ks : Nat} (hu : u < n) (hk : ks < 16) : Fn m_X5_isBad G [.ref (a), .int (nI (u)), .int (nI (ks))] S (some (.int (bI (¬ df u &&& ks = 0)))) S := by
  refine Cn.of rfl (by decide) (Nat.le_of_ble_eq_true rfl) (fun hN hM => ?_)
  show Wx _ G _ 0 [(0, .ref (a)), (1, .int (nI (u))), (2, .int (nI (ks)))] [] _
  refine r_aload_n dX5_isBad_0 rfl 0 rfl ?_
  refine r_iload_n dX5_isBad_1 rfl 1 rfl ?_
  refine r_fnV (M2 := m_X5_has) (As := [.int (nI (u))]) (rest := []) (v := some (.int (nI (1)))) dX5_isBad_2 cc_X5_isBad_76 rfl rfl rfl (Nat.le_of_ble_eq_true rfl) ha.1 rfl rfl (by decide) (k_has_1 ha hn hn2 (by omega)) rfl ?_
  refine r_if_eqN (tgt := 23) dX5_isBad_5 (by decide) (by (first | omega | (have := hd16 u hu; omega) | (have := and16 (a := df u) hk; omega))) (fun zz5 => ?_) (fun zz5 => ?_)
  · exact absurd zz5 (by decide)
  · refine r_aload_n dX5_isBad_8 rfl 0 rfl ?_
    refine r_getR (ci := 7) (k := 12) (b := a + 3) dX5_isBad_9 fr_X5_18 ha.1 rfl ha.2.1.2.2.1 ?_
    refine r_iload_n dX5_isBad_12 rfl 1 rfl ?_
    refine r_iald dX5_isBad_13 ha.2.2.2.2.1.1 (by rw [show zN S (a + 3) = 200 from ha.2.2.2.2.1.2]; exact vp_in_nI (by (first | omega | (have := hd16 u hu; omega) | (have := and16 (a := df u) hk; omega))) (by decide)) ?_
    refine Wx.top (congrArg (zA _ _) (nI_clamp (by (first | omega | (have := hd16 u hu; omega) | (have := and16 (a := df u) hk; omega))))) ?_
    refine Wx.top (hdf _ (by omega)) ?_
    refine r_iload_n dX5_isBad_14 rfl 2 rfl ?_
    refine r_iandN dX5_isBad_15 (by (first | omega | (have := hd16 u hu; omega) | (have := and16 (a := df u) hk; omega))) (by (first | omega | (have := hd16 u hu; omega) | (have := and16 (a := df u) hk; omega))) ?_
    refine r_if_eqN (tgt := 23) dX5_isBad_16 (by decide) (by (first | omega | (have := hd16 u hu; omega) | (have := and16 (a := df u) hk; omega))) (fun h16 => ?_) (fun h16 => ?_)
    · refine r_iconst (v := nI 0) dX5_isBad_23 (by decide) ?_
      exact r_iret (ty := .boolean) dX5_isBad_24 rfl (by decide) ⟨congrArg (fun x => Sum.inl (some (Value.int x))) (bI_f (fun q => q h16)).symm, rfl⟩
    · refine r_iconst (v := nI 1) dX5_isBad_19 (by decide) ?_
      refine r_goto (tgt := 24) dX5_isBad_20 (by decide) ?_
      exact r_iret (ty := .boolean) dX5_isBad_24 rfl (by decide) ⟨congrArg (fun x => Sum.inl (some (Value.int x))) (bI_t h16).symm, rfl⟩
set_option maxRecDepth 4000 in
theorem k_badUnitsIn {G : GI} {S : Hp} {a : Nat} (ha : LoS S a) {n : Nat} (hn : zI S 226 a = nI n) (hn2 : n ≤ 200) {st : Nat → Nat} (hst : ∀ u, u < n → zA S (a + 2) u = nI (st u)) (hs8 : ∀ u, u < n → st u < 8) {df : Nat → Nat} (hdf : ∀ u, u < n → zA S (a + 3) u = nI (df u)) (hd16 : ∀ u, u < n → df u < 16) {x ks : Nat} (hx : x < 8) (hk : ks < 16) : Fn m_X5_badUnitsIn G [.ref (a), .int (nI (x)), .int (nI (ks))] S (some (.int (nI (cnt (fun u => st u = x ∧ ¬ df u &&& ks = 0) n)))) S := by
  refine Cn.of rfl (by decide) (Nat.le_of_ble_eq_true rfl) (fun hN hM => ?_)
  show Wx _ G _ 0 [(0, .ref (a)), (1, .int (nI (x))), (2, .int (nI (ks)))] [] _
  refine r_iconst (v := nI 0) dX5_badUnitsIn_0 (by decide) ?_
  refine r_istore_n (lv' := [(3, .int (nI (0))), (0, .ref (a)), (1, .int (nI (x))), (2, .int (nI (ks)))]) dX5_badUnitsIn_1 rfl (by decide) rfl ?_
  refine r_iconst (v := nI 0) dX5_badUnitsIn_2 (by decide) ?_
  refine r_istore (lv' := [(4, .int (nI (0))), (3, .int (nI (0))), (0, .ref (a)), (1, .int (nI (x))), (2, .int (nI (ks)))]) dX5_badUnitsIn_3 (by decide) rfl ?_
  refine Wx.sub [2, 3, 4, 1, 0] rfl ?_
  refine Wx.loop (fun u => S) (fun u => [(0, .ref (a)), (1, .int (nI (x))), (2, .int (nI (ks))), (3, .int (nI (cnt (fun u => st u = x ∧ ¬ df u &&& ks = 0) u))), (4, .int (nI (u)))]) (n) (0) (Nat.zero_le _) (fun u hge hle next => ?_)
  show Wx _ G (S) 5 [(0, .ref (a)), (1, .int (nI (x))), (2, .int (nI (ks))), (3, .int (nI (cnt (fun u => st u = x ∧ ¬ df u &&& ks = 0) u))), (4, .int (nI (u)))] [] _
  refine r_iload dX5_badUnitsIn_5 4 rfl ?_
  refine r_aload_n dX5_badUnitsIn_7 rfl 0 rfl ?_
  refine r_getI (ci := 7) (k := 2) dX5_badUnitsIn_8 fr_X5_46 ha.1 rfl ?_
  refine Wx.top hn ?_
  refine r_icmp_geN (tgt := 44) dX5_badUnitsIn_11 (by decide) (by (first | omega | (have := hs8 u (by omega); omega))) (by (first | omega | (have := hs8 u (by omega); omega))) (fun h11 => ?_) (fun h11 => ?_)
  · refine r_iload_n dX5_badUnitsIn_44 rfl 3 rfl ?_
    obtain rfl : u = n := by omega
    exact r_iret (ty := .int) dX5_badUnitsIn_45 rfl rfl ⟨rfl, rfl⟩
  · refine r_aload_n dX5_badUnitsIn_14 rfl 0 rfl ?_
    refine r_getR (ci := 7) (k := 11) (b := a + 2) dX5_badUnitsIn_15 fr_X5_15 ha.1 rfl ha.2.1.2.1 ?_
    refine r_iload dX5_badUnitsIn_18 4 rfl ?_
    refine r_iald dX5_badUnitsIn_20 ha.2.2.2.1.1 (by rw [show zN S (a + 2) = 200 from ha.2.2.2.1.2]; exact vp_in_nI (by (first | omega | (have := hs8 u (by omega); omega))) (by decide)) ?_
    refine Wx.top (congrArg (zA _ _) (nI_clamp (by (first | omega | (have := hs8 u (by omega); omega))))) ?_
    refine Wx.top (hst _ (by omega)) ?_
    refine r_iload_n dX5_badUnitsIn_21 rfl 1 rfl ?_
    refine r_icmp_neN (tgt := 38) dX5_badUnitsIn_22 (by decide) (by (first | omega | (have := hs8 u (by omega); omega))) (by (first | omega | (have := hs8 u (by omega); omega))) (fun h22 => ?_) (fun h22 => ?_)
    · refine r_iincN (k := 1) (lv' := [(4, .int (nI (u + 1))), (0, .ref (a)), (1, .int (nI (x))), (2, .int (nI (ks))), (3, .int (nI (cnt (fun u => st u = x ∧ ¬ df u &&& ks = 0) u)))]) dX5_badUnitsIn_38 (by decide) 4 rfl (by decide) rfl ?_
      refine r_goto (tgt := 5) dX5_badUnitsIn_41 (by decide) ?_
      refine Wx.sub [1, 2, 3, 4, 0] rfl ?_
      have n2 := next (by omega)
      rw [cnt_f (p := fun u => st u = x ∧ ¬ df u &&& ks = 0) (fun q => h22 q.1)] at n2
      exact n2
    · refine r_aload_n dX5_badUnitsIn_25 rfl 0 rfl ?_
      refine r_iload dX5_badUnitsIn_26 4 rfl ?_
      refine r_iload_n dX5_badUnitsIn_28 rfl 2 rfl ?_
      refine r_fnV (M2 := m_X5_isBad) (As := [.int (nI (u)), .int (nI (ks))]) (rest := []) (v := some (.int (bI (¬ df u &&& ks = 0)))) dX5_badUnitsIn_29 cc_X5_badUnitsIn_80 rfl rfl rfl (Nat.le_of_ble_eq_true rfl) ha.1 rfl rfl (by decide) (k_isBad ha hn hn2 hdf hd16 (by omega) hk) rfl ?_
      refine r_if_eqB (tgt := 38) dX5_badUnitsIn_32 (by decide) (fun h32 => ?_) (fun h32 => ?_)
      · refine r_iincN (k := 1) (lv' := [(4, .int (nI (u + 1))), (0, .ref (a)), (1, .int (nI (x))), (2, .int (nI (ks))), (3, .int (nI (cnt (fun u => st u = x ∧ ¬ df u &&& ks = 0) u)))]) dX5_badUnitsIn_38 (by decide) 4 rfl (by decide) rfl ?_
        refine r_goto (tgt := 5) dX5_badUnitsIn_41 (by decide) ?_
        refine Wx.sub [1, 2, 3, 4, 0] rfl ?_
        have n2 := next (by omega)
        rw [cnt_f (p := fun u => st u = x ∧ ¬ df u &&& ks = 0) (fun q => h32 q.2)] at n2
        exact n2
      · refine r_iincN (k := 1) (lv' := [(3, .int (nI (cnt (fun u => st u = x ∧ ¬ df u &&& ks = 0) u + 1))), (0, .ref (a)), (1, .int (nI (x))), (2, .int (nI (ks))), (4, .int (nI (u)))]) dX5_badUnitsIn_35 (by decide) 3 rfl (by decide) rfl ?_
        refine r_iincN (k := 1) (lv' := [(4, .int (nI (u + 1))), (3, .int (nI (cnt (fun u => st u = x ∧ ¬ df u &&& ks = 0) u + 1))), (0, .ref (a)), (1, .int (nI (x))), (2, .int (nI (ks)))]) dX5_badUnitsIn_38 (by decide) 4 rfl (by decide) rfl ?_
        refine r_goto (tgt := 5) dX5_badUnitsIn_41 (by decide) ?_
        refine Wx.sub [2, 3, 4, 1, 0] rfl ?_
        have n2 := next (by omega)
        rw [cnt_t (p := fun u => st u = x ∧ ¬ df u &&& ks = 0) ⟨h22, h32⟩] at n2
        exact n2
set_option maxRecDepth 4000 in
theorem j_max {G : GI} {S : Hp} {x y : Nat} (hx : x < 2 ^ 31) (hy : y < 2 ^ 31) : Fn m_J9_max_7cf53 G [.int (nI x), .int (nI y)] S (some (.int (nI (Nat.max x y)))) S := by
  refine Cn.ofF rfl (by decide +kernel) (Nat.le_of_ble_eq_true rfl) (fun hN hM => ?_)
  show Wx _ G _ 0 [(0, .int (nI (x))), (1, .int (nI (y)))] [] _
  refine r_iload_n dJ9_max_7cf53_0 rfl 0 rfl ?_
  refine r_iload_n dJ9_max_7cf53_1 rfl 1 rfl ?_
  refine r_icmp_ltN (tgt := 9) dJ9_max_7cf53_2 (by decide) (by omega) (by omega) (fun h2 => ?_) (fun h2 => ?_)
  · refine r_iload_n dJ9_max_7cf53_9 rfl 1 rfl ?_
    exact r_iret (ty := .int) dJ9_max_7cf53_10 rfl rfl ⟨congrArg (fun x => Sum.inl (some (Value.int (nI x)))) (Nat.max_eq_right (by omega) : Nat.max x y = y).symm, rfl⟩
  · refine r_iload_n dJ9_max_7cf53_5 rfl 0 rfl ?_
    refine r_goto (tgt := 10) dJ9_max_7cf53_6 (by decide) ?_
    exact r_iret (ty := .int) dJ9_max_7cf53_10 rfl rfl ⟨congrArg (fun x => Sum.inl (some (Value.int (nI x)))) (Nat.max_eq_left (by omega) : Nat.max x y = x).symm, rfl⟩
set_option maxRecDepth 4000 in
theorem j_min {G : GI} {S : Hp} {x y : Nat} (hx : x < 2 ^ 31) (hy : y < 2 ^ 31) : Fn m_J9_min_7cf53 G [.int (nI x), .int (nI y)] S (some (.int (nI (Nat.min x y)))) S := by
  refine Cn.ofF rfl (by decide +kernel) (Nat.le_of_ble_eq_true rfl) (fun hN hM => ?_)
  show Wx _ G _ 0 [(0, .int (nI (x))), (1, .int (nI (y)))] [] _
  refine r_iload_n dJ9_min_7cf53_0 rfl 0 rfl ?_
  refine r_iload_n dJ9_min_7cf53_1 rfl 1 rfl ?_
  refine r_icmp_gtN (tgt := 9) dJ9_min_7cf53_2 (by decide) (by omega) (by omega) (fun h2 => ?_) (fun h2 => ?_)
  · refine r_iload_n dJ9_min_7cf53_9 rfl 1 rfl ?_
    exact r_iret (ty := .int) dJ9_min_7cf53_10 rfl rfl ⟨congrArg (fun x => Sum.inl (some (Value.int (nI x)))) (Nat.min_eq_right (by omega) : Nat.min x y = y).symm, rfl⟩
  · refine r_iload_n dJ9_min_7cf53_5 rfl 0 rfl ?_
    refine r_goto (tgt := 10) dJ9_min_7cf53_6 (by decide) ?_
    exact r_iret (ty := .int) dJ9_min_7cf53_10 rfl rfl ⟨congrArg (fun x => Sum.inl (some (Value.int (nI x)))) (Nat.min_eq_left (by omega) : Nat.min x y = x).symm, rfl⟩
set_option maxRecDepth 4000 in
theorem k_lotAt {G : GI} {S : Hp} {o : Nat} (ho : OfS S o) {A : Nat → Nat} {n : Nat} (hn : zI S 293 o = nI n) (h24 : n ≤ 24) (hA : ∀ i, i < n → zQ S (o + 3) i = some (A i)) {i : Nat} (hi : i < n) : Fn m_X7_lotAt G [.ref (o), .int (nI (i))] S (some (.ref (A i))) S := by
  refine Cn.of rfl (by decide) (Nat.le_of_ble_eq_true rfl) (fun hN hM => ?_)
  show Wx _ G _ 0 [(0, .ref (o)), (1, .int (nI (i)))] [] _
  refine r_iload_n dX7_lotAt_0 rfl 1 rfl ?_
  refine r_if_ltN (tgt := 30) dX7_lotAt_1 (by decide) (by omega) ?_
  refine r_iload_n dX7_lotAt_4 rfl 1 rfl ?_
  refine r_aload_n dX7_lotAt_5 rfl 0 rfl ?_
  refine r_getI (ci := 9) (k := 5) dX7_lotAt_6 fr_X7_49 ho.1 rfl ?_
  refine Wx.top hn ?_
  refine r_icmp_geN (tgt := 30) dX7_lotAt_9 (by decide) (by omega) (by omega) (fun h9 => ?_) (fun h9 => ?_)
  · exact absurd h9 (by omega)
  · refine r_iload_n dX7_lotAt_12 rfl 1 rfl ?_
    refine r_aload_n dX7_lotAt_13 rfl 0 rfl ?_
    refine r_getR (ci := 9) (k := 2) (b := o + 3) dX7_lotAt_14 fr_X7_25 ho.1 rfl ho.2.1.2.2.1 ?_
    refine r_alenQ dX7_lotAt_17 ho.2.2.2.2.1.1 (by decide) (by decide) ?_
    refine Wx.top (congrArg nI ho.2.2.2.2.1.2) ?_
    refine r_icmp_geN (tgt := 30) dX7_lotAt_18 (by decide) (by omega) (by omega) (fun h18 => ?_) (fun h18 => ?_)
    · exact absurd h18 (by omega)
    · refine r_aload_n dX7_lotAt_21 rfl 0 rfl ?_
      refine r_getR (ci := 9) (k := 2) (b := o + 3) dX7_lotAt_22 fr_X7_25 ho.1 rfl ho.2.1.2.2.1 ?_
      refine r_iload_n dX7_lotAt_25 rfl 1 rfl ?_
      refine r_aaldR (b := A i) dX7_lotAt_26 ho.2.2.2.2.1.1 (by decide) (by decide) (by rw [show zN S (o + 3) = 24 from ho.2.2.2.2.1.2]; exact vp_in_nI (by omega) (by decide)) (by rw [nI_clamp (by omega)]; exact hA i (by omega)) ?_
      refine r_goto (tgt := 31) dX7_lotAt_27 (by decide) ?_
      exact r_aret (v := some (A i)) dX7_lotAt_31 rfl (Or.inl ⟨_, rfl⟩) ⟨rfl, rfl⟩
set_option maxRecDepth 4000 in
theorem k_lotAt_no {G : GI} {S : Hp} {o : Nat} (ho : OfS S o) {n : Nat} (hn : zI S 293 o = nI n) (h24 : n ≤ 24) {x : Int32} (hx : ¬ vp_in x n) : Fn m_X7_lotAt G [.ref (o), .int (x)] S (some (.null)) S := by
  refine Cn.of rfl (by decide) (Nat.le_of_ble_eq_true rfl) (fun hN hM => ?_)
  show Wx _ G _ 0 [(0, .ref (o)), (1, .int (x))] [] _
  refine r_iload_n dX7_lotAt_0 rfl 1 rfl ?_
  refine r_if_lt (tgt := 30) dX7_lotAt_1 (by decide) (fun h1 => ?_) (fun h1 => ?_)
  · refine r_null dX7_lotAt_30 ?_
    exact r_aret (v := none) dX7_lotAt_31 rfl (Or.inl ⟨_, rfl⟩) ⟨rfl, rfl⟩
  · refine r_iload_n dX7_lotAt_4 rfl 1 rfl ?_
    refine r_aload_n dX7_lotAt_5 rfl 0 rfl ?_
    refine r_getI (ci := 9) (k := 5) dX7_lotAt_6 fr_X7_49 ho.1 rfl ?_
    refine Wx.top hn ?_
    refine r_icmp_ge (tgt := 30) dX7_lotAt_9 (by decide) (fun h9 => ?_) (fun h9 => ?_)
    · refine r_null dX7_lotAt_30 ?_
      exact r_aret (v := none) dX7_lotAt_31 rfl (Or.inl ⟨_, rfl⟩) ⟨rfl, rfl⟩
    · exact (vp_no (by omega) hx h1 h9).elim
def splP (p c : Nat) : Prop := ¬ p = 0 ∧ (c + 1) % p = 0
set_option maxRecDepth 4000 in
theorem k_spoilsNext {G : GI} {S : Hp} {a : Nat} (ha : zT S a = 9) {p c : Nat} (hp : zI S 256 a = nI p) (hp50 : p ≤ 50) (hc : zI S 258 a = nI c) (hc2 : c < 2147480000) : Fn m_X6_spoilsNext G [.ref (a)] S (some (.int (bI (splP p c)))) (uI S 258 (a) (nI (c + 1))) := by
  refine Cn.of rfl (by decide) (Nat.le_of_ble_eq_true rfl) (fun hN hM => ?_)
  show Wx _ G _ 0 [(0, .ref (a))] [] _
  refine r_aload_n dX6_spoilsNext_0 rfl 0 rfl ?_
  refine r_dup dX6_spoilsNext_1 rfl ?_
  refine r_getI (ci := 8) (k := 2) dX6_spoilsNext_2 fr_X6_16 ha rfl ?_
  refine Wx.top hc ?_
  refine r_iconst (v := nI 1) dX6_spoilsNext_5 (by decide) ?_
  refine r_iaddN dX6_spoilsNext_6 ?_
  refine r_putI (ci := 8) (k := 2) dX6_spoilsNext_7 fw_X6_spoilsNext_16 ha rfl rfl rfl ?_
  refine r_aload_n dX6_spoilsNext_10 rfl 0 rfl ?_
  refine r_getI (ci := 8) (k := 0) dX6_spoilsNext_11 fr_X6_7 ha rfl ?_
  refine Wx.top (zI_un (by omega)) ?_
  refine Wx.top hp ?_
  refine r_if_leN (tgt := 33) dX6_spoilsNext_14 (by decide) (by (first | omega | (have := Nat.mod_le (c + 1) p; omega))) (fun h14 => ?_) (fun h14 => ?_)
  · refine r_iconst (v := nI 0) dX6_spoilsNext_33 (by decide) ?_
    exact r_iret (ty := .boolean) dX6_spoilsNext_34 rfl (by decide) ⟨congrArg (fun x => Sum.inl (some (Value.int x))) (bI_f (show ¬ splP p c from fun q => q.1 h14)).symm, rfl⟩
  · refine r_aload_n dX6_spoilsNext_17 rfl 0 rfl ?_
    refine r_getI (ci := 8) (k := 2) dX6_spoilsNext_18 fr_X6_16 ha rfl ?_
    refine Wx.top zI_us ?_
    refine r_aload_n dX6_spoilsNext_21 rfl 0 rfl ?_
    refine r_getI (ci := 8) (k := 0) dX6_spoilsNext_22 fr_X6_7 ha rfl ?_
    refine Wx.top (zI_un (by omega)) ?_
    refine Wx.top hp ?_
    refine r_iremN dX6_spoilsNext_25 (by (first | omega | (have := Nat.mod_le (c + 1) p; omega))) (by (first | omega | (have := Nat.mod_le (c + 1) p; omega))) (by (first | omega | (have := Nat.mod_le (c + 1) p; omega))) ?_
    refine r_if_neN (tgt := 33) dX6_spoilsNext_26 (by decide) (by (first | omega | (have := Nat.mod_le (c + 1) p; omega))) (fun h26 => ?_) (fun h26 => ?_)
    · refine r_iconst (v := nI 0) dX6_spoilsNext_33 (by decide) ?_
      exact r_iret (ty := .boolean) dX6_spoilsNext_34 rfl (by decide) ⟨congrArg (fun x => Sum.inl (some (Value.int x))) (bI_f (show ¬ splP p c from fun q => h26 q.2)).symm, rfl⟩
    · refine r_iconst (v := nI 1) dX6_spoilsNext_29 (by decide) ?_
      refine r_goto (tgt := 34) dX6_spoilsNext_30 (by decide) ?_
      exact r_iret (ty := .boolean) dX6_spoilsNext_34 rfl (by decide) ⟨congrArg (fun x => Sum.inl (some (Value.int x))) (bI_t (show splP p c from ⟨by omega, h26⟩)).symm, rfl⟩
theorem nI_inj {a b : Nat} (ha : a < 2 ^ 32) (hb : b < 2 ^ 32) (h : nI a = nI b) : a = b := by
  have := congrArg (fun x : Int32 => x.toBitVec.toNat) h
  rw [show (nI a).toBitVec.toNat = a % 2 ^ 32 from rfl, show (nI b).toBitVec.toNat = b % 2 ^ 32 from rfl] at this
  omega
set_option maxRecDepth 4000 in
theorem k_lose {G : GI} {S : Hp} {a : Nat} (ha : LoS S a) {n : Nat} (hn : zI S 226 a = nI n) (hn2 : n ≤ 200) {df : Nat → Nat} (hdf : ∀ u, u < n → zA S (a + 3) u = nI (df u)) (hd16 : ∀ u, u < n → df u < 16) {fr : Nat → Nat} (hfr : ∀ u, u < n → zA S (a + 5) u = nI (fr u)) (hf16 : ∀ u, u < n → fr u < 16) {u ks : Nat} (hu : u < n) (hk : ks < 16) : Fn m_X5_lose G [.ref (a), .int (nI (u)), .int (nI (ks))] S none (uA (uA S (a + 3) (u) (nI ((df (u)) &&& (ks ^^^ 4294967295)))) (a + 5) (u) (nI ((fr (u)) &&& (ks ^^^ 4294967295)))) := by
  refine Cn.of rfl (by decide) (Nat.le_of_ble_eq_true rfl) (fun hN hM => ?_)
  show Wx _ G _ 0 [(0, .ref (a)), (1, .int (nI (u))), (2, .int (nI (ks)))] [] _
  refine r_aload_n dX5_lose_0 rfl 0 rfl ?_
  refine r_getR (ci := 7) (k := 12) (b := a + 3) dX5_lose_1 fr_X5_18 ha.1 rfl ha.2.1.2.2.1 ?_
  refine r_iload_n dX5_lose_4 rfl 1 rfl ?_
  refine r_dup2 dX5_lose_5 rfl rfl ?_
  refine r_iald dX5_lose_6 ha.2.2.2.2.1.1 (by rw [show zN S (a + 3) = 200 from ha.2.2.2.2.1.2]; exact vp_in_nI (by (first | omega | (have := xor_b hk; have := hd16 u hu; have := hf16 u hu; omega))) (by decide)) ?_
  refine Wx.top (congrArg (zA _ _) (nI_clamp (by (first | omega | (have := xor_b hk; have := hd16 u hu; have := hf16 u hu; omega))))) ?_
  refine Wx.top (hdf _ (by omega)) ?_
  refine r_iload_n dX5_lose_7 rfl 2 rfl ?_
  refine r_iconst (v := nI 4294967295) dX5_lose_8 (by decide) ?_
  refine r_ixorN dX5_lose_9 (by (first | omega | (have := xor_b hk; have := hd16 u hu; have := hf16 u hu; omega))) (by (first | omega | (have := xor_b hk; have := hd16 u hu; have := hf16 u hu; omega))) ?_
  refine r_iandN dX5_lose_10 (by (first | omega | (have := xor_b hk; have := hd16 u hu; have := hf16 u hu; omega))) (by (first | omega | (have := xor_b hk; have := hd16 u hu; have := hf16 u hu; omega))) ?_
  refine r_iast dX5_lose_11 ha.2.2.2.2.1.1 (by rw [show zN S (a + 3) = 200 from ha.2.2.2.2.1.2]; exact vp_in_nI (by (first | omega | (have := xor_b hk; have := hd16 u hu; have := hf16 u hu; omega))) (by decide)) ?_
  refine Wx.st' (S' := uA S (a + 3) (u) (nI ((df (u)) &&& (ks ^^^ 4294967295)))) (by rw [nI_clamp (by (first | omega | (have := xor_b hk; have := hd16 u hu; have := hf16 u hu; omega)))]) ?_
  refine r_aload_n dX5_lose_12 rfl 0 rfl ?_
  refine r_getR (ci := 7) (k := 14) (b := a + 5) dX5_lose_13 fr_X5_24 ha.1 rfl ha.2.1.2.2.2.2.1 ?_
  refine r_iload_n dX5_lose_16 rfl 1 rfl ?_
  refine r_dup2 dX5_lose_17 rfl rfl ?_
  refine r_iald dX5_lose_18 ha.2.2.2.2.2.2.1.1 (by rw [show zN (uA S (a + 3) (u) (nI ((df (u)) &&& (ks ^^^ 4294967295)))) (a + 5) = 200 from ha.2.2.2.2.2.2.1.2]; exact vp_in_nI (by (first | omega | (have := xor_b hk; have := hd16 u hu; have := hf16 u hu; omega))) (by decide)) ?_
  refine Wx.top (congrArg (zA _ _) (nI_clamp (by (first | omega | (have := xor_b hk; have := hd16 u hu; have := hf16 u hu; omega))))) ?_
  refine Wx.top (zA_un (by omega)) ?_
  refine Wx.top (hfr _ (by omega)) ?_
  refine r_iload_n dX5_lose_19 rfl 2 rfl ?_
  refine r_iconst (v := nI 4294967295) dX5_lose_20 (by decide) ?_
  refine r_ixorN dX5_lose_21 (by (first | omega | (have := xor_b hk; have := hd16 u hu; have := hf16 u hu; omega))) (by (first | omega | (have := xor_b hk; have := hd16 u hu; have := hf16 u hu; omega))) ?_
  refine r_iandN dX5_lose_22 (by (first | omega | (have := xor_b hk; have := hd16 u hu; have := hf16 u hu; omega))) (by (first | omega | (have := xor_b hk; have := hd16 u hu; have := hf16 u hu; omega))) ?_
  refine r_iast dX5_lose_23 ha.2.2.2.2.2.2.1.1 (by rw [show zN (uA S (a + 3) (u) (nI ((df (u)) &&& (ks ^^^ 4294967295)))) (a + 5) = 200 from ha.2.2.2.2.2.2.1.2]; exact vp_in_nI (by (first | omega | (have := xor_b hk; have := hd16 u hu; have := hf16 u hu; omega))) (by decide)) ?_
  refine Wx.st' (S' := uA (uA S (a + 3) (u) (nI ((df (u)) &&& (ks ^^^ 4294967295)))) (a + 5) (u) (nI ((fr (u)) &&& (ks ^^^ 4294967295)))) (by rw [nI_clamp (by (first | omega | (have := xor_b hk; have := hd16 u hu; have := hf16 u hu; omega)))]) ?_
  exact r_vret dX5_lose_24 rfl ⟨rfl, rfl⟩
set_option maxRecDepth 4000 in
theorem k_spoil_n {G : GI} {S : Hp} {a : Nat} (ha : LoS S a) {n : Nat} (hn : zI S 226 a = nI n) (hn2 : n ≤ 200) {df : Nat → Nat} (hdf : ∀ u, u < n → zA S (a + 3) u = nI (df u)) (hd16 : ∀ u, u < n → df u < 16) {fr : Nat → Nat} (hfr : ∀ u, u < n → zA S (a + 5) u = nI (fr u)) (hf16 : ∀ u, u < n → fr u < 16) {u : Nat} (hu : u < n) (hb : ¬ df u &&& 8 = 0) : Fn m_X5_spoilByRepair G [.ref (a), .int (nI (u))] S none S := by
  refine Cn.of rfl (by decide) (Nat.le_of_ble_eq_true rfl) (fun hN hM => ?_)
  show Wx _ G _ 0 [(0, .ref (a)), (1, .int (nI (u)))] [] _
  refine r_bipush (v := nI 8) dX5_spoilByRepair_0 (by decide) ?_
  refine r_istore_n (lv' := [(2, .int (nI (8))), (0, .ref (a)), (1, .int (nI (u)))]) dX5_spoilByRepair_2 rfl (by decide) rfl ?_
  refine r_aload_n dX5_spoilByRepair_3 rfl 1 rfl ?_
  refine r_getR (ci := 7) (k := 12) (b := a + 3) dX5_spoilByRepair_4 fr_X5_18 ha.1 rfl ha.2.1.2.2.1 ?_
  refine r_iload_n dX5_spoilByRepair_7 rfl 2 rfl ?_
  refine r_iald dX5_spoilByRepair_8 ha.2.2.2.2.1.1 (by rw [show zN S (a + 3) = 200 from ha.2.2.2.2.1.2]; exact vp_in_nI (by (first | omega | (have := and16 (a := df u) (by decide : 8 < 16); omega) | (have := hd16 u hu; omega))) (by decide)) ?_
  refine Wx.top (congrArg (zA _ _) (nI_clamp (by (first | omega | (have := and16 (a := df u) (by decide : 8 < 16); omega) | (have := hd16 u hu; omega))))) ?_
  refine Wx.top (hdf _ (by omega)) ?_
  refine r_iload_n dX5_spoilByRepair_9 rfl 0 rfl ?_
  refine r_iandN dX5_spoilByRepair_10 (by (first | omega | (have := and16 (a := df u) (by decide : 8 < 16); omega) | (have := hd16 u hu; omega))) (by (first | omega | (have := and16 (a := df u) (by decide : 8 < 16); omega) | (have := hd16 u hu; omega))) ?_
  refine r_if_neN (tgt := 34) dX5_spoilByRepair_11 (by decide) (by (first | omega | (have := and16 (a := df u) (by decide : 8 < 16); omega) | (have := hd16 u hu; omega))) (fun h11 => ?_) (fun h11 => ?_)
  · exact r_vret dX5_spoilByRepair_34 rfl ⟨rfl, rfl⟩
  · exact absurd h11 hb
set_option maxRecDepth 4000 in
theorem k_spoil_y {G : GI} {S : Hp} {a : Nat} (ha : LoS S a) {n : Nat} (hn : zI S 226 a = nI n) (hn2 : n ≤ 200) {df : Nat → Nat} (hdf : ∀ u, u < n → zA S (a + 3) u = nI (df u)) (hd16 : ∀ u, u < n → df u < 16) {fr : Nat → Nat} (hfr : ∀ u, u < n → zA S (a + 5) u = nI (fr u)) (hf16 : ∀ u, u < n → fr u < 16) {u : Nat} (hu : u < n) (hb : df u &&& 8 = 0) : Fn m_X5_spoilByRepair G [.ref (a), .int (nI (u))] S none (uA (uA S (a + 3) (u) (nI ((df (u)) ||| 8))) (a + 5) (u) (nI ((fr (u)) ||| 8))) := by
  refine Cn.of rfl (by decide) (Nat.le_of_ble_eq_true rfl) (fun hN hM => ?_)
  show Wx _ G _ 0 [(0, .ref (a)), (1, .int (nI (u)))] [] _
  refine r_bipush (v := nI 8) dX5_spoilByRepair_0 (by decide) ?_
  refine r_istore_n (lv' := [(2, .int (nI (8))), (0, .ref (a)), (1, .int (nI (u)))]) dX5_spoilByRepair_2 rfl (by decide) rfl ?_
  refine r_aload_n dX5_spoilByRepair_3 rfl 1 rfl ?_
  refine r_getR (ci := 7) (k := 12) (b := a + 3) dX5_spoilByRepair_4 fr_X5_18 ha.1 rfl ha.2.1.2.2.1 ?_
  refine r_iload_n dX5_spoilByRepair_7 rfl 2 rfl ?_
  refine r_iald dX5_spoilByRepair_8 ha.2.2.2.2.1.1 (by rw [show zN S (a + 3) = 200 from ha.2.2.2.2.1.2]; exact vp_in_nI (by (first | omega | (have := and16 (a := df u) (by decide : 8 < 16); omega) | (have := hd16 u hu; omega) | (have := hf16 u hu; omega))) (by decide)) ?_
  refine Wx.top (congrArg (zA _ _) (nI_clamp (by (first | omega | (have := and16 (a := df u) (by decide : 8 < 16); omega) | (have := hd16 u hu; omega) | (have := hf16 u hu; omega))))) ?_
  refine Wx.top (hdf _ (by omega)) ?_
  refine r_iload_n dX5_spoilByRepair_9 rfl 0 rfl ?_
  refine r_iandN dX5_spoilByRepair_10 (by (first | omega | (have := and16 (a := df u) (by decide : 8 < 16); omega) | (have := hd16 u hu; omega) | (have := hf16 u hu; omega))) (by (first | omega | (have := and16 (a := df u) (by decide : 8 < 16); omega) | (have := hd16 u hu; omega) | (have := hf16 u hu; omega))) ?_
  refine r_if_neN (tgt := 34) dX5_spoilByRepair_11 (by decide) (by (first | omega | (have := and16 (a := df u) (by decide : 8 < 16); omega) | (have := hd16 u hu; omega) | (have := hf16 u hu; omega))) (fun h11 => ?_) (fun h11 => ?_)
  · exact absurd hb h11
  · refine r_aload_n dX5_spoilByRepair_14 rfl 1 rfl ?_
    refine r_getR (ci := 7) (k := 12) (b := a + 3) dX5_spoilByRepair_15 fr_X5_18 ha.1 rfl ha.2.1.2.2.1 ?_
    refine r_iload_n dX5_spoilByRepair_18 rfl 2 rfl ?_
    refine r_dup2 dX5_spoilByRepair_19 rfl rfl ?_
    refine r_iald dX5_spoilByRepair_20 ha.2.2.2.2.1.1 (by rw [show zN S (a + 3) = 200 from ha.2.2.2.2.1.2]; exact vp_in_nI (by (first | omega | (have := and16 (a := df u) (by decide : 8 < 16); omega) | (have := hd16 u hu; omega) | (have := hf16 u hu; omega))) (by decide)) ?_
    refine Wx.top (congrArg (zA _ _) (nI_clamp (by (first | omega | (have := and16 (a := df u) (by decide : 8 < 16); omega) | (have := hd16 u hu; omega) | (have := hf16 u hu; omega))))) ?_
    refine Wx.top (hdf _ (by omega)) ?_
    refine r_iload_n dX5_spoilByRepair_21 rfl 0 rfl ?_
    refine r_iorN dX5_spoilByRepair_22 (by (first | omega | (have := and16 (a := df u) (by decide : 8 < 16); omega) | (have := hd16 u hu; omega) | (have := hf16 u hu; omega))) (by (first | omega | (have := and16 (a := df u) (by decide : 8 < 16); omega) | (have := hd16 u hu; omega) | (have := hf16 u hu; omega))) ?_
    refine r_iast dX5_spoilByRepair_23 ha.2.2.2.2.1.1 (by rw [show zN S (a + 3) = 200 from ha.2.2.2.2.1.2]; exact vp_in_nI (by (first | omega | (have := and16 (a := df u) (by decide : 8 < 16); omega) | (have := hd16 u hu; omega) | (have := hf16 u hu; omega))) (by decide)) ?_
    refine Wx.st' (S' := uA S (a + 3) (u) (nI ((df (u)) ||| 8))) (by rw [nI_clamp (by (first | omega | (have := and16 (a := df u) (by decide : 8 < 16); omega) | (have := hd16 u hu; omega) | (have := hf16 u hu; omega)))]) ?_
    refine r_aload_n dX5_spoilByRepair_24 rfl 1 rfl ?_
    refine r_getR (ci := 7) (k := 14) (b := a + 5) dX5_spoilByRepair_25 fr_X5_24 ha.1 rfl ha.2.1.2.2.2.2.1 ?_
    refine r_iload_n dX5_spoilByRepair_28 rfl 2 rfl ?_
    refine r_dup2 dX5_spoilByRepair_29 rfl rfl ?_
    refine r_iald dX5_spoilByRepair_30 ha.2.2.2.2.2.2.1.1 (by rw [show zN (uA S (a + 3) (u) (nI ((df (u)) ||| 8))) (a + 5) = 200 from ha.2.2.2.2.2.2.1.2]; exact vp_in_nI (by (first | omega | (have := and16 (a := df u) (by decide : 8 < 16); omega) | (have := hd16 u hu; omega) | (have := hf16 u hu; omega))) (by decide)) ?_
    refine Wx.top (congrArg (zA _ _) (nI_clamp (by (first | omega | (have := and16 (a := df u) (by decide : 8 < 16); omega) | (have := hd16 u hu; omega) | (have := hf16 u hu; omega))))) ?_
    refine Wx.top (zA_un (by omega)) ?_
    refine Wx.top (hfr _ (by omega)) ?_
    refine r_iload_n dX5_spoilByRepair_31 rfl 0 rfl ?_
    refine r_iorN dX5_spoilByRepair_32 (by (first | omega | (have := and16 (a := df u) (by decide : 8 < 16); omega) | (have := hd16 u hu; omega) | (have := hf16 u hu; omega))) (by (first | omega | (have := and16 (a := df u) (by decide : 8 < 16); omega) | (have := hd16 u hu; omega) | (have := hf16 u hu; omega))) ?_
    refine r_iast dX5_spoilByRepair_33 ha.2.2.2.2.2.2.1.1 (by rw [show zN (uA S (a + 3) (u) (nI ((df (u)) ||| 8))) (a + 5) = 200 from ha.2.2.2.2.2.2.1.2]; exact vp_in_nI (by (first | omega | (have := and16 (a := df u) (by decide : 8 < 16); omega) | (have := hd16 u hu; omega) | (have := hf16 u hu; omega))) (by decide)) ?_
    refine Wx.st' (S' := uA (uA S (a + 3) (u) (nI ((df (u)) ||| 8))) (a + 5) (u) (nI ((fr (u)) ||| 8))) (by rw [nI_clamp (by (first | omega | (have := and16 (a := df u) (by decide : 8 < 16); omega) | (have := hd16 u hu; omega) | (have := hf16 u hu; omega)))]) ?_
    exact r_vret dX5_spoilByRepair_34 rfl ⟨rfl, rfl⟩
set_option maxRecDepth 4000 in
theorem k_workOn_y {G : GI} {S : Hp} {a : Nat} (ha : LoS S a) {n : Nat} (hn : zI S 226 a = nI n) (hn2 : n ≤ 200) {df : Nat → Nat} (hdf : ∀ u, u < n → zA S (a + 3) u = nI (df u)) (hd16 : ∀ u, u < n → df u < 16) {b p c kd u : Nat} (hb : zT S b = 9) (hp : zI S 256 b = nI p) (hp50 : p ≤ 50) (hc : zI S 258 b = nI c) (hc2 : c < 2147480000) (hkd : zI S 257 b = nI kd) (hk4 : kd < 4) (hu : u < n) (hs : splP p c) : Fn m_X5_workOn G [.ref (a), .int (nI (u)), .ref (b)] S none (uA (uI S 258 (b) (nI (c + 1))) (a + 3) (u) (nI ((df (u)) ||| (1 * 2 ^ kd)))) := by
  refine Cn.of rfl (by decide) (Nat.le_of_ble_eq_true rfl) (fun hN hM => ?_)
  show Wx _ G _ 0 [(0, .ref (a)), (1, .int (nI (u))), (2, .ref (b))] [] _
  refine r_iconst (v := nI 1) dX5_workOn_0 (by decide) ?_
  refine r_aload_n dX5_workOn_1 rfl 2 rfl ?_
  refine r_getI (ci := 8) (k := 1) dX5_workOn_2 fr_X5_84 hb rfl ?_
  refine Wx.top hkd ?_
  refine r_ishlN dX5_workOn_5 (by (first | omega | (have := hd16 u hu; have h9 : 2 ^ kd ≤ 2 ^ 3 := Nat.pow_le_pow_right (by decide) (by omega); omega))) (by (first | omega | (have := hd16 u hu; have h9 : 2 ^ kd ≤ 2 ^ 3 := Nat.pow_le_pow_right (by decide) (by omega); omega))) ?_
  refine r_istore_n (lv' := [(3, .int (nI (1 * 2 ^ kd))), (0, .ref (a)), (1, .int (nI (u))), (2, .ref (b))]) dX5_workOn_6 rfl (by decide) rfl ?_
  refine r_aload_n dX5_workOn_7 rfl 3 rfl ?_
  refine r_fnV (M2 := m_X6_spoilsNext) (As := []) (rest := []) (v := some (.int (bI (splP p c)))) dX5_workOn_8 cc_X5_workOn_89 rfl rfl rfl (Nat.le_of_ble_eq_true rfl) hb rfl rfl (by decide) (k_spoilsNext hb hp hp50 hc hc2) rfl ?_
  refine r_if_eqB (tgt := 32) dX5_workOn_11 (by decide) (fun h11 => ?_) (fun h11 => ?_)
  · exact absurd hs h11
  · refine r_aload_n dX5_workOn_14 rfl 1 rfl ?_
    refine r_iload_n dX5_workOn_15 rfl 2 rfl ?_
    refine r_fnV (M2 := m_X5_has) (As := [.int (nI (u))]) (rest := []) (v := some (.int (nI (1)))) dX5_workOn_16 cc_X5_workOn_76 rfl rfl rfl (Nat.le_of_ble_eq_true rfl) ha.1 rfl rfl (by decide) (k_has_1 (S := uI S 258 b (nI (c + 1))) (n := n) ha ((zI_un (by omega)).trans hn) hn2 hu) rfl ?_
    refine r_if_eqN (tgt := 32) dX5_workOn_19 (by decide) (by (first | omega | (have := hd16 u hu; have h9 : 2 ^ kd ≤ 2 ^ 3 := Nat.pow_le_pow_right (by decide) (by omega); omega))) (fun zz19 => ?_) (fun zz19 => ?_)
    · exact absurd zz19 (by decide)
    · refine r_aload_n dX5_workOn_22 rfl 1 rfl ?_
      refine r_getR (ci := 7) (k := 12) (b := a + 3) dX5_workOn_23 fr_X5_18 ha.1 rfl ha.2.1.2.2.1 ?_
      refine r_iload_n dX5_workOn_26 rfl 2 rfl ?_
      refine r_dup2 dX5_workOn_27 rfl rfl ?_
      refine r_iald dX5_workOn_28 ha.2.2.2.2.1.1 (by rw [show zN (uI S 258 (b) (nI (c + 1))) (a + 3) = 200 from ha.2.2.2.2.1.2]; exact vp_in_nI (by (first | omega | (have := hd16 u hu; have h9 : 2 ^ kd ≤ 2 ^ 3 := Nat.pow_le_pow_right (by decide) (by omega); omega))) (by decide)) ?_
      refine Wx.top (congrArg (zA _ _) (nI_clamp (by (first | omega | (have := hd16 u hu; have h9 : 2 ^ kd ≤ 2 ^ 3 := Nat.pow_le_pow_right (by decide) (by omega); omega))))) ?_
      refine Wx.top (hdf _ (by omega)) ?_
      refine r_iload_n dX5_workOn_29 rfl 0 rfl ?_
      refine r_iorN dX5_workOn_30 (by (first | omega | (have := hd16 u hu; have h9 : 2 ^ kd ≤ 2 ^ 3 := Nat.pow_le_pow_right (by decide) (by omega); omega))) (by (first | omega | (have := hd16 u hu; have h9 : 2 ^ kd ≤ 2 ^ 3 := Nat.pow_le_pow_right (by decide) (by omega); omega))) ?_
      refine r_iast dX5_workOn_31 ha.2.2.2.2.1.1 (by rw [show zN (uI S 258 (b) (nI (c + 1))) (a + 3) = 200 from ha.2.2.2.2.1.2]; exact vp_in_nI (by (first | omega | (have := hd16 u hu; have h9 : 2 ^ kd ≤ 2 ^ 3 := Nat.pow_le_pow_right (by decide) (by omega); omega))) (by decide)) ?_
      refine Wx.st' (S' := uA (uI S 258 (b) (nI (c + 1))) (a + 3) (u) (nI ((df (u)) ||| (1 * 2 ^ kd)))) (by rw [nI_clamp (by (first | omega | (have := hd16 u hu; have h9 : 2 ^ kd ≤ 2 ^ 3 := Nat.pow_le_pow_right (by decide) (by omega); omega)))]) ?_
      exact r_vret dX5_workOn_32 rfl ⟨rfl, rfl⟩
set_option maxRecDepth 4000 in
theorem k_workOn_n {G : GI} {S : Hp} {a : Nat} (ha : LoS S a) {n : Nat} (hn : zI S 226 a = nI n) (hn2 : n ≤ 200) {df : Nat → Nat} (hdf : ∀ u, u < n → zA S (a + 3) u = nI (df u)) (hd16 : ∀ u, u < n → df u < 16) {b p c kd u : Nat} (hb : zT S b = 9) (hp : zI S 256 b = nI p) (hp50 : p ≤ 50) (hc : zI S 258 b = nI c) (hc2 : c < 2147480000) (hkd : zI S 257 b = nI kd) (hk4 : kd < 4) (hu : u < n) (hs : ¬ splP p c) : Fn m_X5_workOn G [.ref (a), .int (nI (u)), .ref (b)] S none (uI S 258 (b) (nI (c + 1))) := by
  refine Cn.of rfl (by decide) (Nat.le_of_ble_eq_true rfl) (fun hN hM => ?_)
  show Wx _ G _ 0 [(0, .ref (a)), (1, .int (nI (u))), (2, .ref (b))] [] _
  refine r_iconst (v := nI 1) dX5_workOn_0 (by decide) ?_
  refine r_aload_n dX5_workOn_1 rfl 2 rfl ?_
  refine r_getI (ci := 8) (k := 1) dX5_workOn_2 fr_X5_84 hb rfl ?_
  refine Wx.top hkd ?_
  refine r_ishlN dX5_workOn_5 (by (first | omega | (have := hd16 u hu; have h9 : 2 ^ kd ≤ 2 ^ 3 := Nat.pow_le_pow_right (by decide) (by omega); omega))) (by (first | omega | (have := hd16 u hu; have h9 : 2 ^ kd ≤ 2 ^ 3 := Nat.pow_le_pow_right (by decide) (by omega); omega))) ?_
  refine r_istore_n (lv' := [(3, .int (nI (1 * 2 ^ kd))), (0, .ref (a)), (1, .int (nI (u))), (2, .ref (b))]) dX5_workOn_6 rfl (by decide) rfl ?_
  refine r_aload_n dX5_workOn_7 rfl 3 rfl ?_
  refine r_fnV (M2 := m_X6_spoilsNext) (As := []) (rest := []) (v := some (.int (bI (splP p c)))) dX5_workOn_8 cc_X5_workOn_89 rfl rfl rfl (Nat.le_of_ble_eq_true rfl) hb rfl rfl (by decide) (k_spoilsNext hb hp hp50 hc hc2) rfl ?_
  refine r_if_eqB (tgt := 32) dX5_workOn_11 (by decide) (fun h11 => ?_) (fun h11 => ?_)
  · exact r_vret dX5_workOn_32 rfl ⟨rfl, rfl⟩
  · exact absurd h11 hs
set_option maxRecDepth 4000 in
theorem k_inspectedOf {G : GI} {S : Hp} {o : Nat} (ho : OfS S o) {a p q : Nat} (ha : zT S a = 8) (hp : zI S 224 a = nI p) (hp4 : p < 4) (hq : zI S 321 (o + 12 + p) = nI q) : Fn m_X7_inspectedOf G [.ref (o), .ref (a)] S (some (.int (nI q))) S := by
  refine Cn.of rfl (by decide) (Nat.le_of_ble_eq_true rfl) (fun hN hM => ?_)
  show Wx _ G _ 0 [(0, .ref (o)), (1, .ref (a))] [] _
  refine r_aload_n dX7_inspectedOf_0 rfl 0 rfl ?_
  refine r_aload_n dX7_inspectedOf_1 rfl 1 rfl ?_
  refine r_getI (ci := 7) (k := 0) dX7_inspectedOf_2 fr_X7_72 ha rfl ?_
  refine Wx.top hp ?_
  refine r_fnV (M2 := m_X7_productAt) (As := [.int (nI (p))]) (rest := []) (v := some (.ref (o + 12 + p))) dX7_inspectedOf_5 cc_X7_inspectedOf_75 rfl rfl rfl (Nat.le_of_ble_eq_true rfl) ho.1 rfl rfl (by decide) (k_productAt ho (by omega)) rfl ?_
  refine r_astore_n (lv' := [(2, .ref (o + 12 + p)), (0, .ref (o)), (1, .ref (a))]) dX7_inspectedOf_8 rfl (by decide) rfl ?_
  refine r_aload_n dX7_inspectedOf_9 rfl 0 rfl ?_
  refine r_ifnonnull (tgt := 17) dX7_inspectedOf_10 (by decide) ?_
  refine r_aload_n dX7_inspectedOf_17 rfl 0 rfl ?_
  refine r_getI (ci := 10) (k := 1) dX7_inspectedOf_18 fr_X7_79 (ho.2.2.2.2.2.2.2.2 p (by omega)).2 rfl ?_
  refine Wx.top hq ?_
  exact r_iret (ty := .int) dX7_inspectedOf_21 rfl rfl ⟨rfl, rfl⟩
set_option maxRecDepth 4000 in
theorem k_usedIn {G : GI} {S : Hp} {a : Nat} (ha : LoS S a) {n : Nat} (hn : zI S 226 a = nI n) (hn2 : n ≤ 200) {us : Nat → Int32} (hus : ∀ u, u < n → zA S (a + 6) u = us u) {pl : Int32} {e : Nat} (he : e < n) (hue : us e = pl) (hne : ∀ v, v < e → ¬ us v = pl) : Fn m_X5_unitUsedIn G [.ref (a), .int (pl)] S (some (.int (nI e))) S := by
  refine Cn.of rfl (by decide) (Nat.le_of_ble_eq_true rfl) (fun hN hM => ?_)
  show Wx _ G _ 0 [(0, .ref (a)), (1, .int (pl))] [] _
  refine r_iconst (v := nI 0) dX5_unitUsedIn_0 (by decide) ?_
  refine r_istore_n (lv' := [(2, .int (nI (0))), (0, .ref (a)), (1, .int (pl))]) dX5_unitUsedIn_1 rfl (by decide) rfl ?_
  refine Wx.sub [1, 2, 0] rfl ?_
  refine Wx.loop (fun u => S) (fun u => [(0, .ref (a)), (1, .int (pl)), (2, .int (nI (u)))]) (e) (0) (Nat.zero_le _) (fun u hge hle next => ?_)
  show Wx _ G (S) 2 [(0, .ref (a)), (1, .int (pl)), (2, .int (nI (u)))] [] _
  refine r_iload_n dX5_unitUsedIn_2 rfl 2 rfl ?_
  refine r_aload_n dX5_unitUsedIn_3 rfl 0 rfl ?_
  refine r_getI (ci := 7) (k := 2) dX5_unitUsedIn_4 fr_X5_46 ha.1 rfl ?_
  refine Wx.top hn ?_
  refine r_icmp_geN (tgt := 28) dX5_unitUsedIn_7 (by decide) (by omega) (by omega) (fun h7 => ?_) (fun h7 => ?_)
  · exact absurd h7 (by omega)
  · refine r_aload_n dX5_unitUsedIn_10 rfl 0 rfl ?_
    refine r_getR (ci := 7) (k := 15) (b := a + 6) dX5_unitUsedIn_11 fr_X5_27 ha.1 rfl ha.2.1.2.2.2.2.2.1 ?_
    refine r_iload_n dX5_unitUsedIn_14 rfl 2 rfl ?_
    refine r_iald dX5_unitUsedIn_15 ha.2.2.2.2.2.2.2.1.1 (by rw [show zN S (a + 6) = 200 from ha.2.2.2.2.2.2.2.1.2]; exact vp_in_nI (by omega) (by decide)) ?_
    refine Wx.top (congrArg (zA _ _) (nI_clamp (by omega))) ?_
    refine Wx.top (hus _ (by omega)) ?_
    refine r_iload_n dX5_unitUsedIn_16 rfl 1 rfl ?_
    refine r_icmp_ne (tgt := 22) dX5_unitUsedIn_17 (by decide) (fun h17 => ?_) (fun h17 => ?_)
    · refine r_iincN (k := 1) (lv' := [(2, .int (nI (u + 1))), (0, .ref (a)), (1, .int (pl))]) dX5_unitUsedIn_22 (by decide) 2 rfl (by decide) rfl ?_
      refine r_goto (tgt := 2) dX5_unitUsedIn_25 (by decide) ?_
      refine Wx.sub [1, 2, 0] rfl ?_
      exact next (by have : u ≠ e := fun q => h17 (by rw [q]; exact hue); omega)
    · refine r_iload_n dX5_unitUsedIn_20 rfl 2 rfl ?_
      obtain rfl : u = e := Nat.le_antisymm hle (Nat.le_of_not_lt fun q => hne u q h17)
      exact r_iret (ty := .int) dX5_unitUsedIn_21 rfl rfl ⟨rfl, rfl⟩
set_option maxRecDepth 4000 in
theorem k_usedIn_no {G : GI} {S : Hp} {a : Nat} (ha : LoS S a) {n : Nat} (hn : zI S 226 a = nI n) (hn2 : n ≤ 200) {us : Nat → Int32} (hus : ∀ u, u < n → zA S (a + 6) u = us u) {pl : Int32} (hne : ∀ v, v < n → ¬ us v = pl) : Fn m_X5_unitUsedIn G [.ref (a), .int (pl)] S (some (.int (-1))) S := by
  refine Cn.of rfl (by decide) (Nat.le_of_ble_eq_true rfl) (fun hN hM => ?_)
  show Wx _ G _ 0 [(0, .ref (a)), (1, .int (pl))] [] _
  refine r_iconst (v := nI 0) dX5_unitUsedIn_0 (by decide) ?_
  refine r_istore_n (lv' := [(2, .int (nI (0))), (0, .ref (a)), (1, .int (pl))]) dX5_unitUsedIn_1 rfl (by decide) rfl ?_
  refine Wx.sub [1, 2, 0] rfl ?_
  refine Wx.loop (fun u => S) (fun u => [(0, .ref (a)), (1, .int (pl)), (2, .int (nI (u)))]) (n) (0) (Nat.zero_le _) (fun u hge hle next => ?_)
  show Wx _ G (S) 2 [(0, .ref (a)), (1, .int (pl)), (2, .int (nI (u)))] [] _
  refine r_iload_n dX5_unitUsedIn_2 rfl 2 rfl ?_
  refine r_aload_n dX5_unitUsedIn_3 rfl 0 rfl ?_
  refine r_getI (ci := 7) (k := 2) dX5_unitUsedIn_4 fr_X5_46 ha.1 rfl ?_
  refine Wx.top hn ?_
  refine r_icmp_geN (tgt := 28) dX5_unitUsedIn_7 (by decide) (by omega) (by omega) (fun h7 => ?_) (fun h7 => ?_)
  · refine r_iconst (v := (-1)) dX5_unitUsedIn_28 (by decide) ?_
    exact r_iret (ty := .int) dX5_unitUsedIn_29 rfl rfl ⟨rfl, rfl⟩
  · refine r_aload_n dX5_unitUsedIn_10 rfl 0 rfl ?_
    refine r_getR (ci := 7) (k := 15) (b := a + 6) dX5_unitUsedIn_11 fr_X5_27 ha.1 rfl ha.2.1.2.2.2.2.2.1 ?_
    refine r_iload_n dX5_unitUsedIn_14 rfl 2 rfl ?_
    refine r_iald dX5_unitUsedIn_15 ha.2.2.2.2.2.2.2.1.1 (by rw [show zN S (a + 6) = 200 from ha.2.2.2.2.2.2.2.1.2]; exact vp_in_nI (by omega) (by decide)) ?_
    refine Wx.top (congrArg (zA _ _) (nI_clamp (by omega))) ?_
    refine Wx.top (hus _ (by omega)) ?_
    refine r_iload_n dX5_unitUsedIn_16 rfl 1 rfl ?_
    refine r_icmp_ne (tgt := 22) dX5_unitUsedIn_17 (by decide) (fun h17 => ?_) (fun h17 => ?_)
    · refine r_iincN (k := 1) (lv' := [(2, .int (nI (u + 1))), (0, .ref (a)), (1, .int (pl))]) dX5_unitUsedIn_22 (by decide) 2 rfl (by decide) rfl ?_
      refine r_goto (tgt := 2) dX5_unitUsedIn_25 (by decide) ?_
      refine Wx.sub [1, 2, 0] rfl ?_
      exact next (by omega)
    · exact absurd h17 (hne u (by omega))
set_option maxRecDepth 4000 in
theorem k_addPart {G : GI} {S : Hp} {a : Nat} (ha : LoS S a) {c : Nat} (hc : zI S 233 a = nI c) (hc3 : c < 3) {x : Int32} : Fn m_X5_addPart G [.ref (a), .int (x)] S none (uI (uA S (a + 1) (c) (x)) 233 (a) (nI (c + 1))) := by
  refine Cn.of rfl (by decide) (Nat.le_of_ble_eq_true rfl) (fun hN hM => ?_)
  show Wx _ G _ 0 [(0, .ref (a)), (1, .int (x))] [] _
  refine r_aload_n dX5_addPart_0 rfl 0 rfl ?_
  refine r_getI (ci := 7) (k := 9) dX5_addPart_1 fr_X5_67 ha.1 rfl ?_
  refine Wx.top hc ?_
  refine r_aload_n dX5_addPart_4 rfl 0 rfl ?_
  refine r_getR (ci := 7) (k := 10) (b := a + 1) dX5_addPart_5 fr_X5_9 ha.1 rfl ha.2.1.1 ?_
  refine r_alen101 dX5_addPart_8 ha.2.2.1.1 ?_
  refine Wx.top (congrArg nI ha.2.2.1.2) ?_
  refine r_icmp_geN (tgt := 32) dX5_addPart_9 (by decide) (by omega) (by omega) (fun h9 => ?_) (fun h9 => ?_)
  · exact absurd h9 (by omega)
  · refine r_aload_n dX5_addPart_12 rfl 0 rfl ?_
    refine r_getR (ci := 7) (k := 10) (b := a + 1) dX5_addPart_13 fr_X5_9 ha.1 rfl ha.2.1.1 ?_
    refine r_aload_n dX5_addPart_16 rfl 0 rfl ?_
    refine r_getI (ci := 7) (k := 9) dX5_addPart_17 fr_X5_67 ha.1 rfl ?_
    refine Wx.top hc ?_
    refine r_iload_n dX5_addPart_20 rfl 1 rfl ?_
    refine r_iast dX5_addPart_21 ha.2.2.1.1 (by rw [show zN S (a + 1) = 3 from ha.2.2.1.2]; exact vp_in_nI (by omega) (by decide)) ?_
    refine Wx.st' (S' := uA S (a + 1) (c) (x)) (by rw [nI_clamp (by omega)]) ?_
    refine r_aload_n dX5_addPart_22 rfl 0 rfl ?_
    refine r_dup dX5_addPart_23 rfl ?_
    refine r_getI (ci := 7) (k := 9) dX5_addPart_24 fr_X5_67 ha.1 rfl ?_
    refine Wx.top hc ?_
    refine r_iconst (v := nI 1) dX5_addPart_27 (by decide) ?_
    refine r_iaddN dX5_addPart_28 ?_
    refine r_putI (ci := 7) (k := 9) dX5_addPart_29 fw_X5_addPart_67 ha.1 rfl rfl rfl ?_
    exact r_vret dX5_addPart_32 rfl ⟨rfl, rfl⟩
set_option maxRecDepth 4000 in
theorem k_copyMachine {G : GI} {S : Hp} {a b : Nat} (ha : zT S a = 9) (hb : zT S b = 9) : Fn m_X6_copyFrom G [.ref (a), .ref (b)] S none (uI (uI (uI S 256 (a) (zI S 256 (b))) 257 (a) (zI S 257 (b))) 258 (a) (zI S 258 (b))) := by
  refine Cn.of rfl (by decide) (Nat.le_of_ble_eq_true rfl) (fun hN hM => ?_)
  show Wx _ G _ 0 [(0, .ref (a)), (1, .ref (b))] [] _
  refine r_aload_n dX6_copyFrom_0 rfl 0 rfl ?_
  refine r_aload_n dX6_copyFrom_1 rfl 1 rfl ?_
  refine r_getI (ci := 8) (k := 0) dX6_copyFrom_2 fr_X6_7 hb rfl ?_
  refine r_putI (ci := 8) (k := 0) dX6_copyFrom_5 fw_X6_copyFrom_7 ha rfl rfl rfl ?_
  refine r_aload_n dX6_copyFrom_8 rfl 0 rfl ?_
  refine r_aload_n dX6_copyFrom_9 rfl 1 rfl ?_
  refine r_getI (ci := 8) (k := 1) dX6_copyFrom_10 fr_X6_13 hb rfl ?_
  refine Wx.top (zI_un (by omega)) ?_
  refine r_putI (ci := 8) (k := 1) dX6_copyFrom_13 fw_X6_copyFrom_13 ha rfl rfl rfl ?_
  refine r_aload_n dX6_copyFrom_16 rfl 0 rfl ?_
  refine r_aload_n dX6_copyFrom_17 rfl 1 rfl ?_
  refine r_getI (ci := 8) (k := 2) dX6_copyFrom_18 fr_X6_16 hb rfl ?_
  refine Wx.top (zI_un (by omega)) ?_
  refine Wx.top (zI_un (by omega)) ?_
  refine r_putI (ci := 8) (k := 2) dX6_copyFrom_21 fw_X6_copyFrom_16 ha rfl rfl rfl ?_
  exact r_vret dX6_copyFrom_24 rfl ⟨rfl, rfl⟩
set_option maxRecDepth 4000 in
theorem k_copyProduct {G : GI} {S : Hp} {a b : Nat} (ha : zT S a = 11) (hb : zT S b = 11) : Fn m_X8_copyFrom G [.ref (a), .ref (b)] S none (uI (uI (uI (uI (uI (uI (uI (uI (uI S 320 (a) (zI S 320 (b))) 321 (a) (zI S 321 (b))) 322 (a) (zI S 322 (b))) 323 (a) (zI S 323 (b))) 324 (a) (zI S 324 (b))) 325 (a) (zI S 325 (b))) 326 (a) (zI S 326 (b))) 327 (a) (zI S 327 (b))) 328 (a) (zI S 328 (b))) := by
  refine Cn.of rfl (by decide) (Nat.le_of_ble_eq_true rfl) (fun hN hM => ?_)
  show Wx _ G _ 0 [(0, .ref (a)), (1, .ref (b))] [] _
  refine r_aload_n dX8_copyFrom_0 rfl 0 rfl ?_
  refine r_aload_n dX8_copyFrom_1 rfl 1 rfl ?_
  refine r_getI (ci := 10) (k := 0) dX8_copyFrom_2 fr_X8_9 hb rfl ?_
  refine r_putI (ci := 10) (k := 0) dX8_copyFrom_5 fw_X8_copyFrom_9 ha rfl rfl rfl ?_
  refine r_aload_n dX8_copyFrom_8 rfl 0 rfl ?_
  refine r_aload_n dX8_copyFrom_9 rfl 1 rfl ?_
  refine r_getI (ci := 10) (k := 1) dX8_copyFrom_10 fr_X8_15 hb rfl ?_
  refine Wx.top (zI_un (by omega)) ?_
  refine r_putI (ci := 10) (k := 1) dX8_copyFrom_13 fw_X8_copyFrom_15 ha rfl rfl rfl ?_
  refine r_aload_n dX8_copyFrom_16 rfl 0 rfl ?_
  refine r_aload_n dX8_copyFrom_17 rfl 1 rfl ?_
  refine r_getI (ci := 10) (k := 2) dX8_copyFrom_18 fr_X8_18 hb rfl ?_
  refine Wx.top (zI_un (by omega)) ?_
  refine Wx.top (zI_un (by omega)) ?_
  refine r_putI (ci := 10) (k := 2) dX8_copyFrom_21 fw_X8_copyFrom_18 ha rfl rfl rfl ?_
  refine r_aload_n dX8_copyFrom_24 rfl 0 rfl ?_
  refine r_aload_n dX8_copyFrom_25 rfl 1 rfl ?_
  refine r_getI (ci := 10) (k := 3) dX8_copyFrom_26 fr_X8_21 hb rfl ?_
  refine Wx.top (zI_un (by omega)) ?_
  refine Wx.top (zI_un (by omega)) ?_
  refine Wx.top (zI_un (by omega)) ?_
  refine r_putI (ci := 10) (k := 3) dX8_copyFrom_29 fw_X8_copyFrom_21 ha rfl rfl rfl ?_
  refine r_aload_n dX8_copyFrom_32 rfl 0 rfl ?_
  refine r_aload_n dX8_copyFrom_33 rfl 1 rfl ?_
  refine r_getI (ci := 10) (k := 4) dX8_copyFrom_34 fr_X8_24 hb rfl ?_
  refine Wx.top (zI_un (by omega)) ?_
  refine Wx.top (zI_un (by omega)) ?_
  refine Wx.top (zI_un (by omega)) ?_
  refine Wx.top (zI_un (by omega)) ?_
  refine r_putI (ci := 10) (k := 4) dX8_copyFrom_37 fw_X8_copyFrom_24 ha rfl rfl rfl ?_
  refine r_aload_n dX8_copyFrom_40 rfl 0 rfl ?_
  refine r_aload_n dX8_copyFrom_41 rfl 1 rfl ?_
  refine r_getI (ci := 10) (k := 5) dX8_copyFrom_42 fr_X8_27 hb rfl ?_
  refine Wx.top (zI_un (by omega)) ?_
  refine Wx.top (zI_un (by omega)) ?_
  refine Wx.top (zI_un (by omega)) ?_
  refine Wx.top (zI_un (by omega)) ?_
  refine Wx.top (zI_un (by omega)) ?_
  refine r_putI (ci := 10) (k := 5) dX8_copyFrom_45 fw_X8_copyFrom_27 ha rfl rfl rfl ?_
  refine r_aload_n dX8_copyFrom_48 rfl 0 rfl ?_
  refine r_aload_n dX8_copyFrom_49 rfl 1 rfl ?_
  refine r_getI (ci := 10) (k := 6) dX8_copyFrom_50 fr_X8_30 hb rfl ?_
  refine Wx.top (zI_un (by omega)) ?_
  refine Wx.top (zI_un (by omega)) ?_
  refine Wx.top (zI_un (by omega)) ?_
  refine Wx.top (zI_un (by omega)) ?_
  refine Wx.top (zI_un (by omega)) ?_
  refine Wx.top (zI_un (by omega)) ?_
  refine r_putI (ci := 10) (k := 6) dX8_copyFrom_53 fw_X8_copyFrom_30 ha rfl rfl rfl ?_
  refine r_aload_n dX8_copyFrom_56 rfl 0 rfl ?_
  refine r_aload_n dX8_copyFrom_57 rfl 1 rfl ?_
  refine r_getI (ci := 10) (k := 7) dX8_copyFrom_58 fr_X8_33 hb rfl ?_
  refine Wx.top (zI_un (by omega)) ?_
  refine Wx.top (zI_un (by omega)) ?_
  refine Wx.top (zI_un (by omega)) ?_
  refine Wx.top (zI_un (by omega)) ?_
  refine Wx.top (zI_un (by omega)) ?_
  refine Wx.top (zI_un (by omega)) ?_
  refine Wx.top (zI_un (by omega)) ?_
  refine r_putI (ci := 10) (k := 7) dX8_copyFrom_61 fw_X8_copyFrom_33 ha rfl rfl rfl ?_
  refine r_aload_n dX8_copyFrom_64 rfl 0 rfl ?_
  refine r_aload_n dX8_copyFrom_65 rfl 1 rfl ?_
  refine r_getI (ci := 10) (k := 8) dX8_copyFrom_66 fr_X8_36 hb rfl ?_
  refine Wx.top (zI_un (by omega)) ?_
  refine Wx.top (zI_un (by omega)) ?_
  refine Wx.top (zI_un (by omega)) ?_
  refine Wx.top (zI_un (by omega)) ?_
  refine Wx.top (zI_un (by omega)) ?_
  refine Wx.top (zI_un (by omega)) ?_
  refine Wx.top (zI_un (by omega)) ?_
  refine Wx.top (zI_un (by omega)) ?_
  refine r_putI (ci := 10) (k := 8) dX8_copyFrom_69 fw_X8_copyFrom_36 ha rfl rfl rfl ?_
  exact r_vret dX8_copyFrom_72 rfl ⟨rfl, rfl⟩
set_option maxRecDepth 4000 in
theorem k_number_0 {G : GI} {S : Hp} {a : Nat} (ha : zT S a = 8) : Fn m_X5_number G [.ref (a), .int (nI 0)] S (some (.int (zI S 224 (a)))) S := by
  refine Cn.of rfl (by decide) (Nat.le_of_ble_eq_true rfl) (fun hN hM => ?_)
  show Wx _ G _ 0 [(0, .ref (a)), (1, .int (nI (0)))] [] _
  refine r_iload_n dX5_number_0 rfl 1 rfl ?_
  refine r_tableIn (off := 51) (tgt := 52) dX5_number_1 (by decide) (by decide) rfl (by decide) ?_
  refine r_aload_n dX5_number_52 rfl 0 rfl ?_
  refine r_getI (ci := 7) (k := 0) dX5_number_53 fr_X5_33 ha rfl ?_
  exact r_iret (ty := .int) dX5_number_56 rfl rfl ⟨rfl, rfl⟩
set_option maxRecDepth 4000 in
theorem k_number_1 {G : GI} {S : Hp} {a : Nat} (ha : zT S a = 8) : Fn m_X5_number G [.ref (a), .int (nI 1)] S (some (.int (zI S 226 (a)))) S := by
  refine Cn.of rfl (by decide) (Nat.le_of_ble_eq_true rfl) (fun hN hM => ?_)
  show Wx _ G _ 0 [(0, .ref (a)), (1, .int (nI (1)))] [] _
  refine r_iload_n dX5_number_0 rfl 1 rfl ?_
  refine r_tableIn (off := 56) (tgt := 57) dX5_number_1 (by decide) (by decide) rfl (by decide) ?_
  refine r_aload_n dX5_number_57 rfl 0 rfl ?_
  refine r_getI (ci := 7) (k := 2) dX5_number_58 fr_X5_46 ha rfl ?_
  exact r_iret (ty := .int) dX5_number_61 rfl rfl ⟨rfl, rfl⟩
set_option maxRecDepth 4000 in
theorem k_number_2 {G : GI} {S : Hp} {a : Nat} (ha : zT S a = 8) : Fn m_X5_number G [.ref (a), .int (nI 2)] S (some (.int (zI S 227 (a)))) S := by
  refine Cn.of rfl (by decide) (Nat.le_of_ble_eq_true rfl) (fun hN hM => ?_)
  show Wx _ G _ 0 [(0, .ref (a)), (1, .int (nI (2)))] [] _
  refine r_iload_n dX5_number_0 rfl 1 rfl ?_
  refine r_tableIn (off := 61) (tgt := 62) dX5_number_1 (by decide) (by decide) rfl (by decide) ?_
  refine r_aload_n dX5_number_62 rfl 0 rfl ?_
  refine r_getI (ci := 7) (k := 3) dX5_number_63 fr_X5_49 ha rfl ?_
  exact r_iret (ty := .int) dX5_number_66 rfl rfl ⟨rfl, rfl⟩
set_option maxRecDepth 4000 in
theorem k_number_3 {G : GI} {S : Hp} {a : Nat} (ha : zT S a = 8) : Fn m_X5_number G [.ref (a), .int (nI 3)] S (some (.int (zI S 228 (a)))) S := by
  refine Cn.of rfl (by decide) (Nat.le_of_ble_eq_true rfl) (fun hN hM => ?_)
  show Wx _ G _ 0 [(0, .ref (a)), (1, .int (nI (3)))] [] _
  refine r_iload_n dX5_number_0 rfl 1 rfl ?_
  refine r_tableIn (off := 66) (tgt := 67) dX5_number_1 (by decide) (by decide) rfl (by decide) ?_
  refine r_aload_n dX5_number_67 rfl 0 rfl ?_
  refine r_getI (ci := 7) (k := 4) dX5_number_68 fr_X5_52 ha rfl ?_
  exact r_iret (ty := .int) dX5_number_71 rfl rfl ⟨rfl, rfl⟩
set_option maxRecDepth 4000 in
theorem k_number_4 {G : GI} {S : Hp} {a : Nat} (ha : zT S a = 8) : Fn m_X5_number G [.ref (a), .int (nI 4)] S (some (.int (zI S 229 (a)))) S := by
  refine Cn.of rfl (by decide) (Nat.le_of_ble_eq_true rfl) (fun hN hM => ?_)
  show Wx _ G _ 0 [(0, .ref (a)), (1, .int (nI (4)))] [] _
  refine r_iload_n dX5_number_0 rfl 1 rfl ?_
  refine r_tableIn (off := 71) (tgt := 72) dX5_number_1 (by decide) (by decide) rfl (by decide) ?_
  refine r_aload_n dX5_number_72 rfl 0 rfl ?_
  refine r_getI (ci := 7) (k := 5) dX5_number_73 fr_X5_55 ha rfl ?_
  exact r_iret (ty := .int) dX5_number_76 rfl rfl ⟨rfl, rfl⟩
set_option maxRecDepth 4000 in
theorem k_number_5 {G : GI} {S : Hp} {a : Nat} (ha : zT S a = 8) : Fn m_X5_number G [.ref (a), .int (nI 5)] S (some (.int (zI S 230 (a)))) S := by
  refine Cn.of rfl (by decide) (Nat.le_of_ble_eq_true rfl) (fun hN hM => ?_)
  show Wx _ G _ 0 [(0, .ref (a)), (1, .int (nI (5)))] [] _
  refine r_iload_n dX5_number_0 rfl 1 rfl ?_
  refine r_tableIn (off := 76) (tgt := 77) dX5_number_1 (by decide) (by decide) rfl (by decide) ?_
  refine r_aload_n dX5_number_77 rfl 0 rfl ?_
  refine r_getI (ci := 7) (k := 6) dX5_number_78 fr_X5_58 ha rfl ?_
  exact r_iret (ty := .int) dX5_number_81 rfl rfl ⟨rfl, rfl⟩
set_option maxRecDepth 4000 in
theorem k_number_6 {G : GI} {S : Hp} {a : Nat} (ha : zT S a = 8) : Fn m_X5_number G [.ref (a), .int (nI 6)] S (some (.int (zI S 231 (a)))) S := by
  refine Cn.of rfl (by decide) (Nat.le_of_ble_eq_true rfl) (fun hN hM => ?_)
  show Wx _ G _ 0 [(0, .ref (a)), (1, .int (nI (6)))] [] _
  refine r_iload_n dX5_number_0 rfl 1 rfl ?_
  refine r_tableIn (off := 81) (tgt := 82) dX5_number_1 (by decide) (by decide) rfl (by decide) ?_
  refine r_aload_n dX5_number_82 rfl 0 rfl ?_
  refine r_getI (ci := 7) (k := 7) dX5_number_83 fr_X5_61 ha rfl ?_
  exact r_iret (ty := .int) dX5_number_86 rfl rfl ⟨rfl, rfl⟩
set_option maxRecDepth 4000 in
theorem k_number_7 {G : GI} {S : Hp} {a : Nat} (ha : zT S a = 8) : Fn m_X5_number G [.ref (a), .int (nI 7)] S (some (.int (zI S 232 (a)))) S := by
  refine Cn.of rfl (by decide) (Nat.le_of_ble_eq_true rfl) (fun hN hM => ?_)
  show Wx _ G _ 0 [(0, .ref (a)), (1, .int (nI (7)))] [] _
  refine r_iload_n dX5_number_0 rfl 1 rfl ?_
  refine r_tableIn (off := 86) (tgt := 87) dX5_number_1 (by decide) (by decide) rfl (by decide) ?_
  refine r_aload_n dX5_number_87 rfl 0 rfl ?_
  refine r_getI (ci := 7) (k := 8) dX5_number_88 fr_X5_64 ha rfl ?_
  exact r_iret (ty := .int) dX5_number_91 rfl rfl ⟨rfl, rfl⟩
set_option maxRecDepth 4000 in
theorem k_number_8 {G : GI} {S : Hp} {a : Nat} (ha : zT S a = 8) : Fn m_X5_number G [.ref (a), .int (nI 8)] S (some (.int (zI S 233 (a)))) S := by
  refine Cn.of rfl (by decide) (Nat.le_of_ble_eq_true rfl) (fun hN hM => ?_)
  show Wx _ G _ 0 [(0, .ref (a)), (1, .int (nI (8)))] [] _
  refine r_iload_n dX5_number_0 rfl 1 rfl ?_
  refine r_tableIn (off := 91) (tgt := 92) dX5_number_1 (by decide) (by decide) rfl (by decide) ?_
  refine r_aload_n dX5_number_92 rfl 0 rfl ?_
  refine r_getI (ci := 7) (k := 9) dX5_number_93 fr_X5_67 ha rfl ?_
  exact r_iret (ty := .int) dX5_number_96 rfl rfl ⟨rfl, rfl⟩
set_option maxRecDepth 4000 in
theorem k_number_9 {G : GI} {S : Hp} {a : Nat} (ha : zT S a = 8) : Fn m_X5_number G [.ref (a), .int (nI 9)] S (some (.int (zI S 225 (a)))) S := by
  refine Cn.of rfl (by decide) (Nat.le_of_ble_eq_true rfl) (fun hN hM => ?_)
  show Wx _ G _ 0 [(0, .ref (a)), (1, .int (nI (9)))] [] _
  refine r_iload_n dX5_number_0 rfl 1 rfl ?_
  refine r_tableOut (tgt := 97) dX5_number_1 (by decide) (by decide) ?_
  refine r_aload_n dX5_number_97 rfl 0 rfl ?_
  refine r_getI (ci := 7) (k := 1) dX5_number_98 fr_X5_37 ha rfl ?_
  exact r_iret (ty := .int) dX5_number_101 rfl rfl ⟨rfl, rfl⟩
set_option maxRecDepth 4000 in
theorem j_maxI {G : GI} {S : Hp} {x y : Int32} : Fn m_J9_max_7cf53 G [.int x, .int y] S (some (.int (if x < y then y else x))) S := by
  refine Cn.ofF rfl (by decide +kernel) (Nat.le_of_ble_eq_true rfl) (fun hN hM => ?_)
  show Wx _ G _ 0 [(0, .int (x)), (1, .int (y))] [] _
  refine r_iload_n dJ9_max_7cf53_0 rfl 0 rfl ?_
  refine r_iload_n dJ9_max_7cf53_1 rfl 1 rfl ?_
  refine r_icmp_lt (tgt := 9) dJ9_max_7cf53_2 (by decide) (fun h2 => ?_) (fun h2 => ?_)
  · refine r_iload_n dJ9_max_7cf53_9 rfl 1 rfl ?_
    exact r_iret (ty := .int) dJ9_max_7cf53_10 rfl rfl ⟨congrArg (fun x => Sum.inl (some (Value.int x))) (if_pos h2).symm, rfl⟩
  · refine r_iload_n dJ9_max_7cf53_5 rfl 0 rfl ?_
    refine r_goto (tgt := 10) dJ9_max_7cf53_6 (by decide) ?_
    exact r_iret (ty := .int) dJ9_max_7cf53_10 rfl rfl ⟨congrArg (fun x => Sum.inl (some (Value.int x))) (if_neg h2).symm, rfl⟩
theorem mx1 {x : Nat} (hx : x < 2 ^ 30) : (if nI x - nI 1 < nI 0 then nI 0 else nI x - nI 1) = nI (x - 1) := by
  by_cases h : 1 ≤ x
  · rw [pk_sub h, if_neg (nI_nlt (Nat.zero_le _) (by omega))]
  · obtain rfl : x = 0 := by omega
    decide
set_option maxRecDepth 4000 in
theorem k_allowed_0 {G : GI} {S : Hp} {a s q : Nat} (ha : zT S a = 11) (hq : zI S 320 a = nI q) (hs : s ≤ 32) (hq30 : q ≤ 30) : Fn m_X8_allowedIn G [.ref (a), .int (nI s), .int (nI 0)] S (some (.int (nI (alwN s q 0)))) S := by
  refine Cn.of rfl (by decide) (Nat.le_of_ble_eq_true rfl) (fun hN hM => ?_)
  show Wx _ G _ 0 [(0, .ref (a)), (1, .int (nI (s))), (2, .int (nI (0)))] [] _
  refine r_iload_n dX8_allowedIn_0 rfl 1 rfl ?_
  refine r_aload_n dX8_allowedIn_1 rfl 0 rfl ?_
  refine r_getI (ci := 10) (k := 0) dX8_allowedIn_2 fr_X8_9 ha rfl ?_
  refine Wx.top hq ?_
  refine r_imulN dX8_allowedIn_5 ?_
  refine r_bipush (v := nI 100) dX8_allowedIn_6 (by decide) ?_
  refine r_idivN dX8_allowedIn_8 (by (first | omega | (have := Nat.mul_le_mul hs hq30; omega))) (by (first | omega | (have := Nat.mul_le_mul hs hq30; omega))) (by (first | omega | (have := Nat.mul_le_mul hs hq30; omega))) ?_
  refine r_istore_n (lv' := [(3, .int (nI ((s * q) / 100))), (0, .ref (a)), (1, .int (nI (s))), (2, .int (nI (0)))]) dX8_allowedIn_9 rfl (by decide) rfl ?_
  refine r_iload_n dX8_allowedIn_10 rfl 3 rfl ?_
  refine r_iconst (v := nI 1) dX8_allowedIn_11 (by decide) ?_
  refine r_icmp_neN (tgt := 23) dX8_allowedIn_12 (by decide) (by (first | omega | (have := Nat.mul_le_mul hs hq30; omega))) (by (first | omega | (have := Nat.mul_le_mul hs hq30; omega))) (fun zz12 => ?_) (fun zz12 => ?_)
  · refine r_iload_n dX8_allowedIn_23 rfl 3 rfl ?_
    refine r_iconst (v := nI 2) dX8_allowedIn_24 (by decide) ?_
    refine r_icmp_neN (tgt := 34) dX8_allowedIn_25 (by decide) (by (first | omega | (have := Nat.mul_le_mul hs hq30; omega))) (by (first | omega | (have := Nat.mul_le_mul hs hq30; omega))) (fun zz25 => ?_) (fun zz25 => ?_)
    · refine r_iload_n dX8_allowedIn_34 rfl 0 rfl ?_
      exact r_iret (ty := .int) dX8_allowedIn_35 rfl rfl ⟨rfl, rfl⟩
    · exact absurd zz25 (by decide)
  · exact absurd zz12 (by decide)
set_option maxRecDepth 4000 in
theorem k_allowed_1 {G : GI} {S : Hp} {a s q : Nat} (ha : zT S a = 11) (hq : zI S 320 a = nI q) (hs : s ≤ 32) (hq30 : q ≤ 30) : Fn m_X8_allowedIn G [.ref (a), .int (nI s), .int (nI 1)] S (some (.int (nI (alwN s q 1)))) S := by
  refine Cn.of rfl (by decide) (Nat.le_of_ble_eq_true rfl) (fun hN hM => ?_)
  show Wx _ G _ 0 [(0, .ref (a)), (1, .int (nI (s))), (2, .int (nI (1)))] [] _
  refine r_iload_n dX8_allowedIn_0 rfl 1 rfl ?_
  refine r_aload_n dX8_allowedIn_1 rfl 0 rfl ?_
  refine r_getI (ci := 10) (k := 0) dX8_allowedIn_2 fr_X8_9 ha rfl ?_
  refine Wx.top hq ?_
  refine r_imulN dX8_allowedIn_5 ?_
  refine r_bipush (v := nI 100) dX8_allowedIn_6 (by decide) ?_
  refine r_idivN dX8_allowedIn_8 (by (first | omega | (have := Nat.mul_le_mul hs hq30; omega))) (by (first | omega | (have := Nat.mul_le_mul hs hq30; omega))) (by (first | omega | (have := Nat.mul_le_mul hs hq30; omega))) ?_
  refine r_istore_n (lv' := [(3, .int (nI ((s * q) / 100))), (0, .ref (a)), (1, .int (nI (s))), (2, .int (nI (1)))]) dX8_allowedIn_9 rfl (by decide) rfl ?_
  refine r_iload_n dX8_allowedIn_10 rfl 3 rfl ?_
  refine r_iconst (v := nI 1) dX8_allowedIn_11 (by decide) ?_
  refine r_icmp_neN (tgt := 23) dX8_allowedIn_12 (by decide) (by (first | omega | (have := Nat.mul_le_mul hs hq30; omega))) (by (first | omega | (have := Nat.mul_le_mul hs hq30; omega))) (fun zz12 => ?_) (fun zz12 => ?_)
  · exact absurd zz12 (by decide)
  · refine r_iload_n dX8_allowedIn_15 rfl 0 rfl ?_
    refine r_iconst (v := nI 1) dX8_allowedIn_16 (by decide) ?_
    refine r_isub dX8_allowedIn_17 ?_
    refine r_iconst (v := nI 0) dX8_allowedIn_18 (by decide) ?_
    refine r_fnS (M2 := m_J9_max_7cf53) (As := [.int (nI ((s * q) / 100) - nI 1), .int (nI (0))]) (rest := []) (v := some (.int (if nI ((s * q) / 100) - nI 1 < nI 0 then nI 0 else nI ((s * q) / 100) - nI 1))) dX8_allowedIn_19 cc_X8_allowedIn_49 rfl rfl rfl (Nat.le_of_ble_eq_true rfl) j_maxI rfl ?_
    exact r_iret (ty := .int) dX8_allowedIn_22 rfl rfl ⟨congrArg (fun x => Sum.inl (some (Value.int x))) ((mx1 (by have := Nat.mul_le_mul hs hq30; omega)).trans rfl), rfl⟩
set_option maxRecDepth 4000 in
theorem k_allowed_2 {G : GI} {S : Hp} {a s q : Nat} (ha : zT S a = 11) (hq : zI S 320 a = nI q) (hs : s ≤ 32) (hq30 : q ≤ 30) : Fn m_X8_allowedIn G [.ref (a), .int (nI s), .int (nI 2)] S (some (.int (nI (alwN s q 2)))) S := by
  refine Cn.of rfl (by decide) (Nat.le_of_ble_eq_true rfl) (fun hN hM => ?_)
  show Wx _ G _ 0 [(0, .ref (a)), (1, .int (nI (s))), (2, .int (nI (2)))] [] _
  refine r_iload_n dX8_allowedIn_0 rfl 1 rfl ?_
  refine r_aload_n dX8_allowedIn_1 rfl 0 rfl ?_
  refine r_getI (ci := 10) (k := 0) dX8_allowedIn_2 fr_X8_9 ha rfl ?_
  refine Wx.top hq ?_
  refine r_imulN dX8_allowedIn_5 ?_
  refine r_bipush (v := nI 100) dX8_allowedIn_6 (by decide) ?_
  refine r_idivN dX8_allowedIn_8 (by (first | omega | (have := Nat.mul_le_mul hs hq30; omega))) (by (first | omega | (have := Nat.mul_le_mul hs hq30; omega))) (by (first | omega | (have := Nat.mul_le_mul hs hq30; omega))) ?_
  refine r_istore_n (lv' := [(3, .int (nI ((s * q) / 100))), (0, .ref (a)), (1, .int (nI (s))), (2, .int (nI (2)))]) dX8_allowedIn_9 rfl (by decide) rfl ?_
  refine r_iload_n dX8_allowedIn_10 rfl 3 rfl ?_
  refine r_iconst (v := nI 1) dX8_allowedIn_11 (by decide) ?_
  refine r_icmp_neN (tgt := 23) dX8_allowedIn_12 (by decide) (by (first | omega | (have := Nat.mul_le_mul hs hq30; omega))) (by (first | omega | (have := Nat.mul_le_mul hs hq30; omega))) (fun zz12 => ?_) (fun zz12 => ?_)
  · refine r_iload_n dX8_allowedIn_23 rfl 3 rfl ?_
    refine r_iconst (v := nI 2) dX8_allowedIn_24 (by decide) ?_
    refine r_icmp_neN (tgt := 34) dX8_allowedIn_25 (by decide) (by (first | omega | (have := Nat.mul_le_mul hs hq30; omega))) (by (first | omega | (have := Nat.mul_le_mul hs hq30; omega))) (fun zz25 => ?_) (fun zz25 => ?_)
    · exact absurd zz25 (by decide)
    · refine r_iload_n dX8_allowedIn_28 rfl 0 rfl ?_
      refine r_iconst (v := nI 1) dX8_allowedIn_29 (by decide) ?_
      refine r_iaddN dX8_allowedIn_30 ?_
      refine r_goto (tgt := 35) dX8_allowedIn_31 (by decide) ?_
      exact r_iret (ty := .int) dX8_allowedIn_35 rfl rfl ⟨rfl, rfl⟩
  · exact absurd zz12 (by decide)
