/-! THE FACE: QUESTIONS -/
set_option maxRecDepth 4000 in
set_option maxHeartbeats 400000 in
theorem f_prod {G : GI} {S : Hp} {w : Nat → Nat} {k o : Nat} {A c g : Nat → Nat} {N : Nat} {x : Nat} (hxt : zT S x = 14) (hxo : zP S 416 x = some o) (h : OR S w k o A c) (hr : Rel c g N) (hal : ∀ l, l < g 0 → A l ≠ 0) {p : Nat} (hp : p < 4) : Fn m_X12_existingProduct G [.ref (x), .int (nI (p))] S (some (.ref (o + 12 + p))) S := by
  refine Cn.of rfl (by decide) (Nat.le_of_ble_eq_true rfl) (fun hN hM => ?_)
  show Wx _ G _ 0 [(0, .ref (x)), (1, .int (nI (p)))] [] _
  have hx := OX.refl h
  have h24 := hr.n24
  refine r_aload_n dX12_existingProduct_0 rfl 0 rfl ?_
  refine r_getR (ci := 13) (k := 0) (b := o) dX12_existingProduct_1 fr_X12_10 hxt rfl hxo ?_
  refine r_iload_n dX12_existingProduct_4 rfl 1 rfl ?_
  refine r_fnV (M2 := m_X7_productAt) (As := [.int (nI (p))]) (rest := []) (v := some (.ref (o + 12 + p))) dX12_existingProduct_5 cc_X12_existingProduct_190 rfl rfl rfl (Nat.le_of_ble_eq_true rfl) hx.1.1.1 rfl rfl (by decide) (k_productAt hx.1.1 (by omega)) rfl ?_
  refine r_astore_n (lv' := [(2, .ref (o + 12 + p)), (0, .ref (x)), (1, .int (nI (p)))]) dX12_existingProduct_8 rfl (by decide) rfl ?_
  refine r_aload_n dX12_existingProduct_9 rfl 0 rfl ?_
  refine r_ifnonnull (tgt := 21) dX12_existingProduct_10 (by decide) ?_
  refine r_aload_n dX12_existingProduct_21 rfl 0 rfl ?_
  exact r_aret (v := some (o + 12 + p)) dX12_existingProduct_22 rfl (Or.inl ⟨_, rfl⟩) ⟨rfl, rfl⟩
set_option maxRecDepth 4000 in
set_option maxHeartbeats 400000 in
theorem f_prod_no {G : GI} {S : Hp} {w : Nat → Nat} {k o : Nat} {A c g : Nat → Nat} {N : Nat} {x : Nat} (hxt : zT S x = 14) (hxo : zP S 416 x = some o) (h : OR S w k o A c) (hr : Rel c g N) (hal : ∀ l, l < g 0 → A l ≠ 0) (hc1 : zX S + 1 ≤ gN G) (hu6 : zU S + 6 ≤ gM G) {y : Int32} (hno : ¬ vp_in y 4) : FT m_X12_existingProduct G [.ref (x), .int (y)] S "java/lang/IndexOutOfBoundsException" := by
  refine Cn.of rfl (by decide) (Nat.le_of_ble_eq_true rfl) (fun hN hM => ?_)
  show Wx _ G _ 0 [(0, .ref (x)), (1, .int (y))] [] _
  have hx := OX.refl h
  have h24 := hr.n24
  refine r_aload_n dX12_existingProduct_0 rfl 0 rfl ?_
  refine r_getR (ci := 13) (k := 0) (b := o) dX12_existingProduct_1 fr_X12_10 hxt rfl hxo ?_
  refine r_iload_n dX12_existingProduct_4 rfl 1 rfl ?_
  refine r_fnV (M2 := m_X7_productAt) (As := [.int (y)]) (rest := []) (v := some (.null)) dX12_existingProduct_5 cc_X12_existingProduct_190 rfl rfl rfl (Nat.le_of_ble_eq_true rfl) hx.1.1.1 rfl rfl (by decide) (k_productAt_no hx.1.1 hno) rfl ?_
  refine r_astore_nN (lv' := [(2, .null), (0, .ref (x)), (1, .int (y))]) dX12_existingProduct_8 rfl (by decide) rfl ?_
  refine r_aload_nN dX12_existingProduct_9 rfl 0 rfl ?_
  refine r_ifnonnullN dX12_existingProduct_10 ?_
  exact r_throw (ft_IO (by decide)) rfl dX12_existingProduct_13 dX12_existingProduct_16 dX12_existingProduct_17 dX12_existingProduct_20 (by decide) (by first | exact hc1 | omega) (by first | exact hu6 | omega) (fun y u h1 h2 h3 h4 => ⟨rfl, y, u, ⟨h1, h2⟩, ⟨h3, h4⟩, rfl⟩)
set_option maxRecDepth 4000 in
set_option maxHeartbeats 400000 in
theorem f_lot {G : GI} {S : Hp} {w : Nat → Nat} {k o : Nat} {A c g : Nat → Nat} {N : Nat} {x : Nat} (hxt : zT S x = 14) (hxo : zP S 416 x = some o) (h : OR S w k o A c) (hr : Rel c g N) (hal : ∀ l, l < g 0 → A l ≠ 0) {l : Nat} (hl : l < g 0) : Fn m_X12_existingLot G [.ref (x), .int (nI (l))] S (some (.ref (A l))) S := by
  refine Cn.of rfl (by decide) (Nat.le_of_ble_eq_true rfl) (fun hN hM => ?_)
  show Wx _ G _ 0 [(0, .ref (x)), (1, .int (nI (l)))] [] _
  have hx := OX.refl h
  have h24 := hr.n24
  have hl24 : l < 24 := by omega
  have hAl := hal l hl
  have hL := hr.lot hl
  have hz := hL.z
  refine r_aload_n dX12_existingLot_0 rfl 0 rfl ?_
  refine r_getR (ci := 13) (k := 0) (b := o) dX12_existingLot_1 fr_X12_10 hxt rfl hxo ?_
  refine r_iload_n dX12_existingLot_4 rfl 1 rfl ?_
  refine r_fnV (M2 := m_X7_lotAt) (As := [.int (nI (l))]) (rest := []) (v := some (.ref (A l))) dX12_existingLot_5 cc_X12_existingLot_370 rfl rfl rfl (Nat.le_of_ble_eq_true rfl) hx.1.1.1 rfl rfl (by decide) (o_lotAt hx.1 hr hal (l := l) (by omega)) rfl ?_
  refine r_astore_n (lv' := [(2, .ref (A l)), (0, .ref (x)), (1, .int (nI (l)))]) dX12_existingLot_8 rfl (by decide) rfl ?_
  refine r_aload_n dX12_existingLot_9 rfl 0 rfl ?_
  refine r_ifnonnull (tgt := 21) dX12_existingLot_10 (by decide) ?_
  refine r_aload_n dX12_existingLot_21 rfl 0 rfl ?_
  exact r_aret (v := some (A l)) dX12_existingLot_22 rfl (Or.inl ⟨_, rfl⟩) ⟨rfl, rfl⟩
set_option maxRecDepth 4000 in
set_option maxHeartbeats 400000 in
theorem f_lot_no {G : GI} {S : Hp} {w : Nat → Nat} {k o : Nat} {A c g : Nat → Nat} {N : Nat} {x : Nat} (hxt : zT S x = 14) (hxo : zP S 416 x = some o) (h : OR S w k o A c) (hr : Rel c g N) (hal : ∀ l, l < g 0 → A l ≠ 0) (hc1 : zX S + 1 ≤ gN G) (hu6 : zU S + 6 ≤ gM G) {y : Int32} (hno : ¬ vp_in y (g 0)) : FT m_X12_existingLot G [.ref (x), .int (y)] S "java/lang/IndexOutOfBoundsException" := by
  refine Cn.of rfl (by decide) (Nat.le_of_ble_eq_true rfl) (fun hN hM => ?_)
  show Wx _ G _ 0 [(0, .ref (x)), (1, .int (y))] [] _
  have hx := OX.refl h
  have h24 := hr.n24
  refine r_aload_n dX12_existingLot_0 rfl 0 rfl ?_
  refine r_getR (ci := 13) (k := 0) (b := o) dX12_existingLot_1 fr_X12_10 hxt rfl hxo ?_
  refine r_iload_n dX12_existingLot_4 rfl 1 rfl ?_
  refine r_fnV (M2 := m_X7_lotAt) (As := [.int (y)]) (rest := []) (v := some (.null)) dX12_existingLot_5 cc_X12_existingLot_370 rfl rfl rfl (Nat.le_of_ble_eq_true rfl) hx.1.1.1 rfl rfl (by decide) (o_lotAt_no hx.1 hr hal hno) rfl ?_
  refine r_astore_nN (lv' := [(2, .null), (0, .ref (x)), (1, .int (y))]) dX12_existingLot_8 rfl (by decide) rfl ?_
  refine r_aload_nN dX12_existingLot_9 rfl 0 rfl ?_
  refine r_ifnonnullN dX12_existingLot_10 ?_
  exact r_throw (ft_IO (by decide)) rfl dX12_existingLot_13 dX12_existingLot_16 dX12_existingLot_17 dX12_existingLot_20 (by decide) (by first | exact hc1 | omega) (by first | exact hu6 | omega) (fun y u h1 h2 h3 h4 => ⟨rfl, y, u, ⟨h1, h2⟩, ⟨h3, h4⟩, rfl⟩)
set_option maxRecDepth 4000 in
set_option maxHeartbeats 400000 in
theorem f_unit {G : GI} {S : Hp} {w : Nat → Nat} {k o : Nat} {A c g : Nat → Nat} {N : Nat} {x : Nat} (hxt : zT S x = 14) (hxo : zP S 416 x = some o) (h : OR S w k o A c) (hr : Rel c g N) (hal : ∀ l, l < g 0 → A l ≠ 0) {l : Nat} (hl : l < g 0) {u : Nat} (hu : u < g (90 + 13 * l + 1)) : Fn m_X12_lotWithUnit G [.ref (x), .int (nI (l)), .int (nI (u))] S (some (.ref (A l))) S := by
  refine Cn.of rfl (by decide) (Nat.le_of_ble_eq_true rfl) (fun hN hM => ?_)
  show Wx _ G _ 0 [(0, .ref (x)), (1, .int (nI (l))), (2, .int (nI (u)))] [] _
  have hx := OX.refl h
  have h24 := hr.n24
  have hl24 : l < 24 := by omega
  have hAl := hal l hl
  have hL := hr.lot hl
  have hz := hL.z
  refine r_aload_n dX12_lotWithUnit_0 rfl 0 rfl ?_
  refine r_getR (ci := 13) (k := 0) (b := o) dX12_lotWithUnit_1 fr_X12_10 hxt rfl hxo ?_
  refine r_iload_n dX12_lotWithUnit_4 rfl 1 rfl ?_
  refine r_fnV (M2 := m_X7_lotAt) (As := [.int (nI (l))]) (rest := []) (v := some (.ref (A l))) dX12_lotWithUnit_5 cc_X12_lotWithUnit_370 rfl rfl rfl (Nat.le_of_ble_eq_true rfl) hx.1.1.1 rfl rfl (by decide) (o_lotAt hx.1 hr hal (l := l) (by omega)) rfl ?_
  refine r_astore_n (lv' := [(3, .ref (A l)), (0, .ref (x)), (1, .int (nI (l))), (2, .int (nI (u)))]) dX12_lotWithUnit_8 rfl (by decide) rfl ?_
  refine r_aload_n dX12_lotWithUnit_9 rfl 0 rfl ?_
  refine r_ifnull dX12_lotWithUnit_10 ?_
  refine r_aload_n dX12_lotWithUnit_13 rfl 0 rfl ?_
  refine r_iload_n dX12_lotWithUnit_14 rfl 3 rfl ?_
  refine r_fnV (M2 := m_X5_has) (As := [.int (nI (u))]) (rest := []) (v := some (.int (nI (1)))) dX12_lotWithUnit_15 cc_X12_lotWithUnit_373 rfl rfl rfl (Nat.le_of_ble_eq_true rfl) (hx.1.lo hl24 hAl).2.1 rfl rfl (by decide) (o_has hx.1 hr hal (l := l) (by omega) (by omega)) rfl ?_
  refine r_if_neN (tgt := 29) dX12_lotWithUnit_18 (by decide) (by omega) (fun zz18 => ?_) (fun zz18 => ?_)
  · refine r_aload_n dX12_lotWithUnit_29 rfl 0 rfl ?_
    exact r_aret (v := some (A l)) dX12_lotWithUnit_30 rfl (Or.inl ⟨_, rfl⟩) ⟨rfl, rfl⟩
  · exact absurd zz18 (by decide)
set_option maxRecDepth 4000 in
set_option maxHeartbeats 400000 in
theorem f_unit_no {G : GI} {S : Hp} {w : Nat → Nat} {k o : Nat} {A c g : Nat → Nat} {N : Nat} {x : Nat} (hxt : zT S x = 14) (hxo : zP S 416 x = some o) (h : OR S w k o A c) (hr : Rel c g N) (hal : ∀ l, l < g 0 → A l ≠ 0) (hc1 : zX S + 1 ≤ gN G) (hu6 : zU S + 6 ≤ gM G) {y : Int32} (hno : ¬ vp_in y (g 0)) {z : Int32} : FT m_X12_lotWithUnit G [.ref (x), .int (y), .int (z)] S "java/lang/IndexOutOfBoundsException" := by
  refine Cn.of rfl (by decide) (Nat.le_of_ble_eq_true rfl) (fun hN hM => ?_)
  show Wx _ G _ 0 [(0, .ref (x)), (1, .int (y)), (2, .int (z))] [] _
  have hx := OX.refl h
  have h24 := hr.n24
  refine r_aload_n dX12_lotWithUnit_0 rfl 0 rfl ?_
  refine r_getR (ci := 13) (k := 0) (b := o) dX12_lotWithUnit_1 fr_X12_10 hxt rfl hxo ?_
  refine r_iload_n dX12_lotWithUnit_4 rfl 1 rfl ?_
  refine r_fnV (M2 := m_X7_lotAt) (As := [.int (y)]) (rest := []) (v := some (.null)) dX12_lotWithUnit_5 cc_X12_lotWithUnit_370 rfl rfl rfl (Nat.le_of_ble_eq_true rfl) hx.1.1.1 rfl rfl (by decide) (o_lotAt_no hx.1 hr hal hno) rfl ?_
  refine r_astore_nN (lv' := [(3, .null), (0, .ref (x)), (1, .int (y)), (2, .int (z))]) dX12_lotWithUnit_8 rfl (by decide) rfl ?_
  refine r_aload_nN dX12_lotWithUnit_9 rfl 0 rfl ?_
  refine r_ifnullN (tgt := 21) dX12_lotWithUnit_10 (by decide) ?_
  exact r_throw (ft_IO (by decide)) rfl dX12_lotWithUnit_21 dX12_lotWithUnit_24 dX12_lotWithUnit_25 dX12_lotWithUnit_28 (by decide) (by first | exact hc1 | omega) (by first | exact hu6 | omega) (fun y u h1 h2 h3 h4 => ⟨rfl, y, u, ⟨h1, h2⟩, ⟨h3, h4⟩, rfl⟩)
set_option maxRecDepth 4000 in
set_option maxHeartbeats 400000 in
theorem f_unit_nu {G : GI} {S : Hp} {w : Nat → Nat} {k o : Nat} {A c g : Nat → Nat} {N : Nat} {x : Nat} (hxt : zT S x = 14) (hxo : zP S 416 x = some o) (h : OR S w k o A c) (hr : Rel c g N) (hal : ∀ l, l < g 0 → A l ≠ 0) (hc1 : zX S + 1 ≤ gN G) (hu6 : zU S + 6 ≤ gM G) {l : Nat} (hl : l < g 0) {z : Int32} (hnu : ¬ vp_in z (g (90 + 13 * l + 1))) : FT m_X12_lotWithUnit G [.ref (x), .int (nI (l)), .int (z)] S "java/lang/IndexOutOfBoundsException" := by
  refine Cn.of rfl (by decide) (Nat.le_of_ble_eq_true rfl) (fun hN hM => ?_)
  show Wx _ G _ 0 [(0, .ref (x)), (1, .int (nI (l))), (2, .int (z))] [] _
  have hx := OX.refl h
  have h24 := hr.n24
  have hl24 : l < 24 := by omega
  have hAl := hal l hl
  have hL := hr.lot hl
  have hz := hL.z
  refine r_aload_n dX12_lotWithUnit_0 rfl 0 rfl ?_
  refine r_getR (ci := 13) (k := 0) (b := o) dX12_lotWithUnit_1 fr_X12_10 hxt rfl hxo ?_
  refine r_iload_n dX12_lotWithUnit_4 rfl 1 rfl ?_
  refine r_fnV (M2 := m_X7_lotAt) (As := [.int (nI (l))]) (rest := []) (v := some (.ref (A l))) dX12_lotWithUnit_5 cc_X12_lotWithUnit_370 rfl rfl rfl (Nat.le_of_ble_eq_true rfl) hx.1.1.1 rfl rfl (by decide) (o_lotAt hx.1 hr hal (l := l) (by omega)) rfl ?_
  refine r_astore_n (lv' := [(3, .ref (A l)), (0, .ref (x)), (1, .int (nI (l))), (2, .int (z))]) dX12_lotWithUnit_8 rfl (by decide) rfl ?_
  refine r_aload_n dX12_lotWithUnit_9 rfl 0 rfl ?_
  refine r_ifnull dX12_lotWithUnit_10 ?_
  refine r_aload_n dX12_lotWithUnit_13 rfl 0 rfl ?_
  refine r_iload_n dX12_lotWithUnit_14 rfl 3 rfl ?_
  refine r_fnV (M2 := m_X5_has) (As := [.int (z)]) (rest := []) (v := some (.int (nI (0)))) dX12_lotWithUnit_15 cc_X12_lotWithUnit_373 rfl rfl rfl (Nat.le_of_ble_eq_true rfl) (hx.1.lo hl24 hAl).2.1 rfl rfl (by decide) (o_has_no hx.1 hr hal (l := l) (by omega) hnu) rfl ?_
  refine r_if_neN (tgt := 29) dX12_lotWithUnit_18 (by decide) (by omega) (fun zz18 => ?_) (fun zz18 => ?_)
  · exact absurd zz18 (by decide)
  · exact r_throw (ft_IO (by decide)) rfl dX12_lotWithUnit_21 dX12_lotWithUnit_24 dX12_lotWithUnit_25 dX12_lotWithUnit_28 (by decide) (by first | exact hc1 | omega) (by first | exact hu6 | omega) (fun y u h1 h2 h3 h4 => ⟨rfl, y, u, ⟨h1, h2⟩, ⟨h3, h4⟩, rfl⟩)
set_option maxRecDepth 4000 in
set_option maxHeartbeats 400000 in
theorem f_worked_0 {G : GI} {S : Hp} {w : Nat → Nat} {k o : Nat} {A c g : Nat → Nat} {N : Nat} {x : Nat} (hxt : zT S x = 14) (hxo : zP S 416 x = some o) (h : OR S w k o A c) (hr : Rel c g N) (hal : ∀ l, l < g 0 → A l ≠ 0) {a : Nat} (ha : a < 6) : Fn m_X12_worked G [.ref (x), .int (nI (a))] S (some (.int (nI (g (4 + 3 * a + 2))))) S := by
  refine Cn.of rfl (by decide) (Nat.le_of_ble_eq_true rfl) (fun hN hM => ?_)
  show Wx _ G _ 0 [(0, .ref (x)), (1, .int (nI (a)))] [] _
  have hx := OX.refl h
  have h24 := hr.n24
  refine r_aload_n dX12_worked_0 rfl 0 rfl ?_
  refine r_getR (ci := 13) (k := 0) (b := o) dX12_worked_1 fr_X12_10 hxt rfl hxo ?_
  refine r_iload_n dX12_worked_4 rfl 1 rfl ?_
  refine r_fnV (M2 := m_X7_machineAt) (As := [.int (nI (a))]) (rest := []) (v := some (.ref (o + 6 + a))) dX12_worked_5 cc_X12_worked_79 rfl rfl rfl (Nat.le_of_ble_eq_true rfl) hx.1.1.1 rfl rfl (by decide) (k_machineAt hx.1.1 (by omega)) rfl ?_
  refine r_astore_n (lv' := [(2, .ref (o + 6 + a)), (0, .ref (x)), (1, .int (nI (a)))]) dX12_worked_8 rfl (by decide) rfl ?_
  refine r_aload_n dX12_worked_9 rfl 0 rfl ?_
  refine r_ifnonnull (tgt := 21) dX12_worked_10 (by decide) ?_
  refine r_aload_n dX12_worked_21 rfl 0 rfl ?_
  refine r_getI (ci := 8) (k := 2) dX12_worked_22 fr_X12_86 (hx.1.1.2.2.2.2.2.2.2.1 a (by omega)).2 rfl ?_
  refine Wx.top (hx.1.m2 (i := a) (by omega)) ?_
  refine Wx.topN (hr.m2 (i := a) (by omega)) ?_
  exact r_iret (ty := .int) dX12_worked_25 rfl rfl ⟨rfl, rfl⟩
set_option maxRecDepth 4000 in
set_option maxHeartbeats 400000 in
theorem f_worked_1 {G : GI} {S : Hp} {w : Nat → Nat} {k o : Nat} {A c g : Nat → Nat} {N : Nat} {x : Nat} (hxt : zT S x = 14) (hxo : zP S 416 x = some o) (h : OR S w k o A c) (hr : Rel c g N) (hal : ∀ l, l < g 0 → A l ≠ 0) (hc1 : zX S + 1 ≤ gN G) (hu6 : zU S + 6 ≤ gM G) {y : Int32} (hno : ¬ vp_in y 6) : FT m_X12_worked G [.ref (x), .int (y)] S "java/lang/IndexOutOfBoundsException" := by
  refine Cn.of rfl (by decide) (Nat.le_of_ble_eq_true rfl) (fun hN hM => ?_)
  show Wx _ G _ 0 [(0, .ref (x)), (1, .int (y))] [] _
  have hx := OX.refl h
  have h24 := hr.n24
  refine r_aload_n dX12_worked_0 rfl 0 rfl ?_
  refine r_getR (ci := 13) (k := 0) (b := o) dX12_worked_1 fr_X12_10 hxt rfl hxo ?_
  refine r_iload_n dX12_worked_4 rfl 1 rfl ?_
  refine r_fnV (M2 := m_X7_machineAt) (As := [.int (y)]) (rest := []) (v := some (.null)) dX12_worked_5 cc_X12_worked_79 rfl rfl rfl (Nat.le_of_ble_eq_true rfl) hx.1.1.1 rfl rfl (by decide) (k_machineAt_no hx.1.1 hno) rfl ?_
  refine r_astore_nN (lv' := [(2, .null), (0, .ref (x)), (1, .int (y))]) dX12_worked_8 rfl (by decide) rfl ?_
  refine r_aload_nN dX12_worked_9 rfl 0 rfl ?_
  refine r_ifnonnullN dX12_worked_10 ?_
  exact r_throw (ft_IO (by decide)) rfl dX12_worked_13 dX12_worked_16 dX12_worked_17 dX12_worked_20 (by decide) (by first | exact hc1 | omega) (by first | exact hu6 | omega) (fun y u h1 h2 h3 h4 => ⟨rfl, y, u, ⟨h1, h2⟩, ⟨h3, h4⟩, rfl⟩)
set_option maxRecDepth 4000 in
set_option maxHeartbeats 400000 in
theorem f_num_0 {G : GI} {S : Hp} {w : Nat → Nat} {k o : Nat} {A c g : Nat → Nat} {N : Nat} {x : Nat} (hxt : zT S x = 14) (hxo : zP S 416 x = some o) (h : OR S w k o A c) (hr : Rel c g N) (hal : ∀ l, l < g 0 → A l ≠ 0) {p : Nat} (hp : p < 4) : Fn m_X8_number G [.ref (o + 12 + p), .int (nI (0))] S (some (.int (nI (g (22 + 10 * p))))) S := by
  refine Cn.of rfl (by decide) (Nat.le_of_ble_eq_true rfl) (fun hN hM => ?_)
  show Wx _ G _ 0 [(0, .ref (o + 12 + p)), (1, .int (nI (0)))] [] _
  have hx := OX.refl h
  have h24 := hr.n24
  have hP := hr.p hp
  have hPb := hP.b
  have hPm := hP.m
  have hPs := hP.s
  refine r_iload_n dX8_number_0 rfl 1 rfl ?_
  refine r_tableIn (off := 39) (tgt := 40) dX8_number_1 (by decide) (by decide) rfl (by decide) ?_
  refine r_aload_n dX8_number_40 rfl 0 rfl ?_
  refine r_getI (ci := 10) (k := 0) dX8_number_41 fr_X8_9 (hx.1.1.2.2.2.2.2.2.2.2 p (by omega)).2 rfl ?_
  refine Wx.top (hx.1.p0 (i := p) (by omega)) ?_
  refine Wx.topN (hr.p (p := p) (by omega)).c0 ?_
  exact r_iret (ty := .int) dX8_number_44 rfl rfl ⟨rfl, rfl⟩
set_option maxRecDepth 4000 in
set_option maxHeartbeats 400000 in
theorem f_num_1 {G : GI} {S : Hp} {w : Nat → Nat} {k o : Nat} {A c g : Nat → Nat} {N : Nat} {x : Nat} (hxt : zT S x = 14) (hxo : zP S 416 x = some o) (h : OR S w k o A c) (hr : Rel c g N) (hal : ∀ l, l < g 0 → A l ≠ 0) {p : Nat} (hp : p < 4) : Fn m_X8_number G [.ref (o + 12 + p), .int (nI (1))] S (some (.int (nI (g (22 + 10 * p + 1))))) S := by
  refine Cn.of rfl (by decide) (Nat.le_of_ble_eq_true rfl) (fun hN hM => ?_)
  show Wx _ G _ 0 [(0, .ref (o + 12 + p)), (1, .int (nI (1)))] [] _
  have hx := OX.refl h
  have h24 := hr.n24
  have hP := hr.p hp
  have hPb := hP.b
  have hPm := hP.m
  have hPs := hP.s
  refine r_iload_n dX8_number_0 rfl 1 rfl ?_
  refine r_tableIn (off := 44) (tgt := 45) dX8_number_1 (by decide) (by decide) rfl (by decide) ?_
  refine r_aload_n dX8_number_45 rfl 0 rfl ?_
  refine r_getI (ci := 10) (k := 1) dX8_number_46 fr_X8_15 (hx.1.1.2.2.2.2.2.2.2.2 p (by omega)).2 rfl ?_
  refine Wx.top (hx.1.p1 (i := p) (by omega)) ?_
  refine Wx.topN ((hr.p (p := p) (by omega)).cf (f := 1) (by decide)) ?_
  exact r_iret (ty := .int) dX8_number_49 rfl rfl ⟨rfl, rfl⟩
set_option maxRecDepth 4000 in
set_option maxHeartbeats 400000 in
theorem f_num_2 {G : GI} {S : Hp} {w : Nat → Nat} {k o : Nat} {A c g : Nat → Nat} {N : Nat} {x : Nat} (hxt : zT S x = 14) (hxo : zP S 416 x = some o) (h : OR S w k o A c) (hr : Rel c g N) (hal : ∀ l, l < g 0 → A l ≠ 0) {p : Nat} (hp : p < 4) : Fn m_X8_number G [.ref (o + 12 + p), .int (nI (2))] S (some (.int (nI (g (22 + 10 * p + 2))))) S := by
  refine Cn.of rfl (by decide) (Nat.le_of_ble_eq_true rfl) (fun hN hM => ?_)
  show Wx _ G _ 0 [(0, .ref (o + 12 + p)), (1, .int (nI (2)))] [] _
  have hx := OX.refl h
  have h24 := hr.n24
  have hP := hr.p hp
  have hPb := hP.b
  have hPm := hP.m
  have hPs := hP.s
  refine r_iload_n dX8_number_0 rfl 1 rfl ?_
  refine r_tableIn (off := 49) (tgt := 50) dX8_number_1 (by decide) (by decide) rfl (by decide) ?_
  refine r_aload_n dX8_number_50 rfl 0 rfl ?_
  refine r_getI (ci := 10) (k := 2) dX8_number_51 fr_X8_18 (hx.1.1.2.2.2.2.2.2.2.2 p (by omega)).2 rfl ?_
  refine Wx.top (hx.1.p2 (i := p) (by omega)) ?_
  refine Wx.topN ((hr.p (p := p) (by omega)).cf (f := 2) (by decide)) ?_
  exact r_iret (ty := .int) dX8_number_54 rfl rfl ⟨rfl, rfl⟩
set_option maxRecDepth 4000 in
set_option maxHeartbeats 400000 in
theorem f_num_3 {G : GI} {S : Hp} {w : Nat → Nat} {k o : Nat} {A c g : Nat → Nat} {N : Nat} {x : Nat} (hxt : zT S x = 14) (hxo : zP S 416 x = some o) (h : OR S w k o A c) (hr : Rel c g N) (hal : ∀ l, l < g 0 → A l ≠ 0) {p : Nat} (hp : p < 4) : Fn m_X8_number G [.ref (o + 12 + p), .int (nI (3))] S (some (.int (nI (g (22 + 10 * p + 3))))) S := by
  refine Cn.of rfl (by decide) (Nat.le_of_ble_eq_true rfl) (fun hN hM => ?_)
  show Wx _ G _ 0 [(0, .ref (o + 12 + p)), (1, .int (nI (3)))] [] _
  have hx := OX.refl h
  have h24 := hr.n24
  have hP := hr.p hp
  have hPb := hP.b
  have hPm := hP.m
  have hPs := hP.s
  refine r_iload_n dX8_number_0 rfl 1 rfl ?_
  refine r_tableIn (off := 54) (tgt := 55) dX8_number_1 (by decide) (by decide) rfl (by decide) ?_
  refine r_aload_n dX8_number_55 rfl 0 rfl ?_
  refine r_getI (ci := 10) (k := 3) dX8_number_56 fr_X8_21 (hx.1.1.2.2.2.2.2.2.2.2 p (by omega)).2 rfl ?_
  refine Wx.top (hx.1.p3 (i := p) (by omega)) ?_
  refine Wx.topN ((hr.p (p := p) (by omega)).cf (f := 3) (by decide)) ?_
  exact r_iret (ty := .int) dX8_number_59 rfl rfl ⟨rfl, rfl⟩
set_option maxRecDepth 4000 in
set_option maxHeartbeats 400000 in
theorem f_num_4 {G : GI} {S : Hp} {w : Nat → Nat} {k o : Nat} {A c g : Nat → Nat} {N : Nat} {x : Nat} (hxt : zT S x = 14) (hxo : zP S 416 x = some o) (h : OR S w k o A c) (hr : Rel c g N) (hal : ∀ l, l < g 0 → A l ≠ 0) {p : Nat} (hp : p < 4) : Fn m_X8_number G [.ref (o + 12 + p), .int (nI (4))] S (some (.int (nI (g (22 + 10 * p + 4))))) S := by
  refine Cn.of rfl (by decide) (Nat.le_of_ble_eq_true rfl) (fun hN hM => ?_)
  show Wx _ G _ 0 [(0, .ref (o + 12 + p)), (1, .int (nI (4)))] [] _
  have hx := OX.refl h
  have h24 := hr.n24
  have hP := hr.p hp
  have hPb := hP.b
  have hPm := hP.m
  have hPs := hP.s
  refine r_iload_n dX8_number_0 rfl 1 rfl ?_
  refine r_tableIn (off := 59) (tgt := 60) dX8_number_1 (by decide) (by decide) rfl (by decide) ?_
  refine r_aload_n dX8_number_60 rfl 0 rfl ?_
  refine r_getI (ci := 10) (k := 4) dX8_number_61 fr_X8_24 (hx.1.1.2.2.2.2.2.2.2.2 p (by omega)).2 rfl ?_
  refine Wx.top (hx.1.p4 (i := p) (by omega)) ?_
  refine Wx.topN ((hr.p (p := p) (by omega)).cf (f := 4) (by decide)) ?_
  exact r_iret (ty := .int) dX8_number_64 rfl rfl ⟨rfl, rfl⟩
set_option maxRecDepth 4000 in
set_option maxHeartbeats 400000 in
theorem f_num_5 {G : GI} {S : Hp} {w : Nat → Nat} {k o : Nat} {A c g : Nat → Nat} {N : Nat} {x : Nat} (hxt : zT S x = 14) (hxo : zP S 416 x = some o) (h : OR S w k o A c) (hr : Rel c g N) (hal : ∀ l, l < g 0 → A l ≠ 0) {p : Nat} (hp : p < 4) : Fn m_X8_number G [.ref (o + 12 + p), .int (nI (5))] S (some (.int (nI (g (22 + 10 * p + 5))))) S := by
  refine Cn.of rfl (by decide) (Nat.le_of_ble_eq_true rfl) (fun hN hM => ?_)
  show Wx _ G _ 0 [(0, .ref (o + 12 + p)), (1, .int (nI (5)))] [] _
  have hx := OX.refl h
  have h24 := hr.n24
  have hP := hr.p hp
  have hPb := hP.b
  have hPm := hP.m
  have hPs := hP.s
  refine r_iload_n dX8_number_0 rfl 1 rfl ?_
  refine r_tableIn (off := 64) (tgt := 65) dX8_number_1 (by decide) (by decide) rfl (by decide) ?_
  refine r_aload_n dX8_number_65 rfl 0 rfl ?_
  refine r_getI (ci := 10) (k := 5) dX8_number_66 fr_X8_27 (hx.1.1.2.2.2.2.2.2.2.2 p (by omega)).2 rfl ?_
  refine Wx.top (hx.1.p5 (i := p) (by omega)) ?_
  refine Wx.topN ((hr.p (p := p) (by omega)).cf (f := 5) (by decide)) ?_
  exact r_iret (ty := .int) dX8_number_69 rfl rfl ⟨rfl, rfl⟩
set_option maxRecDepth 4000 in
set_option maxHeartbeats 400000 in
theorem f_num_6 {G : GI} {S : Hp} {w : Nat → Nat} {k o : Nat} {A c g : Nat → Nat} {N : Nat} {x : Nat} (hxt : zT S x = 14) (hxo : zP S 416 x = some o) (h : OR S w k o A c) (hr : Rel c g N) (hal : ∀ l, l < g 0 → A l ≠ 0) {p : Nat} (hp : p < 4) : Fn m_X8_number G [.ref (o + 12 + p), .int (nI (6))] S (some (.int (nI (g (22 + 10 * p + 6))))) S := by
  refine Cn.of rfl (by decide) (Nat.le_of_ble_eq_true rfl) (fun hN hM => ?_)
  show Wx _ G _ 0 [(0, .ref (o + 12 + p)), (1, .int (nI (6)))] [] _
  have hx := OX.refl h
  have h24 := hr.n24
  have hP := hr.p hp
  have hPb := hP.b
  have hPm := hP.m
  have hPs := hP.s
  refine r_iload_n dX8_number_0 rfl 1 rfl ?_
  refine r_tableOut (tgt := 70) dX8_number_1 (by decide) (by decide) ?_
  refine r_aload_n dX8_number_70 rfl 0 rfl ?_
  refine r_getI (ci := 10) (k := 6) dX8_number_71 fr_X8_30 (hx.1.1.2.2.2.2.2.2.2.2 p (by omega)).2 rfl ?_
  refine Wx.top (hx.1.p6 (i := p) (by omega)) ?_
  refine r_fnS (M2 := m_J6_bitCount_0f7a4) (As := [.int (nI (c (22 + 10 * p + 6)))]) (rest := []) (v := some (.int (nI (onesK (c (22 + 10 * p + 6)) 32)))) dX8_number_74 cc_X8_number_39 rfl rfl rfl (Nat.le_of_ble_eq_true rfl) (j_bitCount (by have := Nat.lt_of_lt_of_le hP.m.2.1 (Nat.pow_le_pow_right (by decide) hP.m.1); omega)) rfl ?_
  exact r_iret (ty := .int) dX8_number_77 rfl rfl ⟨congrArg (fun z => Sum.inl (some (Value.int (nI z)))) hP.m.2.2.1, rfl⟩
theorem f_num {G : GI} {S : Hp} {w : Nat → Nat} {k o : Nat} {A c g : Nat → Nat} {N : Nat} {x : Nat} (hxt : zT S x = 14) (hxo : zP S 416 x = some o) (h : OR S w k o A c) (hr : Rel c g N) (hal : ∀ l, l < g 0 → A l ≠ 0) {p : Nat} (hp : p < 4) {q : Nat} (hq : q < 7) : Fn m_X8_number G [.ref (o + 12 + p), .int (nI q)] S (some (.int (nI (g (22 + 10 * p + q))))) S := by
  obtain rfl | rfl | rfl | rfl | rfl | rfl | rfl : q = 0 ∨ q = 1 ∨ q = 2 ∨ q = 3 ∨ q = 4 ∨ q = 5 ∨ q = 6 := by omega
  · exact (f_num_0 hxt hxo h hr hal hp)
  · exact (f_num_1 hxt hxo h hr hal hp)
  · exact (f_num_2 hxt hxo h hr hal hp)
  · exact (f_num_3 hxt hxo h hr hal hp)
  · exact (f_num_4 hxt hxo h hr hal hp)
  · exact (f_num_5 hxt hxo h hr hal hp)
  · exact (f_num_6 hxt hxo h hr hal hp)
set_option maxRecDepth 4000 in
set_option maxHeartbeats 400000 in
theorem f_policy_0 {G : GI} {S : Hp} {w : Nat → Nat} {k o : Nat} {A c g : Nat → Nat} {N : Nat} {x : Nat} (hxt : zT S x = 14) (hxo : zP S 416 x = some o) (h : OR S w k o A c) (hr : Rel c g N) (hal : ∀ l, l < g 0 → A l ≠ 0) {p : Nat} (hp : p < 4) {q : Nat} (hq : q < 7) : Fn m_X12_policy G [.ref (x), .int (nI (p)), .int (nI (q))] S (some (.int (nI (g (22 + 10 * p + q))))) S := by
  refine Cn.of rfl (by decide) (Nat.le_of_ble_eq_true rfl) (fun hN hM => ?_)
  show Wx _ G _ 0 [(0, .ref (x)), (1, .int (nI (p))), (2, .int (nI (q)))] [] _
  have hx := OX.refl h
  have h24 := hr.n24
  refine r_aload_n dX12_policy_0 rfl 0 rfl ?_
  refine r_iload_n dX12_policy_1 rfl 1 rfl ?_
  refine r_fnV (M2 := m_X12_existingProduct) (As := [.int (nI (p))]) (rest := []) (v := some (.ref (o + 12 + p))) dX12_policy_2 cc_X12_policy_96 rfl rfl rfl (Nat.le_of_ble_eq_true rfl) hxt rfl rfl (by decide) (f_prod hxt hxo h hr hal (by omega)) rfl ?_
  refine r_astore_n (lv' := [(3, .ref (o + 12 + p)), (0, .ref (x)), (1, .int (nI (p))), (2, .int (nI (q)))]) dX12_policy_5 rfl (by decide) rfl ?_
  refine r_iload_n dX12_policy_6 rfl 3 rfl ?_
  refine r_if_ltN (tgt := 16) dX12_policy_7 (by decide) (by omega) ?_
  refine r_iload_n dX12_policy_10 rfl 3 rfl ?_
  refine r_bipush (v := nI 6) dX12_policy_11 (by decide) ?_
  refine r_icmp_leN (tgt := 24) dX12_policy_13 (by decide) (by omega) (by omega) (fun h13 => ?_) (fun h13 => ?_)
  · refine r_aload_n dX12_policy_24 rfl 0 rfl ?_
    refine r_iload_n dX12_policy_25 rfl 3 rfl ?_
    refine r_fnV (M2 := m_X8_number) (As := [.int (nI (q))]) (rest := []) (v := some (.int (nI (g (22 + 10 * p + q))))) dX12_policy_26 cc_X12_policy_103 rfl rfl rfl (Nat.le_of_ble_eq_true rfl) (hx.1.1.2.2.2.2.2.2.2.2 p (by omega)).2 rfl rfl (by decide) (f_num hxt hxo h hr hal hp (by omega)) rfl ?_
    exact r_iret (ty := .int) dX12_policy_29 rfl rfl ⟨rfl, rfl⟩
  · exact absurd h13 (by omega)
set_option maxRecDepth 4000 in
set_option maxHeartbeats 400000 in
theorem f_policy_1 {G : GI} {S : Hp} {w : Nat → Nat} {k o : Nat} {A c g : Nat → Nat} {N : Nat} {x : Nat} (hxt : zT S x = 14) (hxo : zP S 416 x = some o) (h : OR S w k o A c) (hr : Rel c g N) (hal : ∀ l, l < g 0 → A l ≠ 0) (hc1 : zX S + 1 ≤ gN G) (hu6 : zU S + 6 ≤ gM G) {y : Int32} (hno : ¬ vp_in y 4) {z : Int32} : FT m_X12_policy G [.ref (x), .int (y), .int (z)] S "java/lang/IndexOutOfBoundsException" := by
  refine Cn.of rfl (by decide) (Nat.le_of_ble_eq_true rfl) (fun hN hM => ?_)
  show Wx _ G _ 0 [(0, .ref (x)), (1, .int (y)), (2, .int (z))] [] _
  have hx := OX.refl h
  have h24 := hr.n24
  refine r_aload_n dX12_policy_0 rfl 0 rfl ?_
  refine r_iload_n dX12_policy_1 rfl 1 rfl ?_
  exact r_ftV (M2 := m_X12_existingProduct) (As := [.int (y)]) (rest := []) dX12_policy_2 cc_X12_policy_96 rfl rfl rfl (Nat.le_of_ble_eq_true rfl) hxt rfl rfl (by decide) (f_prod_no hxt hxo h hr hal hc1 hu6 hno) rfl (fun y u h1 h2 => ⟨rfl, y, u, h1, h2, rfl⟩)
theorem vp_le {z : Int32} {n : Nat} (hn : n + 1 < 2 ^ 31) (h1 : ¬ z < 0) (h2 : z ≤ nI n) : vp_in z (n + 1) := by
  obtain ⟨j, hj, rfl⟩ := nI_of h1
  exact vp_in_nI (Nat.lt_succ_of_le (Nat.le_of_not_lt fun q => nI_ge q hj h2)) hn
theorem vp_lt {z : Int32} {n : Nat} (hn : n < 2 ^ 31) (h1 : ¬ z < 0) (h2 : z < nI n) : vp_in z n := by
  obtain ⟨j, hj, rfl⟩ := nI_of h1
  exact vp_in_nI (Nat.lt_of_not_le fun q => nI_nlt q hj h2) hn
set_option maxRecDepth 4000 in
set_option maxHeartbeats 400000 in
theorem f_policy_2 {G : GI} {S : Hp} {w : Nat → Nat} {k o : Nat} {A c g : Nat → Nat} {N : Nat} {x : Nat} (hxt : zT S x = 14) (hxo : zP S 416 x = some o) (h : OR S w k o A c) (hr : Rel c g N) (hal : ∀ l, l < g 0 → A l ≠ 0) (hc1 : zX S + 1 ≤ gN G) (hu6 : zU S + 6 ≤ gM G) {p : Nat} (hp : p < 4) {z : Int32} (hz : ¬ vp_in z 7) : FT m_X12_policy G [.ref (x), .int (nI (p)), .int (z)] S "java/lang/IllegalArgumentException" := by
  refine Cn.of rfl (by decide) (Nat.le_of_ble_eq_true rfl) (fun hN hM => ?_)
  show Wx _ G _ 0 [(0, .ref (x)), (1, .int (nI (p))), (2, .int (z))] [] _
  have hx := OX.refl h
  have h24 := hr.n24
  refine r_aload_n dX12_policy_0 rfl 0 rfl ?_
  refine r_iload_n dX12_policy_1 rfl 1 rfl ?_
  refine r_fnV (M2 := m_X12_existingProduct) (As := [.int (nI (p))]) (rest := []) (v := some (.ref (o + 12 + p))) dX12_policy_2 cc_X12_policy_96 rfl rfl rfl (Nat.le_of_ble_eq_true rfl) hxt rfl rfl (by decide) (f_prod hxt hxo h hr hal (by omega)) rfl ?_
  refine r_astore_n (lv' := [(3, .ref (o + 12 + p)), (0, .ref (x)), (1, .int (nI (p))), (2, .int (z))]) dX12_policy_5 rfl (by decide) rfl ?_
  refine r_iload_n dX12_policy_6 rfl 3 rfl ?_
  refine r_if_lt (tgt := 16) dX12_policy_7 (by decide) (fun h7 => ?_) (fun h7 => ?_)
  · exact r_throw (ft_IA (by decide)) rfl dX12_policy_16 dX12_policy_19 dX12_policy_20 dX12_policy_23 (by decide) (by first | exact hc1 | omega) (by first | exact hu6 | omega) (fun y u h1 h2 h3 h4 => ⟨rfl, y, u, ⟨h1, h2⟩, ⟨h3, h4⟩, rfl⟩)
  · refine r_iload_n dX12_policy_10 rfl 3 rfl ?_
    refine r_bipush (v := nI 6) dX12_policy_11 (by decide) ?_
    refine r_icmp_le (tgt := 24) dX12_policy_13 (by decide) (fun h13 => ?_) (fun h13 => ?_)
    · exact absurd (vp_le (n := 6) (by decide) h7 h13) hz
    · exact r_throw (ft_IA (by decide)) rfl dX12_policy_16 dX12_policy_19 dX12_policy_20 dX12_policy_23 (by decide) (by first | exact hc1 | omega) (by first | exact hu6 | omega) (fun y u h1 h2 h3 h4 => ⟨rfl, y, u, ⟨h1, h2⟩, ⟨h3, h4⟩, rfl⟩)
theorem f_lnum {G : GI} {S : Hp} {w : Nat → Nat} {k o : Nat} {A c g : Nat → Nat} {N : Nat} {x : Nat} (hxt : zT S x = 14) (hxo : zP S 416 x = some o) (h : OR S w k o A c) (hr : Rel c g N) (hal : ∀ l, l < g 0 → A l ≠ 0) {l : Nat} (hl : l < g 0) {q : Nat} (hq : q < 10) : Fn m_X5_number G [.ref (A l), .int (nI q)] S (some (.int (nI (g (90 + 13 * l + q))))) S := by
  have h24 := hr.n24
  have hl24 : l < 24 := by omega
  have hAl := hal l hl
  have hL := hr.lot hl
  obtain rfl | rfl | rfl | rfl | rfl | rfl | rfl | rfl | rfl | rfl : q = 0 ∨ q = 1 ∨ q = 2 ∨ q = 3 ∨ q = 4 ∨ q = 5 ∨ q = 6 ∨ q = 7 ∨ q = 8 ∨ q = 9 := by omega
  · exact Fn.eq (k_number_0 (h.lo hl24 hAl).2.1) (congrArg (fun z => some (Value.int z)) ((h.l0 hl24 hAl).trans (congrArg nI (hL.h (f := 0) (by decide))))) rfl
  · exact Fn.eq (k_number_1 (h.lo hl24 hAl).2.1) (congrArg (fun z => some (Value.int z)) ((h.l2 hl24 hAl).trans (congrArg nI (hL.h (f := 1) (by decide))))) rfl
  · exact Fn.eq (k_number_2 (h.lo hl24 hAl).2.1) (congrArg (fun z => some (Value.int z)) ((h.l3 hl24 hAl).trans (congrArg nI (hL.h (f := 2) (by decide))))) rfl
  · exact Fn.eq (k_number_3 (h.lo hl24 hAl).2.1) (congrArg (fun z => some (Value.int z)) ((h.l4 hl24 hAl).trans (congrArg nI (hL.h (f := 3) (by decide))))) rfl
  · exact Fn.eq (k_number_4 (h.lo hl24 hAl).2.1) (congrArg (fun z => some (Value.int z)) ((h.l5 hl24 hAl).trans (congrArg nI (hL.h (f := 4) (by decide))))) rfl
  · exact Fn.eq (k_number_5 (h.lo hl24 hAl).2.1) (congrArg (fun z => some (Value.int z)) ((h.l6 hl24 hAl).trans (congrArg nI (hL.h (f := 5) (by decide))))) rfl
  · exact Fn.eq (k_number_6 (h.lo hl24 hAl).2.1) (congrArg (fun z => some (Value.int z)) ((h.l7 hl24 hAl).trans (congrArg nI (hL.h (f := 6) (by decide))))) rfl
  · exact Fn.eq (k_number_7 (h.lo hl24 hAl).2.1) (congrArg (fun z => some (Value.int z)) ((h.l8 hl24 hAl).trans (congrArg nI (hL.h (f := 7) (by decide))))) rfl
  · exact Fn.eq (k_number_8 (h.lo hl24 hAl).2.1) (congrArg (fun z => some (Value.int z)) ((h.l9 hl24 hAl).trans (congrArg nI (hL.h (f := 8) (by decide))))) rfl
  · exact Fn.eq (k_number_9 (h.lo hl24 hAl).2.1) (congrArg (fun z => some (Value.int z)) ((h.l1 hl24 hAl).trans (congrArg nI (hL.h (f := 9) (by decide))))) rfl
set_option maxRecDepth 4000 in
set_option maxHeartbeats 400000 in
theorem f_lot_0 {G : GI} {S : Hp} {w : Nat → Nat} {k o : Nat} {A c g : Nat → Nat} {N : Nat} {x : Nat} (hxt : zT S x = 14) (hxo : zP S 416 x = some o) (h : OR S w k o A c) (hr : Rel c g N) (hal : ∀ l, l < g 0 → A l ≠ 0) {l : Nat} (hl : l < g 0) {q : Nat} (hq : q < 10) : Fn m_X12_lot G [.ref (x), .int (nI (l)), .int (nI (q))] S (some (.int (nI (g (90 + 13 * l + q))))) S := by
  refine Cn.of rfl (by decide) (Nat.le_of_ble_eq_true rfl) (fun hN hM => ?_)
  show Wx _ G _ 0 [(0, .ref (x)), (1, .int (nI (l))), (2, .int (nI (q)))] [] _
  have hx := OX.refl h
  have h24 := hr.n24
  have hl24 : l < 24 := by omega
  have hAl := hal l hl
  have hL := hr.lot hl
  have hz := hL.z
  refine r_aload_n dX12_lot_0 rfl 0 rfl ?_
  refine r_iload_n dX12_lot_1 rfl 1 rfl ?_
  refine r_fnV (M2 := m_X12_existingLot) (As := [.int (nI (l))]) (rest := []) (v := some (.ref (A l))) dX12_lot_2 cc_X12_lot_152 rfl rfl rfl (Nat.le_of_ble_eq_true rfl) hxt rfl rfl (by decide) (f_lot hxt hxo h hr hal hl) rfl ?_
  refine r_astore_n (lv' := [(3, .ref (A l)), (0, .ref (x)), (1, .int (nI (l))), (2, .int (nI (q)))]) dX12_lot_5 rfl (by decide) rfl ?_
  refine r_iload_n dX12_lot_6 rfl 3 rfl ?_
  refine r_if_ltN (tgt := 16) dX12_lot_7 (by decide) (by omega) ?_
  refine r_iload_n dX12_lot_10 rfl 3 rfl ?_
  refine r_bipush (v := nI 9) dX12_lot_11 (by decide) ?_
  refine r_icmp_leN (tgt := 24) dX12_lot_13 (by decide) (by omega) (by omega) (fun h13 => ?_) (fun h13 => ?_)
  · refine r_aload_n dX12_lot_24 rfl 0 rfl ?_
    refine r_iload_n dX12_lot_25 rfl 3 rfl ?_
    refine r_fnV (M2 := m_X5_number) (As := [.int (nI (q))]) (rest := []) (v := some (.int (nI (g (90 + 13 * l + q))))) dX12_lot_26 cc_X12_lot_156 rfl rfl rfl (Nat.le_of_ble_eq_true rfl) (hx.1.lo hl24 hAl).2.1 rfl rfl (by decide) (f_lnum hxt hxo h hr hal hl (by omega)) rfl ?_
    exact r_iret (ty := .int) dX12_lot_29 rfl rfl ⟨rfl, rfl⟩
  · exact absurd h13 (by omega)
set_option maxRecDepth 4000 in
set_option maxHeartbeats 400000 in
theorem f_lot_1 {G : GI} {S : Hp} {w : Nat → Nat} {k o : Nat} {A c g : Nat → Nat} {N : Nat} {x : Nat} (hxt : zT S x = 14) (hxo : zP S 416 x = some o) (h : OR S w k o A c) (hr : Rel c g N) (hal : ∀ l, l < g 0 → A l ≠ 0) (hc1 : zX S + 1 ≤ gN G) (hu6 : zU S + 6 ≤ gM G) {y : Int32} (hno : ¬ vp_in y (g 0)) {z : Int32} : FT m_X12_lot G [.ref (x), .int (y), .int (z)] S "java/lang/IndexOutOfBoundsException" := by
  refine Cn.of rfl (by decide) (Nat.le_of_ble_eq_true rfl) (fun hN hM => ?_)
  show Wx _ G _ 0 [(0, .ref (x)), (1, .int (y)), (2, .int (z))] [] _
  have hx := OX.refl h
  have h24 := hr.n24
  refine r_aload_n dX12_lot_0 rfl 0 rfl ?_
  refine r_iload_n dX12_lot_1 rfl 1 rfl ?_
  exact r_ftV (M2 := m_X12_existingLot) (As := [.int (y)]) (rest := []) dX12_lot_2 cc_X12_lot_152 rfl rfl rfl (Nat.le_of_ble_eq_true rfl) hxt rfl rfl (by decide) (f_lot_no hxt hxo h hr hal hc1 hu6 hno) rfl (fun y u h1 h2 => ⟨rfl, y, u, h1, h2, rfl⟩)
set_option maxRecDepth 4000 in
set_option maxHeartbeats 400000 in
theorem f_lot_2 {G : GI} {S : Hp} {w : Nat → Nat} {k o : Nat} {A c g : Nat → Nat} {N : Nat} {x : Nat} (hxt : zT S x = 14) (hxo : zP S 416 x = some o) (h : OR S w k o A c) (hr : Rel c g N) (hal : ∀ l, l < g 0 → A l ≠ 0) (hc1 : zX S + 1 ≤ gN G) (hu6 : zU S + 6 ≤ gM G) {l : Nat} (hl : l < g 0) {z : Int32} (hz9 : ¬ vp_in z 10) : FT m_X12_lot G [.ref (x), .int (nI (l)), .int (z)] S "java/lang/IllegalArgumentException" := by
  refine Cn.of rfl (by decide) (Nat.le_of_ble_eq_true rfl) (fun hN hM => ?_)
  show Wx _ G _ 0 [(0, .ref (x)), (1, .int (nI (l))), (2, .int (z))] [] _
  have hx := OX.refl h
  have h24 := hr.n24
  have hl24 : l < 24 := by omega
  have hAl := hal l hl
  have hL := hr.lot hl
  have hz := hL.z
  refine r_aload_n dX12_lot_0 rfl 0 rfl ?_
  refine r_iload_n dX12_lot_1 rfl 1 rfl ?_
  refine r_fnV (M2 := m_X12_existingLot) (As := [.int (nI (l))]) (rest := []) (v := some (.ref (A l))) dX12_lot_2 cc_X12_lot_152 rfl rfl rfl (Nat.le_of_ble_eq_true rfl) hxt rfl rfl (by decide) (f_lot hxt hxo h hr hal hl) rfl ?_
  refine r_astore_n (lv' := [(3, .ref (A l)), (0, .ref (x)), (1, .int (nI (l))), (2, .int (z))]) dX12_lot_5 rfl (by decide) rfl ?_
  refine r_iload_n dX12_lot_6 rfl 3 rfl ?_
  refine r_if_lt (tgt := 16) dX12_lot_7 (by decide) (fun h7 => ?_) (fun h7 => ?_)
  · exact r_throw (ft_IA (by decide)) rfl dX12_lot_16 dX12_lot_19 dX12_lot_20 dX12_lot_23 (by decide) (by first | exact hc1 | omega) (by first | exact hu6 | omega) (fun y u h1 h2 h3 h4 => ⟨rfl, y, u, ⟨h1, h2⟩, ⟨h3, h4⟩, rfl⟩)
  · refine r_iload_n dX12_lot_10 rfl 3 rfl ?_
    refine r_bipush (v := nI 9) dX12_lot_11 (by decide) ?_
    refine r_icmp_le (tgt := 24) dX12_lot_13 (by decide) (fun h13 => ?_) (fun h13 => ?_)
    · exact absurd (vp_le (n := 9) (by decide) h7 h13) hz9
    · exact r_throw (ft_IA (by decide)) rfl dX12_lot_16 dX12_lot_19 dX12_lot_20 dX12_lot_23 (by decide) (by first | exact hc1 | omega) (by first | exact hu6 | omega) (fun y u h1 h2 h3 h4 => ⟨rfl, y, u, ⟨h1, h2⟩, ⟨h3, h4⟩, rfl⟩)
