theorem sw_out {n : Nat} {z : Int32} (hn : n + 1 < 2 ^ 31) (h : ¬ vp_in z (n + 1)) : z.toInt < 0 ∨ (n : Int) < z.toInt := by
  refine Classical.byContradiction fun q => h ?_
  have h1 : ¬ z < 0 := by rw [Int32.lt_iff_toInt_lt, Int32.toInt_zero]; omega
  obtain ⟨j, hj, rfl⟩ := nI_of h1
  rw [nI_toInt hj] at q
  exact vp_in_nI (by omega) hn
set_option maxRecDepth 4000 in
set_option maxHeartbeats 400000 in
theorem f_table_1 {G : GI} {S : Hp} {w : Nat → Nat} {k o : Nat} {A c g : Nat → Nat} {N : Nat} {x : Nat} (hxt : zT S x = 14) (hxo : zP S 416 x = some o) (h : OR S w k o A c) (hr : Rel c g N) (hal : ∀ l, l < g 0 → A l ≠ 0) (hc1 : zX S + 1 ≤ gN G) (hu6 : zU S + 6 ≤ gM G) {y : Int32} (hno : ¬ vp_in y 4) {z z2 z3 : Int32} : FT m_X12_table G [.ref (x), .int (y), .int (z), .int (z2), .int (z3)] S "java/lang/IndexOutOfBoundsException" := by
  refine Cn.of rfl (by decide) (Nat.le_of_ble_eq_true rfl) (fun hN hM => ?_)
  show Wx _ G _ 0 [(0, .ref (x)), (1, .int (y)), (2, .int (z)), (3, .int (z2)), (4, .int (z3))] [] _
  have hx := OX.refl h
  have h24 := hr.n24
  refine r_aload_n dX12_table_0 rfl 0 rfl ?_
  refine r_iload_n dX12_table_1 rfl 1 rfl ?_
  exact r_ftV (M2 := m_X12_existingProduct) (As := [.int (y)]) (rest := []) dX12_table_2 cc_X12_table_96 rfl rfl rfl (Nat.le_of_ble_eq_true rfl) hxt rfl rfl (by decide) (f_prod_no hxt hxo h hr hal hc1 hu6 hno) rfl (fun y u h1 h2 => ⟨rfl, y, u, h1, h2, rfl⟩)
set_option maxRecDepth 4000 in
set_option maxHeartbeats 400000 in
theorem f_table_2 {G : GI} {S : Hp} {w : Nat → Nat} {k o : Nat} {A c g : Nat → Nat} {N : Nat} {x : Nat} (hxt : zT S x = 14) (hxo : zP S 416 x = some o) (h : OR S w k o A c) (hr : Rel c g N) (hal : ∀ l, l < g 0 → A l ≠ 0) (hc1 : zX S + 1 ≤ gN G) (hu6 : zU S + 6 ≤ gM G) {p : Nat} (hp : p < 4) {y z z2 : Int32} (hy : ¬ (nI 1 ≤ y ∧ y ≤ nI 200)) : FT m_X12_table G [.ref (x), .int (nI (p)), .int (y), .int (z), .int (z2)] S "java/lang/IllegalArgumentException" := by
  refine Cn.of rfl (by decide) (Nat.le_of_ble_eq_true rfl) (fun hN hM => ?_)
  show Wx _ G _ 0 [(0, .ref (x)), (1, .int (nI (p))), (2, .int (y)), (3, .int (z)), (4, .int (z2))] [] _
  have hx := OX.refl h
  have h24 := hr.n24
  refine r_aload_n dX12_table_0 rfl 0 rfl ?_
  refine r_iload_n dX12_table_1 rfl 1 rfl ?_
  refine r_fnV (M2 := m_X12_existingProduct) (As := [.int (nI (p))]) (rest := []) (v := some (.ref (o + 12 + p))) dX12_table_2 cc_X12_table_96 rfl rfl rfl (Nat.le_of_ble_eq_true rfl) hxt rfl rfl (by decide) (f_prod hxt hxo h hr hal (by omega)) rfl ?_
  refine r_astore (lv' := [(5, .ref (o + 12 + p)), (0, .ref (x)), (1, .int (nI (p))), (2, .int (y)), (3, .int (z)), (4, .int (z2))]) dX12_table_5 (by decide) rfl ?_
  refine r_iload_n dX12_table_7 rfl 3 rfl ?_
  refine r_iconst (v := nI 1) dX12_table_8 (by decide) ?_
  refine r_icmp_lt (tgt := 28) dX12_table_9 (by decide) (fun h9 => ?_) (fun h9 => ?_)
  · exact r_throw (ft_IA (by decide)) rfl dX12_table_28 dX12_table_31 dX12_table_32 dX12_table_35 (by decide) (by first | exact hc1 | omega) (by first | exact hu6 | omega) (fun y u h1 h2 h3 h4 => ⟨rfl, y, u, ⟨h1, h2⟩, ⟨h3, h4⟩, rfl⟩)
  · refine r_iload_n dX12_table_12 rfl 3 rfl ?_
    refine r_sipush (v := nI 200) dX12_table_13 (by decide) ?_
    refine r_icmp_gt (tgt := 28) dX12_table_16 (by decide) (fun h16 => ?_) (fun h16 => ?_)
    · exact r_throw (ft_IA (by decide)) rfl dX12_table_28 dX12_table_31 dX12_table_32 dX12_table_35 (by decide) (by first | exact hc1 | omega) (by first | exact hu6 | omega) (fun y u h1 h2 h3 h4 => ⟨rfl, y, u, ⟨h1, h2⟩, ⟨h3, h4⟩, rfl⟩)
    · exact absurd ⟨Int32.not_lt.mp h9, Int32.not_lt.mp h16⟩ hy
set_option maxRecDepth 4000 in
set_option maxHeartbeats 400000 in
theorem f_table_3 {G : GI} {S : Hp} {w : Nat → Nat} {k o : Nat} {A c g : Nat → Nat} {N : Nat} {x : Nat} (hxt : zT S x = 14) (hxo : zP S 416 x = some o) (h : OR S w k o A c) (hr : Rel c g N) (hal : ∀ l, l < g 0 → A l ≠ 0) (hc1 : zX S + 1 ≤ gN G) (hu6 : zU S + 6 ≤ gM G) {p : Nat} (hp : p < 4) {n : Nat} (hn0 : 0 < n) (hn : n ≤ 200) {z : Int32} (hz : ¬ vp_in z 3) {z2 : Int32} : FT m_X12_table G [.ref (x), .int (nI (p)), .int (nI (n)), .int (z), .int (z2)] S "java/lang/IllegalArgumentException" := by
  refine Cn.of rfl (by decide) (Nat.le_of_ble_eq_true rfl) (fun hN hM => ?_)
  show Wx _ G _ 0 [(0, .ref (x)), (1, .int (nI (p))), (2, .int (nI (n))), (3, .int (z)), (4, .int (z2))] [] _
  have hx := OX.refl h
  have h24 := hr.n24
  refine r_aload_n dX12_table_0 rfl 0 rfl ?_
  refine r_iload_n dX12_table_1 rfl 1 rfl ?_
  refine r_fnV (M2 := m_X12_existingProduct) (As := [.int (nI (p))]) (rest := []) (v := some (.ref (o + 12 + p))) dX12_table_2 cc_X12_table_96 rfl rfl rfl (Nat.le_of_ble_eq_true rfl) hxt rfl rfl (by decide) (f_prod hxt hxo h hr hal (by omega)) rfl ?_
  refine r_astore (lv' := [(5, .ref (o + 12 + p)), (0, .ref (x)), (1, .int (nI (p))), (2, .int (nI (n))), (3, .int (z)), (4, .int (z2))]) dX12_table_5 (by decide) rfl ?_
  refine r_iload_n dX12_table_7 rfl 3 rfl ?_
  refine r_iconst (v := nI 1) dX12_table_8 (by decide) ?_
  refine r_icmp_ltN (tgt := 28) dX12_table_9 (by decide) (by omega) (by omega) (fun h9 => ?_) (fun h9 => ?_)
  · exact absurd h9 (by omega)
  · refine r_iload_n dX12_table_12 rfl 3 rfl ?_
    refine r_sipush (v := nI 200) dX12_table_13 (by decide) ?_
    refine r_icmp_gtN (tgt := 28) dX12_table_16 (by decide) (by omega) (by omega) (fun h16 => ?_) (fun h16 => ?_)
    · exact absurd h16 (by omega)
    · refine r_iload_n dX12_table_19 rfl 4 rfl ?_
      refine r_if_lt (tgt := 28) dX12_table_20 (by decide) (fun h20 => ?_) (fun h20 => ?_)
      · exact r_throw (ft_IA (by decide)) rfl dX12_table_28 dX12_table_31 dX12_table_32 dX12_table_35 (by decide) (by first | exact hc1 | omega) (by first | exact hu6 | omega) (fun y u h1 h2 h3 h4 => ⟨rfl, y, u, ⟨h1, h2⟩, ⟨h3, h4⟩, rfl⟩)
      · refine r_iload_n dX12_table_23 rfl 4 rfl ?_
        refine r_iconst (v := nI 2) dX12_table_24 (by decide) ?_
        refine r_icmp_le (tgt := 36) dX12_table_25 (by decide) (fun h25 => ?_) (fun h25 => ?_)
        · exact absurd (vp_le (n := 2) (by decide) h20 h25) hz
        · exact r_throw (ft_IA (by decide)) rfl dX12_table_28 dX12_table_31 dX12_table_32 dX12_table_35 (by decide) (by first | exact hc1 | omega) (by first | exact hu6 | omega) (fun y u h1 h2 h3 h4 => ⟨rfl, y, u, ⟨h1, h2⟩, ⟨h3, h4⟩, rfl⟩)
theorem smp_le {n v : Nat} : smpN n v ≤ 32 := by
  refine Nat.le_trans (Nat.min_le_left _ _) ?_
  unfold sizeN
  repeat' split
  all_goals decide
set_option maxRecDepth 4000 in
set_option maxHeartbeats 400000 in
theorem f_table_a {G : GI} {S : Hp} {w : Nat → Nat} {k o : Nat} {A c g : Nat → Nat} {N : Nat} {x : Nat} (hxt : zT S x = 14) (hxo : zP S 416 x = some o) (h : OR S w k o A c) (hr : Rel c g N) (hal : ∀ l, l < g 0 → A l ≠ 0) {p : Nat} (hp : p < 4) {n v : Nat} (hn0 : 0 < n) (hn : n ≤ 200) (hv : v < 3) : Fn m_X12_table G [.ref (x), .int (nI (p)), .int (nI (n)), .int (nI (v)), .int (nI (1))] S (some (.int (nI (smpN n v)))) S := by
  refine Cn.of rfl (by decide) (Nat.le_of_ble_eq_true rfl) (fun hN hM => ?_)
  show Wx _ G _ 0 [(0, .ref (x)), (1, .int (nI (p))), (2, .int (nI (n))), (3, .int (nI (v))), (4, .int (nI (1)))] [] _
  have hx := OX.refl h
  have h24 := hr.n24
  have hP := hr.p hp
  have hPb := hP.b
  have hPm := hP.m
  have hPs := hP.s
  refine r_aload_n dX12_table_0 rfl 0 rfl ?_
  refine r_iload_n dX12_table_1 rfl 1 rfl ?_
  refine r_fnV (M2 := m_X12_existingProduct) (As := [.int (nI (p))]) (rest := []) (v := some (.ref (o + 12 + p))) dX12_table_2 cc_X12_table_96 rfl rfl rfl (Nat.le_of_ble_eq_true rfl) hxt rfl rfl (by decide) (f_prod hxt hxo h hr hal (by (first | omega | (have := @smp_le n v; omega)))) rfl ?_
  refine r_astore (lv' := [(5, .ref (o + 12 + p)), (0, .ref (x)), (1, .int (nI (p))), (2, .int (nI (n))), (3, .int (nI (v))), (4, .int (nI (1)))]) dX12_table_5 (by decide) rfl ?_
  refine r_iload_n dX12_table_7 rfl 3 rfl ?_
  refine r_iconst (v := nI 1) dX12_table_8 (by decide) ?_
  refine r_icmp_ltN (tgt := 28) dX12_table_9 (by decide) (by (first | omega | (have := @smp_le n v; omega))) (by (first | omega | (have := @smp_le n v; omega))) (fun h9 => ?_) (fun h9 => ?_)
  · exact absurd h9 (by omega)
  · refine r_iload_n dX12_table_12 rfl 3 rfl ?_
    refine r_sipush (v := nI 200) dX12_table_13 (by decide) ?_
    refine r_icmp_gtN (tgt := 28) dX12_table_16 (by decide) (by (first | omega | (have := @smp_le n v; omega))) (by (first | omega | (have := @smp_le n v; omega))) (fun h16 => ?_) (fun h16 => ?_)
    · exact absurd h16 (by omega)
    · refine r_iload_n dX12_table_19 rfl 4 rfl ?_
      refine r_if_ltN (tgt := 28) dX12_table_20 (by decide) (by (first | omega | (have := @smp_le n v; omega))) ?_
      refine r_iload_n dX12_table_23 rfl 4 rfl ?_
      refine r_iconst (v := nI 2) dX12_table_24 (by decide) ?_
      refine r_icmp_leN (tgt := 36) dX12_table_25 (by decide) (by (first | omega | (have := @smp_le n v; omega))) (by (first | omega | (have := @smp_le n v; omega))) (fun h25 => ?_) (fun h25 => ?_)
      · refine r_iload_n dX12_table_36 rfl 3 rfl ?_
        refine r_iload_n dX12_table_37 rfl 4 rfl ?_
        refine r_fnS (M2 := m_X8_sampleSize) (As := [.int (nI (n)), .int (nI (v))]) (rest := []) (v := some (.int (nI (smpN n v)))) dX12_table_38 cc_X12_table_106 rfl rfl rfl (Nat.le_of_ble_eq_true rfl) (k_sample (by (first | omega | (have := @smp_le n v; omega))) (by (first | omega | (have := @smp_le n v; omega)))) rfl ?_
        refine r_istore (lv' := [(6, .int (nI (smpN n v))), (5, .ref (o + 12 + p)), (0, .ref (x)), (1, .int (nI (p))), (2, .int (nI (n))), (3, .int (nI (v))), (4, .int (nI (1)))]) dX12_table_41 (by decide) rfl ?_
        refine r_iload dX12_table_43 6 rfl ?_
        refine r_if_eqN (tgt := 53) dX12_table_45 (by decide) (by (first | omega | (have := @smp_le n v; omega))) (fun zz45 => ?_) (fun zz45 => ?_)
        · exact absurd zz45 (by decide)
        · refine r_iload dX12_table_48 0 rfl ?_
          refine r_goto (tgt := 61) dX12_table_50 (by decide) ?_
          exact r_iret (ty := .int) dX12_table_61 rfl rfl ⟨rfl, rfl⟩
      · exact absurd h25 (by omega)
set_option maxRecDepth 4000 in
set_option maxHeartbeats 400000 in
theorem f_table_b {G : GI} {S : Hp} {w : Nat → Nat} {k o : Nat} {A c g : Nat → Nat} {N : Nat} {x : Nat} (hxt : zT S x = 14) (hxo : zP S 416 x = some o) (h : OR S w k o A c) (hr : Rel c g N) (hal : ∀ l, l < g 0 → A l ≠ 0) {p : Nat} (hp : p < 4) {n v : Nat} (hn0 : 0 < n) (hn : n ≤ 200) (hv : v < 3) : Fn m_X12_table G [.ref (x), .int (nI (p)), .int (nI (n)), .int (nI (v)), .int (nI (0))] S (some (.int (nI (alwN (smpN n v) (g (22 + 10 * p)) v)))) S := by
  refine Cn.of rfl (by decide) (Nat.le_of_ble_eq_true rfl) (fun hN hM => ?_)
  show Wx _ G _ 0 [(0, .ref (x)), (1, .int (nI (p))), (2, .int (nI (n))), (3, .int (nI (v))), (4, .int (nI (0)))] [] _
  have hx := OX.refl h
  have h24 := hr.n24
  have hP := hr.p hp
  have hPb := hP.b
  have hPm := hP.m
  have hPs := hP.s
  refine r_aload_n dX12_table_0 rfl 0 rfl ?_
  refine r_iload_n dX12_table_1 rfl 1 rfl ?_
  refine r_fnV (M2 := m_X12_existingProduct) (As := [.int (nI (p))]) (rest := []) (v := some (.ref (o + 12 + p))) dX12_table_2 cc_X12_table_96 rfl rfl rfl (Nat.le_of_ble_eq_true rfl) hxt rfl rfl (by decide) (f_prod hxt hxo h hr hal (by (first | omega | (have := @smp_le n v; omega)))) rfl ?_
  refine r_astore (lv' := [(5, .ref (o + 12 + p)), (0, .ref (x)), (1, .int (nI (p))), (2, .int (nI (n))), (3, .int (nI (v))), (4, .int (nI (0)))]) dX12_table_5 (by decide) rfl ?_
  refine r_iload_n dX12_table_7 rfl 3 rfl ?_
  refine r_iconst (v := nI 1) dX12_table_8 (by decide) ?_
  refine r_icmp_ltN (tgt := 28) dX12_table_9 (by decide) (by (first | omega | (have := @smp_le n v; omega))) (by (first | omega | (have := @smp_le n v; omega))) (fun h9 => ?_) (fun h9 => ?_)
  · exact absurd h9 (by omega)
  · refine r_iload_n dX12_table_12 rfl 3 rfl ?_
    refine r_sipush (v := nI 200) dX12_table_13 (by decide) ?_
    refine r_icmp_gtN (tgt := 28) dX12_table_16 (by decide) (by (first | omega | (have := @smp_le n v; omega))) (by (first | omega | (have := @smp_le n v; omega))) (fun h16 => ?_) (fun h16 => ?_)
    · exact absurd h16 (by omega)
    · refine r_iload_n dX12_table_19 rfl 4 rfl ?_
      refine r_if_ltN (tgt := 28) dX12_table_20 (by decide) (by (first | omega | (have := @smp_le n v; omega))) ?_
      refine r_iload_n dX12_table_23 rfl 4 rfl ?_
      refine r_iconst (v := nI 2) dX12_table_24 (by decide) ?_
      refine r_icmp_leN (tgt := 36) dX12_table_25 (by decide) (by (first | omega | (have := @smp_le n v; omega))) (by (first | omega | (have := @smp_le n v; omega))) (fun h25 => ?_) (fun h25 => ?_)
      · refine r_iload_n dX12_table_36 rfl 3 rfl ?_
        refine r_iload_n dX12_table_37 rfl 4 rfl ?_
        refine r_fnS (M2 := m_X8_sampleSize) (As := [.int (nI (n)), .int (nI (v))]) (rest := []) (v := some (.int (nI (smpN n v)))) dX12_table_38 cc_X12_table_106 rfl rfl rfl (Nat.le_of_ble_eq_true rfl) (k_sample (by (first | omega | (have := @smp_le n v; omega))) (by (first | omega | (have := @smp_le n v; omega)))) rfl ?_
        refine r_istore (lv' := [(6, .int (nI (smpN n v))), (5, .ref (o + 12 + p)), (0, .ref (x)), (1, .int (nI (p))), (2, .int (nI (n))), (3, .int (nI (v))), (4, .int (nI (0)))]) dX12_table_41 (by decide) rfl ?_
        refine r_iload dX12_table_43 6 rfl ?_
        refine r_if_eqN (tgt := 53) dX12_table_45 (by decide) (by (first | omega | (have := @smp_le n v; omega))) (fun zz45 => ?_) (fun zz45 => ?_)
        · refine r_aload dX12_table_53 1 rfl ?_
          refine r_iload dX12_table_55 0 rfl ?_
          refine r_iload_n dX12_table_57 rfl 5 rfl ?_
          refine r_fnV (M2 := m_X8_allowedIn) (As := [.int (nI (smpN n v)), .int (nI (v))]) (rest := []) (v := some (.int (nI (alwN (smpN n v) (g (22 + 10 * p)) v)))) dX12_table_58 cc_X12_table_110 rfl rfl rfl (Nat.le_of_ble_eq_true rfl) (hx.1.1.2.2.2.2.2.2.2.2 p (by (first | omega | (have := @smp_le n v; omega)))).2 rfl rfl (by decide) (k_allowed (q := g (22 + 10 * p)) (hx.1.1.2.2.2.2.2.2.2.2 p (by (first | omega | (have := @smp_le n v; omega)))).2 ((hx.1.p0 (i := p) (by (first | omega | (have := @smp_le n v; omega)))).trans (congrArg nI hP.c0)) smp_le hPb.1 (by (first | omega | (have := @smp_le n v; omega)))) rfl ?_
          exact r_iret (ty := .int) dX12_table_61 rfl rfl ⟨rfl, rfl⟩
        · exact absurd zz45 (by decide)
      · exact absurd h25 (by omega)
set_option maxRecDepth 4000 in
set_option maxHeartbeats 400000 in
theorem f_units_1 {G : GI} {S : Hp} {w : Nat → Nat} {k o : Nat} {A c g : Nat → Nat} {N : Nat} {x : Nat} (hxt : zT S x = 14) (hxo : zP S 416 x = some o) (h : OR S w k o A c) (hr : Rel c g N) (hal : ∀ l, l < g 0 → A l ≠ 0) (hc1 : zX S + 1 ≤ gN G) (hu6 : zU S + 6 ≤ gM G) {y : Int32} (hno : ¬ vp_in y (g 0)) {z : Int32} : FT m_X12_units G [.ref (x), .int (y), .int (z)] S "java/lang/IndexOutOfBoundsException" := by
  refine Cn.of rfl (by decide) (Nat.le_of_ble_eq_true rfl) (fun hN hM => ?_)
  show Wx _ G _ 0 [(0, .ref (x)), (1, .int (y)), (2, .int (z))] [] _
  have hx := OX.refl h
  have h24 := hr.n24
  refine r_aload_n dX12_units_0 rfl 0 rfl ?_
  refine r_iload_n dX12_units_1 rfl 1 rfl ?_
  exact r_ftV (M2 := m_X12_existingLot) (As := [.int (y)]) (rest := []) dX12_units_2 cc_X12_units_152 rfl rfl rfl (Nat.le_of_ble_eq_true rfl) hxt rfl rfl (by decide) (f_lot_no hxt hxo h hr hal hc1 hu6 hno) rfl (fun y u h1 h2 => ⟨rfl, y, u, h1, h2, rfl⟩)
set_option maxRecDepth 4000 in
set_option maxHeartbeats 400000 in
theorem f_units_2 {G : GI} {S : Hp} {w : Nat → Nat} {k o : Nat} {A c g : Nat → Nat} {N : Nat} {x : Nat} (hxt : zT S x = 14) (hxo : zP S 416 x = some o) (h : OR S w k o A c) (hr : Rel c g N) (hal : ∀ l, l < g 0 → A l ≠ 0) (hc1 : zX S + 1 ≤ gN G) (hu6 : zU S + 6 ≤ gM G) {l : Nat} (hl : l < g 0) {y : Int32} (hy : ¬ ((-1) ≤ y ∧ y ≤ nI 4)) : FT m_X12_units G [.ref (x), .int (nI (l)), .int (y)] S "java/lang/IllegalArgumentException" := by
  refine Cn.of rfl (by decide) (Nat.le_of_ble_eq_true rfl) (fun hN hM => ?_)
  show Wx _ G _ 0 [(0, .ref (x)), (1, .int (nI (l))), (2, .int (y))] [] _
  have hx := OX.refl h
  have h24 := hr.n24
  have hl24 : l < 24 := by omega
  have hAl := hal l hl
  have hL := hr.lot hl
  have hz := hL.z
  refine r_aload_n dX12_units_0 rfl 0 rfl ?_
  refine r_iload_n dX12_units_1 rfl 1 rfl ?_
  refine r_fnV (M2 := m_X12_existingLot) (As := [.int (nI (l))]) (rest := []) (v := some (.ref (A l))) dX12_units_2 cc_X12_units_152 rfl rfl rfl (Nat.le_of_ble_eq_true rfl) hxt rfl rfl (by decide) (f_lot hxt hxo h hr hal hl) rfl ?_
  refine r_astore_n (lv' := [(3, .ref (A l)), (0, .ref (x)), (1, .int (nI (l))), (2, .int (y))]) dX12_units_5 rfl (by decide) rfl ?_
  refine r_iload_n dX12_units_6 rfl 3 rfl ?_
  refine r_iconst (v := (-1)) dX12_units_7 (by decide) ?_
  refine r_icmp_lt (tgt := 16) dX12_units_8 (by decide) (fun h8 => ?_) (fun h8 => ?_)
  · exact r_throw (ft_IA (by decide)) rfl dX12_units_16 dX12_units_19 dX12_units_20 dX12_units_23 (by decide) (by first | exact hc1 | omega) (by first | exact hu6 | omega) (fun y u h1 h2 h3 h4 => ⟨rfl, y, u, ⟨h1, h2⟩, ⟨h3, h4⟩, rfl⟩)
  · refine r_iload_n dX12_units_11 rfl 3 rfl ?_
    refine r_iconst (v := nI 4) dX12_units_12 (by decide) ?_
    refine r_icmp_le (tgt := 24) dX12_units_13 (by decide) (fun h13 => ?_) (fun h13 => ?_)
    · exact absurd ⟨Int32.not_lt.mp h8, h13⟩ hy
    · exact r_throw (ft_IA (by decide)) rfl dX12_units_16 dX12_units_19 dX12_units_20 dX12_units_23 (by decide) (by first | exact hc1 | omega) (by first | exact hu6 | omega) (fun y u h1 h2 h3 h4 => ⟨rfl, y, u, ⟨h1, h2⟩, ⟨h3, h4⟩, rfl⟩)
set_option maxRecDepth 4000 in
set_option maxHeartbeats 400000 in
theorem f_units_a {G : GI} {S : Hp} {w : Nat → Nat} {k o : Nat} {A c g : Nat → Nat} {N : Nat} {x : Nat} (hxt : zT S x = 14) (hxo : zP S 416 x = some o) (h : OR S w k o A c) (hr : Rel c g N) (hal : ∀ l, l < g 0 → A l ≠ 0) {l : Nat} (hl : l < g 0) : Fn m_X12_units G [.ref (x), .int (nI (l)), .int ((-1))] S (some (.int (nI (badN g l)))) S := by
  refine Cn.of rfl (by decide) (Nat.le_of_ble_eq_true rfl) (fun hN hM => ?_)
  show Wx _ G _ 0 [(0, .ref (x)), (1, .int (nI (l))), (2, .int ((-1)))] [] _
  have hx := OX.refl h
  have h24 := hr.n24
  have hl24 : l < 24 := by omega
  have hAl := hal l hl
  have hL := hr.lot hl
  have hz := hL.z
  have hpr := hL.pr
  have hP := hr.p hpr
  have hPb := hP.b
  refine r_aload_n dX12_units_0 rfl 0 rfl ?_
  refine r_iload_n dX12_units_1 rfl 1 rfl ?_
  refine r_fnV (M2 := m_X12_existingLot) (As := [.int (nI (l))]) (rest := []) (v := some (.ref (A l))) dX12_units_2 cc_X12_units_152 rfl rfl rfl (Nat.le_of_ble_eq_true rfl) hxt rfl rfl (by decide) (f_lot hxt hxo h hr hal hl) rfl ?_
  refine r_astore_n (lv' := [(3, .ref (A l)), (0, .ref (x)), (1, .int (nI (l))), (2, .int ((-1)))]) dX12_units_5 rfl (by decide) rfl ?_
  refine r_iload_n dX12_units_6 rfl 3 rfl ?_
  refine r_iconst (v := (-1)) dX12_units_7 (by decide) ?_
  refine r_icmp_lt (tgt := 16) dX12_units_8 (by decide) (fun h8 => ?_) (fun h8 => ?_)
  · exact absurd h8 (by decide)
  · refine r_iload_n dX12_units_11 rfl 3 rfl ?_
    refine r_iconst (v := nI 4) dX12_units_12 (by decide) ?_
    refine r_icmp_le (tgt := 24) dX12_units_13 (by decide) (fun h13 => ?_) (fun h13 => ?_)
    · refine r_iload_n dX12_units_24 rfl 3 rfl ?_
      refine r_iconst (v := (-1)) dX12_units_25 (by decide) ?_
      refine r_icmp_ne (tgt := 45) dX12_units_26 (by decide) (fun h26 => ?_) (fun h26 => ?_)
      · exact absurd rfl h26
      · refine r_aload_n dX12_units_29 rfl 0 rfl ?_
        refine r_iconst (v := nI 0) dX12_units_30 (by decide) ?_
        refine r_aload_n dX12_units_31 rfl 1 rfl ?_
        refine r_getR (ci := 13) (k := 0) (b := o) dX12_units_32 fr_X12_10 hxt rfl hxo ?_
        refine r_aload_n dX12_units_35 rfl 0 rfl ?_
        refine r_fnV (M2 := m_X7_inspectedOf) (As := [.ref (A l)]) (rest := [.int (nI (0)), .ref (A l)]) (v := some (.int (nI (g (22 + 10 * g (90 + 13 * l + 0) + 1))))) dX12_units_36 cc_X12_units_159 rfl rfl rfl (Nat.le_of_ble_eq_true rfl) hx.1.1.1 rfl rfl (by decide) (o_inspectedOf hx.1 hr hal hl) rfl ?_
        refine r_fnV (M2 := m_X5_badUnitsIn) (As := [.int (nI (0)), .int (nI (g (22 + 10 * g (90 + 13 * l + 0) + 1)))]) (rest := []) (v := some (.int (nI (cnt (fun u => sW (g (402 + 2 * (200 * l + u))) = 0 ∧ ¬ g (402 + 2 * (200 * l + u)) % 16 &&& g (22 + 10 * g (90 + 13 * l + 0) + 1) = 0) (g (90 + 13 * l + 1)))))) dX12_units_39 cc_X12_units_163 rfl rfl rfl (Nat.le_of_ble_eq_true rfl) (hx.1.lo hl24 hAl).2.1 rfl rfl (by decide) (o_badUnitsIn hx.1 hr hal (l := l) (by omega) (by omega) (by omega)) rfl ?_
        refine r_goto (tgt := 50) dX12_units_42 (by decide) ?_
        exact r_iret (ty := .int) dX12_units_50 rfl rfl ⟨rfl, rfl⟩
    · exact absurd h13 (by decide)
set_option maxRecDepth 4000 in
set_option maxHeartbeats 400000 in
theorem f_units_b {G : GI} {S : Hp} {w : Nat → Nat} {k o : Nat} {A c g : Nat → Nat} {N : Nat} {x : Nat} (hxt : zT S x = 14) (hxo : zP S 416 x = some o) (h : OR S w k o A c) (hr : Rel c g N) (hal : ∀ l, l < g 0 → A l ≠ 0) {l : Nat} (hl : l < g 0) {q : Nat} (hq : q < 5) : Fn m_X12_units G [.ref (x), .int (nI (l)), .int (nI (q))] S (some (.int (nI (inS g l q)))) S := by
  refine Cn.of rfl (by decide) (Nat.le_of_ble_eq_true rfl) (fun hN hM => ?_)
  show Wx _ G _ 0 [(0, .ref (x)), (1, .int (nI (l))), (2, .int (nI (q)))] [] _
  have hx := OX.refl h
  have h24 := hr.n24
  have hl24 : l < 24 := by omega
  have hAl := hal l hl
  have hL := hr.lot hl
  have hz := hL.z
  refine r_aload_n dX12_units_0 rfl 0 rfl ?_
  refine r_iload_n dX12_units_1 rfl 1 rfl ?_
  refine r_fnV (M2 := m_X12_existingLot) (As := [.int (nI (l))]) (rest := []) (v := some (.ref (A l))) dX12_units_2 cc_X12_units_152 rfl rfl rfl (Nat.le_of_ble_eq_true rfl) hxt rfl rfl (by decide) (f_lot hxt hxo h hr hal hl) rfl ?_
  refine r_astore_n (lv' := [(3, .ref (A l)), (0, .ref (x)), (1, .int (nI (l))), (2, .int (nI (q)))]) dX12_units_5 rfl (by decide) rfl ?_
  refine r_iload_n dX12_units_6 rfl 3 rfl ?_
  refine r_iconst (v := (-1)) dX12_units_7 (by decide) ?_
  refine r_icmp_lt (tgt := 16) dX12_units_8 (by decide) (fun h8 => ?_) (fun h8 => ?_)
  · exact absurd (Int32.lt_trans h8 (by decide : (-1 : Int32) < 0)) (nI_pos (by omega))
  · refine r_iload_n dX12_units_11 rfl 3 rfl ?_
    refine r_iconst (v := nI 4) dX12_units_12 (by decide) ?_
    refine r_icmp_leN (tgt := 24) dX12_units_13 (by decide) (by omega) (by omega) (fun h13 => ?_) (fun h13 => ?_)
    · refine r_iload_n dX12_units_24 rfl 3 rfl ?_
      refine r_iconst (v := (-1)) dX12_units_25 (by decide) ?_
      refine r_icmp_ne (tgt := 45) dX12_units_26 (by decide) (fun h26 => ?_) (fun h26 => ?_)
      · refine r_aload_n dX12_units_45 rfl 0 rfl ?_
        refine r_iload_n dX12_units_46 rfl 3 rfl ?_
        refine r_fnV (M2 := m_X5_unitsIn) (As := [.int (nI (q))]) (rest := []) (v := some (.int (nI (inS g l q)))) dX12_units_47 cc_X12_units_166 rfl rfl rfl (Nat.le_of_ble_eq_true rfl) (hx.1.lo hl24 hAl).2.1 rfl rfl (by decide) (o_unitsIn hx.1 hr hal (l := l) (by omega) (by omega)) rfl ?_
        exact r_iret (ty := .int) dX12_units_50 rfl rfl ⟨rfl, rfl⟩
      · exact absurd (show nI q < 0 by rw [h26]; decide) (nI_pos (by omega))
    · exact absurd h13 (by omega)
set_option maxRecDepth 4000 in
set_option maxHeartbeats 400000 in
theorem f_unit_1 {G : GI} {S : Hp} {w : Nat → Nat} {k o : Nat} {A c g : Nat → Nat} {N : Nat} {x : Nat} (hxt : zT S x = 14) (hxo : zP S 416 x = some o) (h : OR S w k o A c) (hr : Rel c g N) (hal : ∀ l, l < g 0 → A l ≠ 0) (hc1 : zX S + 1 ≤ gN G) (hu6 : zU S + 6 ≤ gM G) {y : Int32} (hno : ¬ vp_in y (g 0)) {z z2 : Int32} : FT m_X12_unit G [.ref (x), .int (y), .int (z), .int (z2)] S "java/lang/IndexOutOfBoundsException" := by
  refine Cn.of rfl (by decide) (Nat.le_of_ble_eq_true rfl) (fun hN hM => ?_)
  show Wx _ G _ 0 [(0, .ref (x)), (1, .int (y)), (2, .int (z)), (3, .int (z2))] [] _
  have hx := OX.refl h
  have h24 := hr.n24
  refine r_aload_n dX12_unit_0 rfl 0 rfl ?_
  refine r_iload_n dX12_unit_1 rfl 1 rfl ?_
  refine r_iload_n dX12_unit_2 rfl 2 rfl ?_
  exact r_ftV (M2 := m_X12_lotWithUnit) (As := [.int (y), .int (z)]) (rest := []) dX12_unit_3 cc_X12_unit_169 rfl rfl rfl (Nat.le_of_ble_eq_true rfl) hxt rfl rfl (by decide) (f_unit_no hxt hxo h hr hal hc1 hu6 hno) rfl (fun y u h1 h2 => ⟨rfl, y, u, h1, h2, rfl⟩)
set_option maxRecDepth 4000 in
set_option maxHeartbeats 400000 in
theorem f_unit_2 {G : GI} {S : Hp} {w : Nat → Nat} {k o : Nat} {A c g : Nat → Nat} {N : Nat} {x : Nat} (hxt : zT S x = 14) (hxo : zP S 416 x = some o) (h : OR S w k o A c) (hr : Rel c g N) (hal : ∀ l, l < g 0 → A l ≠ 0) (hc1 : zX S + 1 ≤ gN G) (hu6 : zU S + 6 ≤ gM G) {l : Nat} (hl : l < g 0) {z : Int32} (hnu : ¬ vp_in z (g (90 + 13 * l + 1))) {z2 : Int32} : FT m_X12_unit G [.ref (x), .int (nI (l)), .int (z), .int (z2)] S "java/lang/IndexOutOfBoundsException" := by
  refine Cn.of rfl (by decide) (Nat.le_of_ble_eq_true rfl) (fun hN hM => ?_)
  show Wx _ G _ 0 [(0, .ref (x)), (1, .int (nI (l))), (2, .int (z)), (3, .int (z2))] [] _
  have hx := OX.refl h
  have h24 := hr.n24
  have hl24 : l < 24 := by omega
  have hAl := hal l hl
  have hL := hr.lot hl
  have hz := hL.z
  refine r_aload_n dX12_unit_0 rfl 0 rfl ?_
  refine r_iload_n dX12_unit_1 rfl 1 rfl ?_
  refine r_iload_n dX12_unit_2 rfl 2 rfl ?_
  exact r_ftV (M2 := m_X12_lotWithUnit) (As := [.int (nI (l)), .int (z)]) (rest := []) dX12_unit_3 cc_X12_unit_169 rfl rfl rfl (Nat.le_of_ble_eq_true rfl) hxt rfl rfl (by decide) (f_unit_nu hxt hxo h hr hal hc1 hu6 hl hnu) rfl (fun y u h1 h2 => ⟨rfl, y, u, h1, h2, rfl⟩)
set_option maxRecDepth 4000 in
set_option maxHeartbeats 400000 in
theorem f_unit_3 {G : GI} {S : Hp} {w : Nat → Nat} {k o : Nat} {A c g : Nat → Nat} {N : Nat} {x : Nat} (hxt : zT S x = 14) (hxo : zP S 416 x = some o) (h : OR S w k o A c) (hr : Rel c g N) (hal : ∀ l, l < g 0 → A l ≠ 0) (hc1 : zX S + 1 ≤ gN G) (hu6 : zU S + 6 ≤ gM G) {l : Nat} (hl : l < g 0) {u : Nat} (hu : u < g (90 + 13 * l + 1)) {z : Int32} (hz4 : ¬ vp_in z 4) : FT m_X12_unit G [.ref (x), .int (nI (l)), .int (nI (u)), .int (z)] S "java/lang/IllegalArgumentException" := by
  refine Cn.of rfl (by decide) (Nat.le_of_ble_eq_true rfl) (fun hN hM => ?_)
  show Wx _ G _ 0 [(0, .ref (x)), (1, .int (nI (l))), (2, .int (nI (u))), (3, .int (z))] [] _
  have hx := OX.refl h
  have h24 := hr.n24
  have hl24 : l < 24 := by omega
  have hAl := hal l hl
  have hL := hr.lot hl
  have hz := hL.z
  have hout := sw_out (n := 3) (by decide) hz4
  refine r_aload_n dX12_unit_0 rfl 0 rfl ?_
  refine r_iload_n dX12_unit_1 rfl 1 rfl ?_
  refine r_iload_n dX12_unit_2 rfl 2 rfl ?_
  refine r_fnV (M2 := m_X12_lotWithUnit) (As := [.int (nI (l)), .int (nI (u))]) (rest := []) (v := some (.ref (A l))) dX12_unit_3 cc_X12_unit_169 rfl rfl rfl (Nat.le_of_ble_eq_true rfl) hxt rfl rfl (by decide) (f_unit hxt hxo h hr hal hl hu) rfl ?_
  refine r_astore (lv' := [(4, .ref (A l)), (0, .ref (x)), (1, .int (nI (l))), (2, .int (nI (u))), (3, .int (z))]) dX12_unit_6 (by decide) rfl ?_
  refine r_iload_n dX12_unit_8 rfl 4 rfl ?_
  refine r_tableOut (tgt := 88) dX12_unit_9 (by first | decide | exact hout) (by decide) ?_
  exact r_throw (ft_IA (by decide)) rfl dX12_unit_88 dX12_unit_91 dX12_unit_92 dX12_unit_95 (by decide) (by first | exact hc1 | omega) (by first | exact hu6 | omega) (fun y u h1 h2 h3 h4 => ⟨rfl, y, u, ⟨h1, h2⟩, ⟨h3, h4⟩, rfl⟩)
set_option maxRecDepth 4000 in
set_option maxHeartbeats 400000 in
theorem f_unit_a {G : GI} {S : Hp} {w : Nat → Nat} {k o : Nat} {A c g : Nat → Nat} {N : Nat} {x : Nat} (hxt : zT S x = 14) (hxo : zP S 416 x = some o) (h : OR S w k o A c) (hr : Rel c g N) (hal : ∀ l, l < g 0 → A l ≠ 0) {l : Nat} (hl : l < g 0) {u : Nat} (hu : u < g (90 + 13 * l + 1)) : Fn m_X12_unit G [.ref (x), .int (nI (l)), .int (nI (u)), .int (nI (0))] S (some (.int (nI (sW (g (402 + 2 * (200 * l + u))))))) S := by
  refine Cn.of rfl (by decide) (Nat.le_of_ble_eq_true rfl) (fun hN hM => ?_)
  show Wx _ G _ 0 [(0, .ref (x)), (1, .int (nI (l))), (2, .int (nI (u))), (3, .int (nI (0)))] [] _
  have hx := OX.refl h
  have h24 := hr.n24
  have hl24 : l < 24 := by omega
  have hAl := hal l hl
  have hL := hr.lot hl
  have hz := hL.z
  refine r_aload_n dX12_unit_0 rfl 0 rfl ?_
  refine r_iload_n dX12_unit_1 rfl 1 rfl ?_
  refine r_iload_n dX12_unit_2 rfl 2 rfl ?_
  refine r_fnV (M2 := m_X12_lotWithUnit) (As := [.int (nI (l)), .int (nI (u))]) (rest := []) (v := some (.ref (A l))) dX12_unit_3 cc_X12_unit_169 rfl rfl rfl (Nat.le_of_ble_eq_true rfl) hxt rfl rfl (by decide) (f_unit hxt hxo h hr hal hl hu) rfl ?_
  refine r_astore (lv' := [(4, .ref (A l)), (0, .ref (x)), (1, .int (nI (l))), (2, .int (nI (u))), (3, .int (nI (0)))]) dX12_unit_6 (by decide) rfl ?_
  refine r_iload_n dX12_unit_8 rfl 4 rfl ?_
  refine r_tableIn (off := 31) (tgt := 40) dX12_unit_9 (by decide) (by decide) rfl (by decide) ?_
  refine r_aload dX12_unit_40 0 rfl ?_
  refine r_getR (ci := 7) (k := 11) (b := A l + 2) dX12_unit_42 fr_X12_173 (hx.1.lo hl24 hAl).2.1 rfl (hx.1.lo hl24 hAl).2.2.1.2.1 ?_
  refine r_iload_n dX12_unit_45 rfl 3 rfl ?_
  refine r_iald dX12_unit_46 (hx.1.lo hl24 hAl).2.2.2.2.1.1 (by rw [show zN S (A l + 2) = 200 from (hx.1.lo hl24 hAl).2.2.2.2.1.2]; exact vp_in_nI (by omega) (by decide)) ?_
  refine Wx.top (congrArg (zA _ _) (nI_clamp (by omega))) ?_
  refine Wx.top (hx.1.u0 (u := u) hl24 hAl (by omega)) ?_
  refine Wx.topN (hL.u0 (u := u) (by omega)) ?_
  exact r_iret (ty := .int) dX12_unit_47 rfl rfl ⟨rfl, rfl⟩
set_option maxRecDepth 4000 in
set_option maxHeartbeats 400000 in
theorem f_unit_b {G : GI} {S : Hp} {w : Nat → Nat} {k o : Nat} {A c g : Nat → Nat} {N : Nat} {x : Nat} (hxt : zT S x = 14) (hxo : zP S 416 x = some o) (h : OR S w k o A c) (hr : Rel c g N) (hal : ∀ l, l < g 0 → A l ≠ 0) {l : Nat} (hl : l < g 0) {u : Nat} (hu : u < g (90 + 13 * l + 1)) : Fn m_X12_unit G [.ref (x), .int (nI (l)), .int (nI (u)), .int (nI (1))] S (some (.int (nI (g (402 + 2 * (200 * l + u)) % 16)))) S := by
  refine Cn.of rfl (by decide) (Nat.le_of_ble_eq_true rfl) (fun hN hM => ?_)
  show Wx _ G _ 0 [(0, .ref (x)), (1, .int (nI (l))), (2, .int (nI (u))), (3, .int (nI (1)))] [] _
  have hx := OX.refl h
  have h24 := hr.n24
  have hl24 : l < 24 := by omega
  have hAl := hal l hl
  have hL := hr.lot hl
  have hz := hL.z
  refine r_aload_n dX12_unit_0 rfl 0 rfl ?_
  refine r_iload_n dX12_unit_1 rfl 1 rfl ?_
  refine r_iload_n dX12_unit_2 rfl 2 rfl ?_
  refine r_fnV (M2 := m_X12_lotWithUnit) (As := [.int (nI (l)), .int (nI (u))]) (rest := []) (v := some (.ref (A l))) dX12_unit_3 cc_X12_unit_169 rfl rfl rfl (Nat.le_of_ble_eq_true rfl) hxt rfl rfl (by decide) (f_unit hxt hxo h hr hal hl hu) rfl ?_
  refine r_astore (lv' := [(4, .ref (A l)), (0, .ref (x)), (1, .int (nI (l))), (2, .int (nI (u))), (3, .int (nI (1)))]) dX12_unit_6 (by decide) rfl ?_
  refine r_iload_n dX12_unit_8 rfl 4 rfl ?_
  refine r_tableIn (off := 39) (tgt := 48) dX12_unit_9 (by decide) (by decide) rfl (by decide) ?_
  refine r_aload dX12_unit_48 0 rfl ?_
  refine r_getR (ci := 7) (k := 12) (b := A l + 3) dX12_unit_50 fr_X12_177 (hx.1.lo hl24 hAl).2.1 rfl (hx.1.lo hl24 hAl).2.2.1.2.2.1 ?_
  refine r_iload_n dX12_unit_53 rfl 3 rfl ?_
  refine r_iald dX12_unit_54 (hx.1.lo hl24 hAl).2.2.2.2.2.1.1 (by rw [show zN S (A l + 3) = 200 from (hx.1.lo hl24 hAl).2.2.2.2.2.1.2]; exact vp_in_nI (by omega) (by decide)) ?_
  refine Wx.top (congrArg (zA _ _) (nI_clamp (by omega))) ?_
  refine Wx.top (hx.1.u1 (u := u) hl24 hAl (by omega)) ?_
  refine Wx.topN (hL.u1 (u := u) (by omega)) ?_
  exact r_iret (ty := .int) dX12_unit_55 rfl rfl ⟨rfl, rfl⟩
set_option maxRecDepth 4000 in
set_option maxHeartbeats 400000 in
theorem f_unit_c {G : GI} {S : Hp} {w : Nat → Nat} {k o : Nat} {A c g : Nat → Nat} {N : Nat} {x : Nat} (hxt : zT S x = 14) (hxo : zP S 416 x = some o) (h : OR S w k o A c) (hr : Rel c g N) (hal : ∀ l, l < g 0 → A l ≠ 0) {l : Nat} (hl : l < g 0) {u : Nat} (hu : u < g (90 + 13 * l + 1)) : Fn m_X12_unit G [.ref (x), .int (nI (l)), .int (nI (u)), .int (nI (2))] S (some (.int (nI (rW (g (402 + 2 * (200 * l + u))))))) S := by
  refine Cn.of rfl (by decide) (Nat.le_of_ble_eq_true rfl) (fun hN hM => ?_)
  show Wx _ G _ 0 [(0, .ref (x)), (1, .int (nI (l))), (2, .int (nI (u))), (3, .int (nI (2)))] [] _
  have hx := OX.refl h
  have h24 := hr.n24
  have hl24 : l < 24 := by omega
  have hAl := hal l hl
  have hL := hr.lot hl
  have hz := hL.z
  refine r_aload_n dX12_unit_0 rfl 0 rfl ?_
  refine r_iload_n dX12_unit_1 rfl 1 rfl ?_
  refine r_iload_n dX12_unit_2 rfl 2 rfl ?_
  refine r_fnV (M2 := m_X12_lotWithUnit) (As := [.int (nI (l)), .int (nI (u))]) (rest := []) (v := some (.ref (A l))) dX12_unit_3 cc_X12_unit_169 rfl rfl rfl (Nat.le_of_ble_eq_true rfl) hxt rfl rfl (by decide) (f_unit hxt hxo h hr hal hl hu) rfl ?_
  refine r_astore (lv' := [(4, .ref (A l)), (0, .ref (x)), (1, .int (nI (l))), (2, .int (nI (u))), (3, .int (nI (2)))]) dX12_unit_6 (by decide) rfl ?_
  refine r_iload_n dX12_unit_8 rfl 4 rfl ?_
  refine r_tableIn (off := 47) (tgt := 56) dX12_unit_9 (by decide) (by decide) rfl (by decide) ?_
  refine r_aload dX12_unit_56 0 rfl ?_
  refine r_getR (ci := 7) (k := 13) (b := A l + 4) dX12_unit_58 fr_X12_180 (hx.1.lo hl24 hAl).2.1 rfl (hx.1.lo hl24 hAl).2.2.1.2.2.2.1 ?_
  refine r_iload_n dX12_unit_61 rfl 3 rfl ?_
  refine r_iald dX12_unit_62 (hx.1.lo hl24 hAl).2.2.2.2.2.2.1.1 (by rw [show zN S (A l + 4) = 200 from (hx.1.lo hl24 hAl).2.2.2.2.2.2.1.2]; exact vp_in_nI (by omega) (by decide)) ?_
  refine Wx.top (congrArg (zA _ _) (nI_clamp (by omega))) ?_
  refine Wx.top (hx.1.u2 (u := u) hl24 hAl (by omega)) ?_
  refine Wx.topN (hL.u2 (u := u) (by omega)) ?_
  exact r_iret (ty := .int) dX12_unit_63 rfl rfl ⟨rfl, rfl⟩
set_option maxRecDepth 4000 in
set_option maxHeartbeats 400000 in
theorem f_unit_d {G : GI} {S : Hp} {w : Nat → Nat} {k o : Nat} {A c g : Nat → Nat} {N : Nat} {x : Nat} (hxt : zT S x = 14) (hxo : zP S 416 x = some o) (h : OR S w k o A c) (hr : Rel c g N) (hal : ∀ l, l < g 0 → A l ≠ 0) {l : Nat} (hl : l < g 0) {u : Nat} (hu : u < g (90 + 13 * l + 1)) : Fn m_X12_unit G [.ref (x), .int (nI (l)), .int (nI (u)), .int (nI (3))] S (some (.int (bI (badG g l u)))) S := by
  refine Cn.of rfl (by decide) (Nat.le_of_ble_eq_true rfl) (fun hN hM => ?_)
  show Wx _ G _ 0 [(0, .ref (x)), (1, .int (nI (l))), (2, .int (nI (u))), (3, .int (nI (3)))] [] _
  have hx := OX.refl h
  have h24 := hr.n24
  have hl24 : l < 24 := by omega
  have hAl := hal l hl
  have hL := hr.lot hl
  have hz := hL.z
  have hpr := hL.pr
  have hP := hr.p hpr
  have hPb := hP.b
  refine r_aload_n dX12_unit_0 rfl 0 rfl ?_
  refine r_iload_n dX12_unit_1 rfl 1 rfl ?_
  refine r_iload_n dX12_unit_2 rfl 2 rfl ?_
  refine r_fnV (M2 := m_X12_lotWithUnit) (As := [.int (nI (l)), .int (nI (u))]) (rest := []) (v := some (.ref (A l))) dX12_unit_3 cc_X12_unit_169 rfl rfl rfl (Nat.le_of_ble_eq_true rfl) hxt rfl rfl (by decide) (f_unit hxt hxo h hr hal hl hu) rfl ?_
  refine r_astore (lv' := [(4, .ref (A l)), (0, .ref (x)), (1, .int (nI (l))), (2, .int (nI (u))), (3, .int (nI (3)))]) dX12_unit_6 (by decide) rfl ?_
  refine r_iload_n dX12_unit_8 rfl 4 rfl ?_
  refine r_tableIn (off := 55) (tgt := 64) dX12_unit_9 (by decide) (by decide) rfl (by decide) ?_
  refine r_aload dX12_unit_64 0 rfl ?_
  refine r_iload_n dX12_unit_66 rfl 3 rfl ?_
  refine r_aload_n dX12_unit_67 rfl 1 rfl ?_
  refine r_getR (ci := 13) (k := 0) (b := o) dX12_unit_68 fr_X12_10 hxt rfl hxo ?_
  refine r_aload dX12_unit_71 0 rfl ?_
  refine r_fnV (M2 := m_X7_inspectedOf) (As := [.ref (A l)]) (rest := [.int (nI (u)), .ref (A l)]) (v := some (.int (nI (g (22 + 10 * g (90 + 13 * l + 0) + 1))))) dX12_unit_73 cc_X12_unit_159 rfl rfl rfl (Nat.le_of_ble_eq_true rfl) hx.1.1.1 rfl rfl (by decide) (o_inspectedOf hx.1 hr hal hl) rfl ?_
  refine r_fnV (M2 := m_X5_isBad) (As := [.int (nI (u)), .int (nI (g (22 + 10 * g (90 + 13 * l + 0) + 1)))]) (rest := []) (v := some (.int (bI (¬ (g (402 + 2 * (200 * l + u)) % 16 &&& g (22 + 10 * g (90 + 13 * l + 0) + 1) = 0))))) dX12_unit_76 cc_X12_unit_183 rfl rfl rfl (Nat.le_of_ble_eq_true rfl) (hx.1.lo hl24 hAl).2.1 rfl rfl (by decide) (o_isBad hx.1 hr hal hl hu (by omega)) rfl ?_
  refine r_if_eqB (tgt := 86) dX12_unit_79 (by decide) (fun h79 => ?_) (fun h79 => ?_)
  · refine r_iconst (v := nI 0) dX12_unit_86 (by decide) ?_
    exact r_iret (ty := .int) dX12_unit_87 rfl rfl ⟨congrArg (fun z => Sum.inl (some (Value.int z))) (show nI 0 = bI (badG g l u) from (bI_f h79).symm), rfl⟩
  · refine r_iconst (v := nI 1) dX12_unit_82 (by decide) ?_
    refine r_goto (tgt := 87) dX12_unit_83 (by decide) ?_
    exact r_iret (ty := .int) dX12_unit_87 rfl rfl ⟨congrArg (fun z => Sum.inl (some (Value.int z))) (show nI 1 = bI (badG g l u) from (bI_t h79).symm), rfl⟩
set_option maxRecDepth 4000 in
set_option maxHeartbeats 400000 in
theorem f_madeOf_1 {G : GI} {S : Hp} {w : Nat → Nat} {k o : Nat} {A c g : Nat → Nat} {N : Nat} {x : Nat} (hxt : zT S x = 14) (hxo : zP S 416 x = some o) (h : OR S w k o A c) (hr : Rel c g N) (hal : ∀ l, l < g 0 → A l ≠ 0) (hc1 : zX S + 1 ≤ gN G) (hu6 : zU S + 6 ≤ gM G) {y : Int32} (hno : ¬ vp_in y (g 0)) {z z2 : Int32} : FT m_X12_madeOf G [.ref (x), .int (y), .int (z), .int (z2)] S "java/lang/IndexOutOfBoundsException" := by
  refine Cn.of rfl (by decide) (Nat.le_of_ble_eq_true rfl) (fun hN hM => ?_)
  show Wx _ G _ 0 [(0, .ref (x)), (1, .int (y)), (2, .int (z)), (3, .int (z2))] [] _
  have hx := OX.refl h
  have h24 := hr.n24
  refine r_aload_n dX12_madeOf_0 rfl 0 rfl ?_
  refine r_iload_n dX12_madeOf_1 rfl 1 rfl ?_
  refine r_iload_n dX12_madeOf_2 rfl 2 rfl ?_
  exact r_ftV (M2 := m_X12_lotWithUnit) (As := [.int (y), .int (z)]) (rest := []) dX12_madeOf_3 cc_X12_madeOf_169 rfl rfl rfl (Nat.le_of_ble_eq_true rfl) hxt rfl rfl (by decide) (f_unit_no hxt hxo h hr hal hc1 hu6 hno) rfl (fun y u h1 h2 => ⟨rfl, y, u, h1, h2, rfl⟩)
set_option maxRecDepth 4000 in
set_option maxHeartbeats 400000 in
theorem f_madeOf_1b {G : GI} {S : Hp} {w : Nat → Nat} {k o : Nat} {A c g : Nat → Nat} {N : Nat} {x : Nat} (hxt : zT S x = 14) (hxo : zP S 416 x = some o) (h : OR S w k o A c) (hr : Rel c g N) (hal : ∀ l, l < g 0 → A l ≠ 0) (hc1 : zX S + 1 ≤ gN G) (hu6 : zU S + 6 ≤ gM G) {l : Nat} (hl : l < g 0) {z : Int32} (hnu : ¬ vp_in z (g (90 + 13 * l + 1))) {z2 : Int32} : FT m_X12_madeOf G [.ref (x), .int (nI (l)), .int (z), .int (z2)] S "java/lang/IndexOutOfBoundsException" := by
  refine Cn.of rfl (by decide) (Nat.le_of_ble_eq_true rfl) (fun hN hM => ?_)
  show Wx _ G _ 0 [(0, .ref (x)), (1, .int (nI (l))), (2, .int (z)), (3, .int (z2))] [] _
  have hx := OX.refl h
  have h24 := hr.n24
  have hl24 : l < 24 := by omega
  have hAl := hal l hl
  have hL := hr.lot hl
  have hz := hL.z
  refine r_aload_n dX12_madeOf_0 rfl 0 rfl ?_
  refine r_iload_n dX12_madeOf_1 rfl 1 rfl ?_
  refine r_iload_n dX12_madeOf_2 rfl 2 rfl ?_
  exact r_ftV (M2 := m_X12_lotWithUnit) (As := [.int (nI (l)), .int (z)]) (rest := []) dX12_madeOf_3 cc_X12_madeOf_169 rfl rfl rfl (Nat.le_of_ble_eq_true rfl) hxt rfl rfl (by decide) (f_unit_nu hxt hxo h hr hal hc1 hu6 hl hnu) rfl (fun y u h1 h2 => ⟨rfl, y, u, h1, h2, rfl⟩)
set_option maxRecDepth 4000 in
set_option maxHeartbeats 400000 in
theorem f_madeOf_2 {G : GI} {S : Hp} {w : Nat → Nat} {k o : Nat} {A c g : Nat → Nat} {N : Nat} {x : Nat} (hxt : zT S x = 14) (hxo : zP S 416 x = some o) (h : OR S w k o A c) (hr : Rel c g N) (hal : ∀ l, l < g 0 → A l ≠ 0) (hc1 : zX S + 1 ≤ gN G) (hu6 : zU S + 6 ≤ gM G) {l : Nat} (hl : l < g 0) {u : Nat} (hu : u < g (90 + 13 * l + 1)) {z : Int32} (hz9 : ¬ vp_in z (g (90 + 13 * l + 8))) : FT m_X12_madeOf G [.ref (x), .int (nI (l)), .int (nI (u)), .int (z)] S "java/util/NoSuchElementException" := by
  refine Cn.of rfl (by decide) (Nat.le_of_ble_eq_true rfl) (fun hN hM => ?_)
  show Wx _ G _ 0 [(0, .ref (x)), (1, .int (nI (l))), (2, .int (nI (u))), (3, .int (z))] [] _
  have hx := OX.refl h
  have h24 := hr.n24
  have hl24 : l < 24 := by omega
  have hAl := hal l hl
  have hL := hr.lot hl
  have hz := hL.z
  have hpc := hL.pc
  refine r_aload_n dX12_madeOf_0 rfl 0 rfl ?_
  refine r_iload_n dX12_madeOf_1 rfl 1 rfl ?_
  refine r_iload_n dX12_madeOf_2 rfl 2 rfl ?_
  refine r_fnV (M2 := m_X12_lotWithUnit) (As := [.int (nI (l)), .int (nI (u))]) (rest := []) (v := some (.ref (A l))) dX12_madeOf_3 cc_X12_madeOf_169 rfl rfl rfl (Nat.le_of_ble_eq_true rfl) hxt rfl rfl (by decide) (f_unit hxt hxo h hr hal hl hu) rfl ?_
  refine r_astore (lv' := [(4, .ref (A l)), (0, .ref (x)), (1, .int (nI (l))), (2, .int (nI (u))), (3, .int (z))]) dX12_madeOf_6 (by decide) rfl ?_
  refine r_iload_n dX12_madeOf_8 rfl 4 rfl ?_
  refine r_if_lt (tgt := 21) dX12_madeOf_9 (by decide) (fun h9 => ?_) (fun h9 => ?_)
  · exact r_throw (ft_NS (by decide)) rfl dX12_madeOf_21 dX12_madeOf_24 dX12_madeOf_25 dX12_madeOf_28 (by decide) (by first | exact hc1 | omega) (by first | exact hu6 | omega) (fun y u h1 h2 h3 h4 => ⟨rfl, y, u, ⟨h1, h2⟩, ⟨h3, h4⟩, rfl⟩)
  · refine r_iload_n dX12_madeOf_12 rfl 4 rfl ?_
    refine r_aload dX12_madeOf_13 0 rfl ?_
    refine r_getI (ci := 7) (k := 9) dX12_madeOf_15 fr_X12_206 (hx.1.lo hl24 hAl).2.1 rfl ?_
    refine Wx.top (hx.1.l9 hl24 hAl) ?_
    refine Wx.topN (hL.h (f := 8) (by decide)) ?_
    refine r_icmp_lt (tgt := 29) dX12_madeOf_18 (by decide) (fun h18 => ?_) (fun h18 => ?_)
    · exact absurd (vp_lt (by omega) h9 h18) hz9
    · exact r_throw (ft_NS (by decide)) rfl dX12_madeOf_21 dX12_madeOf_24 dX12_madeOf_25 dX12_madeOf_28 (by decide) (by first | exact hc1 | omega) (by first | exact hu6 | omega) (fun y u h1 h2 h3 h4 => ⟨rfl, y, u, ⟨h1, h2⟩, ⟨h3, h4⟩, rfl⟩)
set_option maxRecDepth 4000 in
set_option maxHeartbeats 400000 in
theorem f_madeOf_0 {G : GI} {S : Hp} {w : Nat → Nat} {k o : Nat} {A c g : Nat → Nat} {N : Nat} {x : Nat} (hxt : zT S x = 14) (hxo : zP S 416 x = some o) (h : OR S w k o A c) (hr : Rel c g N) (hal : ∀ l, l < g 0 → A l ≠ 0) {l : Nat} (hl : l < g 0) {u : Nat} (hu : u < g (90 + 13 * l + 1)) {i : Nat} (hi : i < g (90 + 13 * l + 8)) : Fn m_X12_madeOf G [.ref (x), .int (nI (l)), .int (nI (u)), .int (nI (i))] S (some (.int (nI (1000 * g (90 + 13 * l + (10 + i)) + pW (g (402 + 2 * (200 * l + u) + 1)) i)))) S := by
  refine Cn.of rfl (by decide) (Nat.le_of_ble_eq_true rfl) (fun hN hM => ?_)
  show Wx _ G _ 0 [(0, .ref (x)), (1, .int (nI (l))), (2, .int (nI (u))), (3, .int (nI (i)))] [] _
  have hx := OX.refl h
  have h24 := hr.n24
  have hl24 : l < 24 := by omega
  have hAl := hal l hl
  have hL := hr.lot hl
  have hz := hL.z
  have hpc := hL.pc
  refine r_aload_n dX12_madeOf_0 rfl 0 rfl ?_
  refine r_iload_n dX12_madeOf_1 rfl 1 rfl ?_
  refine r_iload_n dX12_madeOf_2 rfl 2 rfl ?_
  refine r_fnV (M2 := m_X12_lotWithUnit) (As := [.int (nI (l)), .int (nI (u))]) (rest := []) (v := some (.ref (A l))) dX12_madeOf_3 cc_X12_madeOf_169 rfl rfl rfl (Nat.le_of_ble_eq_true rfl) hxt rfl rfl (by decide) (f_unit hxt hxo h hr hal hl hu) rfl ?_
  refine r_astore (lv' := [(4, .ref (A l)), (0, .ref (x)), (1, .int (nI (l))), (2, .int (nI (u))), (3, .int (nI (i)))]) dX12_madeOf_6 (by decide) rfl ?_
  refine r_iload_n dX12_madeOf_8 rfl 4 rfl ?_
  refine r_if_ltN (tgt := 21) dX12_madeOf_9 (by decide) (by omega) ?_
  refine r_iload_n dX12_madeOf_12 rfl 4 rfl ?_
  refine r_aload dX12_madeOf_13 0 rfl ?_
  refine r_getI (ci := 7) (k := 9) dX12_madeOf_15 fr_X12_206 (hx.1.lo hl24 hAl).2.1 rfl ?_
  refine Wx.top (hx.1.l9 hl24 hAl) ?_
  refine Wx.topN (hL.h (f := 8) (by decide)) ?_
  refine r_icmp_ltN (tgt := 29) dX12_madeOf_18 (by decide) (by omega) (by omega) (fun h18 => ?_) (fun h18 => ?_)
  · refine r_aload_n dX12_madeOf_29 rfl 1 rfl ?_
    refine r_getR (ci := 13) (k := 0) (b := o) dX12_madeOf_30 fr_X12_10 hxt rfl hxo ?_
    refine r_iload_n dX12_madeOf_33 rfl 2 rfl ?_
    refine r_iload_n dX12_madeOf_34 rfl 3 rfl ?_
    refine r_iload_n dX12_madeOf_35 rfl 4 rfl ?_
    refine r_fnV (M2 := m_X7_partOf) (As := [.int (nI (l)), .int (nI (u)), .int (nI (i))]) (rest := []) (v := some (.int (nI (1000 * g (90 + 13 * l + (10 + i)) + pW (g (402 + 2 * (200 * l + u) + 1)) i)))) dX12_madeOf_36 cc_X12_madeOf_212 rfl rfl rfl (Nat.le_of_ble_eq_true rfl) hx.1.1.1 rfl rfl (by decide) (o_partOf h hr hal hl hu hi) rfl ?_
    exact r_iret (ty := .int) dX12_madeOf_39 rfl rfl ⟨rfl, rfl⟩
  · exact absurd h18 (by omega)
set_option maxRecDepth 4000 in
set_option maxHeartbeats 400000 in
theorem f_where_1a {G : GI} {S : Hp} {w : Nat → Nat} {k o : Nat} {A c g : Nat → Nat} {N : Nat} {x : Nat} (hxt : zT S x = 14) (hxo : zP S 416 x = some o) (h : OR S w k o A c) (hr : Rel c g N) (hal : ∀ l, l < g 0 → A l ≠ 0) (hc1 : zX S + 1 ≤ gN G) (hu6 : zU S + 6 ≤ gM G) {y : Int32} (hno : ¬ vp_in y (g 0)) {z : Int32} : FT m_X12_whereabouts G [.ref (x), .int (y), .int (z)] S "java/lang/IndexOutOfBoundsException" := by
  refine Cn.of rfl (by decide) (Nat.le_of_ble_eq_true rfl) (fun hN hM => ?_)
  show Wx _ G _ 0 [(0, .ref (x)), (1, .int (y)), (2, .int (z))] [] _
  have hx := OX.refl h
  have h24 := hr.n24
  refine r_aload_n dX12_whereabouts_0 rfl 0 rfl ?_
  refine r_iload_n dX12_whereabouts_1 rfl 1 rfl ?_
  refine r_iload_n dX12_whereabouts_2 rfl 2 rfl ?_
  exact r_ftV (M2 := m_X12_lotWithUnit) (As := [.int (y), .int (z)]) (rest := []) dX12_whereabouts_3 cc_X12_whereabouts_169 rfl rfl rfl (Nat.le_of_ble_eq_true rfl) hxt rfl rfl (by decide) (f_unit_no hxt hxo h hr hal hc1 hu6 hno) rfl (fun y u h1 h2 => ⟨rfl, y, u, h1, h2, rfl⟩)
set_option maxRecDepth 4000 in
set_option maxHeartbeats 400000 in
theorem f_where_1b {G : GI} {S : Hp} {w : Nat → Nat} {k o : Nat} {A c g : Nat → Nat} {N : Nat} {x : Nat} (hxt : zT S x = 14) (hxo : zP S 416 x = some o) (h : OR S w k o A c) (hr : Rel c g N) (hal : ∀ l, l < g 0 → A l ≠ 0) (hc1 : zX S + 1 ≤ gN G) (hu6 : zU S + 6 ≤ gM G) {l : Nat} (hl : l < g 0) {z : Int32} (hnu : ¬ vp_in z (g (90 + 13 * l + 1))) : FT m_X12_whereabouts G [.ref (x), .int (nI (l)), .int (z)] S "java/lang/IndexOutOfBoundsException" := by
  refine Cn.of rfl (by decide) (Nat.le_of_ble_eq_true rfl) (fun hN hM => ?_)
  show Wx _ G _ 0 [(0, .ref (x)), (1, .int (nI (l))), (2, .int (z))] [] _
  have hx := OX.refl h
  have h24 := hr.n24
  have hl24 : l < 24 := by omega
  have hAl := hal l hl
  have hL := hr.lot hl
  have hz := hL.z
  refine r_aload_n dX12_whereabouts_0 rfl 0 rfl ?_
  refine r_iload_n dX12_whereabouts_1 rfl 1 rfl ?_
  refine r_iload_n dX12_whereabouts_2 rfl 2 rfl ?_
  exact r_ftV (M2 := m_X12_lotWithUnit) (As := [.int (nI (l)), .int (z)]) (rest := []) dX12_whereabouts_3 cc_X12_whereabouts_169 rfl rfl rfl (Nat.le_of_ble_eq_true rfl) hxt rfl rfl (by decide) (f_unit_nu hxt hxo h hr hal hc1 hu6 hl hnu) rfl (fun y u h1 h2 => ⟨rfl, y, u, h1, h2, rfl⟩)
set_option maxRecDepth 4000 in
set_option maxHeartbeats 400000 in
theorem f_where_0 {G : GI} {S : Hp} {w : Nat → Nat} {k o : Nat} {A c g : Nat → Nat} {N : Nat} {x : Nat} (hxt : zT S x = 14) (hxo : zP S 416 x = some o) (h : OR S w k o A c) (hr : Rel c g N) (hal : ∀ l, l < g 0 → A l ≠ 0) {l : Nat} (hl : l < g 0) {u : Nat} (hu : u < g (90 + 13 * l + 1)) {n l' u' : Nat} (ho : OutC g n l u l' u') (hn24 : n < 24) : Fn m_X12_whereabouts G [.ref (x), .int (nI (l)), .int (nI (u))] S (some (.int (nI (1000 * l' + u')))) S := by
  refine Cn.of rfl (by decide) (Nat.le_of_ble_eq_true rfl) (fun hN hM => ?_)
  show Wx _ G _ 0 [(0, .ref (x)), (1, .int (nI (l))), (2, .int (nI (u)))] [] _
  have hx := OX.refl h
  have h24 := hr.n24
  have hl24 : l < 24 := by omega
  have hAl := hal l hl
  have hL := hr.lot hl
  have hz := hL.z
  refine r_aload_n dX12_whereabouts_0 rfl 0 rfl ?_
  refine r_iload_n dX12_whereabouts_1 rfl 1 rfl ?_
  refine r_iload_n dX12_whereabouts_2 rfl 2 rfl ?_
  refine r_fnV (M2 := m_X12_lotWithUnit) (As := [.int (nI (l)), .int (nI (u))]) (rest := []) (v := some (.ref (A l))) dX12_whereabouts_3 cc_X12_whereabouts_169 rfl rfl rfl (Nat.le_of_ble_eq_true rfl) hxt rfl rfl (by decide) (f_unit hxt hxo h hr hal hl hu) rfl ?_
  refine r_pop dX12_whereabouts_6 rfl ?_
  refine r_aload_n dX12_whereabouts_7 rfl 0 rfl ?_
  refine r_getR (ci := 13) (k := 0) (b := o) dX12_whereabouts_8 fr_X12_10 hxt rfl hxo ?_
  refine r_iload_n dX12_whereabouts_11 rfl 1 rfl ?_
  refine r_iload_n dX12_whereabouts_12 rfl 2 rfl ?_
  refine r_fnS (M2 := m_X12_placeOf) (As := [.int (nI (l)), .int (nI (u))]) (rest := [.ref (o)]) (v := some (.int (nI (1000 * l + u)))) dX12_whereabouts_13 cc_X12_whereabouts_215 rfl rfl rfl (Nat.le_of_ble_eq_true rfl) o_placeOf rfl ?_
  refine r_fnV (M2 := m_X7_outermost) (As := [.int (nI (1000 * l + u))]) (rest := []) (v := some (.int (nI (1000 * l' + u')))) dX12_whereabouts_16 cc_X12_whereabouts_218 rfl rfl rfl (Nat.le_of_ble_eq_true rfl) hx.1.1.1 rfl rfl (by decide) (o_outermost h hr hal ho hn24) rfl ?_
  exact r_iret (ty := .int) dX12_whereabouts_19 rfl rfl ⟨rfl, rfl⟩
set_option maxRecDepth 4000 in
set_option maxHeartbeats 400000 in
theorem f_trace_1a {G : GI} {S : Hp} {w : Nat → Nat} {k o : Nat} {A c g : Nat → Nat} {N : Nat} {x : Nat} (hxt : zT S x = 14) (hxo : zP S 416 x = some o) (h : OR S w k o A c) (hr : Rel c g N) (hal : ∀ l, l < g 0 → A l ≠ 0) (hc1 : zX S + 1 ≤ gN G) (hu6 : zU S + 6 ≤ gM G) {y : Int32} (hno : ¬ vp_in y (g 0)) {z z2 z3 : Int32} : FT m_X12_trace G [.ref (x), .int (y), .int (z), .int (z2), .int (z3)] S "java/lang/IndexOutOfBoundsException" := by
  refine Cn.of rfl (by decide) (Nat.le_of_ble_eq_true rfl) (fun hN hM => ?_)
  show Wx _ G _ 0 [(0, .ref (x)), (1, .int (y)), (2, .int (z)), (3, .int (z2)), (4, .int (z3))] [] _
  have hx := OX.refl h
  have h24 := hr.n24
  refine r_aload_n dX12_trace_0 rfl 0 rfl ?_
  refine r_iload_n dX12_trace_1 rfl 1 rfl ?_
  refine r_iload_n dX12_trace_2 rfl 2 rfl ?_
  exact r_ftV (M2 := m_X12_lotWithUnit) (As := [.int (y), .int (z)]) (rest := []) dX12_trace_3 cc_X12_trace_169 rfl rfl rfl (Nat.le_of_ble_eq_true rfl) hxt rfl rfl (by decide) (f_unit_no hxt hxo h hr hal hc1 hu6 hno) rfl (fun y u h1 h2 => ⟨rfl, y, u, h1, h2, rfl⟩)
set_option maxRecDepth 4000 in
set_option maxHeartbeats 400000 in
theorem f_trace_1b {G : GI} {S : Hp} {w : Nat → Nat} {k o : Nat} {A c g : Nat → Nat} {N : Nat} {x : Nat} (hxt : zT S x = 14) (hxo : zP S 416 x = some o) (h : OR S w k o A c) (hr : Rel c g N) (hal : ∀ l, l < g 0 → A l ≠ 0) (hc1 : zX S + 1 ≤ gN G) (hu6 : zU S + 6 ≤ gM G) {l : Nat} (hl : l < g 0) {z : Int32} (hnu : ¬ vp_in z (g (90 + 13 * l + 1))) {z2 z3 : Int32} : FT m_X12_trace G [.ref (x), .int (nI (l)), .int (z), .int (z2), .int (z3)] S "java/lang/IndexOutOfBoundsException" := by
  refine Cn.of rfl (by decide) (Nat.le_of_ble_eq_true rfl) (fun hN hM => ?_)
  show Wx _ G _ 0 [(0, .ref (x)), (1, .int (nI (l))), (2, .int (z)), (3, .int (z2)), (4, .int (z3))] [] _
  have hx := OX.refl h
  have h24 := hr.n24
  have hl24 : l < 24 := by omega
  have hAl := hal l hl
  have hL := hr.lot hl
  have hz := hL.z
  refine r_aload_n dX12_trace_0 rfl 0 rfl ?_
  refine r_iload_n dX12_trace_1 rfl 1 rfl ?_
  refine r_iload_n dX12_trace_2 rfl 2 rfl ?_
  exact r_ftV (M2 := m_X12_lotWithUnit) (As := [.int (nI (l)), .int (z)]) (rest := []) dX12_trace_3 cc_X12_trace_169 rfl rfl rfl (Nat.le_of_ble_eq_true rfl) hxt rfl rfl (by decide) (f_unit_nu hxt hxo h hr hal hc1 hu6 hl hnu) rfl (fun y u h1 h2 => ⟨rfl, y, u, h1, h2, rfl⟩)
set_option maxRecDepth 4000 in
set_option maxHeartbeats 400000 in
theorem f_trace_2 {G : GI} {S : Hp} {w : Nat → Nat} {k o : Nat} {A c g : Nat → Nat} {N : Nat} {x : Nat} (hxt : zT S x = 14) (hxo : zP S 416 x = some o) (h : OR S w k o A c) (hr : Rel c g N) (hal : ∀ l, l < g 0 → A l ≠ 0) (hc1 : zX S + 1 ≤ gN G) (hu6 : zU S + 6 ≤ gM G) {l : Nat} (hl : l < g 0) {u : Nat} (hu : u < g (90 + 13 * l + 1)) {z : Int32} (hz4 : ¬ vp_in z 4) {z2 : Int32} : FT m_X12_trace G [.ref (x), .int (nI (l)), .int (nI (u)), .int (z), .int (z2)] S "java/lang/IllegalArgumentException" := by
  refine Cn.of rfl (by decide) (Nat.le_of_ble_eq_true rfl) (fun hN hM => ?_)
  show Wx _ G _ 0 [(0, .ref (x)), (1, .int (nI (l))), (2, .int (nI (u))), (3, .int (z)), (4, .int (z2))] [] _
  have hx := OX.refl h
  have h24 := hr.n24
  have hl24 : l < 24 := by omega
  have hAl := hal l hl
  have hL := hr.lot hl
  have hz := hL.z
  refine r_aload_n dX12_trace_0 rfl 0 rfl ?_
  refine r_iload_n dX12_trace_1 rfl 1 rfl ?_
  refine r_iload_n dX12_trace_2 rfl 2 rfl ?_
  refine r_fnV (M2 := m_X12_lotWithUnit) (As := [.int (nI (l)), .int (nI (u))]) (rest := []) (v := some (.ref (A l))) dX12_trace_3 cc_X12_trace_169 rfl rfl rfl (Nat.le_of_ble_eq_true rfl) hxt rfl rfl (by decide) (f_unit hxt hxo h hr hal hl hu) rfl ?_
  refine r_astore (lv' := [(5, .ref (A l)), (0, .ref (x)), (1, .int (nI (l))), (2, .int (nI (u))), (3, .int (z)), (4, .int (z2))]) dX12_trace_6 (by decide) rfl ?_
  refine r_iload_n dX12_trace_8 rfl 4 rfl ?_
  refine r_if_lt (tgt := 17) dX12_trace_9 (by decide) (fun h9 => ?_) (fun h9 => ?_)
  · exact r_throw (ft_IA (by decide)) rfl dX12_trace_17 dX12_trace_20 dX12_trace_21 dX12_trace_24 (by decide) (by first | exact hc1 | omega) (by first | exact hu6 | omega) (fun y u h1 h2 h3 h4 => ⟨rfl, y, u, ⟨h1, h2⟩, ⟨h3, h4⟩, rfl⟩)
  · refine r_iload_n dX12_trace_12 rfl 4 rfl ?_
    refine r_iconst (v := nI 4) dX12_trace_13 (by decide) ?_
    refine r_icmp_lt (tgt := 25) dX12_trace_14 (by decide) (fun h14 => ?_) (fun h14 => ?_)
    · exact absurd (vp_lt (n := 4) (by decide) h9 h14) hz4
    · exact r_throw (ft_IA (by decide)) rfl dX12_trace_17 dX12_trace_20 dX12_trace_21 dX12_trace_24 (by decide) (by first | exact hc1 | omega) (by first | exact hu6 | omega) (fun y u h1 h2 h3 h4 => ⟨rfl, y, u, ⟨h1, h2⟩, ⟨h3, h4⟩, rfl⟩)
set_option maxRecDepth 4000 in
set_option maxHeartbeats 400000 in
theorem f_trace_3 {G : GI} {S : Hp} {w : Nat → Nat} {k o : Nat} {A c g : Nat → Nat} {N : Nat} {x : Nat} (hxt : zT S x = 14) (hxo : zP S 416 x = some o) (h : OR S w k o A c) (hr : Rel c g N) (hal : ∀ l, l < g 0 → A l ≠ 0) (hc1 : zX S + 1 ≤ gN G) (hu6 : zU S + 6 ≤ gM G) {l : Nat} (hl : l < g 0) {u : Nat} (hu : u < g (90 + 13 * l + 1)) {q : Nat} (hq : q < 4) {z2 : Int32} (hd : bW (g (402 + 2 * (200 * l + u))) q = 0) : FT m_X12_trace G [.ref (x), .int (nI (l)), .int (nI (u)), .int (nI (q)), .int (z2)] S "java/util/NoSuchElementException" := by
  refine Cn.of rfl (by decide) (Nat.le_of_ble_eq_true rfl) (fun hN hM => ?_)
  show Wx _ G _ 0 [(0, .ref (x)), (1, .int (nI (l))), (2, .int (nI (u))), (3, .int (nI (q))), (4, .int (z2))] [] _
  have hx := OX.refl h
  have h24 := hr.n24
  have hl24 : l < 24 := by omega
  have hAl := hal l hl
  have hL := hr.lot hl
  have hz := hL.z
  refine r_aload_n dX12_trace_0 rfl 0 rfl ?_
  refine r_iload_n dX12_trace_1 rfl 1 rfl ?_
  refine r_iload_n dX12_trace_2 rfl 2 rfl ?_
  refine r_fnV (M2 := m_X12_lotWithUnit) (As := [.int (nI (l)), .int (nI (u))]) (rest := []) (v := some (.ref (A l))) dX12_trace_3 cc_X12_trace_169 rfl rfl rfl (Nat.le_of_ble_eq_true rfl) hxt rfl rfl (by decide) (f_unit hxt hxo h hr hal hl hu) rfl ?_
  refine r_astore (lv' := [(5, .ref (A l)), (0, .ref (x)), (1, .int (nI (l))), (2, .int (nI (u))), (3, .int (nI (q))), (4, .int (z2))]) dX12_trace_6 (by decide) rfl ?_
  refine r_iload_n dX12_trace_8 rfl 4 rfl ?_
  refine r_if_ltN (tgt := 17) dX12_trace_9 (by decide) (by (first | omega | (have := Nat.pow_le_pow_right (n := 2) (by decide) (show q ≤ 3 by omega); omega) | (have := @Nat.and_le_left (g (402 + 2 * (200 * l + u)) % 16) (1 * 2 ^ q); omega))) ?_
  refine r_iload_n dX12_trace_12 rfl 4 rfl ?_
  refine r_iconst (v := nI 4) dX12_trace_13 (by decide) ?_
  refine r_icmp_ltN (tgt := 25) dX12_trace_14 (by decide) (by (first | omega | (have := Nat.pow_le_pow_right (n := 2) (by decide) (show q ≤ 3 by omega); omega) | (have := @Nat.and_le_left (g (402 + 2 * (200 * l + u)) % 16) (1 * 2 ^ q); omega))) (by (first | omega | (have := Nat.pow_le_pow_right (n := 2) (by decide) (show q ≤ 3 by omega); omega) | (have := @Nat.and_le_left (g (402 + 2 * (200 * l + u)) % 16) (1 * 2 ^ q); omega))) (fun h14 => ?_) (fun h14 => ?_)
  · refine r_aload dX12_trace_25 0 rfl ?_
    refine r_getR (ci := 7) (k := 12) (b := A l + 3) dX12_trace_27 fr_X12_177 (hx.1.lo hl24 hAl).2.1 rfl (hx.1.lo hl24 hAl).2.2.1.2.2.1 ?_
    refine r_iload_n dX12_trace_30 rfl 3 rfl ?_
    refine r_iald dX12_trace_31 (hx.1.lo hl24 hAl).2.2.2.2.2.1.1 (by rw [show zN S (A l + 3) = 200 from (hx.1.lo hl24 hAl).2.2.2.2.2.1.2]; exact vp_in_nI (by (first | omega | (have := Nat.pow_le_pow_right (n := 2) (by decide) (show q ≤ 3 by omega); omega) | (have := @Nat.and_le_left (g (402 + 2 * (200 * l + u)) % 16) (1 * 2 ^ q); omega))) (by decide)) ?_
    refine Wx.top (congrArg (zA _ _) (nI_clamp (by (first | omega | (have := Nat.pow_le_pow_right (n := 2) (by decide) (show q ≤ 3 by omega); omega) | (have := @Nat.and_le_left (g (402 + 2 * (200 * l + u)) % 16) (1 * 2 ^ q); omega))))) ?_
    refine Wx.top (hx.1.u1 (u := u) hl24 hAl (by (first | omega | (have := Nat.pow_le_pow_right (n := 2) (by decide) (show q ≤ 3 by omega); omega) | (have := @Nat.and_le_left (g (402 + 2 * (200 * l + u)) % 16) (1 * 2 ^ q); omega)))) ?_
    refine Wx.topN (hL.u1 (u := u) (by (first | omega | (have := Nat.pow_le_pow_right (n := 2) (by decide) (show q ≤ 3 by omega); omega) | (have := @Nat.and_le_left (g (402 + 2 * (200 * l + u)) % 16) (1 * 2 ^ q); omega)))) ?_
    refine r_iconst (v := nI 1) dX12_trace_32 (by decide) ?_
    refine r_iload_n dX12_trace_33 rfl 4 rfl ?_
    refine r_ishlN dX12_trace_34 (by (first | omega | (have := Nat.pow_le_pow_right (n := 2) (by decide) (show q ≤ 3 by omega); omega) | (have := @Nat.and_le_left (g (402 + 2 * (200 * l + u)) % 16) (1 * 2 ^ q); omega))) (by (first | omega | (have := Nat.pow_le_pow_right (n := 2) (by decide) (show q ≤ 3 by omega); omega) | (have := @Nat.and_le_left (g (402 + 2 * (200 * l + u)) % 16) (1 * 2 ^ q); omega))) ?_
    refine r_iandN dX12_trace_35 (by (first | omega | (have := Nat.pow_le_pow_right (n := 2) (by decide) (show q ≤ 3 by omega); omega) | (have := @Nat.and_le_left (g (402 + 2 * (200 * l + u)) % 16) (1 * 2 ^ q); omega))) (by (first | omega | (have := Nat.pow_le_pow_right (n := 2) (by decide) (show q ≤ 3 by omega); omega) | (have := @Nat.and_le_left (g (402 + 2 * (200 * l + u)) % 16) (1 * 2 ^ q); omega))) ?_
    refine r_if_neN (tgt := 47) dX12_trace_36 (by decide) (by (first | omega | (have := Nat.pow_le_pow_right (n := 2) (by decide) (show q ≤ 3 by omega); omega) | (have := @Nat.and_le_left (g (402 + 2 * (200 * l + u)) % 16) (1 * 2 ^ q); omega))) (fun h36 => ?_) (fun h36 => ?_)
    · exact absurd (d_b.mpr hd) h36
    · exact r_throw (ft_NS (by decide)) rfl dX12_trace_39 dX12_trace_42 dX12_trace_43 dX12_trace_46 (by decide) (by first | exact hc1 | omega) (by first | exact hu6 | omega) (fun y u h1 h2 h3 h4 => ⟨rfl, y, u, ⟨h1, h2⟩, ⟨h3, h4⟩, rfl⟩)
  · exact absurd h14 (by omega)
set_option maxRecDepth 4000 in
set_option maxHeartbeats 400000 in
theorem f_trace_a {G : GI} {S : Hp} {w : Nat → Nat} {k o : Nat} {A c g : Nat → Nat} {N : Nat} {x : Nat} (hxt : zT S x = 14) (hxo : zP S 416 x = some o) (h : OR S w k o A c) (hr : Rel c g N) (hal : ∀ l, l < g 0 → A l ≠ 0) {l : Nat} (hl : l < g 0) {u : Nat} (hu : u < g (90 + 13 * l + 1)) {q : Nat} (hq : q < 4) {n l' u' : Nat} (hd : ¬ bW (g (402 + 2 * (200 * l + u))) q = 0) (ho : Org g q n l u l' u') (hn24 : n < 24) (hl' : l' < g 0) (hu' : u' < g (90 + 13 * l' + 1)) : Fn m_X12_trace G [.ref (x), .int (nI (l)), .int (nI (u)), .int (nI (q)), .int (nI (1))] S (some (.int (nI (cauV g q l' u')))) S := by
  refine Cn.of rfl (by decide) (Nat.le_of_ble_eq_true rfl) (fun hN hM => ?_)
  show Wx _ G _ 0 [(0, .ref (x)), (1, .int (nI (l))), (2, .int (nI (u))), (3, .int (nI (q))), (4, .int (nI (1)))] [] _
  have hx := OX.refl h
  have h24 := hr.n24
  have hl24 : l < 24 := by omega
  have hAl := hal l hl
  have hL := hr.lot hl
  have hz := hL.z
  have hb1 : bW (g (402 + 2 * (200 * l + u))) q = 1 := bW_01.resolve_left hd
  refine r_aload_n dX12_trace_0 rfl 0 rfl ?_
  refine r_iload_n dX12_trace_1 rfl 1 rfl ?_
  refine r_iload_n dX12_trace_2 rfl 2 rfl ?_
  refine r_fnV (M2 := m_X12_lotWithUnit) (As := [.int (nI (l)), .int (nI (u))]) (rest := []) (v := some (.ref (A l))) dX12_trace_3 cc_X12_trace_169 rfl rfl rfl (Nat.le_of_ble_eq_true rfl) hxt rfl rfl (by decide) (f_unit hxt hxo h hr hal hl hu) rfl ?_
  refine r_astore (lv' := [(5, .ref (A l)), (0, .ref (x)), (1, .int (nI (l))), (2, .int (nI (u))), (3, .int (nI (q))), (4, .int (nI (1)))]) dX12_trace_6 (by decide) rfl ?_
  refine r_iload_n dX12_trace_8 rfl 4 rfl ?_
  refine r_if_ltN (tgt := 17) dX12_trace_9 (by decide) (by (first | omega | (have := Nat.pow_le_pow_right (n := 2) (by decide) (show q ≤ 3 by omega); omega) | (have := @Nat.and_le_left (g (402 + 2 * (200 * l + u)) % 16) (1 * 2 ^ q); omega))) ?_
  refine r_iload_n dX12_trace_12 rfl 4 rfl ?_
  refine r_iconst (v := nI 4) dX12_trace_13 (by decide) ?_
  refine r_icmp_ltN (tgt := 25) dX12_trace_14 (by decide) (by (first | omega | (have := Nat.pow_le_pow_right (n := 2) (by decide) (show q ≤ 3 by omega); omega) | (have := @Nat.and_le_left (g (402 + 2 * (200 * l + u)) % 16) (1 * 2 ^ q); omega))) (by (first | omega | (have := Nat.pow_le_pow_right (n := 2) (by decide) (show q ≤ 3 by omega); omega) | (have := @Nat.and_le_left (g (402 + 2 * (200 * l + u)) % 16) (1 * 2 ^ q); omega))) (fun h14 => ?_) (fun h14 => ?_)
  · refine r_aload dX12_trace_25 0 rfl ?_
    refine r_getR (ci := 7) (k := 12) (b := A l + 3) dX12_trace_27 fr_X12_177 (hx.1.lo hl24 hAl).2.1 rfl (hx.1.lo hl24 hAl).2.2.1.2.2.1 ?_
    refine r_iload_n dX12_trace_30 rfl 3 rfl ?_
    refine r_iald dX12_trace_31 (hx.1.lo hl24 hAl).2.2.2.2.2.1.1 (by rw [show zN S (A l + 3) = 200 from (hx.1.lo hl24 hAl).2.2.2.2.2.1.2]; exact vp_in_nI (by (first | omega | (have := Nat.pow_le_pow_right (n := 2) (by decide) (show q ≤ 3 by omega); omega) | (have := @Nat.and_le_left (g (402 + 2 * (200 * l + u)) % 16) (1 * 2 ^ q); omega))) (by decide)) ?_
    refine Wx.top (congrArg (zA _ _) (nI_clamp (by (first | omega | (have := Nat.pow_le_pow_right (n := 2) (by decide) (show q ≤ 3 by omega); omega) | (have := @Nat.and_le_left (g (402 + 2 * (200 * l + u)) % 16) (1 * 2 ^ q); omega))))) ?_
    refine Wx.top (hx.1.u1 (u := u) hl24 hAl (by (first | omega | (have := Nat.pow_le_pow_right (n := 2) (by decide) (show q ≤ 3 by omega); omega) | (have := @Nat.and_le_left (g (402 + 2 * (200 * l + u)) % 16) (1 * 2 ^ q); omega)))) ?_
    refine Wx.topN (hL.u1 (u := u) (by (first | omega | (have := Nat.pow_le_pow_right (n := 2) (by decide) (show q ≤ 3 by omega); omega) | (have := @Nat.and_le_left (g (402 + 2 * (200 * l + u)) % 16) (1 * 2 ^ q); omega)))) ?_
    refine r_iconst (v := nI 1) dX12_trace_32 (by decide) ?_
    refine r_iload_n dX12_trace_33 rfl 4 rfl ?_
    refine r_ishlN dX12_trace_34 (by (first | omega | (have := Nat.pow_le_pow_right (n := 2) (by decide) (show q ≤ 3 by omega); omega) | (have := @Nat.and_le_left (g (402 + 2 * (200 * l + u)) % 16) (1 * 2 ^ q); omega))) (by (first | omega | (have := Nat.pow_le_pow_right (n := 2) (by decide) (show q ≤ 3 by omega); omega) | (have := @Nat.and_le_left (g (402 + 2 * (200 * l + u)) % 16) (1 * 2 ^ q); omega))) ?_
    refine r_iandN dX12_trace_35 (by (first | omega | (have := Nat.pow_le_pow_right (n := 2) (by decide) (show q ≤ 3 by omega); omega) | (have := @Nat.and_le_left (g (402 + 2 * (200 * l + u)) % 16) (1 * 2 ^ q); omega))) (by (first | omega | (have := Nat.pow_le_pow_right (n := 2) (by decide) (show q ≤ 3 by omega); omega) | (have := @Nat.and_le_left (g (402 + 2 * (200 * l + u)) % 16) (1 * 2 ^ q); omega))) ?_
    refine r_if_neN (tgt := 47) dX12_trace_36 (by decide) (by (first | omega | (have := Nat.pow_le_pow_right (n := 2) (by decide) (show q ≤ 3 by omega); omega) | (have := @Nat.and_le_left (g (402 + 2 * (200 * l + u)) % 16) (1 * 2 ^ q); omega))) (fun h36 => ?_) (fun h36 => ?_)
    · refine r_aload_n dX12_trace_47 rfl 1 rfl ?_
      refine r_getR (ci := 13) (k := 0) (b := o) dX12_trace_48 fr_X12_10 hxt rfl hxo ?_
      refine r_iload_n dX12_trace_51 rfl 2 rfl ?_
      refine r_iload_n dX12_trace_52 rfl 3 rfl ?_
      refine r_fnS (M2 := m_X12_placeOf) (As := [.int (nI (l)), .int (nI (u))]) (rest := [.ref (o)]) (v := some (.int (nI (1000 * l + u)))) dX12_trace_53 cc_X12_trace_215 rfl rfl rfl (Nat.le_of_ble_eq_true rfl) o_placeOf rfl ?_
      refine r_iload_n dX12_trace_56 rfl 4 rfl ?_
      refine r_fnV (M2 := m_X7_originOf) (As := [.int (nI (1000 * l + u)), .int (nI (q))]) (rest := []) (v := some (.int (nI (1000 * l' + u')))) dX12_trace_57 cc_X12_trace_221 rfl rfl rfl (Nat.le_of_ble_eq_true rfl) hx.1.1.1 rfl rfl (by decide) (o_originOf h hr hal hl hu hq ho hb1 hn24) rfl ?_
      refine r_istore (lv' := [(6, .int (nI (1000 * l' + u'))), (5, .ref (A l)), (0, .ref (x)), (1, .int (nI (l))), (2, .int (nI (u))), (3, .int (nI (q))), (4, .int (nI (1)))]) dX12_trace_60 (by decide) rfl ?_
      refine r_iload dX12_trace_62 6 rfl ?_
      refine r_if_eqN (tgt := 80) dX12_trace_64 (by decide) (by (first | omega | (have := Nat.pow_le_pow_right (n := 2) (by decide) (show q ≤ 3 by omega); omega) | (have := @Nat.and_le_left (g (402 + 2 * (200 * l + u)) % 16) (1 * 2 ^ q); omega))) (fun zz64 => ?_) (fun zz64 => ?_)
      · exact absurd zz64 (by decide)
      · refine r_aload_n dX12_trace_67 rfl 2 rfl ?_
        refine r_getR (ci := 13) (k := 0) (b := o) dX12_trace_68 fr_X12_10 hxt rfl hxo ?_
        refine r_iload dX12_trace_71 0 rfl ?_
        refine r_iload_n dX12_trace_73 rfl 5 rfl ?_
        refine r_fnV (M2 := m_X7_causeAt) (As := [.int (nI (1000 * l' + u')), .int (nI (q))]) (rest := []) (v := some (.int (nI (cauV g q l' u')))) dX12_trace_74 cc_X12_trace_224 rfl rfl rfl (Nat.le_of_ble_eq_true rfl) hx.1.1.1 rfl rfl (by decide) (o_causeAt h hr hal hl' hu' hq) rfl ?_
        refine r_goto (tgt := 82) dX12_trace_77 (by decide) ?_
        exact r_iret (ty := .int) dX12_trace_82 rfl rfl ⟨rfl, rfl⟩
    · exact absurd (d_b.mp h36) hd
  · exact absurd h14 (by omega)
set_option maxRecDepth 4000 in
set_option maxHeartbeats 400000 in
theorem f_trace_b {G : GI} {S : Hp} {w : Nat → Nat} {k o : Nat} {A c g : Nat → Nat} {N : Nat} {x : Nat} (hxt : zT S x = 14) (hxo : zP S 416 x = some o) (h : OR S w k o A c) (hr : Rel c g N) (hal : ∀ l, l < g 0 → A l ≠ 0) {l : Nat} (hl : l < g 0) {u : Nat} (hu : u < g (90 + 13 * l + 1)) {q : Nat} (hq : q < 4) {n l' u' : Nat} (hd : ¬ bW (g (402 + 2 * (200 * l + u))) q = 0) (ho : Org g q n l u l' u') (hn24 : n < 24) (hl' : l' < g 0) (hu' : u' < g (90 + 13 * l' + 1)) : Fn m_X12_trace G [.ref (x), .int (nI (l)), .int (nI (u)), .int (nI (q)), .int (nI (0))] S (some (.int (nI (1000 * l' + u')))) S := by
  refine Cn.of rfl (by decide) (Nat.le_of_ble_eq_true rfl) (fun hN hM => ?_)
  show Wx _ G _ 0 [(0, .ref (x)), (1, .int (nI (l))), (2, .int (nI (u))), (3, .int (nI (q))), (4, .int (nI (0)))] [] _
  have hx := OX.refl h
  have h24 := hr.n24
  have hl24 : l < 24 := by omega
  have hAl := hal l hl
  have hL := hr.lot hl
  have hz := hL.z
  have hb1 : bW (g (402 + 2 * (200 * l + u))) q = 1 := bW_01.resolve_left hd
  refine r_aload_n dX12_trace_0 rfl 0 rfl ?_
  refine r_iload_n dX12_trace_1 rfl 1 rfl ?_
  refine r_iload_n dX12_trace_2 rfl 2 rfl ?_
  refine r_fnV (M2 := m_X12_lotWithUnit) (As := [.int (nI (l)), .int (nI (u))]) (rest := []) (v := some (.ref (A l))) dX12_trace_3 cc_X12_trace_169 rfl rfl rfl (Nat.le_of_ble_eq_true rfl) hxt rfl rfl (by decide) (f_unit hxt hxo h hr hal hl hu) rfl ?_
  refine r_astore (lv' := [(5, .ref (A l)), (0, .ref (x)), (1, .int (nI (l))), (2, .int (nI (u))), (3, .int (nI (q))), (4, .int (nI (0)))]) dX12_trace_6 (by decide) rfl ?_
  refine r_iload_n dX12_trace_8 rfl 4 rfl ?_
  refine r_if_ltN (tgt := 17) dX12_trace_9 (by decide) (by (first | omega | (have := Nat.pow_le_pow_right (n := 2) (by decide) (show q ≤ 3 by omega); omega) | (have := @Nat.and_le_left (g (402 + 2 * (200 * l + u)) % 16) (1 * 2 ^ q); omega))) ?_
  refine r_iload_n dX12_trace_12 rfl 4 rfl ?_
  refine r_iconst (v := nI 4) dX12_trace_13 (by decide) ?_
  refine r_icmp_ltN (tgt := 25) dX12_trace_14 (by decide) (by (first | omega | (have := Nat.pow_le_pow_right (n := 2) (by decide) (show q ≤ 3 by omega); omega) | (have := @Nat.and_le_left (g (402 + 2 * (200 * l + u)) % 16) (1 * 2 ^ q); omega))) (by (first | omega | (have := Nat.pow_le_pow_right (n := 2) (by decide) (show q ≤ 3 by omega); omega) | (have := @Nat.and_le_left (g (402 + 2 * (200 * l + u)) % 16) (1 * 2 ^ q); omega))) (fun h14 => ?_) (fun h14 => ?_)
  · refine r_aload dX12_trace_25 0 rfl ?_
    refine r_getR (ci := 7) (k := 12) (b := A l + 3) dX12_trace_27 fr_X12_177 (hx.1.lo hl24 hAl).2.1 rfl (hx.1.lo hl24 hAl).2.2.1.2.2.1 ?_
    refine r_iload_n dX12_trace_30 rfl 3 rfl ?_
    refine r_iald dX12_trace_31 (hx.1.lo hl24 hAl).2.2.2.2.2.1.1 (by rw [show zN S (A l + 3) = 200 from (hx.1.lo hl24 hAl).2.2.2.2.2.1.2]; exact vp_in_nI (by (first | omega | (have := Nat.pow_le_pow_right (n := 2) (by decide) (show q ≤ 3 by omega); omega) | (have := @Nat.and_le_left (g (402 + 2 * (200 * l + u)) % 16) (1 * 2 ^ q); omega))) (by decide)) ?_
    refine Wx.top (congrArg (zA _ _) (nI_clamp (by (first | omega | (have := Nat.pow_le_pow_right (n := 2) (by decide) (show q ≤ 3 by omega); omega) | (have := @Nat.and_le_left (g (402 + 2 * (200 * l + u)) % 16) (1 * 2 ^ q); omega))))) ?_
    refine Wx.top (hx.1.u1 (u := u) hl24 hAl (by (first | omega | (have := Nat.pow_le_pow_right (n := 2) (by decide) (show q ≤ 3 by omega); omega) | (have := @Nat.and_le_left (g (402 + 2 * (200 * l + u)) % 16) (1 * 2 ^ q); omega)))) ?_
    refine Wx.topN (hL.u1 (u := u) (by (first | omega | (have := Nat.pow_le_pow_right (n := 2) (by decide) (show q ≤ 3 by omega); omega) | (have := @Nat.and_le_left (g (402 + 2 * (200 * l + u)) % 16) (1 * 2 ^ q); omega)))) ?_
    refine r_iconst (v := nI 1) dX12_trace_32 (by decide) ?_
    refine r_iload_n dX12_trace_33 rfl 4 rfl ?_
    refine r_ishlN dX12_trace_34 (by (first | omega | (have := Nat.pow_le_pow_right (n := 2) (by decide) (show q ≤ 3 by omega); omega) | (have := @Nat.and_le_left (g (402 + 2 * (200 * l + u)) % 16) (1 * 2 ^ q); omega))) (by (first | omega | (have := Nat.pow_le_pow_right (n := 2) (by decide) (show q ≤ 3 by omega); omega) | (have := @Nat.and_le_left (g (402 + 2 * (200 * l + u)) % 16) (1 * 2 ^ q); omega))) ?_
    refine r_iandN dX12_trace_35 (by (first | omega | (have := Nat.pow_le_pow_right (n := 2) (by decide) (show q ≤ 3 by omega); omega) | (have := @Nat.and_le_left (g (402 + 2 * (200 * l + u)) % 16) (1 * 2 ^ q); omega))) (by (first | omega | (have := Nat.pow_le_pow_right (n := 2) (by decide) (show q ≤ 3 by omega); omega) | (have := @Nat.and_le_left (g (402 + 2 * (200 * l + u)) % 16) (1 * 2 ^ q); omega))) ?_
    refine r_if_neN (tgt := 47) dX12_trace_36 (by decide) (by (first | omega | (have := Nat.pow_le_pow_right (n := 2) (by decide) (show q ≤ 3 by omega); omega) | (have := @Nat.and_le_left (g (402 + 2 * (200 * l + u)) % 16) (1 * 2 ^ q); omega))) (fun h36 => ?_) (fun h36 => ?_)
    · refine r_aload_n dX12_trace_47 rfl 1 rfl ?_
      refine r_getR (ci := 13) (k := 0) (b := o) dX12_trace_48 fr_X12_10 hxt rfl hxo ?_
      refine r_iload_n dX12_trace_51 rfl 2 rfl ?_
      refine r_iload_n dX12_trace_52 rfl 3 rfl ?_
      refine r_fnS (M2 := m_X12_placeOf) (As := [.int (nI (l)), .int (nI (u))]) (rest := [.ref (o)]) (v := some (.int (nI (1000 * l + u)))) dX12_trace_53 cc_X12_trace_215 rfl rfl rfl (Nat.le_of_ble_eq_true rfl) o_placeOf rfl ?_
      refine r_iload_n dX12_trace_56 rfl 4 rfl ?_
      refine r_fnV (M2 := m_X7_originOf) (As := [.int (nI (1000 * l + u)), .int (nI (q))]) (rest := []) (v := some (.int (nI (1000 * l' + u')))) dX12_trace_57 cc_X12_trace_221 rfl rfl rfl (Nat.le_of_ble_eq_true rfl) hx.1.1.1 rfl rfl (by decide) (o_originOf h hr hal hl hu hq ho hb1 hn24) rfl ?_
      refine r_istore (lv' := [(6, .int (nI (1000 * l' + u'))), (5, .ref (A l)), (0, .ref (x)), (1, .int (nI (l))), (2, .int (nI (u))), (3, .int (nI (q))), (4, .int (nI (0)))]) dX12_trace_60 (by decide) rfl ?_
      refine r_iload dX12_trace_62 6 rfl ?_
      refine r_if_eqN (tgt := 80) dX12_trace_64 (by decide) (by (first | omega | (have := Nat.pow_le_pow_right (n := 2) (by decide) (show q ≤ 3 by omega); omega) | (have := @Nat.and_le_left (g (402 + 2 * (200 * l + u)) % 16) (1 * 2 ^ q); omega))) (fun zz64 => ?_) (fun zz64 => ?_)
      · refine r_iload dX12_trace_80 0 rfl ?_
        exact r_iret (ty := .int) dX12_trace_82 rfl rfl ⟨rfl, rfl⟩
      · exact absurd zz64 (by decide)
    · exact absurd (d_b.mp h36) hd
  · exact absurd h14 (by omega)
set_option maxRecDepth 4000 in
set_option maxHeartbeats 400000 in
theorem f_blame_1a {G : GI} {S : Hp} {w : Nat → Nat} {k o : Nat} {A c g : Nat → Nat} {N : Nat} {x : Nat} (hxt : zT S x = 14) (hxo : zP S 416 x = some o) (h : OR S w k o A c) (hr : Rel c g N) (hal : ∀ l, l < g 0 → A l ≠ 0) (hc1 : zX S + 1 ≤ gN G) (hu6 : zU S + 6 ≤ gM G) {y : Int32} (hy : ¬ vp_in y 7) {z : Int32} : FT m_X12_blame G [.ref (x), .int (y), .int (z)] S "java/lang/IllegalArgumentException" := by
  refine Cn.of rfl (by decide) (Nat.le_of_ble_eq_true rfl) (fun hN hM => ?_)
  show Wx _ G _ 0 [(0, .ref (x)), (1, .int (y)), (2, .int (z))] [] _
  have hx := OX.refl h
  have h24 := hr.n24
  refine r_iload_n dX12_blame_0 rfl 1 rfl ?_
  refine r_if_lt (tgt := 20) dX12_blame_1 (by decide) (fun h1 => ?_) (fun h1 => ?_)
  · exact r_throw (ft_IA (by decide)) rfl dX12_blame_20 dX12_blame_23 dX12_blame_24 dX12_blame_27 (by decide) (by first | exact hc1 | omega) (by first | exact hu6 | omega) (fun y u h1 h2 h3 h4 => ⟨rfl, y, u, ⟨h1, h2⟩, ⟨h3, h4⟩, rfl⟩)
  · refine r_iload_n dX12_blame_4 rfl 1 rfl ?_
    refine r_bipush (v := nI 7) dX12_blame_5 (by decide) ?_
    refine r_icmp_ge (tgt := 20) dX12_blame_7 (by decide) (fun h7 => ?_) (fun h7 => ?_)
    · exact r_throw (ft_IA (by decide)) rfl dX12_blame_20 dX12_blame_23 dX12_blame_24 dX12_blame_27 (by decide) (by first | exact hc1 | omega) (by first | exact hu6 | omega) (fun y u h1 h2 h3 h4 => ⟨rfl, y, u, ⟨h1, h2⟩, ⟨h3, h4⟩, rfl⟩)
    · exact absurd (vp_lt (by decide) h1 (Int32.not_le.mp h7)) hy
theorem lt4 {y : Int32} (h : y < nI 4) : y ≤ nI 3 := by
  rw [Int32.lt_iff_toInt_lt] at h
  rw [Int32.le_iff_toInt_le]
  have e4 : (nI 4).toInt = 4 := by decide
  have e3 : (nI 3).toInt = 3 := by decide
  omega
set_option maxRecDepth 4000 in
set_option maxHeartbeats 400000 in
theorem f_blame_1b {G : GI} {S : Hp} {w : Nat → Nat} {k o : Nat} {A c g : Nat → Nat} {N : Nat} {x : Nat} (hxt : zT S x = 14) (hxo : zP S 416 x = some o) (h : OR S w k o A c) (hr : Rel c g N) (hal : ∀ l, l < g 0 → A l ≠ 0) (hc1 : zX S + 1 ≤ gN G) (hu6 : zU S + 6 ≤ gM G) {a : Nat} (ha : a < 7) {y : Int32} (hy : ¬ ((-1) ≤ y ∧ y ≤ nI 3)) : FT m_X12_blame G [.ref (x), .int (nI (a)), .int (y)] S "java/lang/IllegalArgumentException" := by
  refine Cn.of rfl (by decide) (Nat.le_of_ble_eq_true rfl) (fun hN hM => ?_)
  show Wx _ G _ 0 [(0, .ref (x)), (1, .int (nI (a))), (2, .int (y))] [] _
  have hx := OX.refl h
  have h24 := hr.n24
  refine r_iload_n dX12_blame_0 rfl 1 rfl ?_
  refine r_if_ltN (tgt := 20) dX12_blame_1 (by decide) (by omega) ?_
  refine r_iload_n dX12_blame_4 rfl 1 rfl ?_
  refine r_bipush (v := nI 7) dX12_blame_5 (by decide) ?_
  refine r_icmp_geN (tgt := 20) dX12_blame_7 (by decide) (by omega) (by omega) (fun h7 => ?_) (fun h7 => ?_)
  · exact absurd h7 (by omega)
  · refine r_iload_n dX12_blame_10 rfl 2 rfl ?_
    refine r_iconst (v := (-1)) dX12_blame_11 (by decide) ?_
    refine r_icmp_lt (tgt := 20) dX12_blame_12 (by decide) (fun h12 => ?_) (fun h12 => ?_)
    · exact r_throw (ft_IA (by decide)) rfl dX12_blame_20 dX12_blame_23 dX12_blame_24 dX12_blame_27 (by decide) (by first | exact hc1 | omega) (by first | exact hu6 | omega) (fun y u h1 h2 h3 h4 => ⟨rfl, y, u, ⟨h1, h2⟩, ⟨h3, h4⟩, rfl⟩)
    · refine r_iload_n dX12_blame_15 rfl 2 rfl ?_
      refine r_iconst (v := nI 4) dX12_blame_16 (by decide) ?_
      refine r_icmp_lt (tgt := 28) dX12_blame_17 (by decide) (fun h17 => ?_) (fun h17 => ?_)
      · exact absurd ⟨Int32.not_lt.mp h12, lt4 h17⟩ hy
      · exact r_throw (ft_IA (by decide)) rfl dX12_blame_20 dX12_blame_23 dX12_blame_24 dX12_blame_27 (by decide) (by first | exact hc1 | omega) (by first | exact hu6 | omega) (fun y u h1 h2 h3 h4 => ⟨rfl, y, u, ⟨h1, h2⟩, ⟨h3, h4⟩, rfl⟩)
set_option maxRecDepth 4000 in
set_option maxHeartbeats 400000 in
theorem f_blame_a {G : GI} {S : Hp} {w : Nat → Nat} {k o : Nat} {A c g : Nat → Nat} {N : Nat} {x : Nat} (hxt : zT S x = 14) (hxo : zP S 416 x = some o) (h : OR S w k o A c) (hr : Rel c g N) (hal : ∀ l, l < g 0 → A l ≠ 0) {a : Nat} (ha : a < 7) : Fn m_X12_blame G [.ref (x), .int (nI (a)), .int ((-1))] S (some (.int (nI (sumN (tbN g (fun i => i / 4 = a)) 28)))) S := by
  refine Cn.of rfl (by decide) (Nat.le_of_ble_eq_true rfl) (fun hN hM => ?_)
  show Wx _ G _ 0 [(0, .ref (x)), (1, .int (nI (a))), (2, .int ((-1)))] [] _
  have hx := OX.refl h
  have h24 := hr.n24
  refine r_iload_n dX12_blame_0 rfl 1 rfl ?_
  refine r_if_ltN (tgt := 20) dX12_blame_1 (by decide) (by omega) ?_
  refine r_iload_n dX12_blame_4 rfl 1 rfl ?_
  refine r_bipush (v := nI 7) dX12_blame_5 (by decide) ?_
  refine r_icmp_geN (tgt := 20) dX12_blame_7 (by decide) (by omega) (by omega) (fun h7 => ?_) (fun h7 => ?_)
  · exact absurd h7 (by omega)
  · refine r_iload_n dX12_blame_10 rfl 2 rfl ?_
    refine r_iconst (v := (-1)) dX12_blame_11 (by decide) ?_
    refine r_icmp_lt (tgt := 20) dX12_blame_12 (by decide) (fun h12 => ?_) (fun h12 => ?_)
    · exact absurd h12 (by decide)
    · refine r_iload_n dX12_blame_15 rfl 2 rfl ?_
      refine r_iconst (v := nI 4) dX12_blame_16 (by decide) ?_
      refine r_icmp_lt (tgt := 28) dX12_blame_17 (by decide) (fun h17 => ?_) (fun h17 => ?_)
      · refine r_aload_n dX12_blame_28 rfl 0 rfl ?_
        refine r_getR (ci := 13) (k := 0) (b := o) dX12_blame_29 fr_X12_10 hxt rfl hxo ?_
        refine r_iload_n dX12_blame_32 rfl 1 rfl ?_
        refine r_iload_n dX12_blame_33 rfl 2 rfl ?_
        refine r_fnV (M2 := m_X7_timesBlamed) (As := [.int (nI (a)), .int ((-1))]) (rest := []) (v := some (.int (nI (sumN (tbN g (fun i => i / 4 = a)) 28)))) dX12_blame_34 cc_X12_blame_237 rfl rfl rfl (Nat.le_of_ble_eq_true rfl) hx.1.1.1 rfl rfl (by decide) (o_timesBlamed_a h hr hal ha) rfl ?_
        exact r_iret (ty := .int) dX12_blame_37 rfl rfl ⟨rfl, rfl⟩
      · exact absurd (by decide) h17
set_option maxRecDepth 4000 in
set_option maxHeartbeats 400000 in
theorem f_blame_b {G : GI} {S : Hp} {w : Nat → Nat} {k o : Nat} {A c g : Nat → Nat} {N : Nat} {x : Nat} (hxt : zT S x = 14) (hxo : zP S 416 x = some o) (h : OR S w k o A c) (hr : Rel c g N) (hal : ∀ l, l < g 0 → A l ≠ 0) {a : Nat} (ha : a < 7) {q : Nat} (hq : q < 4) : Fn m_X12_blame G [.ref (x), .int (nI (a)), .int (nI (q))] S (some (.int (nI (sumN (tbN g (fun i => i / 4 = a ∧ i % 4 = q)) 28)))) S := by
  refine Cn.of rfl (by decide) (Nat.le_of_ble_eq_true rfl) (fun hN hM => ?_)
  show Wx _ G _ 0 [(0, .ref (x)), (1, .int (nI (a))), (2, .int (nI (q)))] [] _
  have hx := OX.refl h
  have h24 := hr.n24
  refine r_iload_n dX12_blame_0 rfl 1 rfl ?_
  refine r_if_ltN (tgt := 20) dX12_blame_1 (by decide) (by omega) ?_
  refine r_iload_n dX12_blame_4 rfl 1 rfl ?_
  refine r_bipush (v := nI 7) dX12_blame_5 (by decide) ?_
  refine r_icmp_geN (tgt := 20) dX12_blame_7 (by decide) (by omega) (by omega) (fun h7 => ?_) (fun h7 => ?_)
  · exact absurd h7 (by omega)
  · refine r_iload_n dX12_blame_10 rfl 2 rfl ?_
    refine r_iconst (v := (-1)) dX12_blame_11 (by decide) ?_
    refine r_icmp_lt (tgt := 20) dX12_blame_12 (by decide) (fun h12 => ?_) (fun h12 => ?_)
    · exact absurd (Int32.lt_trans h12 (by decide : (-1 : Int32) < 0)) (nI_pos (by omega))
    · refine r_iload_n dX12_blame_15 rfl 2 rfl ?_
      refine r_iconst (v := nI 4) dX12_blame_16 (by decide) ?_
      refine r_icmp_ltN (tgt := 28) dX12_blame_17 (by decide) (by omega) (by omega) (fun h17 => ?_) (fun h17 => ?_)
      · refine r_aload_n dX12_blame_28 rfl 0 rfl ?_
        refine r_getR (ci := 13) (k := 0) (b := o) dX12_blame_29 fr_X12_10 hxt rfl hxo ?_
        refine r_iload_n dX12_blame_32 rfl 1 rfl ?_
        refine r_iload_n dX12_blame_33 rfl 2 rfl ?_
        refine r_fnV (M2 := m_X7_timesBlamed) (As := [.int (nI (a)), .int (nI (q))]) (rest := []) (v := some (.int (nI (sumN (tbN g (fun i => i / 4 = a ∧ i % 4 = q)) 28)))) dX12_blame_34 cc_X12_blame_237 rfl rfl rfl (Nat.le_of_ble_eq_true rfl) hx.1.1.1 rfl rfl (by decide) (o_timesBlamed_b h hr hal ha hq) rfl ?_
        exact r_iret (ty := .int) dX12_blame_37 rfl rfl ⟨rfl, rfl⟩
      · exact absurd h17 (by omega)
set_option maxRecDepth 4000 in
set_option maxHeartbeats 400000 in
theorem f_worst_0 {G : GI} {S : Hp} {w : Nat → Nat} {k o : Nat} {A c g : Nat → Nat} {N : Nat} {x : Nat} (hxt : zT S x = 14) (hxo : zP S 416 x = some o) (h : OR S w k o A c) (hr : Rel c g N) (hal : ∀ l, l < g 0 → A l ≠ 0) (hNb : N < 2147480000) {y : Int32} {e : Nat} (he : e < 28) (hpos : 0 < g (62 + e)) (hra : nI (ahd g e) = y) (hno : ∀ i, i < e → ¬ (0 < g (62 + i) ∧ nI (ahd g i) = y)) : Fn m_X12_worst G [.ref (x), .int (y)] S (some (.int (nI (10 * (e / 4) + e % 4)))) S := by
  refine Cn.of rfl (by decide) (Nat.le_of_ble_eq_true rfl) (fun hN hM => ?_)
  show Wx _ G _ 0 [(0, .ref (x)), (1, .int (y))] [] _
  have hx := OX.refl h
  have h24 := hr.n24
  refine r_aload_n dX12_worst_0 rfl 0 rfl ?_
  refine r_getR (ci := 13) (k := 0) (b := o) dX12_worst_1 fr_X12_10 hxt rfl hxo ?_
  refine r_iload_n dX12_worst_4 rfl 1 rfl ?_
  refine r_fnV (M2 := m_X7_mostBlamed) (As := [.int (y)]) (rest := []) (v := some (.int (nI (10 * (e / 4) + e % 4)))) dX12_worst_5 cc_X12_worst_240 rfl rfl rfl (Nat.le_of_ble_eq_true rfl) hx.1.1.1 rfl rfl (by decide) (o_worst_0 h hr hal hNb he hpos hra hno) rfl ?_
  refine r_istore_n (lv' := [(2, .int (nI (10 * (e / 4) + e % 4))), (0, .ref (x)), (1, .int (y))]) dX12_worst_8 rfl (by decide) rfl ?_
  refine r_iload_n dX12_worst_9 rfl 0 rfl ?_
  refine r_if_geN (tgt := 21) dX12_worst_10 (by decide) (by omega) ?_
  refine r_iload_n dX12_worst_21 rfl 0 rfl ?_
  exact r_iret (ty := .int) dX12_worst_22 rfl rfl ⟨rfl, rfl⟩
set_option maxRecDepth 4000 in
set_option maxHeartbeats 400000 in
theorem f_worst_1 {G : GI} {S : Hp} {w : Nat → Nat} {k o : Nat} {A c g : Nat → Nat} {N : Nat} {x : Nat} (hxt : zT S x = 14) (hxo : zP S 416 x = some o) (h : OR S w k o A c) (hr : Rel c g N) (hal : ∀ l, l < g 0 → A l ≠ 0) (hc1 : zX S + 1 ≤ gN G) (hu6 : zU S + 6 ≤ gM G) (hNb : N < 2147480000) {y : Int32} (hno : ∀ i, i < 28 → ¬ (0 < g (62 + i) ∧ nI (ahd g i) = y)) : FT m_X12_worst G [.ref (x), .int (y)] S "java/util/NoSuchElementException" := by
  refine Cn.of rfl (by decide) (Nat.le_of_ble_eq_true rfl) (fun hN hM => ?_)
  show Wx _ G _ 0 [(0, .ref (x)), (1, .int (y))] [] _
  have hx := OX.refl h
  have h24 := hr.n24
  refine r_aload_n dX12_worst_0 rfl 0 rfl ?_
  refine r_getR (ci := 13) (k := 0) (b := o) dX12_worst_1 fr_X12_10 hxt rfl hxo ?_
  refine r_iload_n dX12_worst_4 rfl 1 rfl ?_
  refine r_fnV (M2 := m_X7_mostBlamed) (As := [.int (y)]) (rest := []) (v := some (.int ((-4)))) dX12_worst_5 cc_X12_worst_240 rfl rfl rfl (Nat.le_of_ble_eq_true rfl) hx.1.1.1 rfl rfl (by decide) (o_worst_1 h hr hal hNb hno) rfl ?_
  refine r_istore_n (lv' := [(2, .int ((-4))), (0, .ref (x)), (1, .int (y))]) dX12_worst_8 rfl (by decide) rfl ?_
  refine r_iload_n dX12_worst_9 rfl 0 rfl ?_
  refine r_if_ge (tgt := 21) dX12_worst_10 (by decide) (fun h10 => ?_) (fun h10 => ?_)
  · exact absurd h10 (by decide)
  · exact r_throw (ft_NS (by decide)) rfl dX12_worst_13 dX12_worst_16 dX12_worst_17 dX12_worst_20 (by decide) (by first | exact hc1 | omega) (by first | exact hu6 | omega) (fun y u h1 h2 h3 h4 => ⟨rfl, y, u, ⟨h1, h2⟩, ⟨h3, h4⟩, rfl⟩)
set_option maxRecDepth 4000 in
set_option maxHeartbeats 400000 in
theorem f_count_0 {G : GI} {S : Hp} {w : Nat → Nat} {k o : Nat} {A c g : Nat → Nat} {N : Nat} {x : Nat} (hxt : zT S x = 14) (hxo : zP S 416 x = some o) (h : OR S w k o A c) (hr : Rel c g N) (hal : ∀ l, l < g 0 → A l ≠ 0) : Fn m_X12_count G [.ref (x), .int (nI (0))] S (some (.int (nI (g 0)))) S := by
  refine Cn.of rfl (by decide) (Nat.le_of_ble_eq_true rfl) (fun hN hM => ?_)
  show Wx _ G _ 0 [(0, .ref (x)), (1, .int (nI (0)))] [] _
  have hx := OX.refl h
  have h24 := hr.n24
  refine r_iload_n dX12_count_0 rfl 1 rfl ?_
  refine r_tableIn (off := 43) (tgt := 44) dX12_count_1 (by decide) (by decide) rfl (by decide) ?_
  refine r_aload_n dX12_count_44 rfl 0 rfl ?_
  refine r_getR (ci := 13) (k := 0) (b := o) dX12_count_45 fr_X12_10 hxt rfl hxo ?_
  refine r_getI (ci := 9) (k := 5) dX12_count_48 fr_X12_353 hx.1.1.1 rfl ?_
  refine Wx.top hx.1.o0 ?_
  refine Wx.topN hr.c0 ?_
  exact r_iret (ty := .int) dX12_count_51 rfl rfl ⟨rfl, rfl⟩
set_option maxRecDepth 4000 in
set_option maxHeartbeats 400000 in
theorem f_count_1 {G : GI} {S : Hp} {w : Nat → Nat} {k o : Nat} {A c g : Nat → Nat} {N : Nat} {x : Nat} (hxt : zT S x = 14) (hxo : zP S 416 x = some o) (h : OR S w k o A c) (hr : Rel c g N) (hal : ∀ l, l < g 0 → A l ≠ 0) : Fn m_X12_count G [.ref (x), .int (nI (1))] S (some (.int (nI (sumN (fun z => g (90 + 13 * z + 1)) (g 0))))) S := by
  refine Cn.of rfl (by decide) (Nat.le_of_ble_eq_true rfl) (fun hN hM => ?_)
  show Wx _ G _ 0 [(0, .ref (x)), (1, .int (nI (1)))] [] _
  have hx := OX.refl h
  have h24 := hr.n24
  refine r_iload_n dX12_count_0 rfl 1 rfl ?_
  refine r_tableIn (off := 51) (tgt := 52) dX12_count_1 (by decide) (by decide) rfl (by decide) ?_
  refine r_aload_n dX12_count_52 rfl 0 rfl ?_
  refine r_getR (ci := 13) (k := 0) (b := o) dX12_count_53 fr_X12_10 hxt rfl hxo ?_
  refine r_fnV (M2 := m_X7_allUnits) (As := []) (rest := []) (v := some (.int (nI (sumN (fun z => g (90 + 13 * z + 1)) (g 0))))) dX12_count_56 cc_X12_count_356 rfl rfl rfl (Nat.le_of_ble_eq_true rfl) hx.1.1.1 rfl rfl (by decide) (o_allUnits h hr hal) rfl ?_
  exact r_iret (ty := .int) dX12_count_59 rfl rfl ⟨rfl, rfl⟩
set_option maxRecDepth 4000 in
set_option maxHeartbeats 400000 in
theorem f_count_2 {G : GI} {S : Hp} {w : Nat → Nat} {k o : Nat} {A c g : Nat → Nat} {N : Nat} {x : Nat} (hxt : zT S x = 14) (hxo : zP S 416 x = some o) (h : OR S w k o A c) (hr : Rel c g N) (hal : ∀ l, l < g 0 → A l ≠ 0) : Fn m_X12_count G [.ref (x), .int (nI (2))] S (some (.int (nI (g 1)))) S := by
  refine Cn.of rfl (by decide) (Nat.le_of_ble_eq_true rfl) (fun hN hM => ?_)
  show Wx _ G _ 0 [(0, .ref (x)), (1, .int (nI (2)))] [] _
  have hx := OX.refl h
  have h24 := hr.n24
  refine r_iload_n dX12_count_0 rfl 1 rfl ?_
  refine r_tableIn (off := 59) (tgt := 60) dX12_count_1 (by decide) (by decide) rfl (by decide) ?_
  refine r_aload_n dX12_count_60 rfl 0 rfl ?_
  refine r_getR (ci := 13) (k := 0) (b := o) dX12_count_61 fr_X12_10 hxt rfl hxo ?_
  refine r_getI (ci := 9) (k := 7) dX12_count_64 fr_X12_359 hx.1.1.1 rfl ?_
  refine Wx.top hx.1.o1 ?_
  refine Wx.topN hr.c1 ?_
  exact r_iret (ty := .int) dX12_count_67 rfl rfl ⟨rfl, rfl⟩
set_option maxRecDepth 4000 in
set_option maxHeartbeats 400000 in
theorem f_count_3 {G : GI} {S : Hp} {w : Nat → Nat} {k o : Nat} {A c g : Nat → Nat} {N : Nat} {x : Nat} (hxt : zT S x = 14) (hxo : zP S 416 x = some o) (h : OR S w k o A c) (hr : Rel c g N) (hal : ∀ l, l < g 0 → A l ≠ 0) : Fn m_X12_count G [.ref (x), .int (nI (3))] S (some (.int (nI (g 2)))) S := by
  refine Cn.of rfl (by decide) (Nat.le_of_ble_eq_true rfl) (fun hN hM => ?_)
  show Wx _ G _ 0 [(0, .ref (x)), (1, .int (nI (3)))] [] _
  have hx := OX.refl h
  have h24 := hr.n24
  refine r_iload_n dX12_count_0 rfl 1 rfl ?_
  refine r_tableIn (off := 67) (tgt := 68) dX12_count_1 (by decide) (by decide) rfl (by decide) ?_
  refine r_aload_n dX12_count_68 rfl 0 rfl ?_
  refine r_getR (ci := 13) (k := 0) (b := o) dX12_count_69 fr_X12_10 hxt rfl hxo ?_
  refine r_getI (ci := 9) (k := 6) dX12_count_72 fr_X12_361 hx.1.1.1 rfl ?_
  refine Wx.top hx.1.o2 ?_
  refine Wx.topN hr.c2 ?_
  exact r_iret (ty := .int) dX12_count_75 rfl rfl ⟨rfl, rfl⟩
set_option maxRecDepth 4000 in
set_option maxHeartbeats 400000 in
theorem f_count_6 {G : GI} {S : Hp} {w : Nat → Nat} {k o : Nat} {A c g : Nat → Nat} {N : Nat} {x : Nat} (hxt : zT S x = 14) (hxo : zP S 416 x = some o) (h : OR S w k o A c) (hr : Rel c g N) (hal : ∀ l, l < g 0 → A l ≠ 0) : Fn m_X12_count G [.ref (x), .int (nI (6))] S (some (.int (nI (g 3)))) S := by
  refine Cn.of rfl (by decide) (Nat.le_of_ble_eq_true rfl) (fun hN hM => ?_)
  show Wx _ G _ 0 [(0, .ref (x)), (1, .int (nI (6)))] [] _
  have hx := OX.refl h
  have h24 := hr.n24
  refine r_iload_n dX12_count_0 rfl 1 rfl ?_
  refine r_tableIn (off := 88) (tgt := 89) dX12_count_1 (by decide) (by decide) rfl (by decide) ?_
  refine r_aload_n dX12_count_89 rfl 0 rfl ?_
  refine r_getR (ci := 13) (k := 0) (b := o) dX12_count_90 fr_X12_10 hxt rfl hxo ?_
  refine r_getI (ci := 9) (k := 8) dX12_count_93 fr_X12_364 hx.1.1.1 rfl ?_
  refine Wx.top hx.1.o3 ?_
  refine Wx.topN hr.c3 ?_
  exact r_iret (ty := .int) dX12_count_96 rfl rfl ⟨rfl, rfl⟩
set_option maxRecDepth 4000 in
set_option maxHeartbeats 400000 in
theorem f_count_10 {G : GI} {S : Hp} {w : Nat → Nat} {k o : Nat} {A c g : Nat → Nat} {N : Nat} {x : Nat} (hxt : zT S x = 14) (hxo : zP S 416 x = some o) (h : OR S w k o A c) (hr : Rel c g N) (hal : ∀ l, l < g 0 → A l ≠ 0) : Fn m_X12_count G [.ref (x), .int (nI (10))] S (some (.int (nI (sumN (fun z => inS g z 0) (g 0))))) S := by
  refine Cn.of rfl (by decide) (Nat.le_of_ble_eq_true rfl) (fun hN hM => ?_)
  show Wx _ G _ 0 [(0, .ref (x)), (1, .int (nI (10)))] [] _
  have hx := OX.refl h
  have h24 := hr.n24
  refine r_iload_n dX12_count_0 rfl 1 rfl ?_
  refine r_tableOut (tgt := 97) dX12_count_1 (by first | decide | exact hout) (by decide) ?_
  refine r_iload_n dX12_count_97 rfl 1 rfl ?_
  refine r_bipush (v := nI 10) dX12_count_98 (by decide) ?_
  refine r_icmp_ltN (tgt := 109) dX12_count_100 (by decide) (by omega) (by omega) (fun zz100 => ?_) (fun zz100 => ?_)
  · exact absurd zz100 (by decide)
  · refine r_iload_n dX12_count_103 rfl 1 rfl ?_
    refine r_bipush (v := nI 14) dX12_count_104 (by decide) ?_
    refine r_icmp_leN (tgt := 117) dX12_count_106 (by decide) (by omega) (by omega) (fun zz106 => ?_) (fun zz106 => ?_)
    · refine r_aload_n dX12_count_117 rfl 0 rfl ?_
      refine r_getR (ci := 13) (k := 0) (b := o) dX12_count_118 fr_X12_10 hxt rfl hxo ?_
      refine r_iload_n dX12_count_121 rfl 1 rfl ?_
      refine r_bipush (v := nI 10) dX12_count_122 (by decide) ?_
      refine r_isubN dX12_count_124 (by omega) ?_
      refine r_fnV (M2 := m_X7_allUnitsIn) (As := [.int (nI (0))]) (rest := []) (v := some (.int (nI (sumN (fun z => inS g z 0) (g 0))))) dX12_count_125 cc_X12_count_367 rfl rfl rfl (Nat.le_of_ble_eq_true rfl) hx.1.1.1 rfl rfl (by decide) (o_allUnitsIn h hr hal (by decide)) rfl ?_
      exact r_iret (ty := .int) dX12_count_128 rfl rfl ⟨rfl, rfl⟩
    · exact absurd zz106 (by decide)
set_option maxRecDepth 4000 in
set_option maxHeartbeats 400000 in
theorem f_count_11 {G : GI} {S : Hp} {w : Nat → Nat} {k o : Nat} {A c g : Nat → Nat} {N : Nat} {x : Nat} (hxt : zT S x = 14) (hxo : zP S 416 x = some o) (h : OR S w k o A c) (hr : Rel c g N) (hal : ∀ l, l < g 0 → A l ≠ 0) : Fn m_X12_count G [.ref (x), .int (nI (11))] S (some (.int (nI (sumN (fun z => inS g z 1) (g 0))))) S := by
  refine Cn.of rfl (by decide) (Nat.le_of_ble_eq_true rfl) (fun hN hM => ?_)
  show Wx _ G _ 0 [(0, .ref (x)), (1, .int (nI (11)))] [] _
  have hx := OX.refl h
  have h24 := hr.n24
  refine r_iload_n dX12_count_0 rfl 1 rfl ?_
  refine r_tableOut (tgt := 97) dX12_count_1 (by first | decide | exact hout) (by decide) ?_
  refine r_iload_n dX12_count_97 rfl 1 rfl ?_
  refine r_bipush (v := nI 10) dX12_count_98 (by decide) ?_
  refine r_icmp_ltN (tgt := 109) dX12_count_100 (by decide) (by omega) (by omega) (fun zz100 => ?_) (fun zz100 => ?_)
  · exact absurd zz100 (by decide)
  · refine r_iload_n dX12_count_103 rfl 1 rfl ?_
    refine r_bipush (v := nI 14) dX12_count_104 (by decide) ?_
    refine r_icmp_leN (tgt := 117) dX12_count_106 (by decide) (by omega) (by omega) (fun zz106 => ?_) (fun zz106 => ?_)
    · refine r_aload_n dX12_count_117 rfl 0 rfl ?_
      refine r_getR (ci := 13) (k := 0) (b := o) dX12_count_118 fr_X12_10 hxt rfl hxo ?_
      refine r_iload_n dX12_count_121 rfl 1 rfl ?_
      refine r_bipush (v := nI 10) dX12_count_122 (by decide) ?_
      refine r_isubN dX12_count_124 (by omega) ?_
      refine r_fnV (M2 := m_X7_allUnitsIn) (As := [.int (nI (1))]) (rest := []) (v := some (.int (nI (sumN (fun z => inS g z 1) (g 0))))) dX12_count_125 cc_X12_count_367 rfl rfl rfl (Nat.le_of_ble_eq_true rfl) hx.1.1.1 rfl rfl (by decide) (o_allUnitsIn h hr hal (by decide)) rfl ?_
      exact r_iret (ty := .int) dX12_count_128 rfl rfl ⟨rfl, rfl⟩
    · exact absurd zz106 (by decide)
set_option maxRecDepth 4000 in
set_option maxHeartbeats 400000 in
theorem f_count_12 {G : GI} {S : Hp} {w : Nat → Nat} {k o : Nat} {A c g : Nat → Nat} {N : Nat} {x : Nat} (hxt : zT S x = 14) (hxo : zP S 416 x = some o) (h : OR S w k o A c) (hr : Rel c g N) (hal : ∀ l, l < g 0 → A l ≠ 0) : Fn m_X12_count G [.ref (x), .int (nI (12))] S (some (.int (nI (sumN (fun z => inS g z 2) (g 0))))) S := by
  refine Cn.of rfl (by decide) (Nat.le_of_ble_eq_true rfl) (fun hN hM => ?_)
  show Wx _ G _ 0 [(0, .ref (x)), (1, .int (nI (12)))] [] _
  have hx := OX.refl h
  have h24 := hr.n24
  refine r_iload_n dX12_count_0 rfl 1 rfl ?_
  refine r_tableOut (tgt := 97) dX12_count_1 (by first | decide | exact hout) (by decide) ?_
  refine r_iload_n dX12_count_97 rfl 1 rfl ?_
  refine r_bipush (v := nI 10) dX12_count_98 (by decide) ?_
  refine r_icmp_ltN (tgt := 109) dX12_count_100 (by decide) (by omega) (by omega) (fun zz100 => ?_) (fun zz100 => ?_)
  · exact absurd zz100 (by decide)
  · refine r_iload_n dX12_count_103 rfl 1 rfl ?_
    refine r_bipush (v := nI 14) dX12_count_104 (by decide) ?_
    refine r_icmp_leN (tgt := 117) dX12_count_106 (by decide) (by omega) (by omega) (fun zz106 => ?_) (fun zz106 => ?_)
    · refine r_aload_n dX12_count_117 rfl 0 rfl ?_
      refine r_getR (ci := 13) (k := 0) (b := o) dX12_count_118 fr_X12_10 hxt rfl hxo ?_
      refine r_iload_n dX12_count_121 rfl 1 rfl ?_
      refine r_bipush (v := nI 10) dX12_count_122 (by decide) ?_
      refine r_isubN dX12_count_124 (by omega) ?_
      refine r_fnV (M2 := m_X7_allUnitsIn) (As := [.int (nI (2))]) (rest := []) (v := some (.int (nI (sumN (fun z => inS g z 2) (g 0))))) dX12_count_125 cc_X12_count_367 rfl rfl rfl (Nat.le_of_ble_eq_true rfl) hx.1.1.1 rfl rfl (by decide) (o_allUnitsIn h hr hal (by decide)) rfl ?_
      exact r_iret (ty := .int) dX12_count_128 rfl rfl ⟨rfl, rfl⟩
    · exact absurd zz106 (by decide)
set_option maxRecDepth 4000 in
set_option maxHeartbeats 400000 in
theorem f_count_13 {G : GI} {S : Hp} {w : Nat → Nat} {k o : Nat} {A c g : Nat → Nat} {N : Nat} {x : Nat} (hxt : zT S x = 14) (hxo : zP S 416 x = some o) (h : OR S w k o A c) (hr : Rel c g N) (hal : ∀ l, l < g 0 → A l ≠ 0) : Fn m_X12_count G [.ref (x), .int (nI (13))] S (some (.int (nI (sumN (fun z => inS g z 3) (g 0))))) S := by
  refine Cn.of rfl (by decide) (Nat.le_of_ble_eq_true rfl) (fun hN hM => ?_)
  show Wx _ G _ 0 [(0, .ref (x)), (1, .int (nI (13)))] [] _
  have hx := OX.refl h
  have h24 := hr.n24
  refine r_iload_n dX12_count_0 rfl 1 rfl ?_
  refine r_tableOut (tgt := 97) dX12_count_1 (by first | decide | exact hout) (by decide) ?_
  refine r_iload_n dX12_count_97 rfl 1 rfl ?_
  refine r_bipush (v := nI 10) dX12_count_98 (by decide) ?_
  refine r_icmp_ltN (tgt := 109) dX12_count_100 (by decide) (by omega) (by omega) (fun zz100 => ?_) (fun zz100 => ?_)
  · exact absurd zz100 (by decide)
  · refine r_iload_n dX12_count_103 rfl 1 rfl ?_
    refine r_bipush (v := nI 14) dX12_count_104 (by decide) ?_
    refine r_icmp_leN (tgt := 117) dX12_count_106 (by decide) (by omega) (by omega) (fun zz106 => ?_) (fun zz106 => ?_)
    · refine r_aload_n dX12_count_117 rfl 0 rfl ?_
      refine r_getR (ci := 13) (k := 0) (b := o) dX12_count_118 fr_X12_10 hxt rfl hxo ?_
      refine r_iload_n dX12_count_121 rfl 1 rfl ?_
      refine r_bipush (v := nI 10) dX12_count_122 (by decide) ?_
      refine r_isubN dX12_count_124 (by omega) ?_
      refine r_fnV (M2 := m_X7_allUnitsIn) (As := [.int (nI (3))]) (rest := []) (v := some (.int (nI (sumN (fun z => inS g z 3) (g 0))))) dX12_count_125 cc_X12_count_367 rfl rfl rfl (Nat.le_of_ble_eq_true rfl) hx.1.1.1 rfl rfl (by decide) (o_allUnitsIn h hr hal (by decide)) rfl ?_
      exact r_iret (ty := .int) dX12_count_128 rfl rfl ⟨rfl, rfl⟩
    · exact absurd zz106 (by decide)
set_option maxRecDepth 4000 in
set_option maxHeartbeats 400000 in
theorem f_count_14 {G : GI} {S : Hp} {w : Nat → Nat} {k o : Nat} {A c g : Nat → Nat} {N : Nat} {x : Nat} (hxt : zT S x = 14) (hxo : zP S 416 x = some o) (h : OR S w k o A c) (hr : Rel c g N) (hal : ∀ l, l < g 0 → A l ≠ 0) : Fn m_X12_count G [.ref (x), .int (nI (14))] S (some (.int (nI (sumN (fun z => inS g z 4) (g 0))))) S := by
  refine Cn.of rfl (by decide) (Nat.le_of_ble_eq_true rfl) (fun hN hM => ?_)
  show Wx _ G _ 0 [(0, .ref (x)), (1, .int (nI (14)))] [] _
  have hx := OX.refl h
  have h24 := hr.n24
  refine r_iload_n dX12_count_0 rfl 1 rfl ?_
  refine r_tableOut (tgt := 97) dX12_count_1 (by first | decide | exact hout) (by decide) ?_
  refine r_iload_n dX12_count_97 rfl 1 rfl ?_
  refine r_bipush (v := nI 10) dX12_count_98 (by decide) ?_
  refine r_icmp_ltN (tgt := 109) dX12_count_100 (by decide) (by omega) (by omega) (fun zz100 => ?_) (fun zz100 => ?_)
  · exact absurd zz100 (by decide)
  · refine r_iload_n dX12_count_103 rfl 1 rfl ?_
    refine r_bipush (v := nI 14) dX12_count_104 (by decide) ?_
    refine r_icmp_leN (tgt := 117) dX12_count_106 (by decide) (by omega) (by omega) (fun zz106 => ?_) (fun zz106 => ?_)
    · refine r_aload_n dX12_count_117 rfl 0 rfl ?_
      refine r_getR (ci := 13) (k := 0) (b := o) dX12_count_118 fr_X12_10 hxt rfl hxo ?_
      refine r_iload_n dX12_count_121 rfl 1 rfl ?_
      refine r_bipush (v := nI 10) dX12_count_122 (by decide) ?_
      refine r_isubN dX12_count_124 (by omega) ?_
      refine r_fnV (M2 := m_X7_allUnitsIn) (As := [.int (nI (4))]) (rest := []) (v := some (.int (nI (sumN (fun z => inS g z 4) (g 0))))) dX12_count_125 cc_X12_count_367 rfl rfl rfl (Nat.le_of_ble_eq_true rfl) hx.1.1.1 rfl rfl (by decide) (o_allUnitsIn h hr hal (by decide)) rfl ?_
      exact r_iret (ty := .int) dX12_count_128 rfl rfl ⟨rfl, rfl⟩
    · exact absurd zz106 (by decide)
set_option maxRecDepth 4000 in
set_option maxHeartbeats 400000 in
theorem f_count_x {G : GI} {S : Hp} {w : Nat → Nat} {k o : Nat} {A c g : Nat → Nat} {N : Nat} {x : Nat} (hxt : zT S x = 14) (hxo : zP S 416 x = some o) (h : OR S w k o A c) (hr : Rel c g N) (hal : ∀ l, l < g 0 → A l ≠ 0) (hc1 : zX S + 1 ≤ gN G) (hu6 : zU S + 6 ≤ gM G) {y : Int32} (h7 : ¬ vp_in y 7) (h14 : ¬ (nI 10 ≤ y ∧ y ≤ nI 14)) : FT m_X12_count G [.ref (x), .int (y)] S "java/lang/IllegalArgumentException" := by
  refine Cn.of rfl (by decide) (Nat.le_of_ble_eq_true rfl) (fun hN hM => ?_)
  show Wx _ G _ 0 [(0, .ref (x)), (1, .int (y))] [] _
  have hx := OX.refl h
  have h24 := hr.n24
  have hout := sw_out (n := 6) (by decide) h7
  refine r_iload_n dX12_count_0 rfl 1 rfl ?_
  refine r_tableOut (tgt := 97) dX12_count_1 (by first | decide | exact hout) (by decide) ?_
  refine r_iload_n dX12_count_97 rfl 1 rfl ?_
  refine r_bipush (v := nI 10) dX12_count_98 (by decide) ?_
  refine r_icmp_lt (tgt := 109) dX12_count_100 (by decide) (fun h100 => ?_) (fun h100 => ?_)
  · exact r_throw (ft_IA (by decide)) rfl dX12_count_109 dX12_count_112 dX12_count_113 dX12_count_116 (by decide) (by first | exact hc1 | omega) (by first | exact hu6 | omega) (fun y u h1 h2 h3 h4 => ⟨rfl, y, u, ⟨h1, h2⟩, ⟨h3, h4⟩, rfl⟩)
  · refine r_iload_n dX12_count_103 rfl 1 rfl ?_
    refine r_bipush (v := nI 14) dX12_count_104 (by decide) ?_
    refine r_icmp_le (tgt := 117) dX12_count_106 (by decide) (fun h106 => ?_) (fun h106 => ?_)
    · exact absurd ⟨Int32.not_lt.mp h100, h106⟩ h14
    · exact r_throw (ft_IA (by decide)) rfl dX12_count_109 dX12_count_112 dX12_count_113 dX12_count_116 (by decide) (by first | exact hc1 | omega) (by first | exact hu6 | omega) (fun y u h1 h2 h3 h4 => ⟨rfl, y, u, ⟨h1, h2⟩, ⟨h3, h4⟩, rfl⟩)
