/-! THE CHANCE: the class's question -/
theorem badN_le {g : Nat → Nat} {l : Nat} : badN g l ≤ inS g l 0 := cnt_imp fun _ _ h => h.1
theorem alw_b {s q v : Nat} (hs : s ≤ 32) (hq : q ≤ 30) : alwN s q v ≤ 10 := by
  have h : s * q ≤ 32 * 30 := Nat.mul_le_mul hs hq
  unfold alwN
  repeat' split
  all_goals omega
set_option maxRecDepth 4000 in
set_option maxHeartbeats 400000 in
theorem f_chance_1 {G : GI} {S : Hp} {w : Nat → Nat} {k o : Nat} {A c g : Nat → Nat} {N : Nat} {x : Nat} (hxt : zT S x = 14) (hxo : zP S 416 x = some o) (h : OR S w k o A c) (hr : Rel c g N) (hal : ∀ l, l < g 0 → A l ≠ 0) (hc1 : zX S + 1 ≤ gN G) (hu6 : zU S + 6 ≤ gM G) {y : Int32} (hno : ¬ vp_in y (g 0)) {z : Int32} : FT m_X12_chance G [.ref (x), .int (y), .int (z)] S "java/lang/IndexOutOfBoundsException" := by
  refine Cn.of rfl (by decide) (Nat.le_of_ble_eq_true rfl) (fun hN hM => ?_)
  show Wx _ G _ 0 [(0, .ref (x)), (1, .int (y)), (2, .int (z))] [] _
  have hx := OX.refl h
  have h24 := hr.n24
  refine r_aload_n dX12_chance_0 rfl 0 rfl ?_
  refine r_iload_n dX12_chance_1 rfl 1 rfl ?_
  exact r_ftV (M2 := m_X12_existingLot) (As := [.int (y)]) (rest := []) dX12_chance_2 cc_X12_chance_152 rfl rfl rfl (Nat.le_of_ble_eq_true rfl) hxt rfl rfl (by decide) (f_lot_no hxt hxo h hr hal hc1 hu6 hno) rfl (fun y u h1 h2 => ⟨rfl, y, u, h1, h2, rfl⟩)
set_option maxRecDepth 4000 in
set_option maxHeartbeats 400000 in
theorem f_chance_2 {G : GI} {S : Hp} {w : Nat → Nat} {k o : Nat} {A c g : Nat → Nat} {N : Nat} {x : Nat} (hxt : zT S x = 14) (hxo : zP S 416 x = some o) (h : OR S w k o A c) (hr : Rel c g N) (hal : ∀ l, l < g 0 → A l ≠ 0) (hc1 : zX S + 1 ≤ gN G) (hu6 : zU S + 6 ≤ gM G) {l : Nat} (hl : l < g 0) {z : Int32} (hz9 : ¬ vp_in z 3) : FT m_X12_chance G [.ref (x), .int (nI (l)), .int (z)] S "java/lang/IllegalArgumentException" := by
  refine Cn.of rfl (by decide) (Nat.le_of_ble_eq_true rfl) (fun hN hM => ?_)
  show Wx _ G _ 0 [(0, .ref (x)), (1, .int (nI (l))), (2, .int (z))] [] _
  have hx := OX.refl h
  have h24 := hr.n24
  have hl24 : l < 24 := by omega
  have hAl := hal l hl
  have hL := hr.lot hl
  have hz := hL.z
  refine r_aload_n dX12_chance_0 rfl 0 rfl ?_
  refine r_iload_n dX12_chance_1 rfl 1 rfl ?_
  refine r_fnV (M2 := m_X12_existingLot) (As := [.int (nI (l))]) (rest := []) (v := some (.ref (A l))) dX12_chance_2 cc_X12_chance_152 rfl rfl rfl (Nat.le_of_ble_eq_true rfl) hxt rfl rfl (by decide) (f_lot hxt hxo h hr hal hl) rfl ?_
  refine r_astore_n (lv' := [(3, .ref (A l)), (0, .ref (x)), (1, .int (nI (l))), (2, .int (z))]) dX12_chance_5 rfl (by decide) rfl ?_
  refine r_iload_n dX12_chance_6 rfl 3 rfl ?_
  refine r_if_lt (tgt := 15) dX12_chance_7 (by decide) (fun h7 => ?_) (fun h7 => ?_)
  · exact r_throw (ft_IA (by decide)) rfl dX12_chance_15 dX12_chance_18 dX12_chance_19 dX12_chance_22 (by decide) (by first | exact hc1 | omega) (by first | exact hu6 | omega) (fun y u h1 h2 h3 h4 => ⟨rfl, y, u, ⟨h1, h2⟩, ⟨h3, h4⟩, rfl⟩)
  · refine r_iload_n dX12_chance_10 rfl 3 rfl ?_
    refine r_iconst (v := nI 2) dX12_chance_11 (by decide) ?_
    refine r_icmp_le (tgt := 23) dX12_chance_12 (by decide) (fun h12 => ?_) (fun h12 => ?_)
    · exact absurd (vp_le (n := 2) (by decide) h7 h12) hz9
    · exact r_throw (ft_IA (by decide)) rfl dX12_chance_15 dX12_chance_18 dX12_chance_19 dX12_chance_22 (by decide) (by first | exact hc1 | omega) (by first | exact hu6 | omega) (fun y u h1 h2 h3 h4 => ⟨rfl, y, u, ⟨h1, h2⟩, ⟨h3, h4⟩, rfl⟩)
set_option maxRecDepth 4000 in
set_option maxHeartbeats 400000 in
theorem f_chance_3 {G : GI} {S : Hp} {w : Nat → Nat} {k o : Nat} {A c g : Nat → Nat} {N : Nat} {x : Nat} (hxt : zT S x = 14) (hxo : zP S 416 x = some o) (h : OR S w k o A c) (hr : Rel c g N) (hal : ∀ l, l < g 0 → A l ≠ 0) (hc1 : zX S + 1 ≤ gN G) (hu6 : zU S + 6 ≤ gM G) {l : Nat} (hl : l < g 0) {v : Nat} (hv : v < 3) (h0 : inS g l 0 = 0) : FT m_X12_chance G [.ref (x), .int (nI (l)), .int (nI (v))] S "java/lang/IllegalStateException" := by
  refine Cn.of rfl (by decide) (Nat.le_of_ble_eq_true rfl) (fun hN hM => ?_)
  show Wx _ G _ 0 [(0, .ref (x)), (1, .int (nI (l))), (2, .int (nI (v)))] [] _
  have hx := OX.refl h
  have h24 := hr.n24
  have hl24 : l < 24 := by omega
  have hAl := hal l hl
  have hL := hr.lot hl
  have hz := hL.z
  have hpr := hL.pr
  have hP := hr.p hpr
  have hPb := hP.b
  refine r_aload_n dX12_chance_0 rfl 0 rfl ?_
  refine r_iload_n dX12_chance_1 rfl 1 rfl ?_
  refine r_fnV (M2 := m_X12_existingLot) (As := [.int (nI (l))]) (rest := []) (v := some (.ref (A l))) dX12_chance_2 cc_X12_chance_152 rfl rfl rfl (Nat.le_of_ble_eq_true rfl) hxt rfl rfl (by decide) (f_lot hxt hxo h hr hal hl) rfl ?_
  refine r_astore_n (lv' := [(3, .ref (A l)), (0, .ref (x)), (1, .int (nI (l))), (2, .int (nI (v)))]) dX12_chance_5 rfl (by decide) rfl ?_
  refine r_iload_n dX12_chance_6 rfl 3 rfl ?_
  refine r_if_ltN (tgt := 15) dX12_chance_7 (by decide) (by (first | omega | (have := cnt_le (fun u => sW (g (402 + 2 * (200 * l + u))) = 0) (g (90 + 13 * l + 1)); unfold inS at *; omega))) ?_
  refine r_iload_n dX12_chance_10 rfl 3 rfl ?_
  refine r_iconst (v := nI 2) dX12_chance_11 (by decide) ?_
  refine r_icmp_leN (tgt := 23) dX12_chance_12 (by decide) (by (first | omega | (have := cnt_le (fun u => sW (g (402 + 2 * (200 * l + u))) = 0) (g (90 + 13 * l + 1)); unfold inS at *; omega))) (by (first | omega | (have := cnt_le (fun u => sW (g (402 + 2 * (200 * l + u))) = 0) (g (90 + 13 * l + 1)); unfold inS at *; omega))) (fun h12 => ?_) (fun h12 => ?_)
  · refine r_aload_n dX12_chance_23 rfl 0 rfl ?_
    refine r_iconst (v := nI 0) dX12_chance_24 (by decide) ?_
    refine r_fnV (M2 := m_X5_unitsIn) (As := [.int (nI (0))]) (rest := []) (v := some (.int (nI (inS g l 0)))) dX12_chance_25 cc_X12_chance_166 rfl rfl rfl (Nat.le_of_ble_eq_true rfl) (hx.1.lo hl24 hAl).2.1 rfl rfl (by decide) (o_unitsIn hx.1 hr hal (l := l) (by (first | omega | (have := cnt_le (fun u => sW (g (402 + 2 * (200 * l + u))) = 0) (g (90 + 13 * l + 1)); unfold inS at *; omega))) (by (first | omega | (have := cnt_le (fun u => sW (g (402 + 2 * (200 * l + u))) = 0) (g (90 + 13 * l + 1)); unfold inS at *; omega)))) rfl ?_
    refine r_istore (lv' := [(4, .int (nI (inS g l 0))), (3, .ref (A l)), (0, .ref (x)), (1, .int (nI (l))), (2, .int (nI (v)))]) dX12_chance_28 (by decide) rfl ?_
    refine r_aload_n dX12_chance_30 rfl 2 rfl ?_
    refine r_getR (ci := 13) (k := 0) (b := o) dX12_chance_31 fr_X12_10 hxt rfl hxo ?_
    refine r_aload_n dX12_chance_34 rfl 1 rfl ?_
    refine r_getI (ci := 7) (k := 0) dX12_chance_35 fr_X12_187 (hx.1.lo hl24 hAl).2.1 rfl ?_
    refine Wx.top (hx.1.l0 hl24 hAl) ?_
    refine Wx.topN (hL.h (f := 0) (by decide)) ?_
    refine r_fnV (M2 := m_X7_productAt) (As := [.int (nI (g (90 + 13 * l + 0)))]) (rest := []) (v := some (.ref (o + 12 + (g (90 + 13 * l + 0))))) dX12_chance_38 cc_X12_chance_190 rfl rfl rfl (Nat.le_of_ble_eq_true rfl) hx.1.1.1 rfl rfl (by decide) (k_productAt hx.1.1 (by (first | omega | (have := cnt_le (fun u => sW (g (402 + 2 * (200 * l + u))) = 0) (g (90 + 13 * l + 1)); unfold inS at *; omega)))) rfl ?_
    refine r_astore (lv' := [(5, .ref (o + 12 + (g (90 + 13 * l + 0)))), (4, .int (nI (inS g l 0))), (3, .ref (A l)), (0, .ref (x)), (1, .int (nI (l))), (2, .int (nI (v)))]) dX12_chance_41 (by decide) rfl ?_
    refine r_iload dX12_chance_43 1 rfl ?_
    refine r_if_eqN (tgt := 53) dX12_chance_45 (by decide) (by (first | omega | (have := cnt_le (fun u => sW (g (402 + 2 * (200 * l + u))) = 0) (g (90 + 13 * l + 1)); unfold inS at *; omega))) (fun h45 => ?_) (fun h45 => ?_)
    · exact r_throw (ft_IS (by decide)) rfl dX12_chance_53 dX12_chance_56 dX12_chance_57 dX12_chance_60 (by decide) (by first | exact hc1 | omega) (by first | exact hu6 | omega) (fun y u h1 h2 h3 h4 => ⟨rfl, y, u, ⟨h1, h2⟩, ⟨h3, h4⟩, rfl⟩)
    · exact absurd h0 h45
  · exact absurd h12 (by omega)
set_option maxRecDepth 4000 in
set_option maxHeartbeats 400000 in
theorem f_chance_0 {G : GI} {S : Hp} {w : Nat → Nat} {k o : Nat} {A c g : Nat → Nat} {N : Nat} {x : Nat} (hxt : zT S x = 14) (hxo : zP S 416 x = some o) (h : OR S w k o A c) (hr : Rel c g N) (hal : ∀ l, l < g 0 → A l ≠ 0) (hch0 : zP S 427 x = some (x + 59)) (hch1 : zT S (x + 59) = 5) (hch2 : zP S 128 (x + 59) = some (x + 60)) (hch3 : zT S (x + 60) = 103) (hch4 : zN S (x + 60) = 33) {l : Nat} (hl : l < g 0) {v : Nat} (hv : v < 3) (h0 : ¬ inS g l 0 = 0) : Fn m_X12_chance G [.ref (x), .int (nI (l)), .int (nI (v))] S (some (.long ((smC (inS g l 0) (badN g l) (smpN (inS g l 0) v) (Nat.min (alwN (smpN (inS g l 0) v) (g (22 + 10 * g (90 + 13 * l + 0))) v) (smpN (inS g l 0) v) + 1)).toInt64))) (dR S (x + 60) (rwC 33 (inS g l 0) (badN g l) (smpN (inS g l 0) v) (zD S (x + 60)))) := by
  refine Cn.of rfl (by decide) (Nat.le_of_ble_eq_true rfl) (fun hN hM => ?_)
  show Wx _ G _ 0 [(0, .ref (x)), (1, .int (nI (l))), (2, .int (nI (v)))] [] _
  have hx := OX.refl h
  have h24 := hr.n24
  have hl24 : l < 24 := by omega
  have hAl := hal l hl
  have hL := hr.lot hl
  have hz := hL.z
  have hpr := hL.pr
  have hP := hr.p hpr
  have hPb := hP.b
  have hin2 : inS g l 0 ≤ 200 := Nat.le_trans (cnt_le _ _) hz
  have hsm := smC_end (t := Nat.min (alwN (smpN (inS g l 0) v) (g (22 + 10 * g (90 + 13 * l + 0))) v) (smpN (inS g l 0) v) + 1) (badN_le (g := g) (l := l)) hin2 (smpN_le (inS g l 0) v).1 smp_le (Nat.succ_le_succ (Nat.min_le_right _ _))
  refine r_aload_n dX12_chance_0 rfl 0 rfl ?_
  refine r_iload_n dX12_chance_1 rfl 1 rfl ?_
  refine r_fnV (M2 := m_X12_existingLot) (As := [.int (nI (l))]) (rest := []) (v := some (.ref (A l))) dX12_chance_2 cc_X12_chance_152 rfl rfl rfl (Nat.le_of_ble_eq_true rfl) hxt rfl rfl (by decide) (f_lot hxt hxo h hr hal hl) rfl ?_
  refine r_astore_n (lv' := [(3, .ref (A l)), (0, .ref (x)), (1, .int (nI (l))), (2, .int (nI (v)))]) dX12_chance_5 rfl (by decide) rfl ?_
  refine r_iload_n dX12_chance_6 rfl 3 rfl ?_
  refine r_if_ltN (tgt := 15) dX12_chance_7 (by decide) (by (first | omega | (have := @smp_le (inS g l 0) v; omega))) ?_
  refine r_iload_n dX12_chance_10 rfl 3 rfl ?_
  refine r_iconst (v := nI 2) dX12_chance_11 (by decide) ?_
  refine r_icmp_leN (tgt := 23) dX12_chance_12 (by decide) (by (first | omega | (have := @smp_le (inS g l 0) v; omega))) (by (first | omega | (have := @smp_le (inS g l 0) v; omega))) (fun h12 => ?_) (fun h12 => ?_)
  · refine r_aload_n dX12_chance_23 rfl 0 rfl ?_
    refine r_iconst (v := nI 0) dX12_chance_24 (by decide) ?_
    refine r_fnV (M2 := m_X5_unitsIn) (As := [.int (nI (0))]) (rest := []) (v := some (.int (nI (inS g l 0)))) dX12_chance_25 cc_X12_chance_166 rfl rfl rfl (Nat.le_of_ble_eq_true rfl) (hx.1.lo hl24 hAl).2.1 rfl rfl (by decide) (o_unitsIn hx.1 hr hal (l := l) (by (first | omega | (have := @smp_le (inS g l 0) v; omega))) (by (first | omega | (have := @smp_le (inS g l 0) v; omega)))) rfl ?_
    refine r_istore (lv' := [(4, .int (nI (inS g l 0))), (3, .ref (A l)), (0, .ref (x)), (1, .int (nI (l))), (2, .int (nI (v)))]) dX12_chance_28 (by decide) rfl ?_
    refine r_aload_n dX12_chance_30 rfl 2 rfl ?_
    refine r_getR (ci := 13) (k := 0) (b := o) dX12_chance_31 fr_X12_10 hxt rfl hxo ?_
    refine r_aload_n dX12_chance_34 rfl 1 rfl ?_
    refine r_getI (ci := 7) (k := 0) dX12_chance_35 fr_X12_187 (hx.1.lo hl24 hAl).2.1 rfl ?_
    refine Wx.top (hx.1.l0 hl24 hAl) ?_
    refine Wx.topN (hL.h (f := 0) (by decide)) ?_
    refine r_fnV (M2 := m_X7_productAt) (As := [.int (nI (g (90 + 13 * l + 0)))]) (rest := []) (v := some (.ref (o + 12 + (g (90 + 13 * l + 0))))) dX12_chance_38 cc_X12_chance_190 rfl rfl rfl (Nat.le_of_ble_eq_true rfl) hx.1.1.1 rfl rfl (by decide) (k_productAt hx.1.1 (by (first | omega | (have := @smp_le (inS g l 0) v; omega)))) rfl ?_
    refine r_astore (lv' := [(5, .ref (o + 12 + (g (90 + 13 * l + 0)))), (4, .int (nI (inS g l 0))), (3, .ref (A l)), (0, .ref (x)), (1, .int (nI (l))), (2, .int (nI (v)))]) dX12_chance_41 (by decide) rfl ?_
    refine r_iload dX12_chance_43 1 rfl ?_
    refine r_if_eqN (tgt := 53) dX12_chance_45 (by decide) (by (first | omega | (have := @smp_le (inS g l 0) v; omega))) (fun h45 => ?_) (fun h45 => ?_)
    · exact absurd h45 h0
    · refine r_aload dX12_chance_48 0 rfl ?_
      refine r_ifnonnull (tgt := 61) dX12_chance_50 (by decide) ?_
      refine r_iload dX12_chance_61 1 rfl ?_
      refine r_iload_n dX12_chance_63 rfl 5 rfl ?_
      refine r_fnS (M2 := m_X8_sampleSize) (As := [.int (nI (inS g l 0)), .int (nI (v))]) (rest := []) (v := some (.int (nI (smpN (inS g l 0) v)))) dX12_chance_64 cc_X12_chance_106 rfl rfl rfl (Nat.le_of_ble_eq_true rfl) (k_sample (by (first | omega | (have := @smp_le (inS g l 0) v; omega))) (by (first | omega | (have := @smp_le (inS g l 0) v; omega)))) rfl ?_
      refine r_istore (lv' := [(6, .int (nI (smpN (inS g l 0) v))), (5, .ref (o + 12 + (g (90 + 13 * l + 0)))), (4, .int (nI (inS g l 0))), (3, .ref (A l)), (0, .ref (x)), (1, .int (nI (l))), (2, .int (nI (v)))]) dX12_chance_67 (by decide) rfl ?_
      refine r_aload_n dX12_chance_69 rfl 3 rfl ?_
      refine r_iconst (v := nI 0) dX12_chance_70 (by decide) ?_
      refine r_aload dX12_chance_71 1 rfl ?_
      refine r_getI (ci := 10) (k := 1) dX12_chance_73 fr_X12_193 (hx.1.1.2.2.2.2.2.2.2.2 ((g (90 + 13 * l + 0))) (by (first | omega | (have := @smp_le (inS g l 0) v; omega)))).2 rfl ?_
      refine Wx.top (hx.1.p1 (i := (g (90 + 13 * l + 0))) (by (first | omega | (have := @smp_le (inS g l 0) v; omega)))) ?_
      refine Wx.topN ((hr.p (p := ((g (90 + 13 * l + 0)))) (by (first | omega | (have := @smp_le (inS g l 0) v; omega)))).cf (f := 1) (by decide)) ?_
      refine r_fnV (M2 := m_X5_badUnitsIn) (As := [.int (nI (0)), .int (nI (g (22 + 10 * ((g (90 + 13 * l + 0))) + 1)))]) (rest := []) (v := some (.int (nI (cnt (fun u => sW (g (402 + 2 * (200 * l + u))) = 0 ∧ ¬ g (402 + 2 * (200 * l + u)) % 16 &&& g (22 + 10 * ((g (90 + 13 * l + 0))) + 1) = 0) (g (90 + 13 * l + 1)))))) dX12_chance_76 cc_X12_chance_163 rfl rfl rfl (Nat.le_of_ble_eq_true rfl) (hx.1.lo hl24 hAl).2.1 rfl rfl (by decide) (o_badUnitsIn hx.1 hr hal (l := l) (by (first | omega | (have := @smp_le (inS g l 0) v; omega))) (by (first | omega | (have := @smp_le (inS g l 0) v; omega))) (by (first | omega | (have := @smp_le (inS g l 0) v; omega)))) rfl ?_
      refine r_istore (lv' := [(7, .int (nI (cnt (fun u => sW (g (402 + 2 * (200 * l + u))) = 0 ∧ ¬ g (402 + 2 * (200 * l + u)) % 16 &&& g (22 + 10 * ((g (90 + 13 * l + 0))) + 1) = 0) (g (90 + 13 * l + 1))))), (6, .int (nI (smpN (inS g l 0) v))), (5, .ref (o + 12 + (g (90 + 13 * l + 0)))), (4, .int (nI (inS g l 0))), (3, .ref (A l)), (0, .ref (x)), (1, .int (nI (l))), (2, .int (nI (v)))]) dX12_chance_79 (by decide) rfl ?_
      refine r_aload_n dX12_chance_81 rfl 5 rfl ?_
      refine r_getR (ci := 13) (k := 11) (b := x + 59) dX12_chance_82 fr_X12_56 hxt rfl hch0 ?_
      refine r_iload dX12_chance_85 3 rfl ?_
      refine r_iload dX12_chance_87 0 rfl ?_
      refine r_iload dX12_chance_89 1 rfl ?_
      refine r_aload dX12_chance_91 2 rfl ?_
      refine r_iload dX12_chance_93 1 rfl ?_
      refine r_iload_n dX12_chance_95 rfl 7 rfl ?_
      refine r_fnV (M2 := m_X8_allowedIn) (As := [.int (nI (smpN (inS g l 0) v)), .int (nI (v))]) (rest := [.int (nI (smpN (inS g l 0) v)), .int (nI (cnt (fun u => sW (g (402 + 2 * (200 * l + u))) = 0 ∧ ¬ g (402 + 2 * (200 * l + u)) % 16 &&& g (22 + 10 * ((g (90 + 13 * l + 0))) + 1) = 0) (g (90 + 13 * l + 1)))), .int (nI (inS g l 0)), .ref (x + 59)]) (v := some (.int (nI (alwN (smpN (inS g l 0) v) (g (22 + 10 * g (90 + 13 * l + 0))) v)))) dX12_chance_96 cc_X12_chance_110 rfl rfl rfl (Nat.le_of_ble_eq_true rfl) (hx.1.1.2.2.2.2.2.2.2.2 ((g (90 + 13 * l + 0))) (by (first | omega | (have := @smp_le (inS g l 0) v; omega)))).2 rfl rfl (by decide) (k_allowed (q := g (22 + 10 * g (90 + 13 * l + 0))) (hx.1.1.2.2.2.2.2.2.2.2 (g (90 + 13 * l + 0)) (by (first | omega | (have := @smp_le (inS g l 0) v; omega)))).2 ((hx.1.p0 (i := g (90 + 13 * l + 0)) (by (first | omega | (have := @smp_le (inS g l 0) v; omega)))).trans (congrArg nI hP.c0)) smp_le hPb.1 (by (first | omega | (have := @smp_le (inS g l 0) v; omega)))) rfl ?_
      refine r_fnV (M2 := m_X2_ofAcceptance) (As := [.int (nI (inS g l 0)), .int (nI (cnt (fun u => sW (g (402 + 2 * (200 * l + u))) = 0 ∧ ¬ g (402 + 2 * (200 * l + u)) % 16 &&& g (22 + 10 * ((g (90 + 13 * l + 0))) + 1) = 0) (g (90 + 13 * l + 1)))), .int (nI (smpN (inS g l 0) v)), .int (nI (alwN (smpN (inS g l 0) v) (g (22 + 10 * g (90 + 13 * l + 0))) v))]) (rest := []) (v := some (.double (smC (inS g l 0) (badN g l) (smpN (inS g l 0) v) (Nat.min (alwN (smpN (inS g l 0) v) (g (22 + 10 * g (90 + 13 * l + 0))) v) (smpN (inS g l 0) v) + 1)))) dX12_chance_99 cc_X12_chance_196 rfl rfl rfl (Nat.le_of_ble_eq_true rfl) hch1 rfl rfl (by decide) (by have q9 := k_ofAcc (G := G) (S := S) hch1 hch2 hch3 hch4 (badN_le (g := g) (l := l)) hin2 (s := smpN (inS g l 0) v) (a := alwN (smpN (inS g l 0) v) (g (22 + 10 * g (90 + 13 * l + 0))) v) (smpN_le _ _).1 smp_le (by have := alw_b (s := smpN (inS g l 0) v) (q := g (22 + 10 * g (90 + 13 * l + 0))) (v := v) smp_le hPb.1; omega) (f := zD S (x + 60)); rw [dR_self] at q9; exact q9) rfl ?_
      refine r_fnS (M2 := m_X1_ofDouble) (As := [.double (smC (inS g l 0) (badN g l) (smpN (inS g l 0) v) (Nat.min (alwN (smpN (inS g l 0) v) (g (22 + 10 * g (90 + 13 * l + 0))) v) (smpN (inS g l 0) v) + 1))]) (rest := []) (v := some (.long ((smC (inS g l 0) (badN g l) (smpN (inS g l 0) v) (Nat.min (alwN (smpN (inS g l 0) v) (g (22 + 10 * g (90 + 13 * l + 0))) v) (smpN (inS g l 0) v) + 1)).toInt64))) dX12_chance_102 cc_X12_chance_200 rfl rfl rfl (Nat.le_of_ble_eq_true rfl) (k_ofDouble hsm.2.2 hsm.2.1) rfl ?_
      exact r_lret dX12_chance_105 rfl ⟨rfl, rfl⟩
  · exact absurd h12 (by omega)
