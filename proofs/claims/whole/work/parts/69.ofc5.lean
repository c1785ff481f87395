set_option maxRecDepth 4000 in
set_option maxHeartbeats 400000 in
theorem o_partOf {G : GI} {S : Hp} {w : Nat → Nat} {k o : Nat} {A c g : Nat → Nat} {N : Nat} (h : OR S w k o A c) (hr : Rel c g N) (hal : ∀ l, l < g 0 → A l ≠ 0) {l : Nat} (hl : l < g 0) {u : Nat} (hu : u < g (90 + 13 * l + 1)) {i : Nat} (hi : i < g (90 + 13 * l + 8)) : Fn m_X7_partOf G [.ref (o), .int (nI (l)), .int (nI (u)), .int (nI (i))] S (some (.int (nI (1000 * g (90 + 13 * l + (10 + i)) + pW (g (402 + 2 * (200 * l + u) + 1)) i)))) S := by
  refine Cn.of rfl (by decide) (Nat.le_of_ble_eq_true rfl) (fun hN hM => ?_)
  show Wx _ G _ 0 [(0, .ref (o)), (1, .int (nI (l))), (2, .int (nI (u))), (3, .int (nI (i)))] [] _
  have hx := OX.refl h
  have h24 := hr.n24
  have hl24 : l < 24 := by omega
  have hAl := hal l hl
  have hL := hr.lot hl
  have hz := hL.z
  have hpt := hL.pt hi
  have hpc := hL.pc
  have hpu := hL.pu hu i hi
  have hpz := (hr.lot (l := g (90 + 13 * l + (10 + i))) (by omega)).z
  have hp24 : g (90 + 13 * l + (10 + i)) < 24 := by omega
  have hAp := hal (g (90 + 13 * l + (10 + i))) (by omega)
  refine r_aload_n dX7_partOf_0 rfl 0 rfl ?_
  refine r_iload_n dX7_partOf_1 rfl 1 rfl ?_
  refine r_fnV (M2 := m_X7_lotAt) (As := [.int (nI (l))]) (rest := []) (v := some (.ref (A l))) dX7_partOf_2 cc_X7_partOf_105 rfl rfl rfl (Nat.le_of_ble_eq_true rfl) hx.1.1.1 rfl rfl (by decide) (o_lotAt hx.1 hr hal (l := l) (by omega)) rfl ?_
  refine r_astore (lv' := [(4, .ref (A l)), (0, .ref (o)), (1, .int (nI (l))), (2, .int (nI (u))), (3, .int (nI (i)))]) dX7_partOf_5 (by decide) rfl ?_
  refine r_aload dX7_partOf_7 0 rfl ?_
  refine r_ifnull dX7_partOf_9 ?_
  refine r_iload_n dX7_partOf_12 rfl 4 rfl ?_
  refine r_if_ltN (tgt := 35) dX7_partOf_13 (by decide) (by omega) ?_
  refine r_iload_n dX7_partOf_16 rfl 4 rfl ?_
  refine r_aload dX7_partOf_17 0 rfl ?_
  refine r_getI (ci := 7) (k := 9) dX7_partOf_19 fr_X7_232 (hx.1.lo hl24 hAl).2.1 rfl ?_
  refine Wx.top (hx.1.l9 hl24 hAl) ?_
  refine Wx.topN (hL.h (f := 8) (by decide)) ?_
  refine r_icmp_geN (tgt := 35) dX7_partOf_22 (by decide) (by omega) (by omega) (fun h22 => ?_) (fun h22 => ?_)
  · exact absurd h22 (by omega)
  · refine r_iload_n dX7_partOf_25 rfl 4 rfl ?_
    refine r_aload dX7_partOf_26 0 rfl ?_
    refine r_getR (ci := 7) (k := 10) (b := A l + 1) dX7_partOf_28 fr_X7_235 (hx.1.lo hl24 hAl).2.1 rfl (hx.1.lo hl24 hAl).2.2.1.1 ?_
    refine r_alen101 dX7_partOf_31 (hx.1.lo hl24 hAl).2.2.2.1.1 ?_
    refine Wx.top (congrArg nI (hx.1.lo hl24 hAl).2.2.2.1.2) ?_
    refine r_icmp_ltN (tgt := 37) dX7_partOf_32 (by decide) (by omega) (by omega) (fun h32 => ?_) (fun h32 => ?_)
    · refine r_aload_n dX7_partOf_37 rfl 1 rfl ?_
      refine r_aload dX7_partOf_38 0 rfl ?_
      refine r_getR (ci := 7) (k := 10) (b := A l + 1) dX7_partOf_40 fr_X7_235 (hx.1.lo hl24 hAl).2.1 rfl (hx.1.lo hl24 hAl).2.2.1.1 ?_
      refine r_iload_n dX7_partOf_43 rfl 4 rfl ?_
      refine r_iald dX7_partOf_44 (hx.1.lo hl24 hAl).2.2.2.1.1 (by rw [show zN S (A l + 1) = 3 from (hx.1.lo hl24 hAl).2.2.2.1.2]; exact vp_in_nI (by omega) (by decide)) ?_
      refine Wx.top (congrArg (zA _ _) (nI_clamp (by omega))) ?_
      refine Wx.top (hx.1.r (j := i) hl24 hAl (by omega)) ?_
      refine Wx.topN (hL.p (k := i) (by omega)) ?_
      refine r_fnV (M2 := m_X7_lotAt) (As := [.int (nI (g (90 + 13 * l + (10 + i))))]) (rest := []) (v := some (.ref (A (g (90 + 13 * l + (10 + i)))))) dX7_partOf_45 cc_X7_partOf_105 rfl rfl rfl (Nat.le_of_ble_eq_true rfl) hx.1.1.1 rfl rfl (by decide) (o_lotAt hx.1 hr hal (l := g (90 + 13 * l + (10 + i))) (by omega)) rfl ?_
      refine r_astore (lv' := [(5, .ref (A (g (90 + 13 * l + (10 + i))))), (4, .ref (A l)), (0, .ref (o)), (1, .int (nI (l))), (2, .int (nI (u))), (3, .int (nI (i)))]) dX7_partOf_48 (by decide) rfl ?_
      refine r_aload dX7_partOf_50 0 rfl ?_
      refine r_ifnonnull (tgt := 59) dX7_partOf_52 (by decide) ?_
      refine r_aload dX7_partOf_59 0 rfl ?_
      refine r_iload_n dX7_partOf_61 rfl 3 rfl ?_
      refine r_iload_n dX7_partOf_62 rfl 4 rfl ?_
      refine r_fnS (M2 := m_X12_placeOf) (As := [.int (nI (l)), .int (nI (u))]) (rest := [.ref (A (g (90 + 13 * l + (10 + i))))]) (v := some (.int (nI (1000 * l + u)))) dX7_partOf_63 cc_X7_partOf_143 rfl rfl rfl (Nat.le_of_ble_eq_true rfl) o_placeOf rfl ?_
      refine r_fnV (M2 := m_X5_unitUsedIn) (As := [.int (nI (1000 * l + u))]) (rest := []) (v := some (.int (nI (pW (g (402 + 2 * (200 * l + u) + 1)) i)))) dX7_partOf_66 cc_X7_partOf_238 rfl rfl rfl (Nat.le_of_ble_eq_true rfl) (hx.1.lo hp24 hAp).2.1 rfl rfl (by decide) (o_usedIn h hr hal hl hu (i := i) (p := (g (90 + 13 * l + (10 + i)))) hi rfl rfl) rfl ?_
      refine r_istore (lv' := [(6, .int (nI (pW (g (402 + 2 * (200 * l + u) + 1)) i))), (5, .ref (A (g (90 + 13 * l + (10 + i))))), (4, .ref (A l)), (0, .ref (o)), (1, .int (nI (l))), (2, .int (nI (u))), (3, .int (nI (i)))]) dX7_partOf_69 (by decide) rfl ?_
      refine r_iload dX7_partOf_71 0 rfl ?_
      refine r_if_geN (tgt := 80) dX7_partOf_73 (by decide) (by omega) ?_
      refine r_aload dX7_partOf_80 2 rfl ?_
      refine r_getR (ci := 7) (k := 10) (b := A l + 1) dX7_partOf_82 fr_X7_235 (hx.1.lo hl24 hAl).2.1 rfl (hx.1.lo hl24 hAl).2.2.1.1 ?_
      refine r_iload_n dX7_partOf_85 rfl 6 rfl ?_
      refine r_iald dX7_partOf_86 (hx.1.lo hl24 hAl).2.2.2.1.1 (by rw [show zN S (A l + 1) = 3 from (hx.1.lo hl24 hAl).2.2.2.1.2]; exact vp_in_nI (by omega) (by decide)) ?_
      refine Wx.top (congrArg (zA _ _) (nI_clamp (by omega))) ?_
      refine Wx.top (hx.1.r (j := i) hl24 hAl (by omega)) ?_
      refine Wx.topN (hL.p (k := i) (by omega)) ?_
      refine r_iload dX7_partOf_87 0 rfl ?_
      refine r_fnS (M2 := m_X12_placeOf) (As := [.int (nI (g (90 + 13 * l + (10 + i)))), .int (nI (pW (g (402 + 2 * (200 * l + u) + 1)) i))]) (rest := []) (v := some (.int (nI (1000 * (g (90 + 13 * l + (10 + i))) + (pW (g (402 + 2 * (200 * l + u) + 1)) i))))) dX7_partOf_89 cc_X7_partOf_143 rfl rfl rfl (Nat.le_of_ble_eq_true rfl) o_placeOf rfl ?_
      exact r_iret (ty := .int) dX7_partOf_92 rfl rfl ⟨rfl, rfl⟩
    · exact absurd h32 (by omega)
theorem shp_t {g : Nat → Nat} {p l : Nat} (h : g (90 + 13 * l + 0) = p) : shpN g p l = inS g l 4 := cnt_congr fun u _ => ⟨fun q => q.2, fun q => ⟨h, q⟩⟩
theorem cnt_0 {p : Nat → Prop} : ∀ {n : Nat}, (∀ i, i < n → ¬ p i) → cnt p n = 0
  | 0, _ => rfl
  | n + 1, h => by rw [cnt_f (h n (by omega)), cnt_0 fun i hi => h i (by omega)]
theorem shp_f {g : Nat → Nat} {p l : Nat} (h : ¬ g (90 + 13 * l + 0) = p) : shpN g p l = 0 := cnt_0 fun _ _ q => h q.1
theorem bds_t {g : Nat → Nat} {p l : Nat} (h : g (90 + 13 * l + 0) = p) : bdsN g p l = cnt (fun u => sW (g (402 + 2 * (200 * l + u))) = 4 ∧ ¬ g (402 + 2 * (200 * l + u)) % 16 &&& g (22 + 10 * p + 1) = 0) (g (90 + 13 * l + 1)) := cnt_congr fun u _ => ⟨fun q => ⟨q.2.1, by have := q.2.2; unfold badG at this; rw [h] at this; exact this⟩, fun q => ⟨h, q.1, by unfold badG; rw [h]; exact q.2⟩⟩
theorem bds_f {g : Nat → Nat} {p l : Nat} (h : ¬ g (90 + 13 * l + 0) = p) : bdsN g p l = 0 := cnt_0 fun _ _ q => h q.1
set_option maxRecDepth 4000 in
set_option maxHeartbeats 400000 in
theorem o_shippedOf {G : GI} {S : Hp} {w : Nat → Nat} {k o : Nat} {A c g : Nat → Nat} {N : Nat} (h : OR S w k o A c) (hr : Rel c g N) (hal : ∀ l, l < g 0 → A l ≠ 0) {p : Nat} (hp : p < 4) : Fn m_X7_shippedOf G [.ref (o), .int (nI (p))] S (some (.int (nI (sumN (shpN g p) (g 0))))) S := by
  refine Cn.of rfl (by decide) (Nat.le_of_ble_eq_true rfl) (fun hN hM => ?_)
  show Wx _ G _ 0 [(0, .ref (o)), (1, .int (nI (p)))] [] _
  have hx := OX.refl h
  have h24 := hr.n24
  refine r_iconst (v := nI 0) dX7_shippedOf_0 (by decide) ?_
  refine r_istore_n (lv' := [(2, .int (nI (0))), (0, .ref (o)), (1, .int (nI (p)))]) dX7_shippedOf_1 rfl (by decide) rfl ?_
  refine r_iconst (v := nI 0) dX7_shippedOf_2 (by decide) ?_
  refine r_istore_n (lv' := [(3, .int (nI (0))), (2, .int (nI (0))), (0, .ref (o)), (1, .int (nI (p)))]) dX7_shippedOf_3 rfl (by decide) rfl ?_
  refine Wx.sub [2, 3, 1, 0] rfl ?_
  refine Wx.loop (fun i => S) (fun i => [(0, .ref (o)), (1, .int (nI (p))), (2, .int (nI (sumN (shpN g p) i))), (3, .int (nI (i)))]) (g 0) (0) (Nat.zero_le _) (fun i hge hle next => ?_)
  show Wx _ G (S) 4 [(0, .ref (o)), (1, .int (nI (p))), (2, .int (nI (sumN (shpN g p) i))), (3, .int (nI (i)))] [] _
  have hi24 : i < g 0 → i < 24 := fun q9 => by omega
  have hAi : i < g 0 → A i ≠ 0 := fun q9 => hal i q9
  have hLi : i < g 0 → LT c g N (g 0) i := fun q9 => hr.lot q9
  have hpi : i < g 0 → g (90 + 13 * i + 0) < 4 ∧ g (90 + 13 * i + 1) ≤ 200 := fun q9 => ⟨(hr.lot q9).pr, (hr.lot q9).z⟩
  refine r_iload_n dX7_shippedOf_4 rfl 3 rfl ?_
  refine r_aload_n dX7_shippedOf_5 rfl 0 rfl ?_
  refine r_getI (ci := 9) (k := 5) dX7_shippedOf_6 fr_X7_49 hx.1.1.1 rfl ?_
  refine Wx.top hx.1.o0 ?_
  refine Wx.topN hr.c0 ?_
  refine r_icmp_geN (tgt := 48) dX7_shippedOf_9 (by decide) (by omega) (by omega) (fun h9 => ?_) (fun h9 => ?_)
  · refine r_iload_n dX7_shippedOf_48 rfl 2 rfl ?_
    obtain rfl : i = g 0 := by omega
    exact r_iret (ty := .int) dX7_shippedOf_49 rfl rfl ⟨rfl, rfl⟩
  · refine r_aload_n dX7_shippedOf_12 rfl 0 rfl ?_
    refine r_iload_n dX7_shippedOf_13 rfl 3 rfl ?_
    refine r_fnV (M2 := m_X7_lotAt) (As := [.int (nI (i))]) (rest := []) (v := some (.ref (A i))) dX7_shippedOf_14 cc_X7_shippedOf_105 rfl rfl rfl (Nat.le_of_ble_eq_true rfl) hx.1.1.1 rfl rfl (by decide) (o_lotAt hx.1 hr hal (l := i) (by omega)) rfl ?_
    refine r_astore (lv' := [(4, .ref (A i)), (0, .ref (o)), (1, .int (nI (p))), (2, .int (nI (sumN (shpN g p) i))), (3, .int (nI (i)))]) dX7_shippedOf_17 (by decide) rfl ?_
    refine r_aload dX7_shippedOf_19 0 rfl ?_
    refine r_ifnull dX7_shippedOf_21 ?_
    refine r_aload dX7_shippedOf_24 0 rfl ?_
    refine r_getI (ci := 7) (k := 0) dX7_shippedOf_26 fr_X7_72 (hx.1.lo (hi24 (by omega)) (hAi (by omega))).2.1 rfl ?_
    refine Wx.top (hx.1.l0 (hi24 (by omega)) (hAi (by omega))) ?_
    refine Wx.topN ((hLi (by omega)).h (f := 0) (by decide)) ?_
    refine r_iload_n dX7_shippedOf_29 rfl 2 rfl ?_
    refine r_icmp_neN (tgt := 42) dX7_shippedOf_30 (by decide) (by omega) (by omega) (fun h30 => ?_) (fun h30 => ?_)
    · refine r_iincN (k := 1) (lv' := [(3, .int (nI (i + 1))), (4, .ref (A i)), (0, .ref (o)), (1, .int (nI (p))), (2, .int (nI (sumN (shpN g p) i)))]) dX7_shippedOf_42 (by decide) 4 rfl (by decide) rfl ?_
      refine r_goto (tgt := 4) dX7_shippedOf_45 (by decide) ?_
      refine Wx.sub [2, 3, 4, 0] rfl ?_
      have n2 := next (by omega)
      rw [show sumN _ (i + 1) = sumN _ i + _ from rfl, shp_f h30] at n2
      exact n2
    · refine r_iload_n dX7_shippedOf_33 rfl 3 rfl ?_
      refine r_aload dX7_shippedOf_34 0 rfl ?_
      refine r_iconst (v := nI 4) dX7_shippedOf_36 (by decide) ?_
      refine r_fnV (M2 := m_X5_unitsIn) (As := [.int (nI (4))]) (rest := [.int (nI (sumN (shpN g p) i))]) (v := some (.int (nI (inS g i 4)))) dX7_shippedOf_37 cc_X7_shippedOf_127 rfl rfl rfl (Nat.le_of_ble_eq_true rfl) (hx.1.lo (hi24 (by omega)) (hAi (by omega))).2.1 rfl rfl (by decide) (o_unitsIn hx.1 hr hal (l := i) (by omega) (by omega)) rfl ?_
      refine r_iaddN dX7_shippedOf_40 ?_
      refine r_istore_n (lv' := [(2, .int (nI (sumN (shpN g p) i + (inS g i 4)))), (4, .ref (A i)), (0, .ref (o)), (1, .int (nI (p))), (3, .int (nI (i)))]) dX7_shippedOf_41 rfl (by decide) rfl ?_
      refine r_iincN (k := 1) (lv' := [(3, .int (nI (i + 1))), (2, .int (nI (sumN (shpN g p) i + (inS g i 4)))), (4, .ref (A i)), (0, .ref (o)), (1, .int (nI (p)))]) dX7_shippedOf_42 (by decide) 4 rfl (by decide) rfl ?_
      refine r_goto (tgt := 4) dX7_shippedOf_45 (by decide) ?_
      refine Wx.sub [3, 4, 1, 0] rfl ?_
      have n2 := next (by omega)
      rw [show sumN _ (i + 1) = sumN _ i + _ from rfl, shp_t h30] at n2
      exact n2
set_option maxRecDepth 4000 in
set_option maxHeartbeats 400000 in
theorem o_badShippedOf {G : GI} {S : Hp} {w : Nat → Nat} {k o : Nat} {A c g : Nat → Nat} {N : Nat} (h : OR S w k o A c) (hr : Rel c g N) (hal : ∀ l, l < g 0 → A l ≠ 0) {p : Nat} (hp : p < 4) (hk : g (22 + 10 * p + 1) < 16) : Fn m_X7_badShippedOf G [.ref (o), .int (nI (p)), .int (nI (g (22 + 10 * p + 1)))] S (some (.int (nI (sumN (bdsN g p) (g 0))))) S := by
  refine Cn.of rfl (by decide) (Nat.le_of_ble_eq_true rfl) (fun hN hM => ?_)
  show Wx _ G _ 0 [(0, .ref (o)), (1, .int (nI (p))), (2, .int (nI (g (22 + 10 * p + 1))))] [] _
  have hx := OX.refl h
  have h24 := hr.n24
  refine r_iconst (v := nI 0) dX7_badShippedOf_0 (by decide) ?_
  refine r_istore_n (lv' := [(3, .int (nI (0))), (0, .ref (o)), (1, .int (nI (p))), (2, .int (nI (g (22 + 10 * p + 1))))]) dX7_badShippedOf_1 rfl (by decide) rfl ?_
  refine r_iconst (v := nI 0) dX7_badShippedOf_2 (by decide) ?_
  refine r_istore (lv' := [(4, .int (nI (0))), (3, .int (nI (0))), (0, .ref (o)), (1, .int (nI (p))), (2, .int (nI (g (22 + 10 * p + 1))))]) dX7_badShippedOf_3 (by decide) rfl ?_
  refine Wx.sub [2, 3, 4, 1, 0] rfl ?_
  refine Wx.loop (fun i => S) (fun i => [(0, .ref (o)), (1, .int (nI (p))), (2, .int (nI (g (22 + 10 * p + 1)))), (3, .int (nI (sumN (bdsN g p) i))), (4, .int (nI (i)))]) (g 0) (0) (Nat.zero_le _) (fun i hge hle next => ?_)
  show Wx _ G (S) 5 [(0, .ref (o)), (1, .int (nI (p))), (2, .int (nI (g (22 + 10 * p + 1)))), (3, .int (nI (sumN (bdsN g p) i))), (4, .int (nI (i)))] [] _
  have hi24 : i < g 0 → i < 24 := fun q9 => by omega
  have hAi : i < g 0 → A i ≠ 0 := fun q9 => hal i q9
  have hLi : i < g 0 → LT c g N (g 0) i := fun q9 => hr.lot q9
  have hpi : i < g 0 → g (90 + 13 * i + 0) < 4 ∧ g (90 + 13 * i + 1) ≤ 200 := fun q9 => ⟨(hr.lot q9).pr, (hr.lot q9).z⟩
  refine r_iload dX7_badShippedOf_5 4 rfl ?_
  refine r_aload_n dX7_badShippedOf_7 rfl 0 rfl ?_
  refine r_getI (ci := 9) (k := 5) dX7_badShippedOf_8 fr_X7_49 hx.1.1.1 rfl ?_
  refine Wx.top hx.1.o0 ?_
  refine Wx.topN hr.c0 ?_
  refine r_icmp_geN (tgt := 52) dX7_badShippedOf_11 (by decide) (by omega) (by omega) (fun h11 => ?_) (fun h11 => ?_)
  · refine r_iload_n dX7_badShippedOf_52 rfl 3 rfl ?_
    obtain rfl : i = g 0 := by omega
    exact r_iret (ty := .int) dX7_badShippedOf_53 rfl rfl ⟨rfl, rfl⟩
  · refine r_aload_n dX7_badShippedOf_14 rfl 0 rfl ?_
    refine r_iload dX7_badShippedOf_15 4 rfl ?_
    refine r_fnV (M2 := m_X7_lotAt) (As := [.int (nI (i))]) (rest := []) (v := some (.ref (A i))) dX7_badShippedOf_17 cc_X7_badShippedOf_105 rfl rfl rfl (Nat.le_of_ble_eq_true rfl) hx.1.1.1 rfl rfl (by decide) (o_lotAt hx.1 hr hal (l := i) (by omega)) rfl ?_
    refine r_astore (lv' := [(5, .ref (A i)), (0, .ref (o)), (1, .int (nI (p))), (2, .int (nI (g (22 + 10 * p + 1)))), (3, .int (nI (sumN (bdsN g p) i))), (4, .int (nI (i)))]) dX7_badShippedOf_20 (by decide) rfl ?_
    refine r_aload dX7_badShippedOf_22 0 rfl ?_
    refine r_ifnull dX7_badShippedOf_24 ?_
    refine r_aload dX7_badShippedOf_27 0 rfl ?_
    refine r_getI (ci := 7) (k := 0) dX7_badShippedOf_29 fr_X7_72 (hx.1.lo (hi24 (by omega)) (hAi (by omega))).2.1 rfl ?_
    refine Wx.top (hx.1.l0 (hi24 (by omega)) (hAi (by omega))) ?_
    refine Wx.topN ((hLi (by omega)).h (f := 0) (by decide)) ?_
    refine r_iload_n dX7_badShippedOf_32 rfl 2 rfl ?_
    refine r_icmp_neN (tgt := 46) dX7_badShippedOf_33 (by decide) (by omega) (by omega) (fun h33 => ?_) (fun h33 => ?_)
    · refine r_iincN (k := 1) (lv' := [(4, .int (nI (i + 1))), (5, .ref (A i)), (0, .ref (o)), (1, .int (nI (p))), (2, .int (nI (g (22 + 10 * p + 1)))), (3, .int (nI (sumN (bdsN g p) i)))]) dX7_badShippedOf_46 (by decide) 5 rfl (by decide) rfl ?_
      refine r_goto (tgt := 5) dX7_badShippedOf_49 (by decide) ?_
      refine Wx.sub [2, 3, 4, 5, 0] rfl ?_
      have n2 := next (by omega)
      rw [show sumN _ (i + 1) = sumN _ i + _ from rfl, bds_f h33] at n2
      exact n2
    · refine r_iload_n dX7_badShippedOf_36 rfl 4 rfl ?_
      refine r_aload dX7_badShippedOf_37 0 rfl ?_
      refine r_iconst (v := nI 4) dX7_badShippedOf_39 (by decide) ?_
      refine r_iload_n dX7_badShippedOf_40 rfl 3 rfl ?_
      refine r_fnV (M2 := m_X5_badUnitsIn) (As := [.int (nI (4)), .int (nI (g (22 + 10 * p + 1)))]) (rest := [.int (nI (sumN (bdsN g p) i))]) (v := some (.int (nI (cnt (fun u => sW (g (402 + 2 * (200 * i + u))) = 4 ∧ ¬ g (402 + 2 * (200 * i + u)) % 16 &&& g (22 + 10 * p + 1) = 0) (g (90 + 13 * i + 1)))))) dX7_badShippedOf_41 cc_X7_badShippedOf_247 rfl rfl rfl (Nat.le_of_ble_eq_true rfl) (hx.1.lo (hi24 (by omega)) (hAi (by omega))).2.1 rfl rfl (by decide) (o_badUnitsIn hx.1 hr hal (l := i) (by omega) (by omega) (by omega)) rfl ?_
      refine r_iaddN dX7_badShippedOf_44 ?_
      refine r_istore_n (lv' := [(3, .int (nI (sumN (bdsN g p) i + (cnt (fun u => sW (g (402 + 2 * (200 * i + u))) = 4 ∧ ¬ g (402 + 2 * (200 * i + u)) % 16 &&& g (22 + 10 * p + 1) = 0) (g (90 + 13 * i + 1)))))), (5, .ref (A i)), (0, .ref (o)), (1, .int (nI (p))), (2, .int (nI (g (22 + 10 * p + 1)))), (4, .int (nI (i)))]) dX7_badShippedOf_45 rfl (by decide) rfl ?_
      refine r_iincN (k := 1) (lv' := [(4, .int (nI (i + 1))), (3, .int (nI (sumN (bdsN g p) i + (cnt (fun u => sW (g (402 + 2 * (200 * i + u))) = 4 ∧ ¬ g (402 + 2 * (200 * i + u)) % 16 &&& g (22 + 10 * p + 1) = 0) (g (90 + 13 * i + 1)))))), (5, .ref (A i)), (0, .ref (o)), (1, .int (nI (p))), (2, .int (nI (g (22 + 10 * p + 1))))]) dX7_badShippedOf_46 (by decide) 5 rfl (by decide) rfl ?_
      refine r_goto (tgt := 5) dX7_badShippedOf_49 (by decide) ?_
      refine Wx.sub [3, 4, 5, 1, 0] rfl ?_
      have n2 := next (by omega)
      rw [show sumN _ (i + 1) = sumN _ i + _ from rfl, bds_t h33] at n2
      exact n2
set_option maxRecDepth 4000 in
set_option maxHeartbeats 400000 in
theorem o_allUnits {G : GI} {S : Hp} {w : Nat → Nat} {k o : Nat} {A c g : Nat → Nat} {N : Nat} (h : OR S w k o A c) (hr : Rel c g N) (hal : ∀ l, l < g 0 → A l ≠ 0) : Fn m_X7_allUnits G [.ref (o)] S (some (.int (nI (sumN (fun z => g (90 + 13 * z + 1)) (g 0))))) S := by
  refine Cn.of rfl (by decide) (Nat.le_of_ble_eq_true rfl) (fun hN hM => ?_)
  show Wx _ G _ 0 [(0, .ref (o))] [] _
  have hx := OX.refl h
  have h24 := hr.n24
  refine r_iconst (v := nI 0) dX7_allUnits_0 (by decide) ?_
  refine r_istore_n (lv' := [(1, .int (nI (0))), (0, .ref (o))]) dX7_allUnits_1 rfl (by decide) rfl ?_
  refine r_iconst (v := nI 0) dX7_allUnits_2 (by decide) ?_
  refine r_istore_n (lv' := [(2, .int (nI (0))), (1, .int (nI (0))), (0, .ref (o))]) dX7_allUnits_3 rfl (by decide) rfl ?_
  refine Wx.sub [2, 1, 0] rfl ?_
  refine Wx.loop (fun i => S) (fun i => [(0, .ref (o)), (1, .int (nI (sumN (fun z => g (90 + 13 * z + 1)) i))), (2, .int (nI (i)))]) (g 0) (0) (Nat.zero_le _) (fun i hge hle next => ?_)
  show Wx _ G (S) 4 [(0, .ref (o)), (1, .int (nI (sumN (fun z => g (90 + 13 * z + 1)) i))), (2, .int (nI (i)))] [] _
  have hi24 : i < g 0 → i < 24 := fun q9 => by omega
  have hAi : i < g 0 → A i ≠ 0 := fun q9 => hal i q9
  have hLi : i < g 0 → LT c g N (g 0) i := fun q9 => hr.lot q9
  have hpi : i < g 0 → g (90 + 13 * i + 0) < 4 ∧ g (90 + 13 * i + 1) ≤ 200 := fun q9 => ⟨(hr.lot q9).pr, (hr.lot q9).z⟩
  refine r_iload_n dX7_allUnits_4 rfl 2 rfl ?_
  refine r_aload_n dX7_allUnits_5 rfl 0 rfl ?_
  refine r_getI (ci := 9) (k := 5) dX7_allUnits_6 fr_X7_49 hx.1.1.1 rfl ?_
  refine Wx.top hx.1.o0 ?_
  refine Wx.topN hr.c0 ?_
  refine r_icmp_geN (tgt := 39) dX7_allUnits_9 (by decide) (by omega) (by omega) (fun h9 => ?_) (fun h9 => ?_)
  · refine r_iload_n dX7_allUnits_39 rfl 1 rfl ?_
    obtain rfl : i = g 0 := by omega
    exact r_iret (ty := .int) dX7_allUnits_40 rfl rfl ⟨rfl, rfl⟩
  · refine r_aload_n dX7_allUnits_12 rfl 0 rfl ?_
    refine r_iload_n dX7_allUnits_13 rfl 2 rfl ?_
    refine r_fnV (M2 := m_X7_lotAt) (As := [.int (nI (i))]) (rest := []) (v := some (.ref (A i))) dX7_allUnits_14 cc_X7_allUnits_105 rfl rfl rfl (Nat.le_of_ble_eq_true rfl) hx.1.1.1 rfl rfl (by decide) (o_lotAt hx.1 hr hal (l := i) (by omega)) rfl ?_
    refine r_astore_n (lv' := [(3, .ref (A i)), (0, .ref (o)), (1, .int (nI (sumN (fun z => g (90 + 13 * z + 1)) i))), (2, .int (nI (i)))]) dX7_allUnits_17 rfl (by decide) rfl ?_
    refine r_iload_n dX7_allUnits_18 rfl 2 rfl ?_
    refine r_aload_n dX7_allUnits_19 rfl 0 rfl ?_
    refine r_ifnonnull (tgt := 27) dX7_allUnits_20 (by decide) ?_
    refine r_aload_n dX7_allUnits_27 rfl 0 rfl ?_
    refine r_getI (ci := 7) (k := 2) dX7_allUnits_28 fr_X7_134 (hx.1.lo (hi24 (by omega)) (hAi (by omega))).2.1 rfl ?_
    refine Wx.top (hx.1.l2 (hi24 (by omega)) (hAi (by omega))) ?_
    refine Wx.topN ((hLi (by omega)).h (f := 1) (by decide)) ?_
    refine r_iaddN dX7_allUnits_31 ?_
    refine r_istore_n (lv' := [(1, .int (nI (sumN (fun z => g (90 + 13 * z + 1)) i + (g (90 + 13 * i + 1))))), (3, .ref (A i)), (0, .ref (o)), (2, .int (nI (i)))]) dX7_allUnits_32 rfl (by decide) rfl ?_
    refine r_iincN (k := 1) (lv' := [(2, .int (nI (i + 1))), (1, .int (nI (sumN (fun z => g (90 + 13 * z + 1)) i + (g (90 + 13 * i + 1))))), (3, .ref (A i)), (0, .ref (o))]) dX7_allUnits_33 (by decide) 3 rfl (by decide) rfl ?_
    refine r_goto (tgt := 4) dX7_allUnits_36 (by decide) ?_
    refine Wx.sub [3, 1, 0] rfl ?_
    exact next (by omega)
set_option maxRecDepth 4000 in
set_option maxHeartbeats 400000 in
theorem o_allUnitsIn {G : GI} {S : Hp} {w : Nat → Nat} {k o : Nat} {A c g : Nat → Nat} {N : Nat} (h : OR S w k o A c) (hr : Rel c g N) (hal : ∀ l, l < g 0 → A l ≠ 0) {x : Nat} (hx8 : x < 8) : Fn m_X7_allUnitsIn G [.ref (o), .int (nI (x))] S (some (.int (nI (sumN (fun z => inS g z x) (g 0))))) S := by
  refine Cn.of rfl (by decide) (Nat.le_of_ble_eq_true rfl) (fun hN hM => ?_)
  show Wx _ G _ 0 [(0, .ref (o)), (1, .int (nI (x)))] [] _
  have hx := OX.refl h
  have h24 := hr.n24
  refine r_iconst (v := nI 0) dX7_allUnitsIn_0 (by decide) ?_
  refine r_istore_n (lv' := [(2, .int (nI (0))), (0, .ref (o)), (1, .int (nI (x)))]) dX7_allUnitsIn_1 rfl (by decide) rfl ?_
  refine r_iconst (v := nI 0) dX7_allUnitsIn_2 (by decide) ?_
  refine r_istore_n (lv' := [(3, .int (nI (0))), (2, .int (nI (0))), (0, .ref (o)), (1, .int (nI (x)))]) dX7_allUnitsIn_3 rfl (by decide) rfl ?_
  refine Wx.sub [2, 3, 1, 0] rfl ?_
  refine Wx.loop (fun i => S) (fun i => [(0, .ref (o)), (1, .int (nI (x))), (2, .int (nI (sumN (fun z => inS g z x) i))), (3, .int (nI (i)))]) (g 0) (0) (Nat.zero_le _) (fun i hge hle next => ?_)
  show Wx _ G (S) 4 [(0, .ref (o)), (1, .int (nI (x))), (2, .int (nI (sumN (fun z => inS g z x) i))), (3, .int (nI (i)))] [] _
  have hi24 : i < g 0 → i < 24 := fun q9 => by omega
  have hAi : i < g 0 → A i ≠ 0 := fun q9 => hal i q9
  have hLi : i < g 0 → LT c g N (g 0) i := fun q9 => hr.lot q9
  have hpi : i < g 0 → g (90 + 13 * i + 0) < 4 ∧ g (90 + 13 * i + 1) ≤ 200 := fun q9 => ⟨(hr.lot q9).pr, (hr.lot q9).z⟩
  refine r_iload_n dX7_allUnitsIn_4 rfl 3 rfl ?_
  refine r_aload_n dX7_allUnitsIn_5 rfl 0 rfl ?_
  refine r_getI (ci := 9) (k := 5) dX7_allUnitsIn_6 fr_X7_49 hx.1.1.1 rfl ?_
  refine Wx.top hx.1.o0 ?_
  refine Wx.topN hr.c0 ?_
  refine r_icmp_geN (tgt := 43) dX7_allUnitsIn_9 (by decide) (by omega) (by omega) (fun h9 => ?_) (fun h9 => ?_)
  · refine r_iload_n dX7_allUnitsIn_43 rfl 2 rfl ?_
    obtain rfl : i = g 0 := by omega
    exact r_iret (ty := .int) dX7_allUnitsIn_44 rfl rfl ⟨rfl, rfl⟩
  · refine r_aload_n dX7_allUnitsIn_12 rfl 0 rfl ?_
    refine r_iload_n dX7_allUnitsIn_13 rfl 3 rfl ?_
    refine r_fnV (M2 := m_X7_lotAt) (As := [.int (nI (i))]) (rest := []) (v := some (.ref (A i))) dX7_allUnitsIn_14 cc_X7_allUnitsIn_105 rfl rfl rfl (Nat.le_of_ble_eq_true rfl) hx.1.1.1 rfl rfl (by decide) (o_lotAt hx.1 hr hal (l := i) (by omega)) rfl ?_
    refine r_astore (lv' := [(4, .ref (A i)), (0, .ref (o)), (1, .int (nI (x))), (2, .int (nI (sumN (fun z => inS g z x) i))), (3, .int (nI (i)))]) dX7_allUnitsIn_17 (by decide) rfl ?_
    refine r_iload_n dX7_allUnitsIn_19 rfl 3 rfl ?_
    refine r_aload dX7_allUnitsIn_20 0 rfl ?_
    refine r_ifnonnull (tgt := 29) dX7_allUnitsIn_22 (by decide) ?_
    refine r_aload dX7_allUnitsIn_29 0 rfl ?_
    refine r_iload_n dX7_allUnitsIn_31 rfl 2 rfl ?_
    refine r_fnV (M2 := m_X5_unitsIn) (As := [.int (nI (x))]) (rest := [.int (nI (sumN (fun z => inS g z x) i))]) (v := some (.int (nI (inS g i x)))) dX7_allUnitsIn_32 cc_X7_allUnitsIn_127 rfl rfl rfl (Nat.le_of_ble_eq_true rfl) (hx.1.lo (hi24 (by omega)) (hAi (by omega))).2.1 rfl rfl (by decide) (o_unitsIn hx.1 hr hal (l := i) (by omega) (by omega)) rfl ?_
    refine r_iaddN dX7_allUnitsIn_35 ?_
    refine r_istore_n (lv' := [(2, .int (nI (sumN (fun z => inS g z x) i + (inS g i x)))), (4, .ref (A i)), (0, .ref (o)), (1, .int (nI (x))), (3, .int (nI (i)))]) dX7_allUnitsIn_36 rfl (by decide) rfl ?_
    refine r_iincN (k := 1) (lv' := [(3, .int (nI (i + 1))), (2, .int (nI (sumN (fun z => inS g z x) i + (inS g i x)))), (4, .ref (A i)), (0, .ref (o)), (1, .int (nI (x)))]) dX7_allUnitsIn_37 (by decide) 4 rfl (by decide) rfl ?_
    refine r_goto (tgt := 4) dX7_allUnitsIn_40 (by decide) ?_
    refine Wx.sub [3, 4, 1, 0] rfl ?_
    exact next (by omega)
noncomputable def tbN (g : Nat → Nat) (P : Nat → Prop) (i : Nat) : Nat := @ite _ (P i) (Classical.propDecidable _) (g (62 + i)) 0
theorem tb_t {g : Nat → Nat} {P : Nat → Prop} {i : Nat} (h : P i) : tbN g P i = g (62 + i) := if_pos h
theorem tb_f {g : Nat → Nat} {P : Nat → Prop} {i : Nat} (h : ¬ P i) : tbN g P i = 0 := if_neg h
set_option maxRecDepth 4000 in
set_option maxHeartbeats 400000 in
theorem o_timesBlamed_a {G : GI} {S : Hp} {w : Nat → Nat} {k o : Nat} {A c g : Nat → Nat} {N : Nat} (h : OR S w k o A c) (hr : Rel c g N) (hal : ∀ l, l < g 0 → A l ≠ 0) {a : Nat} (ha : a < 7) : Fn m_X7_timesBlamed G [.ref (o), .int (nI (a)), .int ((-1))] S (some (.int (nI (sumN (tbN g (fun i => i / 4 = a)) 28)))) S := by
  refine Cn.of rfl (by decide) (Nat.le_of_ble_eq_true rfl) (fun hN hM => ?_)
  show Wx _ G _ 0 [(0, .ref (o)), (1, .int (nI (a))), (2, .int ((-1)))] [] _
  have hx := OX.refl h
  have h24 := hr.n24
  refine r_iconst (v := nI 0) dX7_timesBlamed_0 (by decide) ?_
  refine r_istore_n (lv' := [(3, .int (nI (0))), (0, .ref (o)), (1, .int (nI (a))), (2, .int ((-1)))]) dX7_timesBlamed_1 rfl (by decide) rfl ?_
  refine r_iconst (v := nI 0) dX7_timesBlamed_2 (by decide) ?_
  refine r_istore (lv' := [(4, .int (nI (0))), (3, .int (nI (0))), (0, .ref (o)), (1, .int (nI (a))), (2, .int ((-1)))]) dX7_timesBlamed_3 (by decide) rfl ?_
  refine Wx.sub [2, 3, 4, 1, 0] rfl ?_
  refine Wx.loop (fun i => S) (fun i => [(0, .ref (o)), (1, .int (nI (a))), (2, .int ((-1))), (3, .int (nI (sumN (tbN g (fun i => i / 4 = a)) i))), (4, .int (nI (i)))]) (28) (0) (Nat.zero_le _) (fun i hge hle next => ?_)
  show Wx _ G (S) 5 [(0, .ref (o)), (1, .int (nI (a))), (2, .int ((-1))), (3, .int (nI (sumN (tbN g (fun i => i / 4 = a)) i))), (4, .int (nI (i)))] [] _
  have hbi : i < 28 → g (62 + i) ≤ N := fun q9 => hr.bb q9
  refine r_iload dX7_timesBlamed_5 4 rfl ?_
  refine r_aload_n dX7_timesBlamed_7 rfl 0 rfl ?_
  refine r_getR (ci := 9) (k := 3) (b := o + 4) dX7_timesBlamed_8 fr_X7_29 hx.1.1.1 rfl hx.1.1.2.1.2.2.2.1 ?_
  refine r_alen101 dX7_timesBlamed_11 hx.1.1.2.2.2.2.2.1.1 ?_
  refine Wx.top (congrArg nI hx.1.1.2.2.2.2.2.1.2) ?_
  refine r_icmp_geN (tgt := 52) dX7_timesBlamed_12 (by decide) (by omega) (by omega) (fun h12 => ?_) (fun h12 => ?_)
  · refine r_iload_n dX7_timesBlamed_52 rfl 3 rfl ?_
    obtain rfl : i = 28 := by omega
    exact r_iret (ty := .int) dX7_timesBlamed_53 rfl rfl ⟨rfl, rfl⟩
  · refine r_iload dX7_timesBlamed_15 4 rfl ?_
    refine r_iconst (v := nI 4) dX7_timesBlamed_17 (by decide) ?_
    refine r_idivN dX7_timesBlamed_18 (by omega) (by omega) (by omega) ?_
    refine r_iload_n dX7_timesBlamed_19 rfl 1 rfl ?_
    refine r_icmp_neN (tgt := 46) dX7_timesBlamed_20 (by decide) (by omega) (by omega) (fun h20 => ?_) (fun h20 => ?_)
    · refine r_iincN (k := 1) (lv' := [(4, .int (nI (i + 1))), (0, .ref (o)), (1, .int (nI (a))), (2, .int ((-1))), (3, .int (nI (sumN (tbN g (fun i => i / 4 = a)) i)))]) dX7_timesBlamed_46 (by decide) 4 rfl (by decide) rfl ?_
      refine r_goto (tgt := 5) dX7_timesBlamed_49 (by decide) ?_
      refine Wx.sub [1, 2, 3, 4, 0] rfl ?_
      have n2 := next (by omega)
      have e9 : tbN g (fun i => i / 4 = a) i = _ := tb_f h20
      rw [show sumN (tbN g (fun i => i / 4 = a)) (i + 1) = sumN (tbN g (fun i => i / 4 = a)) i + tbN g (fun i => i / 4 = a) i from rfl, e9] at n2
      exact n2
    · refine r_iload_n dX7_timesBlamed_23 rfl 2 rfl ?_
      refine r_iconst (v := (-1)) dX7_timesBlamed_24 (by decide) ?_
      refine r_icmp_eq (tgt := 36) dX7_timesBlamed_25 (by decide) (fun h25 => ?_) (fun h25 => ?_)
      · refine r_iload_n dX7_timesBlamed_36 rfl 3 rfl ?_
        refine r_aload_n dX7_timesBlamed_37 rfl 0 rfl ?_
        refine r_getR (ci := 9) (k := 3) (b := o + 4) dX7_timesBlamed_38 fr_X7_29 hx.1.1.1 rfl hx.1.1.2.1.2.2.2.1 ?_
        refine r_iload dX7_timesBlamed_41 4 rfl ?_
        refine r_iald dX7_timesBlamed_43 hx.1.1.2.2.2.2.2.1.1 (by rw [show zN S (o + 4) = 28 from hx.1.1.2.2.2.2.2.1.2]; exact vp_in_nI (by omega) (by decide)) ?_
        refine Wx.top (congrArg (zA _ _) (nI_clamp (by omega))) ?_
        refine Wx.top (hx.1.b (j := i) (by omega)) ?_
        refine Wx.topN (hr.b (j := i) (by omega)) ?_
        refine r_iaddN dX7_timesBlamed_44 ?_
        refine r_istore_n (lv' := [(3, .int (nI ((sumN (tbN g (fun i => i / 4 = a)) i) + (g (62 + i))))), (0, .ref (o)), (1, .int (nI (a))), (2, .int ((-1))), (4, .int (nI (i)))]) dX7_timesBlamed_45 rfl (by decide) rfl ?_
        refine r_iincN (k := 1) (lv' := [(4, .int (nI (i + 1))), (3, .int (nI ((sumN (tbN g (fun i => i / 4 = a)) i) + (g (62 + i))))), (0, .ref (o)), (1, .int (nI (a))), (2, .int ((-1)))]) dX7_timesBlamed_46 (by decide) 4 rfl (by decide) rfl ?_
        refine r_goto (tgt := 5) dX7_timesBlamed_49 (by decide) ?_
        refine Wx.sub [2, 3, 4, 1, 0] rfl ?_
        have n2 := next (by omega)
        have e9 : tbN g (fun i => i / 4 = a) i = _ := tb_t h20
        rw [show sumN (tbN g (fun i => i / 4 = a)) (i + 1) = sumN (tbN g (fun i => i / 4 = a)) i + tbN g (fun i => i / 4 = a) i from rfl, e9] at n2
        exact n2
      · exact absurd rfl h25
set_option maxRecDepth 4000 in
set_option maxHeartbeats 400000 in
theorem o_timesBlamed_b {G : GI} {S : Hp} {w : Nat → Nat} {k o : Nat} {A c g : Nat → Nat} {N : Nat} (h : OR S w k o A c) (hr : Rel c g N) (hal : ∀ l, l < g 0 → A l ≠ 0) {a : Nat} (ha : a < 7) {q : Nat} (hq : q < 4) : Fn m_X7_timesBlamed G [.ref (o), .int (nI (a)), .int (nI (q))] S (some (.int (nI (sumN (tbN g (fun i => i / 4 = a ∧ i % 4 = q)) 28)))) S := by
  refine Cn.of rfl (by decide) (Nat.le_of_ble_eq_true rfl) (fun hN hM => ?_)
  show Wx _ G _ 0 [(0, .ref (o)), (1, .int (nI (a))), (2, .int (nI (q)))] [] _
  have hx := OX.refl h
  have h24 := hr.n24
  refine r_iconst (v := nI 0) dX7_timesBlamed_0 (by decide) ?_
  refine r_istore_n (lv' := [(3, .int (nI (0))), (0, .ref (o)), (1, .int (nI (a))), (2, .int (nI (q)))]) dX7_timesBlamed_1 rfl (by decide) rfl ?_
  refine r_iconst (v := nI 0) dX7_timesBlamed_2 (by decide) ?_
  refine r_istore (lv' := [(4, .int (nI (0))), (3, .int (nI (0))), (0, .ref (o)), (1, .int (nI (a))), (2, .int (nI (q)))]) dX7_timesBlamed_3 (by decide) rfl ?_
  refine Wx.sub [2, 3, 4, 1, 0] rfl ?_
  refine Wx.loop (fun i => S) (fun i => [(0, .ref (o)), (1, .int (nI (a))), (2, .int (nI (q))), (3, .int (nI (sumN (tbN g (fun i => i / 4 = a ∧ i % 4 = q)) i))), (4, .int (nI (i)))]) (28) (0) (Nat.zero_le _) (fun i hge hle next => ?_)
  show Wx _ G (S) 5 [(0, .ref (o)), (1, .int (nI (a))), (2, .int (nI (q))), (3, .int (nI (sumN (tbN g (fun i => i / 4 = a ∧ i % 4 = q)) i))), (4, .int (nI (i)))] [] _
  have hbi : i < 28 → g (62 + i) ≤ N := fun q9 => hr.bb q9
  refine r_iload dX7_timesBlamed_5 4 rfl ?_
  refine r_aload_n dX7_timesBlamed_7 rfl 0 rfl ?_
  refine r_getR (ci := 9) (k := 3) (b := o + 4) dX7_timesBlamed_8 fr_X7_29 hx.1.1.1 rfl hx.1.1.2.1.2.2.2.1 ?_
  refine r_alen101 dX7_timesBlamed_11 hx.1.1.2.2.2.2.2.1.1 ?_
  refine Wx.top (congrArg nI hx.1.1.2.2.2.2.2.1.2) ?_
  refine r_icmp_geN (tgt := 52) dX7_timesBlamed_12 (by decide) (by omega) (by omega) (fun h12 => ?_) (fun h12 => ?_)
  · refine r_iload_n dX7_timesBlamed_52 rfl 3 rfl ?_
    obtain rfl : i = 28 := by omega
    exact r_iret (ty := .int) dX7_timesBlamed_53 rfl rfl ⟨rfl, rfl⟩
  · refine r_iload dX7_timesBlamed_15 4 rfl ?_
    refine r_iconst (v := nI 4) dX7_timesBlamed_17 (by decide) ?_
    refine r_idivN dX7_timesBlamed_18 (by omega) (by omega) (by omega) ?_
    refine r_iload_n dX7_timesBlamed_19 rfl 1 rfl ?_
    refine r_icmp_neN (tgt := 46) dX7_timesBlamed_20 (by decide) (by omega) (by omega) (fun h20 => ?_) (fun h20 => ?_)
    · refine r_iincN (k := 1) (lv' := [(4, .int (nI (i + 1))), (0, .ref (o)), (1, .int (nI (a))), (2, .int (nI (q))), (3, .int (nI (sumN (tbN g (fun i => i / 4 = a ∧ i % 4 = q)) i)))]) dX7_timesBlamed_46 (by decide) 4 rfl (by decide) rfl ?_
      refine r_goto (tgt := 5) dX7_timesBlamed_49 (by decide) ?_
      refine Wx.sub [1, 2, 3, 4, 0] rfl ?_
      have n2 := next (by omega)
      have e9 : tbN g (fun i => i / 4 = a ∧ i % 4 = q) i = _ := tb_f (fun q9 => h20 q9.1)
      rw [show sumN (tbN g (fun i => i / 4 = a ∧ i % 4 = q)) (i + 1) = sumN (tbN g (fun i => i / 4 = a ∧ i % 4 = q)) i + tbN g (fun i => i / 4 = a ∧ i % 4 = q) i from rfl, e9] at n2
      exact n2
    · refine r_iload_n dX7_timesBlamed_23 rfl 2 rfl ?_
      refine r_iconst (v := (-1)) dX7_timesBlamed_24 (by decide) ?_
      refine r_icmp_eq (tgt := 36) dX7_timesBlamed_25 (by decide) (fun h25 => ?_) (fun h25 => ?_)
      · exact absurd h25 (nI_nm1 (by omega))
      · refine r_iload dX7_timesBlamed_28 4 rfl ?_
        refine r_iconst (v := nI 4) dX7_timesBlamed_30 (by decide) ?_
        refine r_iremN dX7_timesBlamed_31 (by omega) (by omega) (by omega) ?_
        refine r_iload_n dX7_timesBlamed_32 rfl 2 rfl ?_
        refine r_icmp_neN (tgt := 46) dX7_timesBlamed_33 (by decide) (by omega) (by omega) (fun h33 => ?_) (fun h33 => ?_)
        · refine r_iincN (k := 1) (lv' := [(4, .int (nI (i + 1))), (0, .ref (o)), (1, .int (nI (a))), (2, .int (nI (q))), (3, .int (nI (sumN (tbN g (fun i => i / 4 = a ∧ i % 4 = q)) i)))]) dX7_timesBlamed_46 (by decide) 4 rfl (by decide) rfl ?_
          refine r_goto (tgt := 5) dX7_timesBlamed_49 (by decide) ?_
          refine Wx.sub [1, 2, 3, 4, 0] rfl ?_
          have n2 := next (by omega)
          have e9 : tbN g (fun i => i / 4 = a ∧ i % 4 = q) i = _ := tb_f (fun q9 => h33 q9.2)
          rw [show sumN (tbN g (fun i => i / 4 = a ∧ i % 4 = q)) (i + 1) = sumN (tbN g (fun i => i / 4 = a ∧ i % 4 = q)) i + tbN g (fun i => i / 4 = a ∧ i % 4 = q) i from rfl, e9] at n2
          exact n2
        · refine r_iload_n dX7_timesBlamed_36 rfl 3 rfl ?_
          refine r_aload_n dX7_timesBlamed_37 rfl 0 rfl ?_
          refine r_getR (ci := 9) (k := 3) (b := o + 4) dX7_timesBlamed_38 fr_X7_29 hx.1.1.1 rfl hx.1.1.2.1.2.2.2.1 ?_
          refine r_iload dX7_timesBlamed_41 4 rfl ?_
          refine r_iald dX7_timesBlamed_43 hx.1.1.2.2.2.2.2.1.1 (by rw [show zN S (o + 4) = 28 from hx.1.1.2.2.2.2.2.1.2]; exact vp_in_nI (by omega) (by decide)) ?_
          refine Wx.top (congrArg (zA _ _) (nI_clamp (by omega))) ?_
          refine Wx.top (hx.1.b (j := i) (by omega)) ?_
          refine Wx.topN (hr.b (j := i) (by omega)) ?_
          refine r_iaddN dX7_timesBlamed_44 ?_
          refine r_istore_n (lv' := [(3, .int (nI ((sumN (tbN g (fun i => i / 4 = a ∧ i % 4 = q)) i) + (g (62 + i))))), (0, .ref (o)), (1, .int (nI (a))), (2, .int (nI (q))), (4, .int (nI (i)))]) dX7_timesBlamed_45 rfl (by decide) rfl ?_
          refine r_iincN (k := 1) (lv' := [(4, .int (nI (i + 1))), (3, .int (nI ((sumN (tbN g (fun i => i / 4 = a ∧ i % 4 = q)) i) + (g (62 + i))))), (0, .ref (o)), (1, .int (nI (a))), (2, .int (nI (q)))]) dX7_timesBlamed_46 (by decide) 4 rfl (by decide) rfl ?_
          refine r_goto (tgt := 5) dX7_timesBlamed_49 (by decide) ?_
          refine Wx.sub [2, 3, 4, 1, 0] rfl ?_
          have n2 := next (by omega)
          have e9 : tbN g (fun i => i / 4 = a ∧ i % 4 = q) i = _ := tb_t ⟨h20, h33⟩
          rw [show sumN (tbN g (fun i => i / 4 = a ∧ i % 4 = q)) (i + 1) = sumN (tbN g (fun i => i / 4 = a ∧ i % 4 = q)) i + tbN g (fun i => i / 4 = a ∧ i % 4 = q) i from rfl, e9] at n2
          exact n2
theorem tb_a {g : Nat → Nat} {a : Nat} (ha : a < 7) : sumN (tbN g (fun i => i / 4 = a)) 28 = g (62 + 4 * a) + g (62 + 4 * a + 1) + g (62 + 4 * a + 2) + g (62 + 4 * a + 3) := by
  have key : ∀ n, sumN (tbN g (fun i => i / 4 = a)) n = (if 4 * a < n then g (62 + 4 * a) else 0) + (if 4 * a + 1 < n then g (62 + 4 * a + 1) else 0) + (if 4 * a + 2 < n then g (62 + 4 * a + 2) else 0) + (if 4 * a + 3 < n then g (62 + 4 * a + 3) else 0) := by
    intro n
    induction n with
    | zero => rw [if_neg (by omega), if_neg (by omega), if_neg (by omega), if_neg (by omega)]; rfl
    | succ n ih =>
      rw [show sumN (tbN g (fun i => i / 4 = a)) (n + 1) = sumN (tbN g (fun i => i / 4 = a)) n + tbN g (fun i => i / 4 = a) n from rfl, ih]
      by_cases c : n / 4 = a
      · rw [tb_t (P := fun i => i / 4 = a) c]
        obtain e | e | e | e : n = 4 * a ∨ n = 4 * a + 1 ∨ n = 4 * a + 2 ∨ n = 4 * a + 3 := by omega
        all_goals (subst e; repeat (first | rw [if_pos (by omega)] | rw [if_neg (by omega)]))
        all_goals (simp only [Nat.add_assoc, Nat.add_zero, Nat.zero_add])
      · rw [tb_f (P := fun i => i / 4 = a) c]
        by_cases d : n < 4 * a
        · rw [if_neg (by omega), if_neg (by omega), if_neg (by omega), if_neg (by omega), if_neg (by omega), if_neg (by omega), if_neg (by omega), if_neg (by omega)]
        · rw [if_pos (by omega), if_pos (by omega), if_pos (by omega), if_pos (by omega), if_pos (by omega), if_pos (by omega), if_pos (by omega), if_pos (by omega)]
          rfl
  rw [key, if_pos (by omega), if_pos (by omega), if_pos (by omega), if_pos (by omega)]
theorem tb_b {g : Nat → Nat} {a q : Nat} (ha : a < 7) (hq : q < 4) : sumN (tbN g (fun i => i / 4 = a ∧ i % 4 = q)) 28 = g (62 + 4 * a + q) := by
  have key : ∀ n, sumN (tbN g (fun i => i / 4 = a ∧ i % 4 = q)) n = (if 4 * a + q < n then g (62 + 4 * a + q) else 0) := by
    intro n
    induction n with
    | zero => rw [if_neg (by omega)]; rfl
    | succ n ih =>
      rw [show sumN (tbN g (fun i => i / 4 = a ∧ i % 4 = q)) (n + 1) = sumN (tbN g (fun i => i / 4 = a ∧ i % 4 = q)) n + tbN g (fun i => i / 4 = a ∧ i % 4 = q) n from rfl, ih]
      by_cases c : n / 4 = a ∧ n % 4 = q
      · have e : n = 4 * a + q := by omega
        rw [tb_t c, if_neg (by omega), if_pos (by omega), e, Nat.zero_add, Nat.add_assoc]
      · rw [tb_f c]
        by_cases d : 4 * a + q < n
        · rw [if_pos d, if_pos (by omega)]; rfl
        · rw [if_neg d, if_neg (by omega)]
  rw [key, if_pos (by omega)]
set_option maxRecDepth 4000 in
set_option maxHeartbeats 400000 in
theorem o_more {G : GI} {S : Hp} {w : Nat → Nat} {k o : Nat} {A c g : Nat → Nat} {N : Nat} (h : OR S w k o A c) (hr : Rel c g N) (hal : ∀ l, l < g 0 → A l ≠ 0) (hNb : N < 2147480000) {e : Nat} (he : e < 28) : Fn m_X7_moreBlamedThan G [.ref (o), .int (nI (e))] S (some (.int (nI (ahd g e)))) S := by
  refine Cn.of rfl (by decide) (Nat.le_of_ble_eq_true rfl) (fun hN hM => ?_)
  show Wx _ G _ 0 [(0, .ref (o)), (1, .int (nI (e)))] [] _
  have hx := OX.refl h
  have h24 := hr.n24
  refine r_iconst (v := nI 0) dX7_moreBlamedThan_0 (by decide) ?_
  refine r_istore_n (lv' := [(2, .int (nI (0))), (0, .ref (o)), (1, .int (nI (e)))]) dX7_moreBlamedThan_1 rfl (by decide) rfl ?_
  refine r_iconst (v := nI 0) dX7_moreBlamedThan_2 (by decide) ?_
  refine r_istore_n (lv' := [(3, .int (nI (0))), (2, .int (nI (0))), (0, .ref (o)), (1, .int (nI (e)))]) dX7_moreBlamedThan_3 rfl (by decide) rfl ?_
  refine Wx.sub [2, 3, 1, 0] rfl ?_
  refine Wx.loop (fun i => S) (fun i => [(0, .ref (o)), (1, .int (nI (e))), (2, .int (nI (cnt (fun k => g (62 + e) < g (62 + k) ∨ (g (62 + k) = g (62 + e) ∧ k < e)) i))), (3, .int (nI (i)))]) (28) (0) (Nat.zero_le _) (fun i hge hle next => ?_)
  show Wx _ G (S) 4 [(0, .ref (o)), (1, .int (nI (e))), (2, .int (nI (cnt (fun k => g (62 + e) < g (62 + k) ∨ (g (62 + k) = g (62 + e) ∧ k < e)) i))), (3, .int (nI (i)))] [] _
  have hbi : i < 28 → g (62 + i) ≤ N := fun q9 => hr.bb q9
  have hbe : g (62 + e) ≤ N := hr.bb he
  refine r_iload_n dX7_moreBlamedThan_4 rfl 3 rfl ?_
  refine r_aload_n dX7_moreBlamedThan_5 rfl 0 rfl ?_
  refine r_getR (ci := 9) (k := 3) (b := o + 4) dX7_moreBlamedThan_6 fr_X7_29 hx.1.1.1 rfl hx.1.1.2.1.2.2.2.1 ?_
  refine r_alen101 dX7_moreBlamedThan_9 hx.1.1.2.2.2.2.2.1.1 ?_
  refine Wx.top (congrArg nI hx.1.1.2.2.2.2.2.1.2) ?_
  refine r_icmp_geN (tgt := 57) dX7_moreBlamedThan_10 (by decide) (by omega) (by omega) (fun h10 => ?_) (fun h10 => ?_)
  · refine r_iload_n dX7_moreBlamedThan_57 rfl 2 rfl ?_
    obtain rfl : i = 28 := by omega
    exact r_iret (ty := .int) dX7_moreBlamedThan_58 rfl rfl ⟨rfl, rfl⟩
  · refine r_aload_n dX7_moreBlamedThan_13 rfl 0 rfl ?_
    refine r_getR (ci := 9) (k := 3) (b := o + 4) dX7_moreBlamedThan_14 fr_X7_29 hx.1.1.1 rfl hx.1.1.2.1.2.2.2.1 ?_
    refine r_iload_n dX7_moreBlamedThan_17 rfl 3 rfl ?_
    refine r_iald dX7_moreBlamedThan_18 hx.1.1.2.2.2.2.2.1.1 (by rw [show zN S (o + 4) = 28 from hx.1.1.2.2.2.2.2.1.2]; exact vp_in_nI (by omega) (by decide)) ?_
    refine Wx.top (congrArg (zA _ _) (nI_clamp (by omega))) ?_
    refine Wx.top (hx.1.b (j := i) (by omega)) ?_
    refine Wx.topN (hr.b (j := i) (by omega)) ?_
    refine r_aload_n dX7_moreBlamedThan_19 rfl 0 rfl ?_
    refine r_getR (ci := 9) (k := 3) (b := o + 4) dX7_moreBlamedThan_20 fr_X7_29 hx.1.1.1 rfl hx.1.1.2.1.2.2.2.1 ?_
    refine r_iload_n dX7_moreBlamedThan_23 rfl 1 rfl ?_
    refine r_iald dX7_moreBlamedThan_24 hx.1.1.2.2.2.2.2.1.1 (by rw [show zN S (o + 4) = 28 from hx.1.1.2.2.2.2.2.1.2]; exact vp_in_nI (by omega) (by decide)) ?_
    refine Wx.top (congrArg (zA _ _) (nI_clamp (by omega))) ?_
    refine Wx.top (hx.1.b (j := e) (by omega)) ?_
    refine Wx.topN (hr.b (j := e) (by omega)) ?_
    refine r_icmp_gtN (tgt := 48) dX7_moreBlamedThan_25 (by decide) (by omega) (by omega) (fun h25 => ?_) (fun h25 => ?_)
    · refine r_iincN (k := 1) (lv' := [(2, .int (nI (cnt (fun k => g (62 + e) < g (62 + k) ∨ (g (62 + k) = g (62 + e) ∧ k < e)) i + 1))), (0, .ref (o)), (1, .int (nI (e))), (3, .int (nI (i)))]) dX7_moreBlamedThan_48 (by decide) 2 rfl (by decide) rfl ?_
      refine r_iincN (k := 1) (lv' := [(3, .int (nI (i + 1))), (2, .int (nI (cnt (fun k => g (62 + e) < g (62 + k) ∨ (g (62 + k) = g (62 + e) ∧ k < e)) i + 1))), (0, .ref (o)), (1, .int (nI (e)))]) dX7_moreBlamedThan_51 (by decide) 3 rfl (by decide) rfl ?_
      refine r_goto (tgt := 4) dX7_moreBlamedThan_54 (by decide) ?_
      refine Wx.sub [2, 3, 1, 0] rfl ?_
      have n2 := next (by omega)
      rw [cnt_t (p := fun k => g (62 + e) < g (62 + k) ∨ (g (62 + k) = g (62 + e) ∧ k < e)) (Or.inl h25)] at n2
      exact n2
    · refine r_aload_n dX7_moreBlamedThan_28 rfl 0 rfl ?_
      refine r_getR (ci := 9) (k := 3) (b := o + 4) dX7_moreBlamedThan_29 fr_X7_29 hx.1.1.1 rfl hx.1.1.2.1.2.2.2.1 ?_
      refine r_iload_n dX7_moreBlamedThan_32 rfl 3 rfl ?_
      refine r_iald dX7_moreBlamedThan_33 hx.1.1.2.2.2.2.2.1.1 (by rw [show zN S (o + 4) = 28 from hx.1.1.2.2.2.2.2.1.2]; exact vp_in_nI (by omega) (by decide)) ?_
      refine Wx.top (congrArg (zA _ _) (nI_clamp (by omega))) ?_
      refine Wx.top (hx.1.b (j := i) (by omega)) ?_
      refine Wx.topN (hr.b (j := i) (by omega)) ?_
      refine r_aload_n dX7_moreBlamedThan_34 rfl 0 rfl ?_
      refine r_getR (ci := 9) (k := 3) (b := o + 4) dX7_moreBlamedThan_35 fr_X7_29 hx.1.1.1 rfl hx.1.1.2.1.2.2.2.1 ?_
      refine r_iload_n dX7_moreBlamedThan_38 rfl 1 rfl ?_
      refine r_iald dX7_moreBlamedThan_39 hx.1.1.2.2.2.2.2.1.1 (by rw [show zN S (o + 4) = 28 from hx.1.1.2.2.2.2.2.1.2]; exact vp_in_nI (by omega) (by decide)) ?_
      refine Wx.top (congrArg (zA _ _) (nI_clamp (by omega))) ?_
      refine Wx.top (hx.1.b (j := e) (by omega)) ?_
      refine Wx.topN (hr.b (j := e) (by omega)) ?_
      refine r_icmp_neN (tgt := 51) dX7_moreBlamedThan_40 (by decide) (by omega) (by omega) (fun h40 => ?_) (fun h40 => ?_)
      · refine r_iincN (k := 1) (lv' := [(3, .int (nI (i + 1))), (0, .ref (o)), (1, .int (nI (e))), (2, .int (nI (cnt (fun k => g (62 + e) < g (62 + k) ∨ (g (62 + k) = g (62 + e) ∧ k < e)) i)))]) dX7_moreBlamedThan_51 (by decide) 3 rfl (by decide) rfl ?_
        refine r_goto (tgt := 4) dX7_moreBlamedThan_54 (by decide) ?_
        refine Wx.sub [1, 2, 3, 0] rfl ?_
        have n2 := next (by omega)
        rw [cnt_f (p := fun k => g (62 + e) < g (62 + k) ∨ (g (62 + k) = g (62 + e) ∧ k < e)) (by omega)] at n2
        exact n2
      · refine r_iload_n dX7_moreBlamedThan_43 rfl 3 rfl ?_
        refine r_iload_n dX7_moreBlamedThan_44 rfl 1 rfl ?_
        refine r_icmp_geN (tgt := 51) dX7_moreBlamedThan_45 (by decide) (by omega) (by omega) (fun h45 => ?_) (fun h45 => ?_)
        · refine r_iincN (k := 1) (lv' := [(3, .int (nI (i + 1))), (0, .ref (o)), (1, .int (nI (e))), (2, .int (nI (cnt (fun k => g (62 + e) < g (62 + k) ∨ (g (62 + k) = g (62 + e) ∧ k < e)) i)))]) dX7_moreBlamedThan_51 (by decide) 3 rfl (by decide) rfl ?_
          refine r_goto (tgt := 4) dX7_moreBlamedThan_54 (by decide) ?_
          refine Wx.sub [1, 2, 3, 0] rfl ?_
          have n2 := next (by omega)
          rw [cnt_f (p := fun k => g (62 + e) < g (62 + k) ∨ (g (62 + k) = g (62 + e) ∧ k < e)) (by omega)] at n2
          exact n2
        · refine r_iincN (k := 1) (lv' := [(2, .int (nI (cnt (fun k => g (62 + e) < g (62 + k) ∨ (g (62 + k) = g (62 + e) ∧ k < e)) i + 1))), (0, .ref (o)), (1, .int (nI (e))), (3, .int (nI (i)))]) dX7_moreBlamedThan_48 (by decide) 2 rfl (by decide) rfl ?_
          refine r_iincN (k := 1) (lv' := [(3, .int (nI (i + 1))), (2, .int (nI (cnt (fun k => g (62 + e) < g (62 + k) ∨ (g (62 + k) = g (62 + e) ∧ k < e)) i + 1))), (0, .ref (o)), (1, .int (nI (e)))]) dX7_moreBlamedThan_51 (by decide) 3 rfl (by decide) rfl ?_
          refine r_goto (tgt := 4) dX7_moreBlamedThan_54 (by decide) ?_
          refine Wx.sub [2, 3, 1, 0] rfl ?_
          have n2 := next (by omega)
          rw [cnt_t (p := fun k => g (62 + e) < g (62 + k) ∨ (g (62 + k) = g (62 + e) ∧ k < e)) (by omega)] at n2
          exact n2
set_option maxRecDepth 4000 in
set_option maxHeartbeats 400000 in
theorem o_worst_0 {G : GI} {S : Hp} {w : Nat → Nat} {k o : Nat} {A c g : Nat → Nat} {N : Nat} (h : OR S w k o A c) (hr : Rel c g N) (hal : ∀ l, l < g 0 → A l ≠ 0) (hNb : N < 2147480000) {x : Int32} {e : Nat} (he : e < 28) (hpos : 0 < g (62 + e)) (hra : nI (ahd g e) = x) (hno : ∀ i, i < e → ¬ (0 < g (62 + i) ∧ nI (ahd g i) = x)) : Fn m_X7_mostBlamed G [.ref (o), .int (x)] S (some (.int (nI (10 * (e / 4) + e % 4)))) S := by
  refine Cn.of rfl (by decide) (Nat.le_of_ble_eq_true rfl) (fun hN hM => ?_)
  show Wx _ G _ 0 [(0, .ref (o)), (1, .int (x))] [] _
  have hx := OX.refl h
  have h24 := hr.n24
  refine r_iconst (v := nI 0) dX7_mostBlamed_0 (by decide) ?_
  refine r_istore_n (lv' := [(2, .int (nI (0))), (0, .ref (o)), (1, .int (x))]) dX7_mostBlamed_1 rfl (by decide) rfl ?_
  refine Wx.sub [1, 2, 0] rfl ?_
  refine Wx.loop (fun i => S) (fun i => [(0, .ref (o)), (1, .int (x)), (2, .int (nI (i)))]) (e) (0) (Nat.zero_le _) (fun i hge hle next => ?_)
  show Wx _ G (S) 2 [(0, .ref (o)), (1, .int (x)), (2, .int (nI (i)))] [] _
  have hbi : i < 28 → g (62 + i) ≤ N := fun q9 => hr.bb q9
  refine r_iload_n dX7_mostBlamed_2 rfl 2 rfl ?_
  refine r_aload_n dX7_mostBlamed_3 rfl 0 rfl ?_
  refine r_getR (ci := 9) (k := 3) (b := o + 4) dX7_mostBlamed_4 fr_X7_29 hx.1.1.1 rfl hx.1.1.2.1.2.2.2.1 ?_
  refine r_alen101 dX7_mostBlamed_7 hx.1.1.2.2.2.2.2.1.1 ?_
  refine Wx.top (congrArg nI hx.1.1.2.2.2.2.2.1.2) ?_
  refine r_icmp_geN (tgt := 46) dX7_mostBlamed_8 (by decide) (by omega) (by omega) (fun h8 => ?_) (fun h8 => ?_)
  · exact absurd h8 (by omega)
  · refine r_aload_n dX7_mostBlamed_11 rfl 0 rfl ?_
    refine r_getR (ci := 9) (k := 3) (b := o + 4) dX7_mostBlamed_12 fr_X7_29 hx.1.1.1 rfl hx.1.1.2.1.2.2.2.1 ?_
    refine r_iload_n dX7_mostBlamed_15 rfl 2 rfl ?_
    refine r_iald dX7_mostBlamed_16 hx.1.1.2.2.2.2.2.1.1 (by rw [show zN S (o + 4) = 28 from hx.1.1.2.2.2.2.2.1.2]; exact vp_in_nI (by omega) (by decide)) ?_
    refine Wx.top (congrArg (zA _ _) (nI_clamp (by omega))) ?_
    refine Wx.top (hx.1.b (j := i) (by omega)) ?_
    refine Wx.topN (hr.b (j := i) (by omega)) ?_
    refine r_if_leN (tgt := 40) dX7_mostBlamed_17 (by decide) (by omega) (fun h17 => ?_) (fun h17 => ?_)
    · refine r_iincN (k := 1) (lv' := [(2, .int (nI (i + 1))), (0, .ref (o)), (1, .int (x))]) dX7_mostBlamed_40 (by decide) 2 rfl (by decide) rfl ?_
      refine r_goto (tgt := 2) dX7_mostBlamed_43 (by decide) ?_
      refine Wx.sub [1, 2, 0] rfl ?_
      exact next (by have : ¬ i = e := (fun q9 => by rw [q9] at h17; omega); omega)
    · refine r_aload_n dX7_mostBlamed_20 rfl 0 rfl ?_
      refine r_iload_n dX7_mostBlamed_21 rfl 2 rfl ?_
      refine r_fnV (M2 := m_X7_moreBlamedThan) (As := [.int (nI (i))]) (rest := []) (v := some (.int (nI (ahd g i)))) dX7_mostBlamed_22 cc_X7_mostBlamed_244 rfl rfl rfl (Nat.le_of_ble_eq_true rfl) hx.1.1.1 rfl rfl (by decide) (o_more hx.1 hr hal hNb (by omega)) rfl ?_
      refine r_iload_n dX7_mostBlamed_25 rfl 1 rfl ?_
      refine r_icmp_ne (tgt := 40) dX7_mostBlamed_26 (by decide) (fun h26 => ?_) (fun h26 => ?_)
      · refine r_iincN (k := 1) (lv' := [(2, .int (nI (i + 1))), (0, .ref (o)), (1, .int (x))]) dX7_mostBlamed_40 (by decide) 2 rfl (by decide) rfl ?_
        refine r_goto (tgt := 2) dX7_mostBlamed_43 (by decide) ?_
        refine Wx.sub [1, 2, 0] rfl ?_
        exact next (by have : ¬ i = e := fun q9 => h26 (by rw [q9]; exact hra); omega)
      · refine r_bipush (v := nI 10) dX7_mostBlamed_29 (by decide) ?_
        refine r_iload_n dX7_mostBlamed_31 rfl 2 rfl ?_
        refine r_iconst (v := nI 4) dX7_mostBlamed_32 (by decide) ?_
        refine r_idivN dX7_mostBlamed_33 (by omega) (by omega) (by omega) ?_
        refine r_imulN dX7_mostBlamed_34 ?_
        refine r_iload_n dX7_mostBlamed_35 rfl 2 rfl ?_
        refine r_iconst (v := nI 4) dX7_mostBlamed_36 (by decide) ?_
        refine r_iremN dX7_mostBlamed_37 (by omega) (by omega) (by omega) ?_
        refine r_iaddN dX7_mostBlamed_38 ?_
        obtain rfl : i = e := Nat.le_antisymm hle (Nat.le_of_not_lt fun q9 => hno i q9 ⟨h17, h26⟩)
        exact r_iret (ty := .int) dX7_mostBlamed_39 rfl rfl ⟨rfl, rfl⟩
set_option maxRecDepth 4000 in
set_option maxHeartbeats 400000 in
theorem o_worst_1 {G : GI} {S : Hp} {w : Nat → Nat} {k o : Nat} {A c g : Nat → Nat} {N : Nat} (h : OR S w k o A c) (hr : Rel c g N) (hal : ∀ l, l < g 0 → A l ≠ 0) (hNb : N < 2147480000) {x : Int32} (hno : ∀ i, i < 28 → ¬ (0 < g (62 + i) ∧ nI (ahd g i) = x)) : Fn m_X7_mostBlamed G [.ref (o), .int (x)] S (some (.int (-4))) S := by
  refine Cn.of rfl (by decide) (Nat.le_of_ble_eq_true rfl) (fun hN hM => ?_)
  show Wx _ G _ 0 [(0, .ref (o)), (1, .int (x))] [] _
  have hx := OX.refl h
  have h24 := hr.n24
  refine r_iconst (v := nI 0) dX7_mostBlamed_0 (by decide) ?_
  refine r_istore_n (lv' := [(2, .int (nI (0))), (0, .ref (o)), (1, .int (x))]) dX7_mostBlamed_1 rfl (by decide) rfl ?_
  refine Wx.sub [1, 2, 0] rfl ?_
  refine Wx.loop (fun i => S) (fun i => [(0, .ref (o)), (1, .int (x)), (2, .int (nI (i)))]) (28) (0) (Nat.zero_le _) (fun i hge hle next => ?_)
  show Wx _ G (S) 2 [(0, .ref (o)), (1, .int (x)), (2, .int (nI (i)))] [] _
  have hbi : i < 28 → g (62 + i) ≤ N := fun q9 => hr.bb q9
  refine r_iload_n dX7_mostBlamed_2 rfl 2 rfl ?_
  refine r_aload_n dX7_mostBlamed_3 rfl 0 rfl ?_
  refine r_getR (ci := 9) (k := 3) (b := o + 4) dX7_mostBlamed_4 fr_X7_29 hx.1.1.1 rfl hx.1.1.2.1.2.2.2.1 ?_
  refine r_alen101 dX7_mostBlamed_7 hx.1.1.2.2.2.2.2.1.1 ?_
  refine Wx.top (congrArg nI hx.1.1.2.2.2.2.2.1.2) ?_
  refine r_icmp_geN (tgt := 46) dX7_mostBlamed_8 (by decide) (by omega) (by omega) (fun h8 => ?_) (fun h8 => ?_)
  · refine r_bipush (v := nI 4294967292) dX7_mostBlamed_46 (by decide) ?_
    exact r_iret (ty := .int) dX7_mostBlamed_48 rfl rfl ⟨congrArg (fun x => Sum.inl (some (Value.int x))) (by decide : nI 4294967292 = -4), rfl⟩
  · refine r_aload_n dX7_mostBlamed_11 rfl 0 rfl ?_
    refine r_getR (ci := 9) (k := 3) (b := o + 4) dX7_mostBlamed_12 fr_X7_29 hx.1.1.1 rfl hx.1.1.2.1.2.2.2.1 ?_
    refine r_iload_n dX7_mostBlamed_15 rfl 2 rfl ?_
    refine r_iald dX7_mostBlamed_16 hx.1.1.2.2.2.2.2.1.1 (by rw [show zN S (o + 4) = 28 from hx.1.1.2.2.2.2.2.1.2]; exact vp_in_nI (by omega) (by decide)) ?_
    refine Wx.top (congrArg (zA _ _) (nI_clamp (by omega))) ?_
    refine Wx.top (hx.1.b (j := i) (by omega)) ?_
    refine Wx.topN (hr.b (j := i) (by omega)) ?_
    refine r_if_leN (tgt := 40) dX7_mostBlamed_17 (by decide) (by omega) (fun h17 => ?_) (fun h17 => ?_)
    · refine r_iincN (k := 1) (lv' := [(2, .int (nI (i + 1))), (0, .ref (o)), (1, .int (x))]) dX7_mostBlamed_40 (by decide) 2 rfl (by decide) rfl ?_
      refine r_goto (tgt := 2) dX7_mostBlamed_43 (by decide) ?_
      refine Wx.sub [1, 2, 0] rfl ?_
      exact next (by omega)
    · refine r_aload_n dX7_mostBlamed_20 rfl 0 rfl ?_
      refine r_iload_n dX7_mostBlamed_21 rfl 2 rfl ?_
      refine r_fnV (M2 := m_X7_moreBlamedThan) (As := [.int (nI (i))]) (rest := []) (v := some (.int (nI (ahd g i)))) dX7_mostBlamed_22 cc_X7_mostBlamed_244 rfl rfl rfl (Nat.le_of_ble_eq_true rfl) hx.1.1.1 rfl rfl (by decide) (o_more hx.1 hr hal hNb (by omega)) rfl ?_
      refine r_iload_n dX7_mostBlamed_25 rfl 1 rfl ?_
      refine r_icmp_ne (tgt := 40) dX7_mostBlamed_26 (by decide) (fun h26 => ?_) (fun h26 => ?_)
      · refine r_iincN (k := 1) (lv' := [(2, .int (nI (i + 1))), (0, .ref (o)), (1, .int (x))]) dX7_mostBlamed_40 (by decide) 2 rfl (by decide) rfl ?_
        refine r_goto (tgt := 2) dX7_mostBlamed_43 (by decide) ?_
        refine Wx.sub [1, 2, 0] rfl ?_
        exact next (by omega)
      · exact absurd ⟨h17, h26⟩ (hno i (by omega))
