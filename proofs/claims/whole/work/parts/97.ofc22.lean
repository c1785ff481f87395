/-! REFUSALS -/
set_option maxRecDepth 4000 in
set_option maxHeartbeats 400000 in
theorem o_raw_1a {G : GI} {S : Hp} {w : Nat → Nat} {k o : Nat} {A c g : Nat → Nat} {N : Nat} (h : OR S w k o A c) (hr : Rel c g N) (hal : ∀ l, l < g 0 → A l ≠ 0) {x y z : Int32} (hno : ¬ vp_in x 6) : Fn m_X7_makeRaw G [.ref (o), .int (x), .int (y), .int (z)] S (some (.int (-1))) S := by
  refine Cn.of rfl (by decide) (Nat.le_of_ble_eq_true rfl) (fun hN hM => ?_)
  show Wx _ G _ 0 [(0, .ref (o)), (1, .int (x)), (2, .int (y)), (3, .int (z))] [] _
  have hx := OX.refl h
  have h24 := hr.n24
  refine r_aload_n dX7_makeRaw_0 rfl 0 rfl ?_
  refine r_iload_n dX7_makeRaw_1 rfl 1 rfl ?_
  refine r_fnV (M2 := m_X7_machineAt) (As := [.int (x)]) (rest := []) (v := some (.null)) dX7_makeRaw_2 cc_X7_makeRaw_82 rfl rfl rfl (Nat.le_of_ble_eq_true rfl) hx.1.1.1 rfl rfl (by decide) (k_machineAt_no hx.1.1 hno) rfl ?_
  refine r_astoreN (lv' := [(4, .null), (0, .ref (o)), (1, .int (x)), (2, .int (y)), (3, .int (z))]) dX7_makeRaw_5 (by decide) rfl ?_
  refine r_aloadN dX7_makeRaw_7 0 rfl ?_
  refine r_ifnullN (tgt := 20) dX7_makeRaw_9 (by decide) ?_
  refine r_iconst (v := nI 4294967295) dX7_makeRaw_20 (by decide) ?_
  exact r_iret (ty := .int) dX7_makeRaw_21 rfl rfl ⟨congrArg (fun x => Sum.inl (some (Value.int x))) nI_m1, rfl⟩
set_option maxRecDepth 4000 in
set_option maxHeartbeats 400000 in
theorem o_raw_1b {G : GI} {S : Hp} {w : Nat → Nat} {k o : Nat} {A c g : Nat → Nat} {N : Nat} (h : OR S w k o A c) (hr : Rel c g N) (hal : ∀ l, l < g 0 → A l ≠ 0) {a : Nat} (ha : a < 6) {y z : Int32} (hno : ¬ vp_in y 4) : Fn m_X7_makeRaw G [.ref (o), .int (nI (a)), .int (y), .int (z)] S (some (.int (-1))) S := by
  refine Cn.of rfl (by decide) (Nat.le_of_ble_eq_true rfl) (fun hN hM => ?_)
  show Wx _ G _ 0 [(0, .ref (o)), (1, .int (nI (a))), (2, .int (y)), (3, .int (z))] [] _
  have hx := OX.refl h
  have h24 := hr.n24
  refine r_aload_n dX7_makeRaw_0 rfl 0 rfl ?_
  refine r_iload_n dX7_makeRaw_1 rfl 1 rfl ?_
  refine r_fnV (M2 := m_X7_machineAt) (As := [.int (nI (a))]) (rest := []) (v := some (.ref (o + 6 + a))) dX7_makeRaw_2 cc_X7_makeRaw_82 rfl rfl rfl (Nat.le_of_ble_eq_true rfl) hx.1.1.1 rfl rfl (by decide) (k_machineAt hx.1.1 (by omega)) rfl ?_
  refine r_astore (lv' := [(4, .ref (o + 6 + a)), (0, .ref (o)), (1, .int (nI (a))), (2, .int (y)), (3, .int (z))]) dX7_makeRaw_5 (by decide) rfl ?_
  refine r_aload dX7_makeRaw_7 0 rfl ?_
  refine r_ifnull dX7_makeRaw_9 ?_
  refine r_aload_n dX7_makeRaw_12 rfl 1 rfl ?_
  refine r_iload_n dX7_makeRaw_13 rfl 3 rfl ?_
  refine r_fnV (M2 := m_X7_productAt) (As := [.int (y)]) (rest := []) (v := some (.null)) dX7_makeRaw_14 cc_X7_makeRaw_75 rfl rfl rfl (Nat.le_of_ble_eq_true rfl) hx.1.1.1 rfl rfl (by decide) (k_productAt_no hx.1.1 hno) rfl ?_
  refine r_ifnonnullN dX7_makeRaw_17 ?_
  refine r_iconst (v := nI 4294967295) dX7_makeRaw_20 (by decide) ?_
  exact r_iret (ty := .int) dX7_makeRaw_21 rfl rfl ⟨congrArg (fun x => Sum.inl (some (Value.int x))) nI_m1, rfl⟩
set_option maxRecDepth 4000 in
set_option maxHeartbeats 400000 in
theorem o_raw_2 {G : GI} {S : Hp} {w : Nat → Nat} {k o : Nat} {A c g : Nat → Nat} {N : Nat} (h : OR S w k o A c) (hr : Rel c g N) (hal : ∀ l, l < g 0 → A l ≠ 0) {a p : Nat} (ha : a < 6) (hp : p < 4) {z : Int32} (hz : ¬ (nI 1 ≤ z ∧ z ≤ nI 200)) : Fn m_X7_makeRaw G [.ref (o), .int (nI (a)), .int (nI (p)), .int (z)] S (some (.int (-2))) S := by
  refine Cn.of rfl (by decide) (Nat.le_of_ble_eq_true rfl) (fun hN hM => ?_)
  show Wx _ G _ 0 [(0, .ref (o)), (1, .int (nI (a))), (2, .int (nI (p))), (3, .int (z))] [] _
  have hx := OX.refl h
  have h24 := hr.n24
  refine r_aload_n dX7_makeRaw_0 rfl 0 rfl ?_
  refine r_iload_n dX7_makeRaw_1 rfl 1 rfl ?_
  refine r_fnV (M2 := m_X7_machineAt) (As := [.int (nI (a))]) (rest := []) (v := some (.ref (o + 6 + a))) dX7_makeRaw_2 cc_X7_makeRaw_82 rfl rfl rfl (Nat.le_of_ble_eq_true rfl) hx.1.1.1 rfl rfl (by decide) (k_machineAt hx.1.1 (by omega)) rfl ?_
  refine r_astore (lv' := [(4, .ref (o + 6 + a)), (0, .ref (o)), (1, .int (nI (a))), (2, .int (nI (p))), (3, .int (z))]) dX7_makeRaw_5 (by decide) rfl ?_
  refine r_aload dX7_makeRaw_7 0 rfl ?_
  refine r_ifnull dX7_makeRaw_9 ?_
  refine r_aload_n dX7_makeRaw_12 rfl 1 rfl ?_
  refine r_iload_n dX7_makeRaw_13 rfl 3 rfl ?_
  refine r_fnV (M2 := m_X7_productAt) (As := [.int (nI (p))]) (rest := []) (v := some (.ref (o + 12 + p))) dX7_makeRaw_14 cc_X7_makeRaw_75 rfl rfl rfl (Nat.le_of_ble_eq_true rfl) hx.1.1.1 rfl rfl (by decide) (k_productAt hx.1.1 (by omega)) rfl ?_
  refine r_ifnonnull (tgt := 22) dX7_makeRaw_17 (by decide) ?_
  refine r_iload_n dX7_makeRaw_22 rfl 4 rfl ?_
  refine r_iconst (v := nI 1) dX7_makeRaw_23 (by decide) ?_
  refine r_icmp_lt (tgt := 34) dX7_makeRaw_24 (by decide) (fun h24 => ?_) (fun h24 => ?_)
  · refine r_bipush (v := nI 4294967294) dX7_makeRaw_34 (by decide) ?_
    exact r_iret (ty := .int) dX7_makeRaw_36 rfl rfl ⟨congrArg (fun x => Sum.inl (some (Value.int x))) (by decide : nI 4294967294 = -2), rfl⟩
  · refine r_iload_n dX7_makeRaw_27 rfl 4 rfl ?_
    refine r_sipush (v := nI 200) dX7_makeRaw_28 (by decide) ?_
    refine r_icmp_le (tgt := 37) dX7_makeRaw_31 (by decide) (fun h31 => ?_) (fun h31 => ?_)
    · exact absurd ⟨Int32.not_lt.mp h24, h31⟩ hz
    · refine r_bipush (v := nI 4294967294) dX7_makeRaw_34 (by decide) ?_
      exact r_iret (ty := .int) dX7_makeRaw_36 rfl rfl ⟨congrArg (fun x => Sum.inl (some (Value.int x))) (by decide : nI 4294967294 = -2), rfl⟩
set_option maxRecDepth 4000 in
set_option maxHeartbeats 400000 in
theorem o_raw_3 {G : GI} {S : Hp} {w : Nat → Nat} {k o : Nat} {A c g : Nat → Nat} {N : Nat} (h : OR S w k o A c) (hr : Rel c g N) (hal : ∀ l, l < g 0 → A l ≠ 0) {a p n : Nat} (ha : a < 6) (hp : p < 4) (hn0 : 0 < n) (hn : n ≤ 200) (h0 : g 0 = 24) : Fn m_X7_makeRaw G [.ref (o), .int (nI (a)), .int (nI (p)), .int (nI (n))] S (some (.int (-3))) S := by
  refine Cn.of rfl (by decide) (Nat.le_of_ble_eq_true rfl) (fun hN hM => ?_)
  show Wx _ G _ 0 [(0, .ref (o)), (1, .int (nI (a))), (2, .int (nI (p))), (3, .int (nI (n)))] [] _
  have hx := OX.refl h
  have h24 := hr.n24
  refine r_aload_n dX7_makeRaw_0 rfl 0 rfl ?_
  refine r_iload_n dX7_makeRaw_1 rfl 1 rfl ?_
  refine r_fnV (M2 := m_X7_machineAt) (As := [.int (nI (a))]) (rest := []) (v := some (.ref (o + 6 + a))) dX7_makeRaw_2 cc_X7_makeRaw_82 rfl rfl rfl (Nat.le_of_ble_eq_true rfl) hx.1.1.1 rfl rfl (by decide) (k_machineAt hx.1.1 (by omega)) rfl ?_
  refine r_astore (lv' := [(4, .ref (o + 6 + a)), (0, .ref (o)), (1, .int (nI (a))), (2, .int (nI (p))), (3, .int (nI (n)))]) dX7_makeRaw_5 (by decide) rfl ?_
  refine r_aload dX7_makeRaw_7 0 rfl ?_
  refine r_ifnull dX7_makeRaw_9 ?_
  refine r_aload_n dX7_makeRaw_12 rfl 1 rfl ?_
  refine r_iload_n dX7_makeRaw_13 rfl 3 rfl ?_
  refine r_fnV (M2 := m_X7_productAt) (As := [.int (nI (p))]) (rest := []) (v := some (.ref (o + 12 + p))) dX7_makeRaw_14 cc_X7_makeRaw_75 rfl rfl rfl (Nat.le_of_ble_eq_true rfl) hx.1.1.1 rfl rfl (by decide) (k_productAt hx.1.1 (by omega)) rfl ?_
  refine r_ifnonnull (tgt := 22) dX7_makeRaw_17 (by decide) ?_
  refine r_iload_n dX7_makeRaw_22 rfl 4 rfl ?_
  refine r_iconst (v := nI 1) dX7_makeRaw_23 (by decide) ?_
  refine r_icmp_ltN (tgt := 34) dX7_makeRaw_24 (by decide) (by omega) (by omega) (fun h24 => ?_) (fun h24 => ?_)
  · exact absurd h24 (by omega)
  · refine r_iload_n dX7_makeRaw_27 rfl 4 rfl ?_
    refine r_sipush (v := nI 200) dX7_makeRaw_28 (by decide) ?_
    refine r_icmp_leN (tgt := 37) dX7_makeRaw_31 (by decide) (by omega) (by omega) (fun h31 => ?_) (fun h31 => ?_)
    · refine r_aload_n dX7_makeRaw_37 rfl 1 rfl ?_
      refine r_getI (ci := 9) (k := 5) dX7_makeRaw_38 fr_X7_49 hx.1.1.1 rfl ?_
      refine Wx.top hx.1.o0 ?_
      refine Wx.topN hr.c0 ?_
      refine r_aload_n dX7_makeRaw_41 rfl 1 rfl ?_
      refine r_getR (ci := 9) (k := 2) (b := o + 3) dX7_makeRaw_42 fr_X7_25 hx.1.1.1 rfl hx.1.1.2.1.2.2.1 ?_
      refine r_alenQ dX7_makeRaw_45 hx.1.1.2.2.2.2.1.1 (by decide) (by decide) ?_
      refine Wx.top (congrArg nI hx.1.1.2.2.2.2.1.2) ?_
      refine r_icmp_ltN (tgt := 52) dX7_makeRaw_46 (by decide) (by omega) (by omega) (fun h46 => ?_) (fun h46 => ?_)
      · exact absurd h46 (by omega)
      · refine r_bipush (v := nI 4294967293) dX7_makeRaw_49 (by decide) ?_
        exact r_iret (ty := .int) dX7_makeRaw_51 rfl rfl ⟨congrArg (fun x => Sum.inl (some (Value.int x))) (by decide : nI 4294967293 = -3), rfl⟩
    · exact absurd h31 (by omega)
set_option maxRecDepth 4000 in
set_option maxHeartbeats 400000 in
theorem o_complain_1a {G : GI} {S : Hp} {w : Nat → Nat} {k o : Nat} {A c g : Nat → Nat} {N : Nat} (h : OR S w k o A c) (hr : Rel c g N) (hal : ∀ l, l < g 0 → A l ≠ 0) {x y : Int32} (hno : ¬ vp_in x (g 0)) : Fn m_X7_putDownComplaint G [.ref (o), .int (x), .int (y)] S (some (.int (-1))) S := by
  refine Cn.of rfl (by decide) (Nat.le_of_ble_eq_true rfl) (fun hN hM => ?_)
  show Wx _ G _ 0 [(0, .ref (o)), (1, .int (x)), (2, .int (y))] [] _
  have hx := OX.refl h
  have h24 := hr.n24
  refine r_aload_n dX7_putDownComplaint_0 rfl 0 rfl ?_
  refine r_iload_n dX7_putDownComplaint_1 rfl 1 rfl ?_
  refine r_fnV (M2 := m_X7_lotAt) (As := [.int (x)]) (rest := []) (v := some (.null)) dX7_putDownComplaint_2 cc_X7_putDownComplaint_105 rfl rfl rfl (Nat.le_of_ble_eq_true rfl) hx.1.1.1 rfl rfl (by decide) (o_lotAt_no hx.1 hr hal hno) rfl ?_
  refine r_astore_nN (lv' := [(3, .null), (0, .ref (o)), (1, .int (x)), (2, .int (y))]) dX7_putDownComplaint_5 rfl (by decide) rfl ?_
  refine r_aload_nN dX7_putDownComplaint_6 rfl 0 rfl ?_
  refine r_ifnullN (tgt := 18) dX7_putDownComplaint_7 (by decide) ?_
  refine r_iconst (v := nI 4294967295) dX7_putDownComplaint_18 (by decide) ?_
  exact r_iret (ty := .int) dX7_putDownComplaint_19 rfl rfl ⟨congrArg (fun x => Sum.inl (some (Value.int x))) nI_m1, rfl⟩
set_option maxRecDepth 4000 in
set_option maxHeartbeats 400000 in
theorem o_complain_1b {G : GI} {S : Hp} {w : Nat → Nat} {k o : Nat} {A c g : Nat → Nat} {N : Nat} (h : OR S w k o A c) (hr : Rel c g N) (hal : ∀ l, l < g 0 → A l ≠ 0) {l : Nat} (hl : l < g 0) {y : Int32} (hno : ¬ vp_in y (g (90 + 13 * l + 1))) : Fn m_X7_putDownComplaint G [.ref (o), .int (nI (l)), .int (y)] S (some (.int (-1))) S := by
  refine Cn.of rfl (by decide) (Nat.le_of_ble_eq_true rfl) (fun hN hM => ?_)
  show Wx _ G _ 0 [(0, .ref (o)), (1, .int (nI (l))), (2, .int (y))] [] _
  have hx := OX.refl h
  have h24 := hr.n24
  have hl24 : l < 24 := by omega
  have hAl := hal l hl
  have hL := hr.lot hl
  have hz := hL.z
  refine r_aload_n dX7_putDownComplaint_0 rfl 0 rfl ?_
  refine r_iload_n dX7_putDownComplaint_1 rfl 1 rfl ?_
  refine r_fnV (M2 := m_X7_lotAt) (As := [.int (nI (l))]) (rest := []) (v := some (.ref (A l))) dX7_putDownComplaint_2 cc_X7_putDownComplaint_105 rfl rfl rfl (Nat.le_of_ble_eq_true rfl) hx.1.1.1 rfl rfl (by decide) (o_lotAt hx.1 hr hal (l := l) (by omega)) rfl ?_
  refine r_astore_n (lv' := [(3, .ref (A l)), (0, .ref (o)), (1, .int (nI (l))), (2, .int (y))]) dX7_putDownComplaint_5 rfl (by decide) rfl ?_
  refine r_aload_n dX7_putDownComplaint_6 rfl 0 rfl ?_
  refine r_ifnull dX7_putDownComplaint_7 ?_
  refine r_aload_n dX7_putDownComplaint_10 rfl 0 rfl ?_
  refine r_iload_n dX7_putDownComplaint_11 rfl 3 rfl ?_
  refine r_fnV (M2 := m_X5_has) (As := [.int (y)]) (rest := []) (v := some (.int (nI (0)))) dX7_putDownComplaint_12 cc_X7_putDownComplaint_213 rfl rfl rfl (Nat.le_of_ble_eq_true rfl) (hx.1.lo hl24 hAl).2.1 rfl rfl (by decide) (k_has_0 (hx.1.lo hl24 hAl).2 ((hx.1.l2 hl24 hAl).trans (congrArg nI (hL.h (f := 1) (by decide)))) hz hno) rfl ?_
  refine r_if_neN (tgt := 20) dX7_putDownComplaint_15 (by decide) (by omega) (fun zz15 => ?_) (fun zz15 => ?_)
  · exact absurd zz15 (by decide)
  · refine r_iconst (v := nI 4294967295) dX7_putDownComplaint_18 (by decide) ?_
    exact r_iret (ty := .int) dX7_putDownComplaint_19 rfl rfl ⟨congrArg (fun x => Sum.inl (some (Value.int x))) nI_m1, rfl⟩
set_option maxRecDepth 4000 in
set_option maxHeartbeats 400000 in
theorem o_complain_2 {G : GI} {S : Hp} {w : Nat → Nat} {k o : Nat} {A c g : Nat → Nat} {N : Nat} (h : OR S w k o A c) (hr : Rel c g N) (hal : ∀ l, l < g 0 → A l ≠ 0) {l : Nat} (hl : l < g 0) {u : Nat} (hu : u < g (90 + 13 * l + 1)) (hok : (¬ sW (g (402 + 2 * (200 * l + u))) = 4 ∨ g (402 + 2 * (200 * l + u)) / 2 ^ 9 % 2 = 1)) : Fn m_X7_putDownComplaint G [.ref (o), .int (nI (l)), .int (nI (u))] S (some (.int (-3))) S := by
  refine Cn.of rfl (by decide) (Nat.le_of_ble_eq_true rfl) (fun hN hM => ?_)
  show Wx _ G _ 0 [(0, .ref (o)), (1, .int (nI (l))), (2, .int (nI (u)))] [] _
  have hx := OX.refl h
  have h24 := hr.n24
  have hl24 : l < 24 := by omega
  have hAl := hal l hl
  have hL := hr.lot hl
  have hz := hL.z
  refine r_aload_n dX7_putDownComplaint_0 rfl 0 rfl ?_
  refine r_iload_n dX7_putDownComplaint_1 rfl 1 rfl ?_
  refine r_fnV (M2 := m_X7_lotAt) (As := [.int (nI (l))]) (rest := []) (v := some (.ref (A l))) dX7_putDownComplaint_2 cc_X7_putDownComplaint_105 rfl rfl rfl (Nat.le_of_ble_eq_true rfl) hx.1.1.1 rfl rfl (by decide) (o_lotAt hx.1 hr hal (l := l) (by (first | omega | (have := sW_lt (g (402 + 2 * (200 * l + u))); have := fld_lt 9 1 (g (402 + 2 * (200 * l + u))); omega)))) rfl ?_
  refine r_astore_n (lv' := [(3, .ref (A l)), (0, .ref (o)), (1, .int (nI (l))), (2, .int (nI (u)))]) dX7_putDownComplaint_5 rfl (by decide) rfl ?_
  refine r_aload_n dX7_putDownComplaint_6 rfl 0 rfl ?_
  refine r_ifnull dX7_putDownComplaint_7 ?_
  refine r_aload_n dX7_putDownComplaint_10 rfl 0 rfl ?_
  refine r_iload_n dX7_putDownComplaint_11 rfl 3 rfl ?_
  refine r_fnV (M2 := m_X5_has) (As := [.int (nI (u))]) (rest := []) (v := some (.int (nI (1)))) dX7_putDownComplaint_12 cc_X7_putDownComplaint_213 rfl rfl rfl (Nat.le_of_ble_eq_true rfl) (hx.1.lo hl24 hAl).2.1 rfl rfl (by decide) (o_has hx.1 hr hal (l := l) (by (first | omega | (have := sW_lt (g (402 + 2 * (200 * l + u))); have := fld_lt 9 1 (g (402 + 2 * (200 * l + u))); omega))) (by (first | omega | (have := sW_lt (g (402 + 2 * (200 * l + u))); have := fld_lt 9 1 (g (402 + 2 * (200 * l + u))); omega)))) rfl ?_
  refine r_if_neN (tgt := 20) dX7_putDownComplaint_15 (by decide) (by (first | omega | (have := sW_lt (g (402 + 2 * (200 * l + u))); have := fld_lt 9 1 (g (402 + 2 * (200 * l + u))); omega))) (fun zz15 => ?_) (fun zz15 => ?_)
  · refine r_aload_n dX7_putDownComplaint_20 rfl 0 rfl ?_
    refine r_getR (ci := 7) (k := 11) (b := A l + 2) dX7_putDownComplaint_21 fr_X7_137 (hx.1.lo hl24 hAl).2.1 rfl (hx.1.lo hl24 hAl).2.2.1.2.1 ?_
    refine r_iload_n dX7_putDownComplaint_24 rfl 3 rfl ?_
    refine r_iald dX7_putDownComplaint_25 (hx.1.lo hl24 hAl).2.2.2.2.1.1 (by rw [show zN S (A l + 2) = 200 from (hx.1.lo hl24 hAl).2.2.2.2.1.2]; exact vp_in_nI (by (first | omega | (have := sW_lt (g (402 + 2 * (200 * l + u))); have := fld_lt 9 1 (g (402 + 2 * (200 * l + u))); omega))) (by decide)) ?_
    refine Wx.top (congrArg (zA _ _) (nI_clamp (by (first | omega | (have := sW_lt (g (402 + 2 * (200 * l + u))); have := fld_lt 9 1 (g (402 + 2 * (200 * l + u))); omega))))) ?_
    refine Wx.top (hx.1.u0 (u := u) hl24 hAl (by (first | omega | (have := sW_lt (g (402 + 2 * (200 * l + u))); have := fld_lt 9 1 (g (402 + 2 * (200 * l + u))); omega)))) ?_
    refine Wx.topN (hL.u0 (u := u) (by (first | omega | (have := sW_lt (g (402 + 2 * (200 * l + u))); have := fld_lt 9 1 (g (402 + 2 * (200 * l + u))); omega)))) ?_
    refine r_iconst (v := nI 4) dX7_putDownComplaint_26 (by decide) ?_
    refine r_icmp_neN (tgt := 39) dX7_putDownComplaint_27 (by decide) (by (first | omega | (have := sW_lt (g (402 + 2 * (200 * l + u))); have := fld_lt 9 1 (g (402 + 2 * (200 * l + u))); omega))) (by (first | omega | (have := sW_lt (g (402 + 2 * (200 * l + u))); have := fld_lt 9 1 (g (402 + 2 * (200 * l + u))); omega))) (fun h27 => ?_) (fun h27 => ?_)
    · refine r_bipush (v := nI 4294967293) dX7_putDownComplaint_39 (by decide) ?_
      exact r_iret (ty := .int) dX7_putDownComplaint_41 rfl rfl ⟨congrArg (fun x => Sum.inl (some (Value.int x))) (by decide : nI 4294967293 = -3), rfl⟩
    · refine r_aload_n dX7_putDownComplaint_30 rfl 0 rfl ?_
      refine r_getR (ci := 7) (k := 16) (b := A l + 7) dX7_putDownComplaint_31 fr_X7_217 (hx.1.lo hl24 hAl).2.1 rfl (hx.1.lo hl24 hAl).2.2.1.2.2.2.2.2.2 ?_
      refine r_iload_n dX7_putDownComplaint_34 rfl 3 rfl ?_
      refine r_iald dX7_putDownComplaint_35 (hx.1.lo hl24 hAl).2.2.2.2.2.2.2.2.2.1 (by rw [show zN S (A l + 7) = 200 from (hx.1.lo hl24 hAl).2.2.2.2.2.2.2.2.2.2]; exact vp_in_nI (by (first | omega | (have := sW_lt (g (402 + 2 * (200 * l + u))); have := fld_lt 9 1 (g (402 + 2 * (200 * l + u))); omega))) (by decide)) ?_
      refine Wx.top (congrArg (zA _ _) (nI_clamp (by (first | omega | (have := sW_lt (g (402 + 2 * (200 * l + u))); have := fld_lt 9 1 (g (402 + 2 * (200 * l + u))); omega))))) ?_
      refine Wx.top (hx.1.u5 (u := u) hl24 hAl (by (first | omega | (have := sW_lt (g (402 + 2 * (200 * l + u))); have := fld_lt 9 1 (g (402 + 2 * (200 * l + u))); omega)))) ?_
      refine Wx.topN (hL.u5 (u := u) (by (first | omega | (have := sW_lt (g (402 + 2 * (200 * l + u))); have := fld_lt 9 1 (g (402 + 2 * (200 * l + u))); omega)))) ?_
      refine r_if_eqN (tgt := 42) dX7_putDownComplaint_36 (by decide) (by (first | omega | (have := sW_lt (g (402 + 2 * (200 * l + u))); have := fld_lt 9 1 (g (402 + 2 * (200 * l + u))); omega))) (fun h36 => ?_) (fun h36 => ?_)
      · exact absurd hok (fun q9 => q9.elim (fun q => q h27) (fun q => absurd (show fld 9 1 (g (402 + 2 * (200 * l + u))) = 1 from q) (by rw [h36]; decide)))
      · refine r_bipush (v := nI 4294967293) dX7_putDownComplaint_39 (by decide) ?_
        exact r_iret (ty := .int) dX7_putDownComplaint_41 rfl rfl ⟨congrArg (fun x => Sum.inl (some (Value.int x))) (by decide : nI 4294967293 = -3), rfl⟩
  · exact absurd zz15 (by decide)
set_option maxRecDepth 4000 in
set_option maxHeartbeats 400000 in
theorem o_complain_3 {G : GI} {S : Hp} {w : Nat → Nat} {k o : Nat} {A c g : Nat → Nat} {N : Nat} (h : OR S w k o A c) (hr : Rel c g N) (hal : ∀ l, l < g 0 → A l ≠ 0) {l : Nat} (hl : l < g 0) {u : Nat} (hu : u < g (90 + 13 * l + 1)) (hok : ¬ (¬ sW (g (402 + 2 * (200 * l + u))) = 4 ∨ g (402 + 2 * (200 * l + u)) / 2 ^ 9 % 2 = 1)) (hd : g (402 + 2 * (200 * l + u)) % 16 = 0) : Fn m_X7_putDownComplaint G [.ref (o), .int (nI (l)), .int (nI (u))] S (some (.int (-4))) S := by
  refine Cn.of rfl (by decide) (Nat.le_of_ble_eq_true rfl) (fun hN hM => ?_)
  show Wx _ G _ 0 [(0, .ref (o)), (1, .int (nI (l))), (2, .int (nI (u)))] [] _
  have hx := OX.refl h
  have h24 := hr.n24
  have hl24 : l < 24 := by omega
  have hAl := hal l hl
  have hL := hr.lot hl
  have hz := hL.z
  refine r_aload_n dX7_putDownComplaint_0 rfl 0 rfl ?_
  refine r_iload_n dX7_putDownComplaint_1 rfl 1 rfl ?_
  refine r_fnV (M2 := m_X7_lotAt) (As := [.int (nI (l))]) (rest := []) (v := some (.ref (A l))) dX7_putDownComplaint_2 cc_X7_putDownComplaint_105 rfl rfl rfl (Nat.le_of_ble_eq_true rfl) hx.1.1.1 rfl rfl (by decide) (o_lotAt hx.1 hr hal (l := l) (by (first | omega | (have := sW_lt (g (402 + 2 * (200 * l + u))); have := fld_lt 9 1 (g (402 + 2 * (200 * l + u))); omega)))) rfl ?_
  refine r_astore_n (lv' := [(3, .ref (A l)), (0, .ref (o)), (1, .int (nI (l))), (2, .int (nI (u)))]) dX7_putDownComplaint_5 rfl (by decide) rfl ?_
  refine r_aload_n dX7_putDownComplaint_6 rfl 0 rfl ?_
  refine r_ifnull dX7_putDownComplaint_7 ?_
  refine r_aload_n dX7_putDownComplaint_10 rfl 0 rfl ?_
  refine r_iload_n dX7_putDownComplaint_11 rfl 3 rfl ?_
  refine r_fnV (M2 := m_X5_has) (As := [.int (nI (u))]) (rest := []) (v := some (.int (nI (1)))) dX7_putDownComplaint_12 cc_X7_putDownComplaint_213 rfl rfl rfl (Nat.le_of_ble_eq_true rfl) (hx.1.lo hl24 hAl).2.1 rfl rfl (by decide) (o_has hx.1 hr hal (l := l) (by (first | omega | (have := sW_lt (g (402 + 2 * (200 * l + u))); have := fld_lt 9 1 (g (402 + 2 * (200 * l + u))); omega))) (by (first | omega | (have := sW_lt (g (402 + 2 * (200 * l + u))); have := fld_lt 9 1 (g (402 + 2 * (200 * l + u))); omega)))) rfl ?_
  refine r_if_neN (tgt := 20) dX7_putDownComplaint_15 (by decide) (by (first | omega | (have := sW_lt (g (402 + 2 * (200 * l + u))); have := fld_lt 9 1 (g (402 + 2 * (200 * l + u))); omega))) (fun zz15 => ?_) (fun zz15 => ?_)
  · refine r_aload_n dX7_putDownComplaint_20 rfl 0 rfl ?_
    refine r_getR (ci := 7) (k := 11) (b := A l + 2) dX7_putDownComplaint_21 fr_X7_137 (hx.1.lo hl24 hAl).2.1 rfl (hx.1.lo hl24 hAl).2.2.1.2.1 ?_
    refine r_iload_n dX7_putDownComplaint_24 rfl 3 rfl ?_
    refine r_iald dX7_putDownComplaint_25 (hx.1.lo hl24 hAl).2.2.2.2.1.1 (by rw [show zN S (A l + 2) = 200 from (hx.1.lo hl24 hAl).2.2.2.2.1.2]; exact vp_in_nI (by (first | omega | (have := sW_lt (g (402 + 2 * (200 * l + u))); have := fld_lt 9 1 (g (402 + 2 * (200 * l + u))); omega))) (by decide)) ?_
    refine Wx.top (congrArg (zA _ _) (nI_clamp (by (first | omega | (have := sW_lt (g (402 + 2 * (200 * l + u))); have := fld_lt 9 1 (g (402 + 2 * (200 * l + u))); omega))))) ?_
    refine Wx.top (hx.1.u0 (u := u) hl24 hAl (by (first | omega | (have := sW_lt (g (402 + 2 * (200 * l + u))); have := fld_lt 9 1 (g (402 + 2 * (200 * l + u))); omega)))) ?_
    refine Wx.topN (hL.u0 (u := u) (by (first | omega | (have := sW_lt (g (402 + 2 * (200 * l + u))); have := fld_lt 9 1 (g (402 + 2 * (200 * l + u))); omega)))) ?_
    refine r_iconst (v := nI 4) dX7_putDownComplaint_26 (by decide) ?_
    refine r_icmp_neN (tgt := 39) dX7_putDownComplaint_27 (by decide) (by (first | omega | (have := sW_lt (g (402 + 2 * (200 * l + u))); have := fld_lt 9 1 (g (402 + 2 * (200 * l + u))); omega))) (by (first | omega | (have := sW_lt (g (402 + 2 * (200 * l + u))); have := fld_lt 9 1 (g (402 + 2 * (200 * l + u))); omega))) (fun h27 => ?_) (fun h27 => ?_)
    · exact absurd (Or.inl h27) hok
    · refine r_aload_n dX7_putDownComplaint_30 rfl 0 rfl ?_
      refine r_getR (ci := 7) (k := 16) (b := A l + 7) dX7_putDownComplaint_31 fr_X7_217 (hx.1.lo hl24 hAl).2.1 rfl (hx.1.lo hl24 hAl).2.2.1.2.2.2.2.2.2 ?_
      refine r_iload_n dX7_putDownComplaint_34 rfl 3 rfl ?_
      refine r_iald dX7_putDownComplaint_35 (hx.1.lo hl24 hAl).2.2.2.2.2.2.2.2.2.1 (by rw [show zN S (A l + 7) = 200 from (hx.1.lo hl24 hAl).2.2.2.2.2.2.2.2.2.2]; exact vp_in_nI (by (first | omega | (have := sW_lt (g (402 + 2 * (200 * l + u))); have := fld_lt 9 1 (g (402 + 2 * (200 * l + u))); omega))) (by decide)) ?_
      refine Wx.top (congrArg (zA _ _) (nI_clamp (by (first | omega | (have := sW_lt (g (402 + 2 * (200 * l + u))); have := fld_lt 9 1 (g (402 + 2 * (200 * l + u))); omega))))) ?_
      refine Wx.top (hx.1.u5 (u := u) hl24 hAl (by (first | omega | (have := sW_lt (g (402 + 2 * (200 * l + u))); have := fld_lt 9 1 (g (402 + 2 * (200 * l + u))); omega)))) ?_
      refine Wx.topN (hL.u5 (u := u) (by (first | omega | (have := sW_lt (g (402 + 2 * (200 * l + u))); have := fld_lt 9 1 (g (402 + 2 * (200 * l + u))); omega)))) ?_
      refine r_if_eqN (tgt := 42) dX7_putDownComplaint_36 (by decide) (by (first | omega | (have := sW_lt (g (402 + 2 * (200 * l + u))); have := fld_lt 9 1 (g (402 + 2 * (200 * l + u))); omega))) (fun h36 => ?_) (fun h36 => ?_)
      · refine r_aload_n dX7_putDownComplaint_42 rfl 0 rfl ?_
        refine r_getR (ci := 7) (k := 12) (b := A l + 3) dX7_putDownComplaint_43 fr_X7_147 (hx.1.lo hl24 hAl).2.1 rfl (hx.1.lo hl24 hAl).2.2.1.2.2.1 ?_
        refine r_iload_n dX7_putDownComplaint_46 rfl 3 rfl ?_
        refine r_iald dX7_putDownComplaint_47 (hx.1.lo hl24 hAl).2.2.2.2.2.1.1 (by rw [show zN S (A l + 3) = 200 from (hx.1.lo hl24 hAl).2.2.2.2.2.1.2]; exact vp_in_nI (by (first | omega | (have := sW_lt (g (402 + 2 * (200 * l + u))); have := fld_lt 9 1 (g (402 + 2 * (200 * l + u))); omega))) (by decide)) ?_
        refine Wx.top (congrArg (zA _ _) (nI_clamp (by (first | omega | (have := sW_lt (g (402 + 2 * (200 * l + u))); have := fld_lt 9 1 (g (402 + 2 * (200 * l + u))); omega))))) ?_
        refine Wx.top (hx.1.u1 (u := u) hl24 hAl (by (first | omega | (have := sW_lt (g (402 + 2 * (200 * l + u))); have := fld_lt 9 1 (g (402 + 2 * (200 * l + u))); omega)))) ?_
        refine Wx.topN (hL.u1 (u := u) (by (first | omega | (have := sW_lt (g (402 + 2 * (200 * l + u))); have := fld_lt 9 1 (g (402 + 2 * (200 * l + u))); omega)))) ?_
        refine r_if_neN (tgt := 54) dX7_putDownComplaint_48 (by decide) (by (first | omega | (have := sW_lt (g (402 + 2 * (200 * l + u))); have := fld_lt 9 1 (g (402 + 2 * (200 * l + u))); omega))) (fun h48 => ?_) (fun h48 => ?_)
        · exact absurd hd h48
        · refine r_bipush (v := nI 4294967292) dX7_putDownComplaint_51 (by decide) ?_
          exact r_iret (ty := .int) dX7_putDownComplaint_53 rfl rfl ⟨congrArg (fun x => Sum.inl (some (Value.int x))) (by decide : nI 4294967292 = -4), rfl⟩
      · exact absurd (Or.inr (show fld 9 1 (g (402 + 2 * (200 * l + u))) = 1 by have := fld_lt 9 1 (g (402 + 2 * (200 * l + u))); omega)) hok
  · exact absurd zz15 (by decide)
