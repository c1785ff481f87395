/-! REFUSALS of assemble -/
set_option maxRecDepth 4000 in
set_option maxHeartbeats 400000 in
theorem o_asm_1a {G : GI} {S : Hp} {w : Nat → Nat} {k o : Nat} {A c g : Nat → Nat} {N : Nat} (h : OR S w k o A c) (hr : Rel c g N) (hal : ∀ l, l < g 0 → A l ≠ 0) {x0 x1 x2 x3 x4 x5 : Int32} (hno : ¬ vp_in x0 6) : Fn m_X7_assemble G [.ref (o), .int (x0), .int (x1), .int (x2), .int (x3), .int (x4), .int (x5)] S (some (.int (-1))) S := by
  refine Cn.of rfl (by decide) (Nat.le_of_ble_eq_true rfl) (fun hN hM => ?_)
  show Wx _ G _ 0 [(0, .ref (o)), (1, .int (x0)), (2, .int (x1)), (3, .int (x2)), (4, .int (x3)), (5, .int (x4)), (6, .int (x5))] [] _
  have hx := OX.refl h
  have h24 := hr.n24
  refine r_aload_n dX7_assemble_0 rfl 0 rfl ?_
  refine r_iload_n dX7_assemble_1 rfl 1 rfl ?_
  refine r_fnV (M2 := m_X7_machineAt) (As := [.int (x0)]) (rest := []) (v := some (.null)) dX7_assemble_2 cc_X7_assemble_82 rfl rfl rfl (Nat.le_of_ble_eq_true rfl) hx.1.1.1 rfl rfl (by decide) (k_machineAt_no hx.1.1 hno) rfl ?_
  refine r_astoreN (lv' := [(7, .null), (0, .ref (o)), (1, .int (x0)), (2, .int (x1)), (3, .int (x2)), (4, .int (x3)), (5, .int (x4)), (6, .int (x5))]) dX7_assemble_5 (by decide) rfl ?_
  refine r_aloadN dX7_assemble_7 0 rfl ?_
  refine r_ifnullN (tgt := 59) dX7_assemble_9 (by decide) ?_
  refine r_iconst (v := nI 4294967295) dX7_assemble_59 (by decide) ?_
  exact r_iret (ty := .int) dX7_assemble_60 rfl rfl ⟨congrArg (fun x => Sum.inl (some (Value.int x))) nI_m1, rfl⟩
set_option maxRecDepth 4000 in
set_option maxHeartbeats 400000 in
theorem o_asm_1b {G : GI} {S : Hp} {w : Nat → Nat} {k o : Nat} {A c g : Nat → Nat} {N : Nat} (h : OR S w k o A c) (hr : Rel c g N) (hal : ∀ l, l < g 0 → A l ≠ 0) {x1 x2 x3 x4 x5 : Int32} {a : Nat} (ha : a < 6) (hno : ¬ vp_in x1 4) : Fn m_X7_assemble G [.ref (o), .int (nI (a)), .int (x1), .int (x2), .int (x3), .int (x4), .int (x5)] S (some (.int (-1))) S := by
  refine Cn.of rfl (by decide) (Nat.le_of_ble_eq_true rfl) (fun hN hM => ?_)
  show Wx _ G _ 0 [(0, .ref (o)), (1, .int (nI (a))), (2, .int (x1)), (3, .int (x2)), (4, .int (x3)), (5, .int (x4)), (6, .int (x5))] [] _
  have hx := OX.refl h
  have h24 := hr.n24
  refine r_aload_n dX7_assemble_0 rfl 0 rfl ?_
  refine r_iload_n dX7_assemble_1 rfl 1 rfl ?_
  refine r_fnV (M2 := m_X7_machineAt) (As := [.int (nI (a))]) (rest := []) (v := some (.ref (o + 6 + a))) dX7_assemble_2 cc_X7_assemble_82 rfl rfl rfl (Nat.le_of_ble_eq_true rfl) hx.1.1.1 rfl rfl (by decide) (k_machineAt hx.1.1 (by omega)) rfl ?_
  refine r_astore (lv' := [(7, .ref (o + 6 + a)), (0, .ref (o)), (1, .int (nI (a))), (2, .int (x1)), (3, .int (x2)), (4, .int (x3)), (5, .int (x4)), (6, .int (x5))]) dX7_assemble_5 (by decide) rfl ?_
  refine r_aload dX7_assemble_7 0 rfl ?_
  refine r_ifnull dX7_assemble_9 ?_
  refine r_aload_n dX7_assemble_12 rfl 1 rfl ?_
  refine r_iload_n dX7_assemble_13 rfl 3 rfl ?_
  refine r_fnV (M2 := m_X7_productAt) (As := [.int (x1)]) (rest := []) (v := some (.null)) dX7_assemble_14 cc_X7_assemble_75 rfl rfl rfl (Nat.le_of_ble_eq_true rfl) hx.1.1.1 rfl rfl (by decide) (k_productAt_no hx.1.1 hno) rfl ?_
  refine r_ifnullN (tgt := 59) dX7_assemble_17 (by decide) ?_
  refine r_iconst (v := nI 4294967295) dX7_assemble_59 (by decide) ?_
  exact r_iret (ty := .int) dX7_assemble_60 rfl rfl ⟨congrArg (fun x => Sum.inl (some (Value.int x))) nI_m1, rfl⟩
set_option maxRecDepth 4000 in
set_option maxHeartbeats 400000 in
theorem o_asm_1c {G : GI} {S : Hp} {w : Nat → Nat} {k o : Nat} {A c g : Nat → Nat} {N : Nat} (h : OR S w k o A c) (hr : Rel c g N) (hal : ∀ l, l < g 0 → A l ≠ 0) {a p : Nat} (ha : a < 6) (hp : p < 4) {x2 x3 x4 x5 : Int32} (hno : ¬ vp_in x3 (g 0)) : Fn m_X7_assemble G [.ref (o), .int (nI (a)), .int (nI (p)), .int (x2), .int (x3), .int (x4), .int (x5)] S (some (.int (-1))) S := by
  refine Cn.of rfl (by decide) (Nat.le_of_ble_eq_true rfl) (fun hN hM => ?_)
  show Wx _ G _ 0 [(0, .ref (o)), (1, .int (nI (a))), (2, .int (nI (p))), (3, .int (x2)), (4, .int (x3)), (5, .int (x4)), (6, .int (x5))] [] _
  have hx := OX.refl h
  have h24 := hr.n24
  refine r_aload_n dX7_assemble_0 rfl 0 rfl ?_
  refine r_iload_n dX7_assemble_1 rfl 1 rfl ?_
  refine r_fnV (M2 := m_X7_machineAt) (As := [.int (nI (a))]) (rest := []) (v := some (.ref (o + 6 + a))) dX7_assemble_2 cc_X7_assemble_82 rfl rfl rfl (Nat.le_of_ble_eq_true rfl) hx.1.1.1 rfl rfl (by decide) (k_machineAt hx.1.1 (by omega)) rfl ?_
  refine r_astore (lv' := [(7, .ref (o + 6 + a)), (0, .ref (o)), (1, .int (nI (a))), (2, .int (nI (p))), (3, .int (x2)), (4, .int (x3)), (5, .int (x4)), (6, .int (x5))]) dX7_assemble_5 (by decide) rfl ?_
  refine r_aload dX7_assemble_7 0 rfl ?_
  refine r_ifnull dX7_assemble_9 ?_
  refine r_aload_n dX7_assemble_12 rfl 1 rfl ?_
  refine r_iload_n dX7_assemble_13 rfl 3 rfl ?_
  refine r_fnV (M2 := m_X7_productAt) (As := [.int (nI (p))]) (rest := []) (v := some (.ref (o + 12 + p))) dX7_assemble_14 cc_X7_assemble_75 rfl rfl rfl (Nat.le_of_ble_eq_true rfl) hx.1.1.1 rfl rfl (by decide) (k_productAt hx.1.1 (by omega)) rfl ?_
  refine r_ifnull dX7_assemble_17 ?_
  refine r_aload_n dX7_assemble_20 rfl 1 rfl ?_
  refine r_iload dX7_assemble_21 5 rfl ?_
  refine r_fnV (M2 := m_X7_lotAt) (As := [.int (x3)]) (rest := []) (v := some (.null)) dX7_assemble_23 cc_X7_assemble_105 rfl rfl rfl (Nat.le_of_ble_eq_true rfl) hx.1.1.1 rfl rfl (by decide) (o_lotAt_no hx.1 hr hal hno) rfl ?_
  refine r_ifnullN (tgt := 59) dX7_assemble_26 (by decide) ?_
  refine r_iconst (v := nI 4294967295) dX7_assemble_59 (by decide) ?_
  exact r_iret (ty := .int) dX7_assemble_60 rfl rfl ⟨congrArg (fun x => Sum.inl (some (Value.int x))) nI_m1, rfl⟩
set_option maxRecDepth 4000 in
set_option maxHeartbeats 400000 in
theorem o_asm_1d {G : GI} {S : Hp} {w : Nat → Nat} {k o : Nat} {A c g : Nat → Nat} {N : Nat} (h : OR S w k o A c) (hr : Rel c g N) (hal : ∀ l, l < g 0 → A l ≠ 0) {a p : Nat} (ha : a < 6) (hp : p < 4) {t0 : Nat} (q0 : t0 < g 0) {x2 x4 x5 : Int32} (h4 : ¬ x4 = nI 4294967295) (hno : ¬ vp_in x4 (g 0)) : Fn m_X7_assemble G [.ref (o), .int (nI (a)), .int (nI (p)), .int (x2), .int (nI (t0)), .int (x4), .int (x5)] S (some (.int (-1))) S := by
  refine Cn.of rfl (by decide) (Nat.le_of_ble_eq_true rfl) (fun hN hM => ?_)
  show Wx _ G _ 0 [(0, .ref (o)), (1, .int (nI (a))), (2, .int (nI (p))), (3, .int (x2)), (4, .int (nI (t0))), (5, .int (x4)), (6, .int (x5))] [] _
  have hx := OX.refl h
  have h24 := hr.n24
  refine r_aload_n dX7_assemble_0 rfl 0 rfl ?_
  refine r_iload_n dX7_assemble_1 rfl 1 rfl ?_
  refine r_fnV (M2 := m_X7_machineAt) (As := [.int (nI (a))]) (rest := []) (v := some (.ref (o + 6 + a))) dX7_assemble_2 cc_X7_assemble_82 rfl rfl rfl (Nat.le_of_ble_eq_true rfl) hx.1.1.1 rfl rfl (by decide) (k_machineAt hx.1.1 (by omega)) rfl ?_
  refine r_astore (lv' := [(7, .ref (o + 6 + a)), (0, .ref (o)), (1, .int (nI (a))), (2, .int (nI (p))), (3, .int (x2)), (4, .int (nI (t0))), (5, .int (x4)), (6, .int (x5))]) dX7_assemble_5 (by decide) rfl ?_
  refine r_aload dX7_assemble_7 0 rfl ?_
  refine r_ifnull dX7_assemble_9 ?_
  refine r_aload_n dX7_assemble_12 rfl 1 rfl ?_
  refine r_iload_n dX7_assemble_13 rfl 3 rfl ?_
  refine r_fnV (M2 := m_X7_productAt) (As := [.int (nI (p))]) (rest := []) (v := some (.ref (o + 12 + p))) dX7_assemble_14 cc_X7_assemble_75 rfl rfl rfl (Nat.le_of_ble_eq_true rfl) hx.1.1.1 rfl rfl (by decide) (k_productAt hx.1.1 (by omega)) rfl ?_
  refine r_ifnull dX7_assemble_17 ?_
  refine r_aload_n dX7_assemble_20 rfl 1 rfl ?_
  refine r_iload dX7_assemble_21 5 rfl ?_
  refine r_fnV (M2 := m_X7_lotAt) (As := [.int (nI (t0))]) (rest := []) (v := some (.ref (A t0))) dX7_assemble_23 cc_X7_assemble_105 rfl rfl rfl (Nat.le_of_ble_eq_true rfl) hx.1.1.1 rfl rfl (by decide) (o_lotAt hx.1 hr hal (l := t0) (by omega)) rfl ?_
  refine r_ifnull dX7_assemble_26 ?_
  refine r_iload dX7_assemble_29 6 rfl ?_
  refine r_iconst (v := nI 4294967295) dX7_assemble_31 (by decide) ?_
  refine r_icmp_eq (tgt := 44) dX7_assemble_32 (by decide) (fun h32 => ?_) (fun h32 => ?_)
  · exact absurd h32 h4
  · refine r_aload_n dX7_assemble_35 rfl 1 rfl ?_
    refine r_iload dX7_assemble_36 6 rfl ?_
    refine r_fnV (M2 := m_X7_lotAt) (As := [.int (x4)]) (rest := []) (v := some (.null)) dX7_assemble_38 cc_X7_assemble_105 rfl rfl rfl (Nat.le_of_ble_eq_true rfl) hx.1.1.1 rfl rfl (by decide) (o_lotAt_no hx.1 hr hal hno) rfl ?_
    refine r_ifnullN (tgt := 59) dX7_assemble_41 (by decide) ?_
    refine r_iconst (v := nI 4294967295) dX7_assemble_59 (by decide) ?_
    exact r_iret (ty := .int) dX7_assemble_60 rfl rfl ⟨congrArg (fun x => Sum.inl (some (Value.int x))) nI_m1, rfl⟩
set_option maxRecDepth 4000 in
set_option maxHeartbeats 400000 in
theorem o_asm_1e {G : GI} {S : Hp} {w : Nat → Nat} {k o : Nat} {A c g : Nat → Nat} {N : Nat} (h : OR S w k o A c) (hr : Rel c g N) (hal : ∀ l, l < g 0 → A l ≠ 0) {a p : Nat} (ha : a < 6) (hp : p < 4) {t0 : Nat} (q0 : t0 < g 0) {x2 x5 : Int32} (h5 : ¬ x5 = nI 4294967295) (hno : ¬ vp_in x5 (g 0)) : Fn m_X7_assemble G [.ref (o), .int (nI (a)), .int (nI (p)), .int (x2), .int (nI (t0)), .int (nI (4294967295)), .int (x5)] S (some (.int (-1))) S := by
  refine Cn.of rfl (by decide) (Nat.le_of_ble_eq_true rfl) (fun hN hM => ?_)
  show Wx _ G _ 0 [(0, .ref (o)), (1, .int (nI (a))), (2, .int (nI (p))), (3, .int (x2)), (4, .int (nI (t0))), (5, .int (nI (4294967295))), (6, .int (x5))] [] _
  have hx := OX.refl h
  have h24 := hr.n24
  refine r_aload_n dX7_assemble_0 rfl 0 rfl ?_
  refine r_iload_n dX7_assemble_1 rfl 1 rfl ?_
  refine r_fnV (M2 := m_X7_machineAt) (As := [.int (nI (a))]) (rest := []) (v := some (.ref (o + 6 + a))) dX7_assemble_2 cc_X7_assemble_82 rfl rfl rfl (Nat.le_of_ble_eq_true rfl) hx.1.1.1 rfl rfl (by decide) (k_machineAt hx.1.1 (by omega)) rfl ?_
  refine r_astore (lv' := [(7, .ref (o + 6 + a)), (0, .ref (o)), (1, .int (nI (a))), (2, .int (nI (p))), (3, .int (x2)), (4, .int (nI (t0))), (5, .int (nI (4294967295))), (6, .int (x5))]) dX7_assemble_5 (by decide) rfl ?_
  refine r_aload dX7_assemble_7 0 rfl ?_
  refine r_ifnull dX7_assemble_9 ?_
  refine r_aload_n dX7_assemble_12 rfl 1 rfl ?_
  refine r_iload_n dX7_assemble_13 rfl 3 rfl ?_
  refine r_fnV (M2 := m_X7_productAt) (As := [.int (nI (p))]) (rest := []) (v := some (.ref (o + 12 + p))) dX7_assemble_14 cc_X7_assemble_75 rfl rfl rfl (Nat.le_of_ble_eq_true rfl) hx.1.1.1 rfl rfl (by decide) (k_productAt hx.1.1 (by omega)) rfl ?_
  refine r_ifnull dX7_assemble_17 ?_
  refine r_aload_n dX7_assemble_20 rfl 1 rfl ?_
  refine r_iload dX7_assemble_21 5 rfl ?_
  refine r_fnV (M2 := m_X7_lotAt) (As := [.int (nI (t0))]) (rest := []) (v := some (.ref (A t0))) dX7_assemble_23 cc_X7_assemble_105 rfl rfl rfl (Nat.le_of_ble_eq_true rfl) hx.1.1.1 rfl rfl (by decide) (o_lotAt hx.1 hr hal (l := t0) (by omega)) rfl ?_
  refine r_ifnull dX7_assemble_26 ?_
  refine r_iload dX7_assemble_29 6 rfl ?_
  refine r_iconst (v := nI 4294967295) dX7_assemble_31 (by decide) ?_
  refine r_icmp_eqW (tgt := 44) dX7_assemble_32 (by decide) (by omega) (by omega) (fun zz32 => ?_) (fun zz32 => ?_)
  · refine r_iload dX7_assemble_44 7 rfl ?_
    refine r_iconst (v := nI 4294967295) dX7_assemble_46 (by decide) ?_
    refine r_icmp_eq (tgt := 61) dX7_assemble_47 (by decide) (fun h47 => ?_) (fun h47 => ?_)
    · exact absurd h47 h5
    · refine r_aload_n dX7_assemble_50 rfl 1 rfl ?_
      refine r_iload dX7_assemble_51 7 rfl ?_
      refine r_fnV (M2 := m_X7_lotAt) (As := [.int (x5)]) (rest := []) (v := some (.null)) dX7_assemble_53 cc_X7_assemble_105 rfl rfl rfl (Nat.le_of_ble_eq_true rfl) hx.1.1.1 rfl rfl (by decide) (o_lotAt_no hx.1 hr hal hno) rfl ?_
      refine r_ifnonnullN dX7_assemble_56 ?_
      refine r_iconst (v := nI 4294967295) dX7_assemble_59 (by decide) ?_
      exact r_iret (ty := .int) dX7_assemble_60 rfl rfl ⟨congrArg (fun x => Sum.inl (some (Value.int x))) nI_m1, rfl⟩
  · exact absurd zz32 (by decide)
set_option maxRecDepth 4000 in
set_option maxHeartbeats 400000 in
theorem o_asm_1f {G : GI} {S : Hp} {w : Nat → Nat} {k o : Nat} {A c g : Nat → Nat} {N : Nat} (h : OR S w k o A c) (hr : Rel c g N) (hal : ∀ l, l < g 0 → A l ≠ 0) {a p : Nat} (ha : a < 6) (hp : p < 4) {t0 : Nat} (q0 : t0 < g 0) {t1 : Nat} (q1 : t1 < g 0) {x2 x5 : Int32} (h5 : ¬ x5 = nI 4294967295) (hno : ¬ vp_in x5 (g 0)) : Fn m_X7_assemble G [.ref (o), .int (nI (a)), .int (nI (p)), .int (x2), .int (nI (t0)), .int (nI (t1)), .int (x5)] S (some (.int (-1))) S := by
  refine Cn.of rfl (by decide) (Nat.le_of_ble_eq_true rfl) (fun hN hM => ?_)
  show Wx _ G _ 0 [(0, .ref (o)), (1, .int (nI (a))), (2, .int (nI (p))), (3, .int (x2)), (4, .int (nI (t0))), (5, .int (nI (t1))), (6, .int (x5))] [] _
  have hx := OX.refl h
  have h24 := hr.n24
  refine r_aload_n dX7_assemble_0 rfl 0 rfl ?_
  refine r_iload_n dX7_assemble_1 rfl 1 rfl ?_
  refine r_fnV (M2 := m_X7_machineAt) (As := [.int (nI (a))]) (rest := []) (v := some (.ref (o + 6 + a))) dX7_assemble_2 cc_X7_assemble_82 rfl rfl rfl (Nat.le_of_ble_eq_true rfl) hx.1.1.1 rfl rfl (by decide) (k_machineAt hx.1.1 (by omega)) rfl ?_
  refine r_astore (lv' := [(7, .ref (o + 6 + a)), (0, .ref (o)), (1, .int (nI (a))), (2, .int (nI (p))), (3, .int (x2)), (4, .int (nI (t0))), (5, .int (nI (t1))), (6, .int (x5))]) dX7_assemble_5 (by decide) rfl ?_
  refine r_aload dX7_assemble_7 0 rfl ?_
  refine r_ifnull dX7_assemble_9 ?_
  refine r_aload_n dX7_assemble_12 rfl 1 rfl ?_
  refine r_iload_n dX7_assemble_13 rfl 3 rfl ?_
  refine r_fnV (M2 := m_X7_productAt) (As := [.int (nI (p))]) (rest := []) (v := some (.ref (o + 12 + p))) dX7_assemble_14 cc_X7_assemble_75 rfl rfl rfl (Nat.le_of_ble_eq_true rfl) hx.1.1.1 rfl rfl (by decide) (k_productAt hx.1.1 (by omega)) rfl ?_
  refine r_ifnull dX7_assemble_17 ?_
  refine r_aload_n dX7_assemble_20 rfl 1 rfl ?_
  refine r_iload dX7_assemble_21 5 rfl ?_
  refine r_fnV (M2 := m_X7_lotAt) (As := [.int (nI (t0))]) (rest := []) (v := some (.ref (A t0))) dX7_assemble_23 cc_X7_assemble_105 rfl rfl rfl (Nat.le_of_ble_eq_true rfl) hx.1.1.1 rfl rfl (by decide) (o_lotAt hx.1 hr hal (l := t0) (by omega)) rfl ?_
  refine r_ifnull dX7_assemble_26 ?_
  refine r_iload dX7_assemble_29 6 rfl ?_
  refine r_iconst (v := nI 4294967295) dX7_assemble_31 (by decide) ?_
  refine r_icmp_eqW (tgt := 44) dX7_assemble_32 (by decide) (by omega) (by omega) (fun h32 => ?_) (fun h32 => ?_)
  · exact absurd h32 (by omega)
  · refine r_aload_n dX7_assemble_35 rfl 1 rfl ?_
    refine r_iload dX7_assemble_36 6 rfl ?_
    refine r_fnV (M2 := m_X7_lotAt) (As := [.int (nI (t1))]) (rest := []) (v := some (.ref (A t1))) dX7_assemble_38 cc_X7_assemble_105 rfl rfl rfl (Nat.le_of_ble_eq_true rfl) hx.1.1.1 rfl rfl (by decide) (o_lotAt hx.1 hr hal (l := t1) (by omega)) rfl ?_
    refine r_ifnull dX7_assemble_41 ?_
    refine r_iload dX7_assemble_44 7 rfl ?_
    refine r_iconst (v := nI 4294967295) dX7_assemble_46 (by decide) ?_
    refine r_icmp_eq (tgt := 61) dX7_assemble_47 (by decide) (fun h47 => ?_) (fun h47 => ?_)
    · exact absurd h47 h5
    · refine r_aload_n dX7_assemble_50 rfl 1 rfl ?_
      refine r_iload dX7_assemble_51 7 rfl ?_
      refine r_fnV (M2 := m_X7_lotAt) (As := [.int (x5)]) (rest := []) (v := some (.null)) dX7_assemble_53 cc_X7_assemble_105 rfl rfl rfl (Nat.le_of_ble_eq_true rfl) hx.1.1.1 rfl rfl (by decide) (o_lotAt_no hx.1 hr hal hno) rfl ?_
      refine r_ifnonnullN dX7_assemble_56 ?_
      refine r_iconst (v := nI 4294967295) dX7_assemble_59 (by decide) ?_
      exact r_iret (ty := .int) dX7_assemble_60 rfl rfl ⟨congrArg (fun x => Sum.inl (some (Value.int x))) nI_m1, rfl⟩
set_option maxRecDepth 4000 in
set_option maxHeartbeats 400000 in
theorem o_asm_2a {G : GI} {S : Hp} {w : Nat → Nat} {k o : Nat} {A c g : Nat → Nat} {N : Nat} (h : OR S w k o A c) (hr : Rel c g N) (hal : ∀ l, l < g 0 → A l ≠ 0) {a p : Nat} (ha : a < 6) (hp : p < 4) {t0 : Nat} (q0 : t0 < g 0) {x2 : Int32} (hz : ¬ (nI 1 ≤ x2 ∧ x2 ≤ nI 200)) : Fn m_X7_assemble G [.ref (o), .int (nI (a)), .int (nI (p)), .int (x2), .int (nI (t0)), .int (nI (4294967295)), .int (nI (4294967295))] S (some (.int (-2))) S := by
  refine Cn.of rfl (by decide) (Nat.le_of_ble_eq_true rfl) (fun hN hM => ?_)
  show Wx _ G _ 0 [(0, .ref (o)), (1, .int (nI (a))), (2, .int (nI (p))), (3, .int (x2)), (4, .int (nI (t0))), (5, .int (nI (4294967295))), (6, .int (nI (4294967295)))] [] _
  have hx := OX.refl h
  have h24 := hr.n24
  refine r_aload_n dX7_assemble_0 rfl 0 rfl ?_
  refine r_iload_n dX7_assemble_1 rfl 1 rfl ?_
  refine r_fnV (M2 := m_X7_machineAt) (As := [.int (nI (a))]) (rest := []) (v := some (.ref (o + 6 + a))) dX7_assemble_2 cc_X7_assemble_82 rfl rfl rfl (Nat.le_of_ble_eq_true rfl) hx.1.1.1 rfl rfl (by decide) (k_machineAt hx.1.1 (by omega)) rfl ?_
  refine r_astore (lv' := [(7, .ref (o + 6 + a)), (0, .ref (o)), (1, .int (nI (a))), (2, .int (nI (p))), (3, .int (x2)), (4, .int (nI (t0))), (5, .int (nI (4294967295))), (6, .int (nI (4294967295)))]) dX7_assemble_5 (by decide) rfl ?_
  refine r_aload dX7_assemble_7 0 rfl ?_
  refine r_ifnull dX7_assemble_9 ?_
  refine r_aload_n dX7_assemble_12 rfl 1 rfl ?_
  refine r_iload_n dX7_assemble_13 rfl 3 rfl ?_
  refine r_fnV (M2 := m_X7_productAt) (As := [.int (nI (p))]) (rest := []) (v := some (.ref (o + 12 + p))) dX7_assemble_14 cc_X7_assemble_75 rfl rfl rfl (Nat.le_of_ble_eq_true rfl) hx.1.1.1 rfl rfl (by decide) (k_productAt hx.1.1 (by omega)) rfl ?_
  refine r_ifnull dX7_assemble_17 ?_
  refine r_aload_n dX7_assemble_20 rfl 1 rfl ?_
  refine r_iload dX7_assemble_21 5 rfl ?_
  refine r_fnV (M2 := m_X7_lotAt) (As := [.int (nI (t0))]) (rest := []) (v := some (.ref (A t0))) dX7_assemble_23 cc_X7_assemble_105 rfl rfl rfl (Nat.le_of_ble_eq_true rfl) hx.1.1.1 rfl rfl (by decide) (o_lotAt hx.1 hr hal (l := t0) (by omega)) rfl ?_
  refine r_ifnull dX7_assemble_26 ?_
  refine r_iload dX7_assemble_29 6 rfl ?_
  refine r_iconst (v := nI 4294967295) dX7_assemble_31 (by decide) ?_
  refine r_icmp_eqW (tgt := 44) dX7_assemble_32 (by decide) (by omega) (by omega) (fun zz32 => ?_) (fun zz32 => ?_)
  · refine r_iload dX7_assemble_44 7 rfl ?_
    refine r_iconst (v := nI 4294967295) dX7_assemble_46 (by decide) ?_
    refine r_icmp_eqW (tgt := 61) dX7_assemble_47 (by decide) (by omega) (by omega) (fun zz47 => ?_) (fun zz47 => ?_)
    · refine r_iload dX7_assemble_61 5 rfl ?_
      refine r_iload dX7_assemble_63 6 rfl ?_
      refine r_icmp_eqW (tgt := 88) dX7_assemble_65 (by decide) (by omega) (by omega) (fun h65 => ?_) (fun h65 => ?_)
      · exact absurd h65 (by omega)
      · refine r_iload dX7_assemble_68 5 rfl ?_
        refine r_iload dX7_assemble_70 7 rfl ?_
        refine r_icmp_eqW (tgt := 88) dX7_assemble_72 (by decide) (by omega) (by omega) (fun h72 => ?_) (fun h72 => ?_)
        · exact absurd h72 h65
        · refine r_iload dX7_assemble_75 6 rfl ?_
          refine r_iconst (v := nI 4294967295) dX7_assemble_77 (by decide) ?_
          refine r_icmp_eqW (tgt := 92) dX7_assemble_78 (by decide) (by omega) (by omega) (fun zz78 => ?_) (fun zz78 => ?_)
          · refine r_iconst (v := nI 0) dX7_assemble_92 (by decide) ?_
            refine r_istore (lv' := [(8, .int (nI (0))), (7, .ref (o + 6 + a)), (0, .ref (o)), (1, .int (nI (a))), (2, .int (nI (p))), (3, .int (x2)), (4, .int (nI (t0))), (5, .int (nI (4294967295))), (6, .int (nI (4294967295)))]) dX7_assemble_93 (by decide) rfl ?_
            refine r_iload_n dX7_assemble_95 rfl 5 rfl ?_
            refine r_iconst (v := nI 1) dX7_assemble_96 (by decide) ?_
            refine r_icmp_lt (tgt := 124) dX7_assemble_97 (by decide) (fun h97 => ?_) (fun h97 => ?_)
            · refine r_bipush (v := nI 4294967294) dX7_assemble_124 (by decide) ?_
              exact r_iret (ty := .int) dX7_assemble_126 rfl rfl ⟨congrArg (fun x => Sum.inl (some (Value.int x))) (by decide : nI 4294967294 = -2), rfl⟩
            · refine r_iload_n dX7_assemble_100 rfl 5 rfl ?_
              refine r_sipush (v := nI 200) dX7_assemble_101 (by decide) ?_
              refine r_icmp_gt (tgt := 124) dX7_assemble_104 (by decide) (fun h104 => ?_) (fun h104 => ?_)
              · refine r_bipush (v := nI 4294967294) dX7_assemble_124 (by decide) ?_
                exact r_iret (ty := .int) dX7_assemble_126 rfl rfl ⟨congrArg (fun x => Sum.inl (some (Value.int x))) (by decide : nI 4294967294 = -2), rfl⟩
              · exact absurd ⟨Int32.not_lt.mp h97, Int32.not_lt.mp h104⟩ hz
          · exact absurd zz78 (by decide)
    · exact absurd zz47 (by decide)
  · exact absurd zz32 (by decide)
set_option maxRecDepth 4000 in
set_option maxHeartbeats 400000 in
theorem o_asm_2b {G : GI} {S : Hp} {w : Nat → Nat} {k o : Nat} {A c g : Nat → Nat} {N : Nat} (h : OR S w k o A c) (hr : Rel c g N) (hal : ∀ l, l < g 0 → A l ≠ 0) {a p : Nat} (ha : a < 6) (hp : p < 4) {t0 : Nat} (q0 : t0 < g 0) {t1 : Nat} (q1 : t1 < g 0) {x2 : Int32} (hz : ¬ (nI 1 ≤ x2 ∧ x2 ≤ nI 200)) : Fn m_X7_assemble G [.ref (o), .int (nI (a)), .int (nI (p)), .int (x2), .int (nI (t0)), .int (nI (t1)), .int (nI (4294967295))] S (some (.int (-2))) S := by
  refine Cn.of rfl (by decide) (Nat.le_of_ble_eq_true rfl) (fun hN hM => ?_)
  show Wx _ G _ 0 [(0, .ref (o)), (1, .int (nI (a))), (2, .int (nI (p))), (3, .int (x2)), (4, .int (nI (t0))), (5, .int (nI (t1))), (6, .int (nI (4294967295)))] [] _
  have hx := OX.refl h
  have h24 := hr.n24
  refine r_aload_n dX7_assemble_0 rfl 0 rfl ?_
  refine r_iload_n dX7_assemble_1 rfl 1 rfl ?_
  refine r_fnV (M2 := m_X7_machineAt) (As := [.int (nI (a))]) (rest := []) (v := some (.ref (o + 6 + a))) dX7_assemble_2 cc_X7_assemble_82 rfl rfl rfl (Nat.le_of_ble_eq_true rfl) hx.1.1.1 rfl rfl (by decide) (k_machineAt hx.1.1 (by omega)) rfl ?_
  refine r_astore (lv' := [(7, .ref (o + 6 + a)), (0, .ref (o)), (1, .int (nI (a))), (2, .int (nI (p))), (3, .int (x2)), (4, .int (nI (t0))), (5, .int (nI (t1))), (6, .int (nI (4294967295)))]) dX7_assemble_5 (by decide) rfl ?_
  refine r_aload dX7_assemble_7 0 rfl ?_
  refine r_ifnull dX7_assemble_9 ?_
  refine r_aload_n dX7_assemble_12 rfl 1 rfl ?_
  refine r_iload_n dX7_assemble_13 rfl 3 rfl ?_
  refine r_fnV (M2 := m_X7_productAt) (As := [.int (nI (p))]) (rest := []) (v := some (.ref (o + 12 + p))) dX7_assemble_14 cc_X7_assemble_75 rfl rfl rfl (Nat.le_of_ble_eq_true rfl) hx.1.1.1 rfl rfl (by decide) (k_productAt hx.1.1 (by omega)) rfl ?_
  refine r_ifnull dX7_assemble_17 ?_
  refine r_aload_n dX7_assemble_20 rfl 1 rfl ?_
  refine r_iload dX7_assemble_21 5 rfl ?_
  refine r_fnV (M2 := m_X7_lotAt) (As := [.int (nI (t0))]) (rest := []) (v := some (.ref (A t0))) dX7_assemble_23 cc_X7_assemble_105 rfl rfl rfl (Nat.le_of_ble_eq_true rfl) hx.1.1.1 rfl rfl (by decide) (o_lotAt hx.1 hr hal (l := t0) (by omega)) rfl ?_
  refine r_ifnull dX7_assemble_26 ?_
  refine r_iload dX7_assemble_29 6 rfl ?_
  refine r_iconst (v := nI 4294967295) dX7_assemble_31 (by decide) ?_
  refine r_icmp_eqW (tgt := 44) dX7_assemble_32 (by decide) (by omega) (by omega) (fun h32 => ?_) (fun h32 => ?_)
  · exact absurd h32 (by omega)
  · refine r_aload_n dX7_assemble_35 rfl 1 rfl ?_
    refine r_iload dX7_assemble_36 6 rfl ?_
    refine r_fnV (M2 := m_X7_lotAt) (As := [.int (nI (t1))]) (rest := []) (v := some (.ref (A t1))) dX7_assemble_38 cc_X7_assemble_105 rfl rfl rfl (Nat.le_of_ble_eq_true rfl) hx.1.1.1 rfl rfl (by decide) (o_lotAt hx.1 hr hal (l := t1) (by omega)) rfl ?_
    refine r_ifnull dX7_assemble_41 ?_
    refine r_iload dX7_assemble_44 7 rfl ?_
    refine r_iconst (v := nI 4294967295) dX7_assemble_46 (by decide) ?_
    refine r_icmp_eqW (tgt := 61) dX7_assemble_47 (by decide) (by omega) (by omega) (fun zz47 => ?_) (fun zz47 => ?_)
    · refine r_iload dX7_assemble_61 5 rfl ?_
      refine r_iload dX7_assemble_63 6 rfl ?_
      refine r_icmp_eqN (tgt := 88) dX7_assemble_65 (by decide) (by omega) (by omega) (fun h65 => ?_) (fun h65 => ?_)
      · refine r_iconst (v := nI 1) dX7_assemble_88 (by decide) ?_
        refine r_goto (tgt := 93) dX7_assemble_89 (by decide) ?_
        refine r_istore (lv' := [(8, .int (nI (1))), (7, .ref (o + 6 + a)), (0, .ref (o)), (1, .int (nI (a))), (2, .int (nI (p))), (3, .int (x2)), (4, .int (nI (t0))), (5, .int (nI (t1))), (6, .int (nI (4294967295)))]) dX7_assemble_93 (by decide) rfl ?_
        refine r_iload_n dX7_assemble_95 rfl 5 rfl ?_
        refine r_iconst (v := nI 1) dX7_assemble_96 (by decide) ?_
        refine r_icmp_lt (tgt := 124) dX7_assemble_97 (by decide) (fun h97 => ?_) (fun h97 => ?_)
        · refine r_bipush (v := nI 4294967294) dX7_assemble_124 (by decide) ?_
          exact r_iret (ty := .int) dX7_assemble_126 rfl rfl ⟨congrArg (fun x => Sum.inl (some (Value.int x))) (by decide : nI 4294967294 = -2), rfl⟩
        · refine r_iload_n dX7_assemble_100 rfl 5 rfl ?_
          refine r_sipush (v := nI 200) dX7_assemble_101 (by decide) ?_
          refine r_icmp_gt (tgt := 124) dX7_assemble_104 (by decide) (fun h104 => ?_) (fun h104 => ?_)
          · refine r_bipush (v := nI 4294967294) dX7_assemble_124 (by decide) ?_
            exact r_iret (ty := .int) dX7_assemble_126 rfl rfl ⟨congrArg (fun x => Sum.inl (some (Value.int x))) (by decide : nI 4294967294 = -2), rfl⟩
          · exact absurd ⟨Int32.not_lt.mp h97, Int32.not_lt.mp h104⟩ hz
      · refine r_iload dX7_assemble_68 5 rfl ?_
        refine r_iload dX7_assemble_70 7 rfl ?_
        refine r_icmp_eqW (tgt := 88) dX7_assemble_72 (by decide) (by omega) (by omega) (fun h72 => ?_) (fun h72 => ?_)
        · exact absurd h72 (by omega)
        · refine r_iload dX7_assemble_75 6 rfl ?_
          refine r_iconst (v := nI 4294967295) dX7_assemble_77 (by decide) ?_
          refine r_icmp_eqW (tgt := 92) dX7_assemble_78 (by decide) (by omega) (by omega) (fun h78 => ?_) (fun h78 => ?_)
          · exact absurd h78 h32
          · refine r_iload dX7_assemble_81 6 rfl ?_
            refine r_iload dX7_assemble_83 7 rfl ?_
            refine r_icmp_neW (tgt := 92) dX7_assemble_85 (by decide) (by omega) (by omega) (fun h85 => ?_) (fun h85 => ?_)
            · refine r_iconst (v := nI 0) dX7_assemble_92 (by decide) ?_
              refine r_istore (lv' := [(8, .int (nI (0))), (7, .ref (o + 6 + a)), (0, .ref (o)), (1, .int (nI (a))), (2, .int (nI (p))), (3, .int (x2)), (4, .int (nI (t0))), (5, .int (nI (t1))), (6, .int (nI (4294967295)))]) dX7_assemble_93 (by decide) rfl ?_
              refine r_iload_n dX7_assemble_95 rfl 5 rfl ?_
              refine r_iconst (v := nI 1) dX7_assemble_96 (by decide) ?_
              refine r_icmp_lt (tgt := 124) dX7_assemble_97 (by decide) (fun h97_1 => ?_) (fun h97_1 => ?_)
              · refine r_bipush (v := nI 4294967294) dX7_assemble_124 (by decide) ?_
                exact r_iret (ty := .int) dX7_assemble_126 rfl rfl ⟨congrArg (fun x => Sum.inl (some (Value.int x))) (by decide : nI 4294967294 = -2), rfl⟩
              · refine r_iload_n dX7_assemble_100 rfl 5 rfl ?_
                refine r_sipush (v := nI 200) dX7_assemble_101 (by decide) ?_
                refine r_icmp_gt (tgt := 124) dX7_assemble_104 (by decide) (fun h104_1 => ?_) (fun h104_1 => ?_)
                · refine r_bipush (v := nI 4294967294) dX7_assemble_124 (by decide) ?_
                  exact r_iret (ty := .int) dX7_assemble_126 rfl rfl ⟨congrArg (fun x => Sum.inl (some (Value.int x))) (by decide : nI 4294967294 = -2), rfl⟩
                · exact absurd ⟨Int32.not_lt.mp h97_1, Int32.not_lt.mp h104_1⟩ hz
            · exact absurd h85 h32
    · exact absurd zz47 (by decide)
set_option maxRecDepth 4000 in
set_option maxHeartbeats 400000 in
theorem o_asm_2c {G : GI} {S : Hp} {w : Nat → Nat} {k o : Nat} {A c g : Nat → Nat} {N : Nat} (h : OR S w k o A c) (hr : Rel c g N) (hal : ∀ l, l < g 0 → A l ≠ 0) {a p : Nat} (ha : a < 6) (hp : p < 4) {t0 : Nat} (q0 : t0 < g 0) {t1 : Nat} (q1 : t1 < g 0) {t2 : Nat} (q2 : t2 < g 0) {x2 : Int32} (hz : ¬ (nI 1 ≤ x2 ∧ x2 ≤ nI 200)) : Fn m_X7_assemble G [.ref (o), .int (nI (a)), .int (nI (p)), .int (x2), .int (nI (t0)), .int (nI (t1)), .int (nI (t2))] S (some (.int (-2))) S := by
  refine Cn.of rfl (by decide) (Nat.le_of_ble_eq_true rfl) (fun hN hM => ?_)
  show Wx _ G _ 0 [(0, .ref (o)), (1, .int (nI (a))), (2, .int (nI (p))), (3, .int (x2)), (4, .int (nI (t0))), (5, .int (nI (t1))), (6, .int (nI (t2)))] [] _
  have hx := OX.refl h
  have h24 := hr.n24
  refine r_aload_n dX7_assemble_0 rfl 0 rfl ?_
  refine r_iload_n dX7_assemble_1 rfl 1 rfl ?_
  refine r_fnV (M2 := m_X7_machineAt) (As := [.int (nI (a))]) (rest := []) (v := some (.ref (o + 6 + a))) dX7_assemble_2 cc_X7_assemble_82 rfl rfl rfl (Nat.le_of_ble_eq_true rfl) hx.1.1.1 rfl rfl (by decide) (k_machineAt hx.1.1 (by omega)) rfl ?_
  refine r_astore (lv' := [(7, .ref (o + 6 + a)), (0, .ref (o)), (1, .int (nI (a))), (2, .int (nI (p))), (3, .int (x2)), (4, .int (nI (t0))), (5, .int (nI (t1))), (6, .int (nI (t2)))]) dX7_assemble_5 (by decide) rfl ?_
  refine r_aload dX7_assemble_7 0 rfl ?_
  refine r_ifnull dX7_assemble_9 ?_
  refine r_aload_n dX7_assemble_12 rfl 1 rfl ?_
  refine r_iload_n dX7_assemble_13 rfl 3 rfl ?_
  refine r_fnV (M2 := m_X7_productAt) (As := [.int (nI (p))]) (rest := []) (v := some (.ref (o + 12 + p))) dX7_assemble_14 cc_X7_assemble_75 rfl rfl rfl (Nat.le_of_ble_eq_true rfl) hx.1.1.1 rfl rfl (by decide) (k_productAt hx.1.1 (by omega)) rfl ?_
  refine r_ifnull dX7_assemble_17 ?_
  refine r_aload_n dX7_assemble_20 rfl 1 rfl ?_
  refine r_iload dX7_assemble_21 5 rfl ?_
  refine r_fnV (M2 := m_X7_lotAt) (As := [.int (nI (t0))]) (rest := []) (v := some (.ref (A t0))) dX7_assemble_23 cc_X7_assemble_105 rfl rfl rfl (Nat.le_of_ble_eq_true rfl) hx.1.1.1 rfl rfl (by decide) (o_lotAt hx.1 hr hal (l := t0) (by omega)) rfl ?_
  refine r_ifnull dX7_assemble_26 ?_
  refine r_iload dX7_assemble_29 6 rfl ?_
  refine r_iconst (v := nI 4294967295) dX7_assemble_31 (by decide) ?_
  refine r_icmp_eqW (tgt := 44) dX7_assemble_32 (by decide) (by omega) (by omega) (fun h32 => ?_) (fun h32 => ?_)
  · exact absurd h32 (by omega)
  · refine r_aload_n dX7_assemble_35 rfl 1 rfl ?_
    refine r_iload dX7_assemble_36 6 rfl ?_
    refine r_fnV (M2 := m_X7_lotAt) (As := [.int (nI (t1))]) (rest := []) (v := some (.ref (A t1))) dX7_assemble_38 cc_X7_assemble_105 rfl rfl rfl (Nat.le_of_ble_eq_true rfl) hx.1.1.1 rfl rfl (by decide) (o_lotAt hx.1 hr hal (l := t1) (by omega)) rfl ?_
    refine r_ifnull dX7_assemble_41 ?_
    refine r_iload dX7_assemble_44 7 rfl ?_
    refine r_iconst (v := nI 4294967295) dX7_assemble_46 (by decide) ?_
    refine r_icmp_eqW (tgt := 61) dX7_assemble_47 (by decide) (by omega) (by omega) (fun h47 => ?_) (fun h47 => ?_)
    · exact absurd h47 (by omega)
    · refine r_aload_n dX7_assemble_50 rfl 1 rfl ?_
      refine r_iload dX7_assemble_51 7 rfl ?_
      refine r_fnV (M2 := m_X7_lotAt) (As := [.int (nI (t2))]) (rest := []) (v := some (.ref (A t2))) dX7_assemble_53 cc_X7_assemble_105 rfl rfl rfl (Nat.le_of_ble_eq_true rfl) hx.1.1.1 rfl rfl (by decide) (o_lotAt hx.1 hr hal (l := t2) (by omega)) rfl ?_
      refine r_ifnonnull (tgt := 61) dX7_assemble_56 (by decide) ?_
      refine r_iload dX7_assemble_61 5 rfl ?_
      refine r_iload dX7_assemble_63 6 rfl ?_
      refine r_icmp_eqN (tgt := 88) dX7_assemble_65 (by decide) (by omega) (by omega) (fun h65 => ?_) (fun h65 => ?_)
      · refine r_iconst (v := nI 1) dX7_assemble_88 (by decide) ?_
        refine r_goto (tgt := 93) dX7_assemble_89 (by decide) ?_
        refine r_istore (lv' := [(8, .int (nI (1))), (7, .ref (o + 6 + a)), (0, .ref (o)), (1, .int (nI (a))), (2, .int (nI (p))), (3, .int (x2)), (4, .int (nI (t0))), (5, .int (nI (t1))), (6, .int (nI (t2)))]) dX7_assemble_93 (by decide) rfl ?_
        refine r_iload_n dX7_assemble_95 rfl 5 rfl ?_
        refine r_iconst (v := nI 1) dX7_assemble_96 (by decide) ?_
        refine r_icmp_lt (tgt := 124) dX7_assemble_97 (by decide) (fun h97 => ?_) (fun h97 => ?_)
        · refine r_bipush (v := nI 4294967294) dX7_assemble_124 (by decide) ?_
          exact r_iret (ty := .int) dX7_assemble_126 rfl rfl ⟨congrArg (fun x => Sum.inl (some (Value.int x))) (by decide : nI 4294967294 = -2), rfl⟩
        · refine r_iload_n dX7_assemble_100 rfl 5 rfl ?_
          refine r_sipush (v := nI 200) dX7_assemble_101 (by decide) ?_
          refine r_icmp_gt (tgt := 124) dX7_assemble_104 (by decide) (fun h104 => ?_) (fun h104 => ?_)
          · refine r_bipush (v := nI 4294967294) dX7_assemble_124 (by decide) ?_
            exact r_iret (ty := .int) dX7_assemble_126 rfl rfl ⟨congrArg (fun x => Sum.inl (some (Value.int x))) (by decide : nI 4294967294 = -2), rfl⟩
          · exact absurd ⟨Int32.not_lt.mp h97, Int32.not_lt.mp h104⟩ hz
      · refine r_iload dX7_assemble_68 5 rfl ?_
        refine r_iload dX7_assemble_70 7 rfl ?_
        refine r_icmp_eqN (tgt := 88) dX7_assemble_72 (by decide) (by omega) (by omega) (fun h72 => ?_) (fun h72 => ?_)
        · refine r_iconst (v := nI 1) dX7_assemble_88 (by decide) ?_
          refine r_goto (tgt := 93) dX7_assemble_89 (by decide) ?_
          refine r_istore (lv' := [(8, .int (nI (1))), (7, .ref (o + 6 + a)), (0, .ref (o)), (1, .int (nI (a))), (2, .int (nI (p))), (3, .int (x2)), (4, .int (nI (t0))), (5, .int (nI (t1))), (6, .int (nI (t2)))]) dX7_assemble_93 (by decide) rfl ?_
          refine r_iload_n dX7_assemble_95 rfl 5 rfl ?_
          refine r_iconst (v := nI 1) dX7_assemble_96 (by decide) ?_
          refine r_icmp_lt (tgt := 124) dX7_assemble_97 (by decide) (fun h97_1 => ?_) (fun h97_1 => ?_)
          · refine r_bipush (v := nI 4294967294) dX7_assemble_124 (by decide) ?_
            exact r_iret (ty := .int) dX7_assemble_126 rfl rfl ⟨congrArg (fun x => Sum.inl (some (Value.int x))) (by decide : nI 4294967294 = -2), rfl⟩
          · refine r_iload_n dX7_assemble_100 rfl 5 rfl ?_
            refine r_sipush (v := nI 200) dX7_assemble_101 (by decide) ?_
            refine r_icmp_gt (tgt := 124) dX7_assemble_104 (by decide) (fun h104_1 => ?_) (fun h104_1 => ?_)
            · refine r_bipush (v := nI 4294967294) dX7_assemble_124 (by decide) ?_
              exact r_iret (ty := .int) dX7_assemble_126 rfl rfl ⟨congrArg (fun x => Sum.inl (some (Value.int x))) (by decide : nI 4294967294 = -2), rfl⟩
            · exact absurd ⟨Int32.not_lt.mp h97_1, Int32.not_lt.mp h104_1⟩ hz
        · refine r_iload dX7_assemble_75 6 rfl ?_
          refine r_iconst (v := nI 4294967295) dX7_assemble_77 (by decide) ?_
          refine r_icmp_eqW (tgt := 92) dX7_assemble_78 (by decide) (by omega) (by omega) (fun h78 => ?_) (fun h78 => ?_)
          · exact absurd h78 h32
          · refine r_iload dX7_assemble_81 6 rfl ?_
            refine r_iload dX7_assemble_83 7 rfl ?_
            refine r_icmp_neN (tgt := 92) dX7_assemble_85 (by decide) (by omega) (by omega) (fun h85 => ?_) (fun h85 => ?_)
            · refine r_iconst (v := nI 0) dX7_assemble_92 (by decide) ?_
              refine r_istore (lv' := [(8, .int (nI (0))), (7, .ref (o + 6 + a)), (0, .ref (o)), (1, .int (nI (a))), (2, .int (nI (p))), (3, .int (x2)), (4, .int (nI (t0))), (5, .int (nI (t1))), (6, .int (nI (t2)))]) dX7_assemble_93 (by decide) rfl ?_
              refine r_iload_n dX7_assemble_95 rfl 5 rfl ?_
              refine r_iconst (v := nI 1) dX7_assemble_96 (by decide) ?_
              refine r_icmp_lt (tgt := 124) dX7_assemble_97 (by decide) (fun h97_2 => ?_) (fun h97_2 => ?_)
              · refine r_bipush (v := nI 4294967294) dX7_assemble_124 (by decide) ?_
                exact r_iret (ty := .int) dX7_assemble_126 rfl rfl ⟨congrArg (fun x => Sum.inl (some (Value.int x))) (by decide : nI 4294967294 = -2), rfl⟩
              · refine r_iload_n dX7_assemble_100 rfl 5 rfl ?_
                refine r_sipush (v := nI 200) dX7_assemble_101 (by decide) ?_
                refine r_icmp_gt (tgt := 124) dX7_assemble_104 (by decide) (fun h104_2 => ?_) (fun h104_2 => ?_)
                · refine r_bipush (v := nI 4294967294) dX7_assemble_124 (by decide) ?_
                  exact r_iret (ty := .int) dX7_assemble_126 rfl rfl ⟨congrArg (fun x => Sum.inl (some (Value.int x))) (by decide : nI 4294967294 = -2), rfl⟩
                · exact absurd ⟨Int32.not_lt.mp h97_2, Int32.not_lt.mp h104_2⟩ hz
            · refine r_iconst (v := nI 1) dX7_assemble_88 (by decide) ?_
              refine r_goto (tgt := 93) dX7_assemble_89 (by decide) ?_
              refine r_istore (lv' := [(8, .int (nI (1))), (7, .ref (o + 6 + a)), (0, .ref (o)), (1, .int (nI (a))), (2, .int (nI (p))), (3, .int (x2)), (4, .int (nI (t0))), (5, .int (nI (t1))), (6, .int (nI (t2)))]) dX7_assemble_93 (by decide) rfl ?_
              refine r_iload_n dX7_assemble_95 rfl 5 rfl ?_
              refine r_iconst (v := nI 1) dX7_assemble_96 (by decide) ?_
              refine r_icmp_lt (tgt := 124) dX7_assemble_97 (by decide) (fun h97_3 => ?_) (fun h97_3 => ?_)
              · refine r_bipush (v := nI 4294967294) dX7_assemble_124 (by decide) ?_
                exact r_iret (ty := .int) dX7_assemble_126 rfl rfl ⟨congrArg (fun x => Sum.inl (some (Value.int x))) (by decide : nI 4294967294 = -2), rfl⟩
              · refine r_iload_n dX7_assemble_100 rfl 5 rfl ?_
                refine r_sipush (v := nI 200) dX7_assemble_101 (by decide) ?_
                refine r_icmp_gt (tgt := 124) dX7_assemble_104 (by decide) (fun h104_3 => ?_) (fun h104_3 => ?_)
                · refine r_bipush (v := nI 4294967294) dX7_assemble_124 (by decide) ?_
                  exact r_iret (ty := .int) dX7_assemble_126 rfl rfl ⟨congrArg (fun x => Sum.inl (some (Value.int x))) (by decide : nI 4294967294 = -2), rfl⟩
                · exact absurd ⟨Int32.not_lt.mp h97_3, Int32.not_lt.mp h104_3⟩ hz
set_option maxRecDepth 4000 in
set_option maxHeartbeats 400000 in
theorem o_asm_2d {G : GI} {S : Hp} {w : Nat → Nat} {k o : Nat} {A c g : Nat → Nat} {N : Nat} (h : OR S w k o A c) (hr : Rel c g N) (hal : ∀ l, l < g 0 → A l ≠ 0) {a p : Nat} (ha : a < 6) (hp : p < 4) {t0 : Nat} (q0 : t0 < g 0) {t2 : Nat} (q2 : t2 < g 0) {x2 : Int32} : Fn m_X7_assemble G [.ref (o), .int (nI (a)), .int (nI (p)), .int (x2), .int (nI (t0)), .int (nI (4294967295)), .int (nI (t2))] S (some (.int (-2))) S := by
  refine Cn.of rfl (by decide) (Nat.le_of_ble_eq_true rfl) (fun hN hM => ?_)
  show Wx _ G _ 0 [(0, .ref (o)), (1, .int (nI (a))), (2, .int (nI (p))), (3, .int (x2)), (4, .int (nI (t0))), (5, .int (nI (4294967295))), (6, .int (nI (t2)))] [] _
  have hx := OX.refl h
  have h24 := hr.n24
  refine r_aload_n dX7_assemble_0 rfl 0 rfl ?_
  refine r_iload_n dX7_assemble_1 rfl 1 rfl ?_
  refine r_fnV (M2 := m_X7_machineAt) (As := [.int (nI (a))]) (rest := []) (v := some (.ref (o + 6 + a))) dX7_assemble_2 cc_X7_assemble_82 rfl rfl rfl (Nat.le_of_ble_eq_true rfl) hx.1.1.1 rfl rfl (by decide) (k_machineAt hx.1.1 (by omega)) rfl ?_
  refine r_astore (lv' := [(7, .ref (o + 6 + a)), (0, .ref (o)), (1, .int (nI (a))), (2, .int (nI (p))), (3, .int (x2)), (4, .int (nI (t0))), (5, .int (nI (4294967295))), (6, .int (nI (t2)))]) dX7_assemble_5 (by decide) rfl ?_
  refine r_aload dX7_assemble_7 0 rfl ?_
  refine r_ifnull dX7_assemble_9 ?_
  refine r_aload_n dX7_assemble_12 rfl 1 rfl ?_
  refine r_iload_n dX7_assemble_13 rfl 3 rfl ?_
  refine r_fnV (M2 := m_X7_productAt) (As := [.int (nI (p))]) (rest := []) (v := some (.ref (o + 12 + p))) dX7_assemble_14 cc_X7_assemble_75 rfl rfl rfl (Nat.le_of_ble_eq_true rfl) hx.1.1.1 rfl rfl (by decide) (k_productAt hx.1.1 (by omega)) rfl ?_
  refine r_ifnull dX7_assemble_17 ?_
  refine r_aload_n dX7_assemble_20 rfl 1 rfl ?_
  refine r_iload dX7_assemble_21 5 rfl ?_
  refine r_fnV (M2 := m_X7_lotAt) (As := [.int (nI (t0))]) (rest := []) (v := some (.ref (A t0))) dX7_assemble_23 cc_X7_assemble_105 rfl rfl rfl (Nat.le_of_ble_eq_true rfl) hx.1.1.1 rfl rfl (by decide) (o_lotAt hx.1 hr hal (l := t0) (by omega)) rfl ?_
  refine r_ifnull dX7_assemble_26 ?_
  refine r_iload dX7_assemble_29 6 rfl ?_
  refine r_iconst (v := nI 4294967295) dX7_assemble_31 (by decide) ?_
  refine r_icmp_eqW (tgt := 44) dX7_assemble_32 (by decide) (by omega) (by omega) (fun zz32 => ?_) (fun zz32 => ?_)
  · refine r_iload dX7_assemble_44 7 rfl ?_
    refine r_iconst (v := nI 4294967295) dX7_assemble_46 (by decide) ?_
    refine r_icmp_eqW (tgt := 61) dX7_assemble_47 (by decide) (by omega) (by omega) (fun h47 => ?_) (fun h47 => ?_)
    · exact absurd h47 (by omega)
    · refine r_aload_n dX7_assemble_50 rfl 1 rfl ?_
      refine r_iload dX7_assemble_51 7 rfl ?_
      refine r_fnV (M2 := m_X7_lotAt) (As := [.int (nI (t2))]) (rest := []) (v := some (.ref (A t2))) dX7_assemble_53 cc_X7_assemble_105 rfl rfl rfl (Nat.le_of_ble_eq_true rfl) hx.1.1.1 rfl rfl (by decide) (o_lotAt hx.1 hr hal (l := t2) (by omega)) rfl ?_
      refine r_ifnonnull (tgt := 61) dX7_assemble_56 (by decide) ?_
      refine r_iload dX7_assemble_61 5 rfl ?_
      refine r_iload dX7_assemble_63 6 rfl ?_
      refine r_icmp_eqW (tgt := 88) dX7_assemble_65 (by decide) (by omega) (by omega) (fun h65 => ?_) (fun h65 => ?_)
      · exact absurd h65 (by omega)
      · refine r_iload dX7_assemble_68 5 rfl ?_
        refine r_iload dX7_assemble_70 7 rfl ?_
        refine r_icmp_eqN (tgt := 88) dX7_assemble_72 (by decide) (by omega) (by omega) (fun h72 => ?_) (fun h72 => ?_)
        · refine r_iconst (v := nI 1) dX7_assemble_88 (by decide) ?_
          refine r_goto (tgt := 93) dX7_assemble_89 (by decide) ?_
          refine r_istore (lv' := [(8, .int (nI (1))), (7, .ref (o + 6 + a)), (0, .ref (o)), (1, .int (nI (a))), (2, .int (nI (p))), (3, .int (x2)), (4, .int (nI (t0))), (5, .int (nI (4294967295))), (6, .int (nI (t2)))]) dX7_assemble_93 (by decide) rfl ?_
          refine r_iload_n dX7_assemble_95 rfl 5 rfl ?_
          refine r_iconst (v := nI 1) dX7_assemble_96 (by decide) ?_
          refine r_icmp_lt (tgt := 124) dX7_assemble_97 (by decide) (fun h97 => ?_) (fun h97 => ?_)
          · refine r_bipush (v := nI 4294967294) dX7_assemble_124 (by decide) ?_
            exact r_iret (ty := .int) dX7_assemble_126 rfl rfl ⟨congrArg (fun x => Sum.inl (some (Value.int x))) (by decide : nI 4294967294 = -2), rfl⟩
          · refine r_iload_n dX7_assemble_100 rfl 5 rfl ?_
            refine r_sipush (v := nI 200) dX7_assemble_101 (by decide) ?_
            refine r_icmp_gt (tgt := 124) dX7_assemble_104 (by decide) (fun h104 => ?_) (fun h104 => ?_)
            · refine r_bipush (v := nI 4294967294) dX7_assemble_124 (by decide) ?_
              exact r_iret (ty := .int) dX7_assemble_126 rfl rfl ⟨congrArg (fun x => Sum.inl (some (Value.int x))) (by decide : nI 4294967294 = -2), rfl⟩
            · refine r_iload dX7_assemble_107 0 rfl ?_
              refine r_if_neN (tgt := 124) dX7_assemble_109 (by decide) (by omega) (fun zz109 => ?_) (fun zz109 => ?_)
              · refine r_bipush (v := nI 4294967294) dX7_assemble_124 (by decide) ?_
                exact r_iret (ty := .int) dX7_assemble_126 rfl rfl ⟨congrArg (fun x => Sum.inl (some (Value.int x))) (by decide : nI 4294967294 = -2), rfl⟩
              · exact absurd zz109 (by decide)
        · refine r_iload dX7_assemble_75 6 rfl ?_
          refine r_iconst (v := nI 4294967295) dX7_assemble_77 (by decide) ?_
          refine r_icmp_eqW (tgt := 92) dX7_assemble_78 (by decide) (by omega) (by omega) (fun zz78 => ?_) (fun zz78 => ?_)
          · refine r_iconst (v := nI 0) dX7_assemble_92 (by decide) ?_
            refine r_istore (lv' := [(8, .int (nI (0))), (7, .ref (o + 6 + a)), (0, .ref (o)), (1, .int (nI (a))), (2, .int (nI (p))), (3, .int (x2)), (4, .int (nI (t0))), (5, .int (nI (4294967295))), (6, .int (nI (t2)))]) dX7_assemble_93 (by decide) rfl ?_
            refine r_iload_n dX7_assemble_95 rfl 5 rfl ?_
            refine r_iconst (v := nI 1) dX7_assemble_96 (by decide) ?_
            refine r_icmp_lt (tgt := 124) dX7_assemble_97 (by decide) (fun h97_1 => ?_) (fun h97_1 => ?_)
            · refine r_bipush (v := nI 4294967294) dX7_assemble_124 (by decide) ?_
              exact r_iret (ty := .int) dX7_assemble_126 rfl rfl ⟨congrArg (fun x => Sum.inl (some (Value.int x))) (by decide : nI 4294967294 = -2), rfl⟩
            · refine r_iload_n dX7_assemble_100 rfl 5 rfl ?_
              refine r_sipush (v := nI 200) dX7_assemble_101 (by decide) ?_
              refine r_icmp_gt (tgt := 124) dX7_assemble_104 (by decide) (fun h104_1 => ?_) (fun h104_1 => ?_)
              · refine r_bipush (v := nI 4294967294) dX7_assemble_124 (by decide) ?_
                exact r_iret (ty := .int) dX7_assemble_126 rfl rfl ⟨congrArg (fun x => Sum.inl (some (Value.int x))) (by decide : nI 4294967294 = -2), rfl⟩
              · refine r_iload dX7_assemble_107 0 rfl ?_
                refine r_if_neN (tgt := 124) dX7_assemble_109 (by decide) (by omega) (fun zz109_1 => ?_) (fun zz109_1 => ?_)
                · exact absurd zz109_1 (by decide)
                · refine r_iload dX7_assemble_112 7 rfl ?_
                  refine r_iconst (v := nI 4294967295) dX7_assemble_114 (by decide) ?_
                  refine r_icmp_neW (tgt := 127) dX7_assemble_115 (by decide) (by omega) (by omega) (fun zz115 => ?_) (fun zz115 => ?_)
                  · exact absurd zz115 (by decide)
                  · refine r_iload dX7_assemble_118 8 rfl ?_
                    refine r_iconst (v := nI 4294967295) dX7_assemble_120 (by decide) ?_
                    refine r_icmp_eqW (tgt := 127) dX7_assemble_121 (by decide) (by omega) (by omega) (fun h121 => ?_) (fun h121 => ?_)
                    · exact absurd h121 h47
                    · refine r_bipush (v := nI 4294967294) dX7_assemble_124 (by decide) ?_
                      exact r_iret (ty := .int) dX7_assemble_126 rfl rfl ⟨congrArg (fun x => Sum.inl (some (Value.int x))) (by decide : nI 4294967294 = -2), rfl⟩
          · exact absurd zz78 (by decide)
  · exact absurd zz32 (by decide)
set_option maxRecDepth 4000 in
set_option maxHeartbeats 400000 in
theorem o_asm_2e {G : GI} {S : Hp} {w : Nat → Nat} {k o : Nat} {A c g : Nat → Nat} {N : Nat} (h : OR S w k o A c) (hr : Rel c g N) (hal : ∀ l, l < g 0 → A l ≠ 0) {a p : Nat} (ha : a < 6) (hp : p < 4) {t0 : Nat} (q0 : t0 < g 0) {x2 : Int32} : Fn m_X7_assemble G [.ref (o), .int (nI (a)), .int (nI (p)), .int (x2), .int (nI (t0)), .int (nI (t0)), .int (nI (4294967295))] S (some (.int (-2))) S := by
  refine Cn.of rfl (by decide) (Nat.le_of_ble_eq_true rfl) (fun hN hM => ?_)
  show Wx _ G _ 0 [(0, .ref (o)), (1, .int (nI (a))), (2, .int (nI (p))), (3, .int (x2)), (4, .int (nI (t0))), (5, .int (nI (t0))), (6, .int (nI (4294967295)))] [] _
  have hx := OX.refl h
  have h24 := hr.n24
  refine r_aload_n dX7_assemble_0 rfl 0 rfl ?_
  refine r_iload_n dX7_assemble_1 rfl 1 rfl ?_
  refine r_fnV (M2 := m_X7_machineAt) (As := [.int (nI (a))]) (rest := []) (v := some (.ref (o + 6 + a))) dX7_assemble_2 cc_X7_assemble_82 rfl rfl rfl (Nat.le_of_ble_eq_true rfl) hx.1.1.1 rfl rfl (by decide) (k_machineAt hx.1.1 (by omega)) rfl ?_
  refine r_astore (lv' := [(7, .ref (o + 6 + a)), (0, .ref (o)), (1, .int (nI (a))), (2, .int (nI (p))), (3, .int (x2)), (4, .int (nI (t0))), (5, .int (nI (t0))), (6, .int (nI (4294967295)))]) dX7_assemble_5 (by decide) rfl ?_
  refine r_aload dX7_assemble_7 0 rfl ?_
  refine r_ifnull dX7_assemble_9 ?_
  refine r_aload_n dX7_assemble_12 rfl 1 rfl ?_
  refine r_iload_n dX7_assemble_13 rfl 3 rfl ?_
  refine r_fnV (M2 := m_X7_productAt) (As := [.int (nI (p))]) (rest := []) (v := some (.ref (o + 12 + p))) dX7_assemble_14 cc_X7_assemble_75 rfl rfl rfl (Nat.le_of_ble_eq_true rfl) hx.1.1.1 rfl rfl (by decide) (k_productAt hx.1.1 (by omega)) rfl ?_
  refine r_ifnull dX7_assemble_17 ?_
  refine r_aload_n dX7_assemble_20 rfl 1 rfl ?_
  refine r_iload dX7_assemble_21 5 rfl ?_
  refine r_fnV (M2 := m_X7_lotAt) (As := [.int (nI (t0))]) (rest := []) (v := some (.ref (A t0))) dX7_assemble_23 cc_X7_assemble_105 rfl rfl rfl (Nat.le_of_ble_eq_true rfl) hx.1.1.1 rfl rfl (by decide) (o_lotAt hx.1 hr hal (l := t0) (by omega)) rfl ?_
  refine r_ifnull dX7_assemble_26 ?_
  refine r_iload dX7_assemble_29 6 rfl ?_
  refine r_iconst (v := nI 4294967295) dX7_assemble_31 (by decide) ?_
  refine r_icmp_eqW (tgt := 44) dX7_assemble_32 (by decide) (by omega) (by omega) (fun h32 => ?_) (fun h32 => ?_)
  · exact absurd h32 (by omega)
  · refine r_aload_n dX7_assemble_35 rfl 1 rfl ?_
    refine r_iload dX7_assemble_36 6 rfl ?_
    refine r_fnV (M2 := m_X7_lotAt) (As := [.int (nI (t0))]) (rest := []) (v := some (.ref (A t0))) dX7_assemble_38 cc_X7_assemble_105 rfl rfl rfl (Nat.le_of_ble_eq_true rfl) hx.1.1.1 rfl rfl (by decide) (o_lotAt hx.1 hr hal (l := t0) (by omega)) rfl ?_
    refine r_ifnull dX7_assemble_41 ?_
    refine r_iload dX7_assemble_44 7 rfl ?_
    refine r_iconst (v := nI 4294967295) dX7_assemble_46 (by decide) ?_
    refine r_icmp_eqW (tgt := 61) dX7_assemble_47 (by decide) (by omega) (by omega) (fun zz47 => ?_) (fun zz47 => ?_)
    · refine r_iload dX7_assemble_61 5 rfl ?_
      refine r_iload dX7_assemble_63 6 rfl ?_
      refine r_icmp_eqN (tgt := 88) dX7_assemble_65 (by decide) (by omega) (by omega) (fun h65 => ?_) (fun h65 => ?_)
      · refine r_iconst (v := nI 1) dX7_assemble_88 (by decide) ?_
        refine r_goto (tgt := 93) dX7_assemble_89 (by decide) ?_
        refine r_istore (lv' := [(8, .int (nI (1))), (7, .ref (o + 6 + a)), (0, .ref (o)), (1, .int (nI (a))), (2, .int (nI (p))), (3, .int (x2)), (4, .int (nI (t0))), (5, .int (nI (t0))), (6, .int (nI (4294967295)))]) dX7_assemble_93 (by decide) rfl ?_
        refine r_iload_n dX7_assemble_95 rfl 5 rfl ?_
        refine r_iconst (v := nI 1) dX7_assemble_96 (by decide) ?_
        refine r_icmp_lt (tgt := 124) dX7_assemble_97 (by decide) (fun h97 => ?_) (fun h97 => ?_)
        · refine r_bipush (v := nI 4294967294) dX7_assemble_124 (by decide) ?_
          exact r_iret (ty := .int) dX7_assemble_126 rfl rfl ⟨congrArg (fun x => Sum.inl (some (Value.int x))) (by decide : nI 4294967294 = -2), rfl⟩
        · refine r_iload_n dX7_assemble_100 rfl 5 rfl ?_
          refine r_sipush (v := nI 200) dX7_assemble_101 (by decide) ?_
          refine r_icmp_gt (tgt := 124) dX7_assemble_104 (by decide) (fun h104 => ?_) (fun h104 => ?_)
          · refine r_bipush (v := nI 4294967294) dX7_assemble_124 (by decide) ?_
            exact r_iret (ty := .int) dX7_assemble_126 rfl rfl ⟨congrArg (fun x => Sum.inl (some (Value.int x))) (by decide : nI 4294967294 = -2), rfl⟩
          · refine r_iload dX7_assemble_107 0 rfl ?_
            refine r_if_neN (tgt := 124) dX7_assemble_109 (by decide) (by omega) (fun zz109 => ?_) (fun zz109 => ?_)
            · refine r_bipush (v := nI 4294967294) dX7_assemble_124 (by decide) ?_
              exact r_iret (ty := .int) dX7_assemble_126 rfl rfl ⟨congrArg (fun x => Sum.inl (some (Value.int x))) (by decide : nI 4294967294 = -2), rfl⟩
            · exact absurd zz109 (by decide)
      · exact absurd rfl h65
    · exact absurd zz47 (by decide)
set_option maxRecDepth 4000 in
set_option maxHeartbeats 400000 in
theorem o_asm_2f {G : GI} {S : Hp} {w : Nat → Nat} {k o : Nat} {A c g : Nat → Nat} {N : Nat} (h : OR S w k o A c) (hr : Rel c g N) (hal : ∀ l, l < g 0 → A l ≠ 0) {a p : Nat} (ha : a < 6) (hp : p < 4) {t0 : Nat} (q0 : t0 < g 0) {t1 : Nat} (q1 : t1 < g 0) {t2 : Nat} (q2 : t2 < g 0) {x2 : Int32} (htw : t0 = t1 ∨ t0 = t2 ∨ t1 = t2) : Fn m_X7_assemble G [.ref (o), .int (nI (a)), .int (nI (p)), .int (x2), .int (nI (t0)), .int (nI (t1)), .int (nI (t2))] S (some (.int (-2))) S := by
  refine Cn.of rfl (by decide) (Nat.le_of_ble_eq_true rfl) (fun hN hM => ?_)
  show Wx _ G _ 0 [(0, .ref (o)), (1, .int (nI (a))), (2, .int (nI (p))), (3, .int (x2)), (4, .int (nI (t0))), (5, .int (nI (t1))), (6, .int (nI (t2)))] [] _
  have hx := OX.refl h
  have h24 := hr.n24
  refine r_aload_n dX7_assemble_0 rfl 0 rfl ?_
  refine r_iload_n dX7_assemble_1 rfl 1 rfl ?_
  refine r_fnV (M2 := m_X7_machineAt) (As := [.int (nI (a))]) (rest := []) (v := some (.ref (o + 6 + a))) dX7_assemble_2 cc_X7_assemble_82 rfl rfl rfl (Nat.le_of_ble_eq_true rfl) hx.1.1.1 rfl rfl (by decide) (k_machineAt hx.1.1 (by omega)) rfl ?_
  refine r_astore (lv' := [(7, .ref (o + 6 + a)), (0, .ref (o)), (1, .int (nI (a))), (2, .int (nI (p))), (3, .int (x2)), (4, .int (nI (t0))), (5, .int (nI (t1))), (6, .int (nI (t2)))]) dX7_assemble_5 (by decide) rfl ?_
  refine r_aload dX7_assemble_7 0 rfl ?_
  refine r_ifnull dX7_assemble_9 ?_
  refine r_aload_n dX7_assemble_12 rfl 1 rfl ?_
  refine r_iload_n dX7_assemble_13 rfl 3 rfl ?_
  refine r_fnV (M2 := m_X7_productAt) (As := [.int (nI (p))]) (rest := []) (v := some (.ref (o + 12 + p))) dX7_assemble_14 cc_X7_assemble_75 rfl rfl rfl (Nat.le_of_ble_eq_true rfl) hx.1.1.1 rfl rfl (by decide) (k_productAt hx.1.1 (by omega)) rfl ?_
  refine r_ifnull dX7_assemble_17 ?_
  refine r_aload_n dX7_assemble_20 rfl 1 rfl ?_
  refine r_iload dX7_assemble_21 5 rfl ?_
  refine r_fnV (M2 := m_X7_lotAt) (As := [.int (nI (t0))]) (rest := []) (v := some (.ref (A t0))) dX7_assemble_23 cc_X7_assemble_105 rfl rfl rfl (Nat.le_of_ble_eq_true rfl) hx.1.1.1 rfl rfl (by decide) (o_lotAt hx.1 hr hal (l := t0) (by omega)) rfl ?_
  refine r_ifnull dX7_assemble_26 ?_
  refine r_iload dX7_assemble_29 6 rfl ?_
  refine r_iconst (v := nI 4294967295) dX7_assemble_31 (by decide) ?_
  refine r_icmp_eqW (tgt := 44) dX7_assemble_32 (by decide) (by omega) (by omega) (fun h32 => ?_) (fun h32 => ?_)
  · exact absurd h32 (by omega)
  · refine r_aload_n dX7_assemble_35 rfl 1 rfl ?_
    refine r_iload dX7_assemble_36 6 rfl ?_
    refine r_fnV (M2 := m_X7_lotAt) (As := [.int (nI (t1))]) (rest := []) (v := some (.ref (A t1))) dX7_assemble_38 cc_X7_assemble_105 rfl rfl rfl (Nat.le_of_ble_eq_true rfl) hx.1.1.1 rfl rfl (by decide) (o_lotAt hx.1 hr hal (l := t1) (by omega)) rfl ?_
    refine r_ifnull dX7_assemble_41 ?_
    refine r_iload dX7_assemble_44 7 rfl ?_
    refine r_iconst (v := nI 4294967295) dX7_assemble_46 (by decide) ?_
    refine r_icmp_eqW (tgt := 61) dX7_assemble_47 (by decide) (by omega) (by omega) (fun h47 => ?_) (fun h47 => ?_)
    · exact absurd h47 (by omega)
    · refine r_aload_n dX7_assemble_50 rfl 1 rfl ?_
      refine r_iload dX7_assemble_51 7 rfl ?_
      refine r_fnV (M2 := m_X7_lotAt) (As := [.int (nI (t2))]) (rest := []) (v := some (.ref (A t2))) dX7_assemble_53 cc_X7_assemble_105 rfl rfl rfl (Nat.le_of_ble_eq_true rfl) hx.1.1.1 rfl rfl (by decide) (o_lotAt hx.1 hr hal (l := t2) (by omega)) rfl ?_
      refine r_ifnonnull (tgt := 61) dX7_assemble_56 (by decide) ?_
      refine r_iload dX7_assemble_61 5 rfl ?_
      refine r_iload dX7_assemble_63 6 rfl ?_
      refine r_icmp_eqN (tgt := 88) dX7_assemble_65 (by decide) (by omega) (by omega) (fun h65 => ?_) (fun h65 => ?_)
      · refine r_iconst (v := nI 1) dX7_assemble_88 (by decide) ?_
        refine r_goto (tgt := 93) dX7_assemble_89 (by decide) ?_
        refine r_istore (lv' := [(8, .int (nI (1))), (7, .ref (o + 6 + a)), (0, .ref (o)), (1, .int (nI (a))), (2, .int (nI (p))), (3, .int (x2)), (4, .int (nI (t0))), (5, .int (nI (t1))), (6, .int (nI (t2)))]) dX7_assemble_93 (by decide) rfl ?_
        refine r_iload_n dX7_assemble_95 rfl 5 rfl ?_
        refine r_iconst (v := nI 1) dX7_assemble_96 (by decide) ?_
        refine r_icmp_lt (tgt := 124) dX7_assemble_97 (by decide) (fun h97 => ?_) (fun h97 => ?_)
        · refine r_bipush (v := nI 4294967294) dX7_assemble_124 (by decide) ?_
          exact r_iret (ty := .int) dX7_assemble_126 rfl rfl ⟨congrArg (fun x => Sum.inl (some (Value.int x))) (by decide : nI 4294967294 = -2), rfl⟩
        · refine r_iload_n dX7_assemble_100 rfl 5 rfl ?_
          refine r_sipush (v := nI 200) dX7_assemble_101 (by decide) ?_
          refine r_icmp_gt (tgt := 124) dX7_assemble_104 (by decide) (fun h104 => ?_) (fun h104 => ?_)
          · refine r_bipush (v := nI 4294967294) dX7_assemble_124 (by decide) ?_
            exact r_iret (ty := .int) dX7_assemble_126 rfl rfl ⟨congrArg (fun x => Sum.inl (some (Value.int x))) (by decide : nI 4294967294 = -2), rfl⟩
          · refine r_iload dX7_assemble_107 0 rfl ?_
            refine r_if_neN (tgt := 124) dX7_assemble_109 (by decide) (by omega) (fun zz109 => ?_) (fun zz109 => ?_)
            · refine r_bipush (v := nI 4294967294) dX7_assemble_124 (by decide) ?_
              exact r_iret (ty := .int) dX7_assemble_126 rfl rfl ⟨congrArg (fun x => Sum.inl (some (Value.int x))) (by decide : nI 4294967294 = -2), rfl⟩
            · exact absurd zz109 (by decide)
      · refine r_iload dX7_assemble_68 5 rfl ?_
        refine r_iload dX7_assemble_70 7 rfl ?_
        refine r_icmp_eqN (tgt := 88) dX7_assemble_72 (by decide) (by omega) (by omega) (fun h72 => ?_) (fun h72 => ?_)
        · refine r_iconst (v := nI 1) dX7_assemble_88 (by decide) ?_
          refine r_goto (tgt := 93) dX7_assemble_89 (by decide) ?_
          refine r_istore (lv' := [(8, .int (nI (1))), (7, .ref (o + 6 + a)), (0, .ref (o)), (1, .int (nI (a))), (2, .int (nI (p))), (3, .int (x2)), (4, .int (nI (t0))), (5, .int (nI (t1))), (6, .int (nI (t2)))]) dX7_assemble_93 (by decide) rfl ?_
          refine r_iload_n dX7_assemble_95 rfl 5 rfl ?_
          refine r_iconst (v := nI 1) dX7_assemble_96 (by decide) ?_
          refine r_icmp_lt (tgt := 124) dX7_assemble_97 (by decide) (fun h97_1 => ?_) (fun h97_1 => ?_)
          · refine r_bipush (v := nI 4294967294) dX7_assemble_124 (by decide) ?_
            exact r_iret (ty := .int) dX7_assemble_126 rfl rfl ⟨congrArg (fun x => Sum.inl (some (Value.int x))) (by decide : nI 4294967294 = -2), rfl⟩
          · refine r_iload_n dX7_assemble_100 rfl 5 rfl ?_
            refine r_sipush (v := nI 200) dX7_assemble_101 (by decide) ?_
            refine r_icmp_gt (tgt := 124) dX7_assemble_104 (by decide) (fun h104_1 => ?_) (fun h104_1 => ?_)
            · refine r_bipush (v := nI 4294967294) dX7_assemble_124 (by decide) ?_
              exact r_iret (ty := .int) dX7_assemble_126 rfl rfl ⟨congrArg (fun x => Sum.inl (some (Value.int x))) (by decide : nI 4294967294 = -2), rfl⟩
            · refine r_iload dX7_assemble_107 0 rfl ?_
              refine r_if_neN (tgt := 124) dX7_assemble_109 (by decide) (by omega) (fun zz109_1 => ?_) (fun zz109_1 => ?_)
              · refine r_bipush (v := nI 4294967294) dX7_assemble_124 (by decide) ?_
                exact r_iret (ty := .int) dX7_assemble_126 rfl rfl ⟨congrArg (fun x => Sum.inl (some (Value.int x))) (by decide : nI 4294967294 = -2), rfl⟩
              · exact absurd zz109_1 (by decide)
        · refine r_iload dX7_assemble_75 6 rfl ?_
          refine r_iconst (v := nI 4294967295) dX7_assemble_77 (by decide) ?_
          refine r_icmp_eqW (tgt := 92) dX7_assemble_78 (by decide) (by omega) (by omega) (fun h78 => ?_) (fun h78 => ?_)
          · exact absurd h78 h32
          · refine r_iload dX7_assemble_81 6 rfl ?_
            refine r_iload dX7_assemble_83 7 rfl ?_
            refine r_icmp_neN (tgt := 92) dX7_assemble_85 (by decide) (by omega) (by omega) (fun h85 => ?_) (fun h85 => ?_)
            · exact absurd h85 (by omega)
            · refine r_iconst (v := nI 1) dX7_assemble_88 (by decide) ?_
              refine r_goto (tgt := 93) dX7_assemble_89 (by decide) ?_
              refine r_istore (lv' := [(8, .int (nI (1))), (7, .ref (o + 6 + a)), (0, .ref (o)), (1, .int (nI (a))), (2, .int (nI (p))), (3, .int (x2)), (4, .int (nI (t0))), (5, .int (nI (t1))), (6, .int (nI (t2)))]) dX7_assemble_93 (by decide) rfl ?_
              refine r_iload_n dX7_assemble_95 rfl 5 rfl ?_
              refine r_iconst (v := nI 1) dX7_assemble_96 (by decide) ?_
              refine r_icmp_lt (tgt := 124) dX7_assemble_97 (by decide) (fun h97_2 => ?_) (fun h97_2 => ?_)
              · refine r_bipush (v := nI 4294967294) dX7_assemble_124 (by decide) ?_
                exact r_iret (ty := .int) dX7_assemble_126 rfl rfl ⟨congrArg (fun x => Sum.inl (some (Value.int x))) (by decide : nI 4294967294 = -2), rfl⟩
              · refine r_iload_n dX7_assemble_100 rfl 5 rfl ?_
                refine r_sipush (v := nI 200) dX7_assemble_101 (by decide) ?_
                refine r_icmp_gt (tgt := 124) dX7_assemble_104 (by decide) (fun h104_2 => ?_) (fun h104_2 => ?_)
                · refine r_bipush (v := nI 4294967294) dX7_assemble_124 (by decide) ?_
                  exact r_iret (ty := .int) dX7_assemble_126 rfl rfl ⟨congrArg (fun x => Sum.inl (some (Value.int x))) (by decide : nI 4294967294 = -2), rfl⟩
                · refine r_iload dX7_assemble_107 0 rfl ?_
                  refine r_if_neN (tgt := 124) dX7_assemble_109 (by decide) (by omega) (fun zz109_2 => ?_) (fun zz109_2 => ?_)
                  · refine r_bipush (v := nI 4294967294) dX7_assemble_124 (by decide) ?_
                    exact r_iret (ty := .int) dX7_assemble_126 rfl rfl ⟨congrArg (fun x => Sum.inl (some (Value.int x))) (by decide : nI 4294967294 = -2), rfl⟩
                  · exact absurd zz109_2 (by decide)
set_option maxRecDepth 4000 in
set_option maxHeartbeats 400000 in
theorem o_asm_3_1 {G : GI} {S : Hp} {w : Nat → Nat} {k o : Nat} {A c g : Nat → Nat} {N : Nat} (h : OR S w k o A c) (hr : Rel c g N) (hal : ∀ l, l < g 0 → A l ≠ 0) {a p : Nat} (ha : a < 6) (hp : p < 4) {t0 : Nat} (q0 : t0 < g 0) {n : Nat} (hn0 : 0 < n) (hn : n ≤ 200) (h0 : g 0 = 24) : Fn m_X7_assemble G [.ref (o), .int (nI (a)), .int (nI (p)), .int (nI (n)), .int (nI (t0)), .int (nI (4294967295)), .int (nI (4294967295))] S (some (.int (-3))) S := by
  refine Cn.of rfl (by decide) (Nat.le_of_ble_eq_true rfl) (fun hN hM => ?_)
  show Wx _ G _ 0 [(0, .ref (o)), (1, .int (nI (a))), (2, .int (nI (p))), (3, .int (nI (n))), (4, .int (nI (t0))), (5, .int (nI (4294967295))), (6, .int (nI (4294967295)))] [] _
  have hx := OX.refl h
  have h24 := hr.n24
  refine r_aload_n dX7_assemble_0 rfl 0 rfl ?_
  refine r_iload_n dX7_assemble_1 rfl 1 rfl ?_
  refine r_fnV (M2 := m_X7_machineAt) (As := [.int (nI (a))]) (rest := []) (v := some (.ref (o + 6 + a))) dX7_assemble_2 cc_X7_assemble_82 rfl rfl rfl (Nat.le_of_ble_eq_true rfl) hx.1.1.1 rfl rfl (by decide) (k_machineAt hx.1.1 (by omega)) rfl ?_
  refine r_astore (lv' := [(7, .ref (o + 6 + a)), (0, .ref (o)), (1, .int (nI (a))), (2, .int (nI (p))), (3, .int (nI (n))), (4, .int (nI (t0))), (5, .int (nI (4294967295))), (6, .int (nI (4294967295)))]) dX7_assemble_5 (by decide) rfl ?_
  refine r_aload dX7_assemble_7 0 rfl ?_
  refine r_ifnull dX7_assemble_9 ?_
  refine r_aload_n dX7_assemble_12 rfl 1 rfl ?_
  refine r_iload_n dX7_assemble_13 rfl 3 rfl ?_
  refine r_fnV (M2 := m_X7_productAt) (As := [.int (nI (p))]) (rest := []) (v := some (.ref (o + 12 + p))) dX7_assemble_14 cc_X7_assemble_75 rfl rfl rfl (Nat.le_of_ble_eq_true rfl) hx.1.1.1 rfl rfl (by decide) (k_productAt hx.1.1 (by omega)) rfl ?_
  refine r_ifnull dX7_assemble_17 ?_
  refine r_aload_n dX7_assemble_20 rfl 1 rfl ?_
  refine r_iload dX7_assemble_21 5 rfl ?_
  refine r_fnV (M2 := m_X7_lotAt) (As := [.int (nI (t0))]) (rest := []) (v := some (.ref (A t0))) dX7_assemble_23 cc_X7_assemble_105 rfl rfl rfl (Nat.le_of_ble_eq_true rfl) hx.1.1.1 rfl rfl (by decide) (o_lotAt hx.1 hr hal (l := t0) (by omega)) rfl ?_
  refine r_ifnull dX7_assemble_26 ?_
  refine r_iload dX7_assemble_29 6 rfl ?_
  refine r_iconst (v := nI 4294967295) dX7_assemble_31 (by decide) ?_
  refine r_icmp_eqW (tgt := 44) dX7_assemble_32 (by decide) (by omega) (by omega) (fun zz32 => ?_) (fun zz32 => ?_)
  · refine r_iload dX7_assemble_44 7 rfl ?_
    refine r_iconst (v := nI 4294967295) dX7_assemble_46 (by decide) ?_
    refine r_icmp_eqW (tgt := 61) dX7_assemble_47 (by decide) (by omega) (by omega) (fun zz47 => ?_) (fun zz47 => ?_)
    · refine r_iload dX7_assemble_61 5 rfl ?_
      refine r_iload dX7_assemble_63 6 rfl ?_
      refine r_icmp_eqW (tgt := 88) dX7_assemble_65 (by decide) (by omega) (by omega) (fun h65 => ?_) (fun h65 => ?_)
      · exact absurd h65 (by omega)
      · refine r_iload dX7_assemble_68 5 rfl ?_
        refine r_iload dX7_assemble_70 7 rfl ?_
        refine r_icmp_eqW (tgt := 88) dX7_assemble_72 (by decide) (by omega) (by omega) (fun h72 => ?_) (fun h72 => ?_)
        · exact absurd h72 h65
        · refine r_iload dX7_assemble_75 6 rfl ?_
          refine r_iconst (v := nI 4294967295) dX7_assemble_77 (by decide) ?_
          refine r_icmp_eqW (tgt := 92) dX7_assemble_78 (by decide) (by omega) (by omega) (fun zz78 => ?_) (fun zz78 => ?_)
          · refine r_iconst (v := nI 0) dX7_assemble_92 (by decide) ?_
            refine r_istore (lv' := [(8, .int (nI (0))), (7, .ref (o + 6 + a)), (0, .ref (o)), (1, .int (nI (a))), (2, .int (nI (p))), (3, .int (nI (n))), (4, .int (nI (t0))), (5, .int (nI (4294967295))), (6, .int (nI (4294967295)))]) dX7_assemble_93 (by decide) rfl ?_
            refine r_iload_n dX7_assemble_95 rfl 5 rfl ?_
            refine r_iconst (v := nI 1) dX7_assemble_96 (by decide) ?_
            refine r_icmp_ltN (tgt := 124) dX7_assemble_97 (by decide) (by omega) (by omega) (fun h97 => ?_) (fun h97 => ?_)
            · exact absurd h97 (by omega)
            · refine r_iload_n dX7_assemble_100 rfl 5 rfl ?_
              refine r_sipush (v := nI 200) dX7_assemble_101 (by decide) ?_
              refine r_icmp_gtN (tgt := 124) dX7_assemble_104 (by decide) (by omega) (by omega) (fun h104 => ?_) (fun h104 => ?_)
              · exact absurd h104 (by omega)
              · refine r_iload dX7_assemble_107 0 rfl ?_
                refine r_if_neN (tgt := 124) dX7_assemble_109 (by decide) (by omega) (fun zz109 => ?_) (fun zz109 => ?_)
                · exact absurd zz109 (by decide)
                · refine r_iload dX7_assemble_112 7 rfl ?_
                  refine r_iconst (v := nI 4294967295) dX7_assemble_114 (by decide) ?_
                  refine r_icmp_neW (tgt := 127) dX7_assemble_115 (by decide) (by omega) (by omega) (fun zz115 => ?_) (fun zz115 => ?_)
                  · exact absurd zz115 (by decide)
                  · refine r_iload dX7_assemble_118 8 rfl ?_
                    refine r_iconst (v := nI 4294967295) dX7_assemble_120 (by decide) ?_
                    refine r_icmp_eqW (tgt := 127) dX7_assemble_121 (by decide) (by omega) (by omega) (fun zz121 => ?_) (fun zz121 => ?_)
                    · refine r_aload_n dX7_assemble_127 rfl 2 rfl ?_
                      refine r_getI (ci := 9) (k := 5) dX7_assemble_128 fr_X7_49 hx.1.1.1 rfl ?_
                      refine Wx.top hx.1.o0 ?_
                      refine Wx.topN hr.c0 ?_
                      refine r_aload_n dX7_assemble_131 rfl 2 rfl ?_
                      refine r_getR (ci := 9) (k := 2) (b := o + 3) dX7_assemble_132 fr_X7_25 hx.1.1.1 rfl hx.1.1.2.1.2.2.1 ?_
                      refine r_alenQ dX7_assemble_135 hx.1.1.2.2.2.2.1.1 (by decide) (by decide) ?_
                      refine Wx.top (congrArg nI hx.1.1.2.2.2.2.1.2) ?_
                      refine r_icmp_geN (tgt := 181) dX7_assemble_136 (by decide) (by omega) (by omega) (fun h136 => ?_) (fun h136 => ?_)
                      · refine r_bipush (v := nI 4294967293) dX7_assemble_181 (by decide) ?_
                        exact r_iret (ty := .int) dX7_assemble_183 rfl rfl ⟨congrArg (fun x => Sum.inl (some (Value.int x))) (by decide : nI 4294967293 = -3), rfl⟩
                      · exact absurd h136 (by omega)
                    · exact absurd zz121 (by decide)
          · exact absurd zz78 (by decide)
    · exact absurd zz47 (by decide)
  · exact absurd zz32 (by decide)
set_option maxRecDepth 4000 in
set_option maxHeartbeats 400000 in
theorem o_asm_3_1_0 {G : GI} {S : Hp} {w : Nat → Nat} {k o : Nat} {A c g : Nat → Nat} {N : Nat} (h : OR S w k o A c) (hr : Rel c g N) (hal : ∀ l, l < g 0 → A l ≠ 0) {a p : Nat} (ha : a < 6) (hp : p < 4) {t0 : Nat} (q0 : t0 < g 0) {n : Nat} (hn0 : 0 < n) (hn : n ≤ 200) (h0 : g 0 < 24) (f0 : fewP g t0 n) : Fn m_X7_assemble G [.ref (o), .int (nI (a)), .int (nI (p)), .int (nI (n)), .int (nI (t0)), .int (nI (4294967295)), .int (nI (4294967295))] S (some (.int (-3))) S := by
  refine Cn.of rfl (by decide) (Nat.le_of_ble_eq_true rfl) (fun hN hM => ?_)
  show Wx _ G _ 0 [(0, .ref (o)), (1, .int (nI (a))), (2, .int (nI (p))), (3, .int (nI (n))), (4, .int (nI (t0))), (5, .int (nI (4294967295))), (6, .int (nI (4294967295)))] [] _
  have hx := OX.refl h
  have h24 := hr.n24
  refine r_aload_n dX7_assemble_0 rfl 0 rfl ?_
  refine r_iload_n dX7_assemble_1 rfl 1 rfl ?_
  refine r_fnV (M2 := m_X7_machineAt) (As := [.int (nI (a))]) (rest := []) (v := some (.ref (o + 6 + a))) dX7_assemble_2 cc_X7_assemble_82 rfl rfl rfl (Nat.le_of_ble_eq_true rfl) hx.1.1.1 rfl rfl (by decide) (k_machineAt hx.1.1 (by omega)) rfl ?_
  refine r_astore (lv' := [(7, .ref (o + 6 + a)), (0, .ref (o)), (1, .int (nI (a))), (2, .int (nI (p))), (3, .int (nI (n))), (4, .int (nI (t0))), (5, .int (nI (4294967295))), (6, .int (nI (4294967295)))]) dX7_assemble_5 (by decide) rfl ?_
  refine r_aload dX7_assemble_7 0 rfl ?_
  refine r_ifnull dX7_assemble_9 ?_
  refine r_aload_n dX7_assemble_12 rfl 1 rfl ?_
  refine r_iload_n dX7_assemble_13 rfl 3 rfl ?_
  refine r_fnV (M2 := m_X7_productAt) (As := [.int (nI (p))]) (rest := []) (v := some (.ref (o + 12 + p))) dX7_assemble_14 cc_X7_assemble_75 rfl rfl rfl (Nat.le_of_ble_eq_true rfl) hx.1.1.1 rfl rfl (by decide) (k_productAt hx.1.1 (by omega)) rfl ?_
  refine r_ifnull dX7_assemble_17 ?_
  refine r_aload_n dX7_assemble_20 rfl 1 rfl ?_
  refine r_iload dX7_assemble_21 5 rfl ?_
  refine r_fnV (M2 := m_X7_lotAt) (As := [.int (nI (t0))]) (rest := []) (v := some (.ref (A t0))) dX7_assemble_23 cc_X7_assemble_105 rfl rfl rfl (Nat.le_of_ble_eq_true rfl) hx.1.1.1 rfl rfl (by decide) (o_lotAt hx.1 hr hal (l := t0) (by omega)) rfl ?_
  refine r_ifnull dX7_assemble_26 ?_
  refine r_iload dX7_assemble_29 6 rfl ?_
  refine r_iconst (v := nI 4294967295) dX7_assemble_31 (by decide) ?_
  refine r_icmp_eqW (tgt := 44) dX7_assemble_32 (by decide) (by omega) (by omega) (fun zz32 => ?_) (fun zz32 => ?_)
  · refine r_iload dX7_assemble_44 7 rfl ?_
    refine r_iconst (v := nI 4294967295) dX7_assemble_46 (by decide) ?_
    refine r_icmp_eqW (tgt := 61) dX7_assemble_47 (by decide) (by omega) (by omega) (fun zz47 => ?_) (fun zz47 => ?_)
    · refine r_iload dX7_assemble_61 5 rfl ?_
      refine r_iload dX7_assemble_63 6 rfl ?_
      refine r_icmp_eqW (tgt := 88) dX7_assemble_65 (by decide) (by omega) (by omega) (fun h65 => ?_) (fun h65 => ?_)
      · exact absurd h65 (by omega)
      · refine r_iload dX7_assemble_68 5 rfl ?_
        refine r_iload dX7_assemble_70 7 rfl ?_
        refine r_icmp_eqW (tgt := 88) dX7_assemble_72 (by decide) (by omega) (by omega) (fun h72 => ?_) (fun h72 => ?_)
        · exact absurd h72 h65
        · refine r_iload dX7_assemble_75 6 rfl ?_
          refine r_iconst (v := nI 4294967295) dX7_assemble_77 (by decide) ?_
          refine r_icmp_eqW (tgt := 92) dX7_assemble_78 (by decide) (by omega) (by omega) (fun zz78 => ?_) (fun zz78 => ?_)
          · refine r_iconst (v := nI 0) dX7_assemble_92 (by decide) ?_
            refine r_istore (lv' := [(8, .int (nI (0))), (7, .ref (o + 6 + a)), (0, .ref (o)), (1, .int (nI (a))), (2, .int (nI (p))), (3, .int (nI (n))), (4, .int (nI (t0))), (5, .int (nI (4294967295))), (6, .int (nI (4294967295)))]) dX7_assemble_93 (by decide) rfl ?_
            refine r_iload_n dX7_assemble_95 rfl 5 rfl ?_
            refine r_iconst (v := nI 1) dX7_assemble_96 (by decide) ?_
            refine r_icmp_ltN (tgt := 124) dX7_assemble_97 (by decide) (by omega) (by omega) (fun h97 => ?_) (fun h97 => ?_)
            · exact absurd h97 (by omega)
            · refine r_iload_n dX7_assemble_100 rfl 5 rfl ?_
              refine r_sipush (v := nI 200) dX7_assemble_101 (by decide) ?_
              refine r_icmp_gtN (tgt := 124) dX7_assemble_104 (by decide) (by omega) (by omega) (fun h104 => ?_) (fun h104 => ?_)
              · exact absurd h104 (by omega)
              · refine r_iload dX7_assemble_107 0 rfl ?_
                refine r_if_neN (tgt := 124) dX7_assemble_109 (by decide) (by omega) (fun zz109 => ?_) (fun zz109 => ?_)
                · exact absurd zz109 (by decide)
                · refine r_iload dX7_assemble_112 7 rfl ?_
                  refine r_iconst (v := nI 4294967295) dX7_assemble_114 (by decide) ?_
                  refine r_icmp_neW (tgt := 127) dX7_assemble_115 (by decide) (by omega) (by omega) (fun zz115 => ?_) (fun zz115 => ?_)
                  · exact absurd zz115 (by decide)
                  · refine r_iload dX7_assemble_118 8 rfl ?_
                    refine r_iconst (v := nI 4294967295) dX7_assemble_120 (by decide) ?_
                    refine r_icmp_eqW (tgt := 127) dX7_assemble_121 (by decide) (by omega) (by omega) (fun zz121 => ?_) (fun zz121 => ?_)
                    · refine r_aload_n dX7_assemble_127 rfl 2 rfl ?_
                      refine r_getI (ci := 9) (k := 5) dX7_assemble_128 fr_X7_49 hx.1.1.1 rfl ?_
                      refine Wx.top hx.1.o0 ?_
                      refine Wx.topN hr.c0 ?_
                      refine r_aload_n dX7_assemble_131 rfl 2 rfl ?_
                      refine r_getR (ci := 9) (k := 2) (b := o + 3) dX7_assemble_132 fr_X7_25 hx.1.1.1 rfl hx.1.1.2.1.2.2.1 ?_
                      refine r_alenQ dX7_assemble_135 hx.1.1.2.2.2.2.1.1 (by decide) (by decide) ?_
                      refine Wx.top (congrArg nI hx.1.1.2.2.2.2.1.2) ?_
                      refine r_icmp_geN (tgt := 181) dX7_assemble_136 (by decide) (by omega) (by omega) (fun h136 => ?_) (fun h136 => ?_)
                      · exact absurd h136 (by omega)
                      · refine r_aload_n dX7_assemble_139 rfl 2 rfl ?_
                        refine r_iload dX7_assemble_140 6 rfl ?_
                        refine r_iload_n dX7_assemble_142 rfl 5 rfl ?_
                        refine r_fnV (M2 := m_X7_gives) (As := [.int (nI (t0)), .int (nI (n))]) (rest := []) (v := some (.int (nI (0)))) dX7_assemble_143 cc_X7_assemble_119 rfl rfl rfl (Nat.le_of_ble_eq_true rfl) hx.1.1.1 rfl rfl (by decide) (o_gives_0 hx.1 hr hal (l := t0) (by omega) hn f0) rfl ?_
                        refine r_if_eqN (tgt := 181) dX7_assemble_146 (by decide) (by omega) (fun zz146 => ?_) (fun zz146 => ?_)
                        · refine r_bipush (v := nI 4294967293) dX7_assemble_181 (by decide) ?_
                          exact r_iret (ty := .int) dX7_assemble_183 rfl rfl ⟨congrArg (fun x => Sum.inl (some (Value.int x))) (by decide : nI 4294967293 = -3), rfl⟩
                        · exact absurd zz146 (by decide)
                    · exact absurd zz121 (by decide)
          · exact absurd zz78 (by decide)
    · exact absurd zz47 (by decide)
  · exact absurd zz32 (by decide)
set_option maxRecDepth 4000 in
set_option maxHeartbeats 400000 in
theorem o_asm_3_2 {G : GI} {S : Hp} {w : Nat → Nat} {k o : Nat} {A c g : Nat → Nat} {N : Nat} (h : OR S w k o A c) (hr : Rel c g N) (hal : ∀ l, l < g 0 → A l ≠ 0) {a p : Nat} (ha : a < 6) (hp : p < 4) {t0 : Nat} (q0 : t0 < g 0) {t1 : Nat} (q1 : t1 < g 0) {n : Nat} (hn0 : 0 < n) (hn : n ≤ 200) (n01 : t0 ≠ t1) (h0 : g 0 = 24) : Fn m_X7_assemble G [.ref (o), .int (nI (a)), .int (nI (p)), .int (nI (n)), .int (nI (t0)), .int (nI (t1)), .int (nI (4294967295))] S (some (.int (-3))) S := by
  refine Cn.of rfl (by decide) (Nat.le_of_ble_eq_true rfl) (fun hN hM => ?_)
  show Wx _ G _ 0 [(0, .ref (o)), (1, .int (nI (a))), (2, .int (nI (p))), (3, .int (nI (n))), (4, .int (nI (t0))), (5, .int (nI (t1))), (6, .int (nI (4294967295)))] [] _
  have hx := OX.refl h
  have h24 := hr.n24
  refine r_aload_n dX7_assemble_0 rfl 0 rfl ?_
  refine r_iload_n dX7_assemble_1 rfl 1 rfl ?_
  refine r_fnV (M2 := m_X7_machineAt) (As := [.int (nI (a))]) (rest := []) (v := some (.ref (o + 6 + a))) dX7_assemble_2 cc_X7_assemble_82 rfl rfl rfl (Nat.le_of_ble_eq_true rfl) hx.1.1.1 rfl rfl (by decide) (k_machineAt hx.1.1 (by omega)) rfl ?_
  refine r_astore (lv' := [(7, .ref (o + 6 + a)), (0, .ref (o)), (1, .int (nI (a))), (2, .int (nI (p))), (3, .int (nI (n))), (4, .int (nI (t0))), (5, .int (nI (t1))), (6, .int (nI (4294967295)))]) dX7_assemble_5 (by decide) rfl ?_
  refine r_aload dX7_assemble_7 0 rfl ?_
  refine r_ifnull dX7_assemble_9 ?_
  refine r_aload_n dX7_assemble_12 rfl 1 rfl ?_
  refine r_iload_n dX7_assemble_13 rfl 3 rfl ?_
  refine r_fnV (M2 := m_X7_productAt) (As := [.int (nI (p))]) (rest := []) (v := some (.ref (o + 12 + p))) dX7_assemble_14 cc_X7_assemble_75 rfl rfl rfl (Nat.le_of_ble_eq_true rfl) hx.1.1.1 rfl rfl (by decide) (k_productAt hx.1.1 (by omega)) rfl ?_
  refine r_ifnull dX7_assemble_17 ?_
  refine r_aload_n dX7_assemble_20 rfl 1 rfl ?_
  refine r_iload dX7_assemble_21 5 rfl ?_
  refine r_fnV (M2 := m_X7_lotAt) (As := [.int (nI (t0))]) (rest := []) (v := some (.ref (A t0))) dX7_assemble_23 cc_X7_assemble_105 rfl rfl rfl (Nat.le_of_ble_eq_true rfl) hx.1.1.1 rfl rfl (by decide) (o_lotAt hx.1 hr hal (l := t0) (by omega)) rfl ?_
  refine r_ifnull dX7_assemble_26 ?_
  refine r_iload dX7_assemble_29 6 rfl ?_
  refine r_iconst (v := nI 4294967295) dX7_assemble_31 (by decide) ?_
  refine r_icmp_eqW (tgt := 44) dX7_assemble_32 (by decide) (by omega) (by omega) (fun h32 => ?_) (fun h32 => ?_)
  · exact absurd h32 (by omega)
  · refine r_aload_n dX7_assemble_35 rfl 1 rfl ?_
    refine r_iload dX7_assemble_36 6 rfl ?_
    refine r_fnV (M2 := m_X7_lotAt) (As := [.int (nI (t1))]) (rest := []) (v := some (.ref (A t1))) dX7_assemble_38 cc_X7_assemble_105 rfl rfl rfl (Nat.le_of_ble_eq_true rfl) hx.1.1.1 rfl rfl (by decide) (o_lotAt hx.1 hr hal (l := t1) (by omega)) rfl ?_
    refine r_ifnull dX7_assemble_41 ?_
    refine r_iload dX7_assemble_44 7 rfl ?_
    refine r_iconst (v := nI 4294967295) dX7_assemble_46 (by decide) ?_
    refine r_icmp_eqW (tgt := 61) dX7_assemble_47 (by decide) (by omega) (by omega) (fun zz47 => ?_) (fun zz47 => ?_)
    · refine r_iload dX7_assemble_61 5 rfl ?_
      refine r_iload dX7_assemble_63 6 rfl ?_
      refine r_icmp_eqN (tgt := 88) dX7_assemble_65 (by decide) (by omega) (by omega) (fun h65 => ?_) (fun h65 => ?_)
      · exact absurd h65 (by omega)
      · refine r_iload dX7_assemble_68 5 rfl ?_
        refine r_iload dX7_assemble_70 7 rfl ?_
        refine r_icmp_eqW (tgt := 88) dX7_assemble_72 (by decide) (by omega) (by omega) (fun h72 => ?_) (fun h72 => ?_)
        · exact absurd h72 (by omega)
        · refine r_iload dX7_assemble_75 6 rfl ?_
          refine r_iconst (v := nI 4294967295) dX7_assemble_77 (by decide) ?_
          refine r_icmp_eqW (tgt := 92) dX7_assemble_78 (by decide) (by omega) (by omega) (fun h78 => ?_) (fun h78 => ?_)
          · exact absurd h78 h32
          · refine r_iload dX7_assemble_81 6 rfl ?_
            refine r_iload dX7_assemble_83 7 rfl ?_
            refine r_icmp_neW (tgt := 92) dX7_assemble_85 (by decide) (by omega) (by omega) (fun h85 => ?_) (fun h85 => ?_)
            · refine r_iconst (v := nI 0) dX7_assemble_92 (by decide) ?_
              refine r_istore (lv' := [(8, .int (nI (0))), (7, .ref (o + 6 + a)), (0, .ref (o)), (1, .int (nI (a))), (2, .int (nI (p))), (3, .int (nI (n))), (4, .int (nI (t0))), (5, .int (nI (t1))), (6, .int (nI (4294967295)))]) dX7_assemble_93 (by decide) rfl ?_
              refine r_iload_n dX7_assemble_95 rfl 5 rfl ?_
              refine r_iconst (v := nI 1) dX7_assemble_96 (by decide) ?_
              refine r_icmp_ltN (tgt := 124) dX7_assemble_97 (by decide) (by omega) (by omega) (fun h97 => ?_) (fun h97 => ?_)
              · exact absurd h97 (by omega)
              · refine r_iload_n dX7_assemble_100 rfl 5 rfl ?_
                refine r_sipush (v := nI 200) dX7_assemble_101 (by decide) ?_
                refine r_icmp_gtN (tgt := 124) dX7_assemble_104 (by decide) (by omega) (by omega) (fun h104 => ?_) (fun h104 => ?_)
                · exact absurd h104 (by omega)
                · refine r_iload dX7_assemble_107 0 rfl ?_
                  refine r_if_neN (tgt := 124) dX7_assemble_109 (by decide) (by omega) (fun zz109 => ?_) (fun zz109 => ?_)
                  · exact absurd zz109 (by decide)
                  · refine r_iload dX7_assemble_112 7 rfl ?_
                    refine r_iconst (v := nI 4294967295) dX7_assemble_114 (by decide) ?_
                    refine r_icmp_neW (tgt := 127) dX7_assemble_115 (by decide) (by omega) (by omega) (fun h115 => ?_) (fun h115 => ?_)
                    · refine r_aload_n dX7_assemble_127 rfl 2 rfl ?_
                      refine r_getI (ci := 9) (k := 5) dX7_assemble_128 fr_X7_49 hx.1.1.1 rfl ?_
                      refine Wx.top hx.1.o0 ?_
                      refine Wx.topN hr.c0 ?_
                      refine r_aload_n dX7_assemble_131 rfl 2 rfl ?_
                      refine r_getR (ci := 9) (k := 2) (b := o + 3) dX7_assemble_132 fr_X7_25 hx.1.1.1 rfl hx.1.1.2.1.2.2.1 ?_
                      refine r_alenQ dX7_assemble_135 hx.1.1.2.2.2.2.1.1 (by decide) (by decide) ?_
                      refine Wx.top (congrArg nI hx.1.1.2.2.2.2.1.2) ?_
                      refine r_icmp_geN (tgt := 181) dX7_assemble_136 (by decide) (by omega) (by omega) (fun h136 => ?_) (fun h136 => ?_)
                      · refine r_bipush (v := nI 4294967293) dX7_assemble_181 (by decide) ?_
                        exact r_iret (ty := .int) dX7_assemble_183 rfl rfl ⟨congrArg (fun x => Sum.inl (some (Value.int x))) (by decide : nI 4294967293 = -3), rfl⟩
                      · exact absurd h136 (by omega)
                    · exact absurd h115 h32
            · exact absurd h85 h32
    · exact absurd zz47 (by decide)
set_option maxRecDepth 4000 in
set_option maxHeartbeats 400000 in
theorem o_asm_3_2_0 {G : GI} {S : Hp} {w : Nat → Nat} {k o : Nat} {A c g : Nat → Nat} {N : Nat} (h : OR S w k o A c) (hr : Rel c g N) (hal : ∀ l, l < g 0 → A l ≠ 0) {a p : Nat} (ha : a < 6) (hp : p < 4) {t0 : Nat} (q0 : t0 < g 0) {t1 : Nat} (q1 : t1 < g 0) {n : Nat} (hn0 : 0 < n) (hn : n ≤ 200) (n01 : t0 ≠ t1) (h0 : g 0 < 24) (f0 : fewP g t0 n) : Fn m_X7_assemble G [.ref (o), .int (nI (a)), .int (nI (p)), .int (nI (n)), .int (nI (t0)), .int (nI (t1)), .int (nI (4294967295))] S (some (.int (-3))) S := by
  refine Cn.of rfl (by decide) (Nat.le_of_ble_eq_true rfl) (fun hN hM => ?_)
  show Wx _ G _ 0 [(0, .ref (o)), (1, .int (nI (a))), (2, .int (nI (p))), (3, .int (nI (n))), (4, .int (nI (t0))), (5, .int (nI (t1))), (6, .int (nI (4294967295)))] [] _
  have hx := OX.refl h
  have h24 := hr.n24
  refine r_aload_n dX7_assemble_0 rfl 0 rfl ?_
  refine r_iload_n dX7_assemble_1 rfl 1 rfl ?_
  refine r_fnV (M2 := m_X7_machineAt) (As := [.int (nI (a))]) (rest := []) (v := some (.ref (o + 6 + a))) dX7_assemble_2 cc_X7_assemble_82 rfl rfl rfl (Nat.le_of_ble_eq_true rfl) hx.1.1.1 rfl rfl (by decide) (k_machineAt hx.1.1 (by omega)) rfl ?_
  refine r_astore (lv' := [(7, .ref (o + 6 + a)), (0, .ref (o)), (1, .int (nI (a))), (2, .int (nI (p))), (3, .int (nI (n))), (4, .int (nI (t0))), (5, .int (nI (t1))), (6, .int (nI (4294967295)))]) dX7_assemble_5 (by decide) rfl ?_
  refine r_aload dX7_assemble_7 0 rfl ?_
  refine r_ifnull dX7_assemble_9 ?_
  refine r_aload_n dX7_assemble_12 rfl 1 rfl ?_
  refine r_iload_n dX7_assemble_13 rfl 3 rfl ?_
  refine r_fnV (M2 := m_X7_productAt) (As := [.int (nI (p))]) (rest := []) (v := some (.ref (o + 12 + p))) dX7_assemble_14 cc_X7_assemble_75 rfl rfl rfl (Nat.le_of_ble_eq_true rfl) hx.1.1.1 rfl rfl (by decide) (k_productAt hx.1.1 (by omega)) rfl ?_
  refine r_ifnull dX7_assemble_17 ?_
  refine r_aload_n dX7_assemble_20 rfl 1 rfl ?_
  refine r_iload dX7_assemble_21 5 rfl ?_
  refine r_fnV (M2 := m_X7_lotAt) (As := [.int (nI (t0))]) (rest := []) (v := some (.ref (A t0))) dX7_assemble_23 cc_X7_assemble_105 rfl rfl rfl (Nat.le_of_ble_eq_true rfl) hx.1.1.1 rfl rfl (by decide) (o_lotAt hx.1 hr hal (l := t0) (by omega)) rfl ?_
  refine r_ifnull dX7_assemble_26 ?_
  refine r_iload dX7_assemble_29 6 rfl ?_
  refine r_iconst (v := nI 4294967295) dX7_assemble_31 (by decide) ?_
  refine r_icmp_eqW (tgt := 44) dX7_assemble_32 (by decide) (by omega) (by omega) (fun h32 => ?_) (fun h32 => ?_)
  · exact absurd h32 (by omega)
  · refine r_aload_n dX7_assemble_35 rfl 1 rfl ?_
    refine r_iload dX7_assemble_36 6 rfl ?_
    refine r_fnV (M2 := m_X7_lotAt) (As := [.int (nI (t1))]) (rest := []) (v := some (.ref (A t1))) dX7_assemble_38 cc_X7_assemble_105 rfl rfl rfl (Nat.le_of_ble_eq_true rfl) hx.1.1.1 rfl rfl (by decide) (o_lotAt hx.1 hr hal (l := t1) (by omega)) rfl ?_
    refine r_ifnull dX7_assemble_41 ?_
    refine r_iload dX7_assemble_44 7 rfl ?_
    refine r_iconst (v := nI 4294967295) dX7_assemble_46 (by decide) ?_
    refine r_icmp_eqW (tgt := 61) dX7_assemble_47 (by decide) (by omega) (by omega) (fun zz47 => ?_) (fun zz47 => ?_)
    · refine r_iload dX7_assemble_61 5 rfl ?_
      refine r_iload dX7_assemble_63 6 rfl ?_
      refine r_icmp_eqN (tgt := 88) dX7_assemble_65 (by decide) (by omega) (by omega) (fun h65 => ?_) (fun h65 => ?_)
      · exact absurd h65 (by omega)
      · refine r_iload dX7_assemble_68 5 rfl ?_
        refine r_iload dX7_assemble_70 7 rfl ?_
        refine r_icmp_eqW (tgt := 88) dX7_assemble_72 (by decide) (by omega) (by omega) (fun h72 => ?_) (fun h72 => ?_)
        · exact absurd h72 (by omega)
        · refine r_iload dX7_assemble_75 6 rfl ?_
          refine r_iconst (v := nI 4294967295) dX7_assemble_77 (by decide) ?_
          refine r_icmp_eqW (tgt := 92) dX7_assemble_78 (by decide) (by omega) (by omega) (fun h78 => ?_) (fun h78 => ?_)
          · exact absurd h78 h32
          · refine r_iload dX7_assemble_81 6 rfl ?_
            refine r_iload dX7_assemble_83 7 rfl ?_
            refine r_icmp_neW (tgt := 92) dX7_assemble_85 (by decide) (by omega) (by omega) (fun h85 => ?_) (fun h85 => ?_)
            · refine r_iconst (v := nI 0) dX7_assemble_92 (by decide) ?_
              refine r_istore (lv' := [(8, .int (nI (0))), (7, .ref (o + 6 + a)), (0, .ref (o)), (1, .int (nI (a))), (2, .int (nI (p))), (3, .int (nI (n))), (4, .int (nI (t0))), (5, .int (nI (t1))), (6, .int (nI (4294967295)))]) dX7_assemble_93 (by decide) rfl ?_
              refine r_iload_n dX7_assemble_95 rfl 5 rfl ?_
              refine r_iconst (v := nI 1) dX7_assemble_96 (by decide) ?_
              refine r_icmp_ltN (tgt := 124) dX7_assemble_97 (by decide) (by omega) (by omega) (fun h97 => ?_) (fun h97 => ?_)
              · exact absurd h97 (by omega)
              · refine r_iload_n dX7_assemble_100 rfl 5 rfl ?_
                refine r_sipush (v := nI 200) dX7_assemble_101 (by decide) ?_
                refine r_icmp_gtN (tgt := 124) dX7_assemble_104 (by decide) (by omega) (by omega) (fun h104 => ?_) (fun h104 => ?_)
                · exact absurd h104 (by omega)
                · refine r_iload dX7_assemble_107 0 rfl ?_
                  refine r_if_neN (tgt := 124) dX7_assemble_109 (by decide) (by omega) (fun zz109 => ?_) (fun zz109 => ?_)
                  · exact absurd zz109 (by decide)
                  · refine r_iload dX7_assemble_112 7 rfl ?_
                    refine r_iconst (v := nI 4294967295) dX7_assemble_114 (by decide) ?_
                    refine r_icmp_neW (tgt := 127) dX7_assemble_115 (by decide) (by omega) (by omega) (fun h115 => ?_) (fun h115 => ?_)
                    · refine r_aload_n dX7_assemble_127 rfl 2 rfl ?_
                      refine r_getI (ci := 9) (k := 5) dX7_assemble_128 fr_X7_49 hx.1.1.1 rfl ?_
                      refine Wx.top hx.1.o0 ?_
                      refine Wx.topN hr.c0 ?_
                      refine r_aload_n dX7_assemble_131 rfl 2 rfl ?_
                      refine r_getR (ci := 9) (k := 2) (b := o + 3) dX7_assemble_132 fr_X7_25 hx.1.1.1 rfl hx.1.1.2.1.2.2.1 ?_
                      refine r_alenQ dX7_assemble_135 hx.1.1.2.2.2.2.1.1 (by decide) (by decide) ?_
                      refine Wx.top (congrArg nI hx.1.1.2.2.2.2.1.2) ?_
                      refine r_icmp_geN (tgt := 181) dX7_assemble_136 (by decide) (by omega) (by omega) (fun h136 => ?_) (fun h136 => ?_)
                      · exact absurd h136 (by omega)
                      · refine r_aload_n dX7_assemble_139 rfl 2 rfl ?_
                        refine r_iload dX7_assemble_140 6 rfl ?_
                        refine r_iload_n dX7_assemble_142 rfl 5 rfl ?_
                        refine r_fnV (M2 := m_X7_gives) (As := [.int (nI (t0)), .int (nI (n))]) (rest := []) (v := some (.int (nI (0)))) dX7_assemble_143 cc_X7_assemble_119 rfl rfl rfl (Nat.le_of_ble_eq_true rfl) hx.1.1.1 rfl rfl (by decide) (o_gives_0 hx.1 hr hal (l := t0) (by omega) hn f0) rfl ?_
                        refine r_if_eqN (tgt := 181) dX7_assemble_146 (by decide) (by omega) (fun zz146 => ?_) (fun zz146 => ?_)
                        · refine r_bipush (v := nI 4294967293) dX7_assemble_181 (by decide) ?_
                          exact r_iret (ty := .int) dX7_assemble_183 rfl rfl ⟨congrArg (fun x => Sum.inl (some (Value.int x))) (by decide : nI 4294967293 = -3), rfl⟩
                        · exact absurd zz146 (by decide)
                    · exact absurd h115 h32
            · exact absurd h85 h32
    · exact absurd zz47 (by decide)
set_option maxRecDepth 4000 in
set_option maxHeartbeats 400000 in
theorem o_asm_3_2_1 {G : GI} {S : Hp} {w : Nat → Nat} {k o : Nat} {A c g : Nat → Nat} {N : Nat} (h : OR S w k o A c) (hr : Rel c g N) (hal : ∀ l, l < g 0 → A l ≠ 0) {a p : Nat} (ha : a < 6) (hp : p < 4) {t0 : Nat} (q0 : t0 < g 0) {t1 : Nat} (q1 : t1 < g 0) {n : Nat} (hn0 : 0 < n) (hn : n ≤ 200) (n01 : t0 ≠ t1) (h0 : g 0 < 24) (f0 : ¬ fewP g t0 n) (f1 : fewP g t1 n) : Fn m_X7_assemble G [.ref (o), .int (nI (a)), .int (nI (p)), .int (nI (n)), .int (nI (t0)), .int (nI (t1)), .int (nI (4294967295))] S (some (.int (-3))) S := by
  refine Cn.of rfl (by decide) (Nat.le_of_ble_eq_true rfl) (fun hN hM => ?_)
  show Wx _ G _ 0 [(0, .ref (o)), (1, .int (nI (a))), (2, .int (nI (p))), (3, .int (nI (n))), (4, .int (nI (t0))), (5, .int (nI (t1))), (6, .int (nI (4294967295)))] [] _
  have hx := OX.refl h
  have h24 := hr.n24
  refine r_aload_n dX7_assemble_0 rfl 0 rfl ?_
  refine r_iload_n dX7_assemble_1 rfl 1 rfl ?_
  refine r_fnV (M2 := m_X7_machineAt) (As := [.int (nI (a))]) (rest := []) (v := some (.ref (o + 6 + a))) dX7_assemble_2 cc_X7_assemble_82 rfl rfl rfl (Nat.le_of_ble_eq_true rfl) hx.1.1.1 rfl rfl (by decide) (k_machineAt hx.1.1 (by omega)) rfl ?_
  refine r_astore (lv' := [(7, .ref (o + 6 + a)), (0, .ref (o)), (1, .int (nI (a))), (2, .int (nI (p))), (3, .int (nI (n))), (4, .int (nI (t0))), (5, .int (nI (t1))), (6, .int (nI (4294967295)))]) dX7_assemble_5 (by decide) rfl ?_
  refine r_aload dX7_assemble_7 0 rfl ?_
  refine r_ifnull dX7_assemble_9 ?_
  refine r_aload_n dX7_assemble_12 rfl 1 rfl ?_
  refine r_iload_n dX7_assemble_13 rfl 3 rfl ?_
  refine r_fnV (M2 := m_X7_productAt) (As := [.int (nI (p))]) (rest := []) (v := some (.ref (o + 12 + p))) dX7_assemble_14 cc_X7_assemble_75 rfl rfl rfl (Nat.le_of_ble_eq_true rfl) hx.1.1.1 rfl rfl (by decide) (k_productAt hx.1.1 (by omega)) rfl ?_
  refine r_ifnull dX7_assemble_17 ?_
  refine r_aload_n dX7_assemble_20 rfl 1 rfl ?_
  refine r_iload dX7_assemble_21 5 rfl ?_
  refine r_fnV (M2 := m_X7_lotAt) (As := [.int (nI (t0))]) (rest := []) (v := some (.ref (A t0))) dX7_assemble_23 cc_X7_assemble_105 rfl rfl rfl (Nat.le_of_ble_eq_true rfl) hx.1.1.1 rfl rfl (by decide) (o_lotAt hx.1 hr hal (l := t0) (by omega)) rfl ?_
  refine r_ifnull dX7_assemble_26 ?_
  refine r_iload dX7_assemble_29 6 rfl ?_
  refine r_iconst (v := nI 4294967295) dX7_assemble_31 (by decide) ?_
  refine r_icmp_eqW (tgt := 44) dX7_assemble_32 (by decide) (by omega) (by omega) (fun h32 => ?_) (fun h32 => ?_)
  · exact absurd h32 (by omega)
  · refine r_aload_n dX7_assemble_35 rfl 1 rfl ?_
    refine r_iload dX7_assemble_36 6 rfl ?_
    refine r_fnV (M2 := m_X7_lotAt) (As := [.int (nI (t1))]) (rest := []) (v := some (.ref (A t1))) dX7_assemble_38 cc_X7_assemble_105 rfl rfl rfl (Nat.le_of_ble_eq_true rfl) hx.1.1.1 rfl rfl (by decide) (o_lotAt hx.1 hr hal (l := t1) (by omega)) rfl ?_
    refine r_ifnull dX7_assemble_41 ?_
    refine r_iload dX7_assemble_44 7 rfl ?_
    refine r_iconst (v := nI 4294967295) dX7_assemble_46 (by decide) ?_
    refine r_icmp_eqW (tgt := 61) dX7_assemble_47 (by decide) (by omega) (by omega) (fun zz47 => ?_) (fun zz47 => ?_)
    · refine r_iload dX7_assemble_61 5 rfl ?_
      refine r_iload dX7_assemble_63 6 rfl ?_
      refine r_icmp_eqN (tgt := 88) dX7_assemble_65 (by decide) (by omega) (by omega) (fun h65 => ?_) (fun h65 => ?_)
      · exact absurd h65 (by omega)
      · refine r_iload dX7_assemble_68 5 rfl ?_
        refine r_iload dX7_assemble_70 7 rfl ?_
        refine r_icmp_eqW (tgt := 88) dX7_assemble_72 (by decide) (by omega) (by omega) (fun h72 => ?_) (fun h72 => ?_)
        · exact absurd h72 (by omega)
        · refine r_iload dX7_assemble_75 6 rfl ?_
          refine r_iconst (v := nI 4294967295) dX7_assemble_77 (by decide) ?_
          refine r_icmp_eqW (tgt := 92) dX7_assemble_78 (by decide) (by omega) (by omega) (fun h78 => ?_) (fun h78 => ?_)
          · exact absurd h78 h32
          · refine r_iload dX7_assemble_81 6 rfl ?_
            refine r_iload dX7_assemble_83 7 rfl ?_
            refine r_icmp_neW (tgt := 92) dX7_assemble_85 (by decide) (by omega) (by omega) (fun h85 => ?_) (fun h85 => ?_)
            · refine r_iconst (v := nI 0) dX7_assemble_92 (by decide) ?_
              refine r_istore (lv' := [(8, .int (nI (0))), (7, .ref (o + 6 + a)), (0, .ref (o)), (1, .int (nI (a))), (2, .int (nI (p))), (3, .int (nI (n))), (4, .int (nI (t0))), (5, .int (nI (t1))), (6, .int (nI (4294967295)))]) dX7_assemble_93 (by decide) rfl ?_
              refine r_iload_n dX7_assemble_95 rfl 5 rfl ?_
              refine r_iconst (v := nI 1) dX7_assemble_96 (by decide) ?_
              refine r_icmp_ltN (tgt := 124) dX7_assemble_97 (by decide) (by omega) (by omega) (fun h97 => ?_) (fun h97 => ?_)
              · exact absurd h97 (by omega)
              · refine r_iload_n dX7_assemble_100 rfl 5 rfl ?_
                refine r_sipush (v := nI 200) dX7_assemble_101 (by decide) ?_
                refine r_icmp_gtN (tgt := 124) dX7_assemble_104 (by decide) (by omega) (by omega) (fun h104 => ?_) (fun h104 => ?_)
                · exact absurd h104 (by omega)
                · refine r_iload dX7_assemble_107 0 rfl ?_
                  refine r_if_neN (tgt := 124) dX7_assemble_109 (by decide) (by omega) (fun zz109 => ?_) (fun zz109 => ?_)
                  · exact absurd zz109 (by decide)
                  · refine r_iload dX7_assemble_112 7 rfl ?_
                    refine r_iconst (v := nI 4294967295) dX7_assemble_114 (by decide) ?_
                    refine r_icmp_neW (tgt := 127) dX7_assemble_115 (by decide) (by omega) (by omega) (fun h115 => ?_) (fun h115 => ?_)
                    · refine r_aload_n dX7_assemble_127 rfl 2 rfl ?_
                      refine r_getI (ci := 9) (k := 5) dX7_assemble_128 fr_X7_49 hx.1.1.1 rfl ?_
                      refine Wx.top hx.1.o0 ?_
                      refine Wx.topN hr.c0 ?_
                      refine r_aload_n dX7_assemble_131 rfl 2 rfl ?_
                      refine r_getR (ci := 9) (k := 2) (b := o + 3) dX7_assemble_132 fr_X7_25 hx.1.1.1 rfl hx.1.1.2.1.2.2.1 ?_
                      refine r_alenQ dX7_assemble_135 hx.1.1.2.2.2.2.1.1 (by decide) (by decide) ?_
                      refine Wx.top (congrArg nI hx.1.1.2.2.2.2.1.2) ?_
                      refine r_icmp_geN (tgt := 181) dX7_assemble_136 (by decide) (by omega) (by omega) (fun h136 => ?_) (fun h136 => ?_)
                      · exact absurd h136 (by omega)
                      · refine r_aload_n dX7_assemble_139 rfl 2 rfl ?_
                        refine r_iload dX7_assemble_140 6 rfl ?_
                        refine r_iload_n dX7_assemble_142 rfl 5 rfl ?_
                        refine r_fnV (M2 := m_X7_gives) (As := [.int (nI (t0)), .int (nI (n))]) (rest := []) (v := some (.int (nI (1)))) dX7_assemble_143 cc_X7_assemble_119 rfl rfl rfl (Nat.le_of_ble_eq_true rfl) hx.1.1.1 rfl rfl (by decide) (o_gives_1 hx.1 hr hal (l := t0) (by omega) hn f0) rfl ?_
                        refine r_if_eqN (tgt := 181) dX7_assemble_146 (by decide) (by omega) (fun zz146 => ?_) (fun zz146 => ?_)
                        · exact absurd zz146 (by decide)
                        · refine r_iload dX7_assemble_149 7 rfl ?_
                          refine r_iconst (v := nI 4294967295) dX7_assemble_151 (by decide) ?_
                          refine r_icmp_eqW (tgt := 165) dX7_assemble_152 (by decide) (by omega) (by omega) (fun h152 => ?_) (fun h152 => ?_)
                          · exact absurd h152 h32
                          · refine r_aload_n dX7_assemble_155 rfl 2 rfl ?_
                            refine r_iload dX7_assemble_156 7 rfl ?_
                            refine r_iload_n dX7_assemble_158 rfl 5 rfl ?_
                            refine r_fnV (M2 := m_X7_gives) (As := [.int (nI (t1)), .int (nI (n))]) (rest := []) (v := some (.int (nI (0)))) dX7_assemble_159 cc_X7_assemble_119 rfl rfl rfl (Nat.le_of_ble_eq_true rfl) hx.1.1.1 rfl rfl (by decide) (o_gives_0 hx.1 hr hal (l := t1) (by omega) hn f1) rfl ?_
                            refine r_if_eqN (tgt := 181) dX7_assemble_162 (by decide) (by omega) (fun zz162 => ?_) (fun zz162 => ?_)
                            · refine r_bipush (v := nI 4294967293) dX7_assemble_181 (by decide) ?_
                              exact r_iret (ty := .int) dX7_assemble_183 rfl rfl ⟨congrArg (fun x => Sum.inl (some (Value.int x))) (by decide : nI 4294967293 = -3), rfl⟩
                            · exact absurd zz162 (by decide)
                    · exact absurd h115 h32
            · exact absurd h85 h32
    · exact absurd zz47 (by decide)
set_option maxRecDepth 4000 in
set_option maxHeartbeats 400000 in
theorem o_asm_3_3 {G : GI} {S : Hp} {w : Nat → Nat} {k o : Nat} {A c g : Nat → Nat} {N : Nat} (h : OR S w k o A c) (hr : Rel c g N) (hal : ∀ l, l < g 0 → A l ≠ 0) {a p : Nat} (ha : a < 6) (hp : p < 4) {t0 : Nat} (q0 : t0 < g 0) {t1 : Nat} (q1 : t1 < g 0) {t2 : Nat} (q2 : t2 < g 0) {n : Nat} (hn0 : 0 < n) (hn : n ≤ 200) (n01 : t0 ≠ t1) (n02 : t0 ≠ t2) (n12 : t1 ≠ t2) (h0 : g 0 = 24) : Fn m_X7_assemble G [.ref (o), .int (nI (a)), .int (nI (p)), .int (nI (n)), .int (nI (t0)), .int (nI (t1)), .int (nI (t2))] S (some (.int (-3))) S := by
  refine Cn.of rfl (by decide) (Nat.le_of_ble_eq_true rfl) (fun hN hM => ?_)
  show Wx _ G _ 0 [(0, .ref (o)), (1, .int (nI (a))), (2, .int (nI (p))), (3, .int (nI (n))), (4, .int (nI (t0))), (5, .int (nI (t1))), (6, .int (nI (t2)))] [] _
  have hx := OX.refl h
  have h24 := hr.n24
  refine r_aload_n dX7_assemble_0 rfl 0 rfl ?_
  refine r_iload_n dX7_assemble_1 rfl 1 rfl ?_
  refine r_fnV (M2 := m_X7_machineAt) (As := [.int (nI (a))]) (rest := []) (v := some (.ref (o + 6 + a))) dX7_assemble_2 cc_X7_assemble_82 rfl rfl rfl (Nat.le_of_ble_eq_true rfl) hx.1.1.1 rfl rfl (by decide) (k_machineAt hx.1.1 (by omega)) rfl ?_
  refine r_astore (lv' := [(7, .ref (o + 6 + a)), (0, .ref (o)), (1, .int (nI (a))), (2, .int (nI (p))), (3, .int (nI (n))), (4, .int (nI (t0))), (5, .int (nI (t1))), (6, .int (nI (t2)))]) dX7_assemble_5 (by decide) rfl ?_
  refine r_aload dX7_assemble_7 0 rfl ?_
  refine r_ifnull dX7_assemble_9 ?_
  refine r_aload_n dX7_assemble_12 rfl 1 rfl ?_
  refine r_iload_n dX7_assemble_13 rfl 3 rfl ?_
  refine r_fnV (M2 := m_X7_productAt) (As := [.int (nI (p))]) (rest := []) (v := some (.ref (o + 12 + p))) dX7_assemble_14 cc_X7_assemble_75 rfl rfl rfl (Nat.le_of_ble_eq_true rfl) hx.1.1.1 rfl rfl (by decide) (k_productAt hx.1.1 (by omega)) rfl ?_
  refine r_ifnull dX7_assemble_17 ?_
  refine r_aload_n dX7_assemble_20 rfl 1 rfl ?_
  refine r_iload dX7_assemble_21 5 rfl ?_
  refine r_fnV (M2 := m_X7_lotAt) (As := [.int (nI (t0))]) (rest := []) (v := some (.ref (A t0))) dX7_assemble_23 cc_X7_assemble_105 rfl rfl rfl (Nat.le_of_ble_eq_true rfl) hx.1.1.1 rfl rfl (by decide) (o_lotAt hx.1 hr hal (l := t0) (by omega)) rfl ?_
  refine r_ifnull dX7_assemble_26 ?_
  refine r_iload dX7_assemble_29 6 rfl ?_
  refine r_iconst (v := nI 4294967295) dX7_assemble_31 (by decide) ?_
  refine r_icmp_eqW (tgt := 44) dX7_assemble_32 (by decide) (by omega) (by omega) (fun h32 => ?_) (fun h32 => ?_)
  · exact absurd h32 (by omega)
  · refine r_aload_n dX7_assemble_35 rfl 1 rfl ?_
    refine r_iload dX7_assemble_36 6 rfl ?_
    refine r_fnV (M2 := m_X7_lotAt) (As := [.int (nI (t1))]) (rest := []) (v := some (.ref (A t1))) dX7_assemble_38 cc_X7_assemble_105 rfl rfl rfl (Nat.le_of_ble_eq_true rfl) hx.1.1.1 rfl rfl (by decide) (o_lotAt hx.1 hr hal (l := t1) (by omega)) rfl ?_
    refine r_ifnull dX7_assemble_41 ?_
    refine r_iload dX7_assemble_44 7 rfl ?_
    refine r_iconst (v := nI 4294967295) dX7_assemble_46 (by decide) ?_
    refine r_icmp_eqW (tgt := 61) dX7_assemble_47 (by decide) (by omega) (by omega) (fun h47 => ?_) (fun h47 => ?_)
    · exact absurd h47 (by omega)
    · refine r_aload_n dX7_assemble_50 rfl 1 rfl ?_
      refine r_iload dX7_assemble_51 7 rfl ?_
      refine r_fnV (M2 := m_X7_lotAt) (As := [.int (nI (t2))]) (rest := []) (v := some (.ref (A t2))) dX7_assemble_53 cc_X7_assemble_105 rfl rfl rfl (Nat.le_of_ble_eq_true rfl) hx.1.1.1 rfl rfl (by decide) (o_lotAt hx.1 hr hal (l := t2) (by omega)) rfl ?_
      refine r_ifnonnull (tgt := 61) dX7_assemble_56 (by decide) ?_
      refine r_iload dX7_assemble_61 5 rfl ?_
      refine r_iload dX7_assemble_63 6 rfl ?_
      refine r_icmp_eqN (tgt := 88) dX7_assemble_65 (by decide) (by omega) (by omega) (fun h65 => ?_) (fun h65 => ?_)
      · exact absurd h65 (by omega)
      · refine r_iload dX7_assemble_68 5 rfl ?_
        refine r_iload dX7_assemble_70 7 rfl ?_
        refine r_icmp_eqN (tgt := 88) dX7_assemble_72 (by decide) (by omega) (by omega) (fun h72 => ?_) (fun h72 => ?_)
        · exact absurd h72 (by omega)
        · refine r_iload dX7_assemble_75 6 rfl ?_
          refine r_iconst (v := nI 4294967295) dX7_assemble_77 (by decide) ?_
          refine r_icmp_eqW (tgt := 92) dX7_assemble_78 (by decide) (by omega) (by omega) (fun h78 => ?_) (fun h78 => ?_)
          · exact absurd h78 h32
          · refine r_iload dX7_assemble_81 6 rfl ?_
            refine r_iload dX7_assemble_83 7 rfl ?_
            refine r_icmp_neN (tgt := 92) dX7_assemble_85 (by decide) (by omega) (by omega) (fun h85 => ?_) (fun h85 => ?_)
            · refine r_iconst (v := nI 0) dX7_assemble_92 (by decide) ?_
              refine r_istore (lv' := [(8, .int (nI (0))), (7, .ref (o + 6 + a)), (0, .ref (o)), (1, .int (nI (a))), (2, .int (nI (p))), (3, .int (nI (n))), (4, .int (nI (t0))), (5, .int (nI (t1))), (6, .int (nI (t2)))]) dX7_assemble_93 (by decide) rfl ?_
              refine r_iload_n dX7_assemble_95 rfl 5 rfl ?_
              refine r_iconst (v := nI 1) dX7_assemble_96 (by decide) ?_
              refine r_icmp_ltN (tgt := 124) dX7_assemble_97 (by decide) (by omega) (by omega) (fun h97 => ?_) (fun h97 => ?_)
              · exact absurd h97 (by omega)
              · refine r_iload_n dX7_assemble_100 rfl 5 rfl ?_
                refine r_sipush (v := nI 200) dX7_assemble_101 (by decide) ?_
                refine r_icmp_gtN (tgt := 124) dX7_assemble_104 (by decide) (by omega) (by omega) (fun h104 => ?_) (fun h104 => ?_)
                · exact absurd h104 (by omega)
                · refine r_iload dX7_assemble_107 0 rfl ?_
                  refine r_if_neN (tgt := 124) dX7_assemble_109 (by decide) (by omega) (fun zz109 => ?_) (fun zz109 => ?_)
                  · exact absurd zz109 (by decide)
                  · refine r_iload dX7_assemble_112 7 rfl ?_
                    refine r_iconst (v := nI 4294967295) dX7_assemble_114 (by decide) ?_
                    refine r_icmp_neW (tgt := 127) dX7_assemble_115 (by decide) (by omega) (by omega) (fun h115 => ?_) (fun h115 => ?_)
                    · refine r_aload_n dX7_assemble_127 rfl 2 rfl ?_
                      refine r_getI (ci := 9) (k := 5) dX7_assemble_128 fr_X7_49 hx.1.1.1 rfl ?_
                      refine Wx.top hx.1.o0 ?_
                      refine Wx.topN hr.c0 ?_
                      refine r_aload_n dX7_assemble_131 rfl 2 rfl ?_
                      refine r_getR (ci := 9) (k := 2) (b := o + 3) dX7_assemble_132 fr_X7_25 hx.1.1.1 rfl hx.1.1.2.1.2.2.1 ?_
                      refine r_alenQ dX7_assemble_135 hx.1.1.2.2.2.2.1.1 (by decide) (by decide) ?_
                      refine Wx.top (congrArg nI hx.1.1.2.2.2.2.1.2) ?_
                      refine r_icmp_geN (tgt := 181) dX7_assemble_136 (by decide) (by omega) (by omega) (fun h136 => ?_) (fun h136 => ?_)
                      · refine r_bipush (v := nI 4294967293) dX7_assemble_181 (by decide) ?_
                        exact r_iret (ty := .int) dX7_assemble_183 rfl rfl ⟨congrArg (fun x => Sum.inl (some (Value.int x))) (by decide : nI 4294967293 = -3), rfl⟩
                      · exact absurd h136 (by omega)
                    · exact absurd h115 h32
            · exact absurd h85 (by omega)
set_option maxRecDepth 4000 in
set_option maxHeartbeats 400000 in
theorem o_asm_3_3_0 {G : GI} {S : Hp} {w : Nat → Nat} {k o : Nat} {A c g : Nat → Nat} {N : Nat} (h : OR S w k o A c) (hr : Rel c g N) (hal : ∀ l, l < g 0 → A l ≠ 0) {a p : Nat} (ha : a < 6) (hp : p < 4) {t0 : Nat} (q0 : t0 < g 0) {t1 : Nat} (q1 : t1 < g 0) {t2 : Nat} (q2 : t2 < g 0) {n : Nat} (hn0 : 0 < n) (hn : n ≤ 200) (n01 : t0 ≠ t1) (n02 : t0 ≠ t2) (n12 : t1 ≠ t2) (h0 : g 0 < 24) (f0 : fewP g t0 n) : Fn m_X7_assemble G [.ref (o), .int (nI (a)), .int (nI (p)), .int (nI (n)), .int (nI (t0)), .int (nI (t1)), .int (nI (t2))] S (some (.int (-3))) S := by
  refine Cn.of rfl (by decide) (Nat.le_of_ble_eq_true rfl) (fun hN hM => ?_)
  show Wx _ G _ 0 [(0, .ref (o)), (1, .int (nI (a))), (2, .int (nI (p))), (3, .int (nI (n))), (4, .int (nI (t0))), (5, .int (nI (t1))), (6, .int (nI (t2)))] [] _
  have hx := OX.refl h
  have h24 := hr.n24
  refine r_aload_n dX7_assemble_0 rfl 0 rfl ?_
  refine r_iload_n dX7_assemble_1 rfl 1 rfl ?_
  refine r_fnV (M2 := m_X7_machineAt) (As := [.int (nI (a))]) (rest := []) (v := some (.ref (o + 6 + a))) dX7_assemble_2 cc_X7_assemble_82 rfl rfl rfl (Nat.le_of_ble_eq_true rfl) hx.1.1.1 rfl rfl (by decide) (k_machineAt hx.1.1 (by omega)) rfl ?_
  refine r_astore (lv' := [(7, .ref (o + 6 + a)), (0, .ref (o)), (1, .int (nI (a))), (2, .int (nI (p))), (3, .int (nI (n))), (4, .int (nI (t0))), (5, .int (nI (t1))), (6, .int (nI (t2)))]) dX7_assemble_5 (by decide) rfl ?_
  refine r_aload dX7_assemble_7 0 rfl ?_
  refine r_ifnull dX7_assemble_9 ?_
  refine r_aload_n dX7_assemble_12 rfl 1 rfl ?_
  refine r_iload_n dX7_assemble_13 rfl 3 rfl ?_
  refine r_fnV (M2 := m_X7_productAt) (As := [.int (nI (p))]) (rest := []) (v := some (.ref (o + 12 + p))) dX7_assemble_14 cc_X7_assemble_75 rfl rfl rfl (Nat.le_of_ble_eq_true rfl) hx.1.1.1 rfl rfl (by decide) (k_productAt hx.1.1 (by omega)) rfl ?_
  refine r_ifnull dX7_assemble_17 ?_
  refine r_aload_n dX7_assemble_20 rfl 1 rfl ?_
  refine r_iload dX7_assemble_21 5 rfl ?_
  refine r_fnV (M2 := m_X7_lotAt) (As := [.int (nI (t0))]) (rest := []) (v := some (.ref (A t0))) dX7_assemble_23 cc_X7_assemble_105 rfl rfl rfl (Nat.le_of_ble_eq_true rfl) hx.1.1.1 rfl rfl (by decide) (o_lotAt hx.1 hr hal (l := t0) (by omega)) rfl ?_
  refine r_ifnull dX7_assemble_26 ?_
  refine r_iload dX7_assemble_29 6 rfl ?_
  refine r_iconst (v := nI 4294967295) dX7_assemble_31 (by decide) ?_
  refine r_icmp_eqW (tgt := 44) dX7_assemble_32 (by decide) (by omega) (by omega) (fun h32 => ?_) (fun h32 => ?_)
  · exact absurd h32 (by omega)
  · refine r_aload_n dX7_assemble_35 rfl 1 rfl ?_
    refine r_iload dX7_assemble_36 6 rfl ?_
    refine r_fnV (M2 := m_X7_lotAt) (As := [.int (nI (t1))]) (rest := []) (v := some (.ref (A t1))) dX7_assemble_38 cc_X7_assemble_105 rfl rfl rfl (Nat.le_of_ble_eq_true rfl) hx.1.1.1 rfl rfl (by decide) (o_lotAt hx.1 hr hal (l := t1) (by omega)) rfl ?_
    refine r_ifnull dX7_assemble_41 ?_
    refine r_iload dX7_assemble_44 7 rfl ?_
    refine r_iconst (v := nI 4294967295) dX7_assemble_46 (by decide) ?_
    refine r_icmp_eqW (tgt := 61) dX7_assemble_47 (by decide) (by omega) (by omega) (fun h47 => ?_) (fun h47 => ?_)
    · exact absurd h47 (by omega)
    · refine r_aload_n dX7_assemble_50 rfl 1 rfl ?_
      refine r_iload dX7_assemble_51 7 rfl ?_
      refine r_fnV (M2 := m_X7_lotAt) (As := [.int (nI (t2))]) (rest := []) (v := some (.ref (A t2))) dX7_assemble_53 cc_X7_assemble_105 rfl rfl rfl (Nat.le_of_ble_eq_true rfl) hx.1.1.1 rfl rfl (by decide) (o_lotAt hx.1 hr hal (l := t2) (by omega)) rfl ?_
      refine r_ifnonnull (tgt := 61) dX7_assemble_56 (by decide) ?_
      refine r_iload dX7_assemble_61 5 rfl ?_
      refine r_iload dX7_assemble_63 6 rfl ?_
      refine r_icmp_eqN (tgt := 88) dX7_assemble_65 (by decide) (by omega) (by omega) (fun h65 => ?_) (fun h65 => ?_)
      · exact absurd h65 (by omega)
      · refine r_iload dX7_assemble_68 5 rfl ?_
        refine r_iload dX7_assemble_70 7 rfl ?_
        refine r_icmp_eqN (tgt := 88) dX7_assemble_72 (by decide) (by omega) (by omega) (fun h72 => ?_) (fun h72 => ?_)
        · exact absurd h72 (by omega)
        · refine r_iload dX7_assemble_75 6 rfl ?_
          refine r_iconst (v := nI 4294967295) dX7_assemble_77 (by decide) ?_
          refine r_icmp_eqW (tgt := 92) dX7_assemble_78 (by decide) (by omega) (by omega) (fun h78 => ?_) (fun h78 => ?_)
          · exact absurd h78 h32
          · refine r_iload dX7_assemble_81 6 rfl ?_
            refine r_iload dX7_assemble_83 7 rfl ?_
            refine r_icmp_neN (tgt := 92) dX7_assemble_85 (by decide) (by omega) (by omega) (fun h85 => ?_) (fun h85 => ?_)
            · refine r_iconst (v := nI 0) dX7_assemble_92 (by decide) ?_
              refine r_istore (lv' := [(8, .int (nI (0))), (7, .ref (o + 6 + a)), (0, .ref (o)), (1, .int (nI (a))), (2, .int (nI (p))), (3, .int (nI (n))), (4, .int (nI (t0))), (5, .int (nI (t1))), (6, .int (nI (t2)))]) dX7_assemble_93 (by decide) rfl ?_
              refine r_iload_n dX7_assemble_95 rfl 5 rfl ?_
              refine r_iconst (v := nI 1) dX7_assemble_96 (by decide) ?_
              refine r_icmp_ltN (tgt := 124) dX7_assemble_97 (by decide) (by omega) (by omega) (fun h97 => ?_) (fun h97 => ?_)
              · exact absurd h97 (by omega)
              · refine r_iload_n dX7_assemble_100 rfl 5 rfl ?_
                refine r_sipush (v := nI 200) dX7_assemble_101 (by decide) ?_
                refine r_icmp_gtN (tgt := 124) dX7_assemble_104 (by decide) (by omega) (by omega) (fun h104 => ?_) (fun h104 => ?_)
                · exact absurd h104 (by omega)
                · refine r_iload dX7_assemble_107 0 rfl ?_
                  refine r_if_neN (tgt := 124) dX7_assemble_109 (by decide) (by omega) (fun zz109 => ?_) (fun zz109 => ?_)
                  · exact absurd zz109 (by decide)
                  · refine r_iload dX7_assemble_112 7 rfl ?_
                    refine r_iconst (v := nI 4294967295) dX7_assemble_114 (by decide) ?_
                    refine r_icmp_neW (tgt := 127) dX7_assemble_115 (by decide) (by omega) (by omega) (fun h115 => ?_) (fun h115 => ?_)
                    · refine r_aload_n dX7_assemble_127 rfl 2 rfl ?_
                      refine r_getI (ci := 9) (k := 5) dX7_assemble_128 fr_X7_49 hx.1.1.1 rfl ?_
                      refine Wx.top hx.1.o0 ?_
                      refine Wx.topN hr.c0 ?_
                      refine r_aload_n dX7_assemble_131 rfl 2 rfl ?_
                      refine r_getR (ci := 9) (k := 2) (b := o + 3) dX7_assemble_132 fr_X7_25 hx.1.1.1 rfl hx.1.1.2.1.2.2.1 ?_
                      refine r_alenQ dX7_assemble_135 hx.1.1.2.2.2.2.1.1 (by decide) (by decide) ?_
                      refine Wx.top (congrArg nI hx.1.1.2.2.2.2.1.2) ?_
                      refine r_icmp_geN (tgt := 181) dX7_assemble_136 (by decide) (by omega) (by omega) (fun h136 => ?_) (fun h136 => ?_)
                      · exact absurd h136 (by omega)
                      · refine r_aload_n dX7_assemble_139 rfl 2 rfl ?_
                        refine r_iload dX7_assemble_140 6 rfl ?_
                        refine r_iload_n dX7_assemble_142 rfl 5 rfl ?_
                        refine r_fnV (M2 := m_X7_gives) (As := [.int (nI (t0)), .int (nI (n))]) (rest := []) (v := some (.int (nI (0)))) dX7_assemble_143 cc_X7_assemble_119 rfl rfl rfl (Nat.le_of_ble_eq_true rfl) hx.1.1.1 rfl rfl (by decide) (o_gives_0 hx.1 hr hal (l := t0) (by omega) hn f0) rfl ?_
                        refine r_if_eqN (tgt := 181) dX7_assemble_146 (by decide) (by omega) (fun zz146 => ?_) (fun zz146 => ?_)
                        · refine r_bipush (v := nI 4294967293) dX7_assemble_181 (by decide) ?_
                          exact r_iret (ty := .int) dX7_assemble_183 rfl rfl ⟨congrArg (fun x => Sum.inl (some (Value.int x))) (by decide : nI 4294967293 = -3), rfl⟩
                        · exact absurd zz146 (by decide)
                    · exact absurd h115 h32
            · exact absurd h85 (by omega)
set_option maxRecDepth 4000 in
set_option maxHeartbeats 400000 in
theorem o_asm_3_3_1 {G : GI} {S : Hp} {w : Nat → Nat} {k o : Nat} {A c g : Nat → Nat} {N : Nat} (h : OR S w k o A c) (hr : Rel c g N) (hal : ∀ l, l < g 0 → A l ≠ 0) {a p : Nat} (ha : a < 6) (hp : p < 4) {t0 : Nat} (q0 : t0 < g 0) {t1 : Nat} (q1 : t1 < g 0) {t2 : Nat} (q2 : t2 < g 0) {n : Nat} (hn0 : 0 < n) (hn : n ≤ 200) (n01 : t0 ≠ t1) (n02 : t0 ≠ t2) (n12 : t1 ≠ t2) (h0 : g 0 < 24) (f0 : ¬ fewP g t0 n) (f1 : fewP g t1 n) : Fn m_X7_assemble G [.ref (o), .int (nI (a)), .int (nI (p)), .int (nI (n)), .int (nI (t0)), .int (nI (t1)), .int (nI (t2))] S (some (.int (-3))) S := by
  refine Cn.of rfl (by decide) (Nat.le_of_ble_eq_true rfl) (fun hN hM => ?_)
  show Wx _ G _ 0 [(0, .ref (o)), (1, .int (nI (a))), (2, .int (nI (p))), (3, .int (nI (n))), (4, .int (nI (t0))), (5, .int (nI (t1))), (6, .int (nI (t2)))] [] _
  have hx := OX.refl h
  have h24 := hr.n24
  refine r_aload_n dX7_assemble_0 rfl 0 rfl ?_
  refine r_iload_n dX7_assemble_1 rfl 1 rfl ?_
  refine r_fnV (M2 := m_X7_machineAt) (As := [.int (nI (a))]) (rest := []) (v := some (.ref (o + 6 + a))) dX7_assemble_2 cc_X7_assemble_82 rfl rfl rfl (Nat.le_of_ble_eq_true rfl) hx.1.1.1 rfl rfl (by decide) (k_machineAt hx.1.1 (by omega)) rfl ?_
  refine r_astore (lv' := [(7, .ref (o + 6 + a)), (0, .ref (o)), (1, .int (nI (a))), (2, .int (nI (p))), (3, .int (nI (n))), (4, .int (nI (t0))), (5, .int (nI (t1))), (6, .int (nI (t2)))]) dX7_assemble_5 (by decide) rfl ?_
  refine r_aload dX7_assemble_7 0 rfl ?_
  refine r_ifnull dX7_assemble_9 ?_
  refine r_aload_n dX7_assemble_12 rfl 1 rfl ?_
  refine r_iload_n dX7_assemble_13 rfl 3 rfl ?_
  refine r_fnV (M2 := m_X7_productAt) (As := [.int (nI (p))]) (rest := []) (v := some (.ref (o + 12 + p))) dX7_assemble_14 cc_X7_assemble_75 rfl rfl rfl (Nat.le_of_ble_eq_true rfl) hx.1.1.1 rfl rfl (by decide) (k_productAt hx.1.1 (by omega)) rfl ?_
  refine r_ifnull dX7_assemble_17 ?_
  refine r_aload_n dX7_assemble_20 rfl 1 rfl ?_
  refine r_iload dX7_assemble_21 5 rfl ?_
  refine r_fnV (M2 := m_X7_lotAt) (As := [.int (nI (t0))]) (rest := []) (v := some (.ref (A t0))) dX7_assemble_23 cc_X7_assemble_105 rfl rfl rfl (Nat.le_of_ble_eq_true rfl) hx.1.1.1 rfl rfl (by decide) (o_lotAt hx.1 hr hal (l := t0) (by omega)) rfl ?_
  refine r_ifnull dX7_assemble_26 ?_
  refine r_iload dX7_assemble_29 6 rfl ?_
  refine r_iconst (v := nI 4294967295) dX7_assemble_31 (by decide) ?_
  refine r_icmp_eqW (tgt := 44) dX7_assemble_32 (by decide) (by omega) (by omega) (fun h32 => ?_) (fun h32 => ?_)
  · exact absurd h32 (by omega)
  · refine r_aload_n dX7_assemble_35 rfl 1 rfl ?_
    refine r_iload dX7_assemble_36 6 rfl ?_
    refine r_fnV (M2 := m_X7_lotAt) (As := [.int (nI (t1))]) (rest := []) (v := some (.ref (A t1))) dX7_assemble_38 cc_X7_assemble_105 rfl rfl rfl (Nat.le_of_ble_eq_true rfl) hx.1.1.1 rfl rfl (by decide) (o_lotAt hx.1 hr hal (l := t1) (by omega)) rfl ?_
    refine r_ifnull dX7_assemble_41 ?_
    refine r_iload dX7_assemble_44 7 rfl ?_
    refine r_iconst (v := nI 4294967295) dX7_assemble_46 (by decide) ?_
    refine r_icmp_eqW (tgt := 61) dX7_assemble_47 (by decide) (by omega) (by omega) (fun h47 => ?_) (fun h47 => ?_)
    · exact absurd h47 (by omega)
    · refine r_aload_n dX7_assemble_50 rfl 1 rfl ?_
      refine r_iload dX7_assemble_51 7 rfl ?_
      refine r_fnV (M2 := m_X7_lotAt) (As := [.int (nI (t2))]) (rest := []) (v := some (.ref (A t2))) dX7_assemble_53 cc_X7_assemble_105 rfl rfl rfl (Nat.le_of_ble_eq_true rfl) hx.1.1.1 rfl rfl (by decide) (o_lotAt hx.1 hr hal (l := t2) (by omega)) rfl ?_
      refine r_ifnonnull (tgt := 61) dX7_assemble_56 (by decide) ?_
      refine r_iload dX7_assemble_61 5 rfl ?_
      refine r_iload dX7_assemble_63 6 rfl ?_
      refine r_icmp_eqN (tgt := 88) dX7_assemble_65 (by decide) (by omega) (by omega) (fun h65 => ?_) (fun h65 => ?_)
      · exact absurd h65 (by omega)
      · refine r_iload dX7_assemble_68 5 rfl ?_
        refine r_iload dX7_assemble_70 7 rfl ?_
        refine r_icmp_eqN (tgt := 88) dX7_assemble_72 (by decide) (by omega) (by omega) (fun h72 => ?_) (fun h72 => ?_)
        · exact absurd h72 (by omega)
        · refine r_iload dX7_assemble_75 6 rfl ?_
          refine r_iconst (v := nI 4294967295) dX7_assemble_77 (by decide) ?_
          refine r_icmp_eqW (tgt := 92) dX7_assemble_78 (by decide) (by omega) (by omega) (fun h78 => ?_) (fun h78 => ?_)
          · exact absurd h78 h32
          · refine r_iload dX7_assemble_81 6 rfl ?_
            refine r_iload dX7_assemble_83 7 rfl ?_
            refine r_icmp_neN (tgt := 92) dX7_assemble_85 (by decide) (by omega) (by omega) (fun h85 => ?_) (fun h85 => ?_)
            · refine r_iconst (v := nI 0) dX7_assemble_92 (by decide) ?_
              refine r_istore (lv' := [(8, .int (nI (0))), (7, .ref (o + 6 + a)), (0, .ref (o)), (1, .int (nI (a))), (2, .int (nI (p))), (3, .int (nI (n))), (4, .int (nI (t0))), (5, .int (nI (t1))), (6, .int (nI (t2)))]) dX7_assemble_93 (by decide) rfl ?_
              refine r_iload_n dX7_assemble_95 rfl 5 rfl ?_
              refine r_iconst (v := nI 1) dX7_assemble_96 (by decide) ?_
              refine r_icmp_ltN (tgt := 124) dX7_assemble_97 (by decide) (by omega) (by omega) (fun h97 => ?_) (fun h97 => ?_)
              · exact absurd h97 (by omega)
              · refine r_iload_n dX7_assemble_100 rfl 5 rfl ?_
                refine r_sipush (v := nI 200) dX7_assemble_101 (by decide) ?_
                refine r_icmp_gtN (tgt := 124) dX7_assemble_104 (by decide) (by omega) (by omega) (fun h104 => ?_) (fun h104 => ?_)
                · exact absurd h104 (by omega)
                · refine r_iload dX7_assemble_107 0 rfl ?_
                  refine r_if_neN (tgt := 124) dX7_assemble_109 (by decide) (by omega) (fun zz109 => ?_) (fun zz109 => ?_)
                  · exact absurd zz109 (by decide)
                  · refine r_iload dX7_assemble_112 7 rfl ?_
                    refine r_iconst (v := nI 4294967295) dX7_assemble_114 (by decide) ?_
                    refine r_icmp_neW (tgt := 127) dX7_assemble_115 (by decide) (by omega) (by omega) (fun h115 => ?_) (fun h115 => ?_)
                    · refine r_aload_n dX7_assemble_127 rfl 2 rfl ?_
                      refine r_getI (ci := 9) (k := 5) dX7_assemble_128 fr_X7_49 hx.1.1.1 rfl ?_
                      refine Wx.top hx.1.o0 ?_
                      refine Wx.topN hr.c0 ?_
                      refine r_aload_n dX7_assemble_131 rfl 2 rfl ?_
                      refine r_getR (ci := 9) (k := 2) (b := o + 3) dX7_assemble_132 fr_X7_25 hx.1.1.1 rfl hx.1.1.2.1.2.2.1 ?_
                      refine r_alenQ dX7_assemble_135 hx.1.1.2.2.2.2.1.1 (by decide) (by decide) ?_
                      refine Wx.top (congrArg nI hx.1.1.2.2.2.2.1.2) ?_
                      refine r_icmp_geN (tgt := 181) dX7_assemble_136 (by decide) (by omega) (by omega) (fun h136 => ?_) (fun h136 => ?_)
                      · exact absurd h136 (by omega)
                      · refine r_aload_n dX7_assemble_139 rfl 2 rfl ?_
                        refine r_iload dX7_assemble_140 6 rfl ?_
                        refine r_iload_n dX7_assemble_142 rfl 5 rfl ?_
                        refine r_fnV (M2 := m_X7_gives) (As := [.int (nI (t0)), .int (nI (n))]) (rest := []) (v := some (.int (nI (1)))) dX7_assemble_143 cc_X7_assemble_119 rfl rfl rfl (Nat.le_of_ble_eq_true rfl) hx.1.1.1 rfl rfl (by decide) (o_gives_1 hx.1 hr hal (l := t0) (by omega) hn f0) rfl ?_
                        refine r_if_eqN (tgt := 181) dX7_assemble_146 (by decide) (by omega) (fun zz146 => ?_) (fun zz146 => ?_)
                        · exact absurd zz146 (by decide)
                        · refine r_iload dX7_assemble_149 7 rfl ?_
                          refine r_iconst (v := nI 4294967295) dX7_assemble_151 (by decide) ?_
                          refine r_icmp_eqW (tgt := 165) dX7_assemble_152 (by decide) (by omega) (by omega) (fun h152 => ?_) (fun h152 => ?_)
                          · exact absurd h152 h32
                          · refine r_aload_n dX7_assemble_155 rfl 2 rfl ?_
                            refine r_iload dX7_assemble_156 7 rfl ?_
                            refine r_iload_n dX7_assemble_158 rfl 5 rfl ?_
                            refine r_fnV (M2 := m_X7_gives) (As := [.int (nI (t1)), .int (nI (n))]) (rest := []) (v := some (.int (nI (0)))) dX7_assemble_159 cc_X7_assemble_119 rfl rfl rfl (Nat.le_of_ble_eq_true rfl) hx.1.1.1 rfl rfl (by decide) (o_gives_0 hx.1 hr hal (l := t1) (by omega) hn f1) rfl ?_
                            refine r_if_eqN (tgt := 181) dX7_assemble_162 (by decide) (by omega) (fun zz162 => ?_) (fun zz162 => ?_)
                            · refine r_bipush (v := nI 4294967293) dX7_assemble_181 (by decide) ?_
                              exact r_iret (ty := .int) dX7_assemble_183 rfl rfl ⟨congrArg (fun x => Sum.inl (some (Value.int x))) (by decide : nI 4294967293 = -3), rfl⟩
                            · exact absurd zz162 (by decide)
                    · exact absurd h115 h32
            · exact absurd h85 (by omega)
set_option maxRecDepth 4000 in
set_option maxHeartbeats 400000 in
theorem o_asm_3_3_2 {G : GI} {S : Hp} {w : Nat → Nat} {k o : Nat} {A c g : Nat → Nat} {N : Nat} (h : OR S w k o A c) (hr : Rel c g N) (hal : ∀ l, l < g 0 → A l ≠ 0) {a p : Nat} (ha : a < 6) (hp : p < 4) {t0 : Nat} (q0 : t0 < g 0) {t1 : Nat} (q1 : t1 < g 0) {t2 : Nat} (q2 : t2 < g 0) {n : Nat} (hn0 : 0 < n) (hn : n ≤ 200) (n01 : t0 ≠ t1) (n02 : t0 ≠ t2) (n12 : t1 ≠ t2) (h0 : g 0 < 24) (f0 : ¬ fewP g t0 n) (f1 : ¬ fewP g t1 n) (f2 : fewP g t2 n) : Fn m_X7_assemble G [.ref (o), .int (nI (a)), .int (nI (p)), .int (nI (n)), .int (nI (t0)), .int (nI (t1)), .int (nI (t2))] S (some (.int (-3))) S := by
  refine Cn.of rfl (by decide) (Nat.le_of_ble_eq_true rfl) (fun hN hM => ?_)
  show Wx _ G _ 0 [(0, .ref (o)), (1, .int (nI (a))), (2, .int (nI (p))), (3, .int (nI (n))), (4, .int (nI (t0))), (5, .int (nI (t1))), (6, .int (nI (t2)))] [] _
  have hx := OX.refl h
  have h24 := hr.n24
  refine r_aload_n dX7_assemble_0 rfl 0 rfl ?_
  refine r_iload_n dX7_assemble_1 rfl 1 rfl ?_
  refine r_fnV (M2 := m_X7_machineAt) (As := [.int (nI (a))]) (rest := []) (v := some (.ref (o + 6 + a))) dX7_assemble_2 cc_X7_assemble_82 rfl rfl rfl (Nat.le_of_ble_eq_true rfl) hx.1.1.1 rfl rfl (by decide) (k_machineAt hx.1.1 (by omega)) rfl ?_
  refine r_astore (lv' := [(7, .ref (o + 6 + a)), (0, .ref (o)), (1, .int (nI (a))), (2, .int (nI (p))), (3, .int (nI (n))), (4, .int (nI (t0))), (5, .int (nI (t1))), (6, .int (nI (t2)))]) dX7_assemble_5 (by decide) rfl ?_
  refine r_aload dX7_assemble_7 0 rfl ?_
  refine r_ifnull dX7_assemble_9 ?_
  refine r_aload_n dX7_assemble_12 rfl 1 rfl ?_
  refine r_iload_n dX7_assemble_13 rfl 3 rfl ?_
  refine r_fnV (M2 := m_X7_productAt) (As := [.int (nI (p))]) (rest := []) (v := some (.ref (o + 12 + p))) dX7_assemble_14 cc_X7_assemble_75 rfl rfl rfl (Nat.le_of_ble_eq_true rfl) hx.1.1.1 rfl rfl (by decide) (k_productAt hx.1.1 (by omega)) rfl ?_
  refine r_ifnull dX7_assemble_17 ?_
  refine r_aload_n dX7_assemble_20 rfl 1 rfl ?_
  refine r_iload dX7_assemble_21 5 rfl ?_
  refine r_fnV (M2 := m_X7_lotAt) (As := [.int (nI (t0))]) (rest := []) (v := some (.ref (A t0))) dX7_assemble_23 cc_X7_assemble_105 rfl rfl rfl (Nat.le_of_ble_eq_true rfl) hx.1.1.1 rfl rfl (by decide) (o_lotAt hx.1 hr hal (l := t0) (by omega)) rfl ?_
  refine r_ifnull dX7_assemble_26 ?_
  refine r_iload dX7_assemble_29 6 rfl ?_
  refine r_iconst (v := nI 4294967295) dX7_assemble_31 (by decide) ?_
  refine r_icmp_eqW (tgt := 44) dX7_assemble_32 (by decide) (by omega) (by omega) (fun h32 => ?_) (fun h32 => ?_)
  · exact absurd h32 (by omega)
  · refine r_aload_n dX7_assemble_35 rfl 1 rfl ?_
    refine r_iload dX7_assemble_36 6 rfl ?_
    refine r_fnV (M2 := m_X7_lotAt) (As := [.int (nI (t1))]) (rest := []) (v := some (.ref (A t1))) dX7_assemble_38 cc_X7_assemble_105 rfl rfl rfl (Nat.le_of_ble_eq_true rfl) hx.1.1.1 rfl rfl (by decide) (o_lotAt hx.1 hr hal (l := t1) (by omega)) rfl ?_
    refine r_ifnull dX7_assemble_41 ?_
    refine r_iload dX7_assemble_44 7 rfl ?_
    refine r_iconst (v := nI 4294967295) dX7_assemble_46 (by decide) ?_
    refine r_icmp_eqW (tgt := 61) dX7_assemble_47 (by decide) (by omega) (by omega) (fun h47 => ?_) (fun h47 => ?_)
    · exact absurd h47 (by omega)
    · refine r_aload_n dX7_assemble_50 rfl 1 rfl ?_
      refine r_iload dX7_assemble_51 7 rfl ?_
      refine r_fnV (M2 := m_X7_lotAt) (As := [.int (nI (t2))]) (rest := []) (v := some (.ref (A t2))) dX7_assemble_53 cc_X7_assemble_105 rfl rfl rfl (Nat.le_of_ble_eq_true rfl) hx.1.1.1 rfl rfl (by decide) (o_lotAt hx.1 hr hal (l := t2) (by omega)) rfl ?_
      refine r_ifnonnull (tgt := 61) dX7_assemble_56 (by decide) ?_
      refine r_iload dX7_assemble_61 5 rfl ?_
      refine r_iload dX7_assemble_63 6 rfl ?_
      refine r_icmp_eqN (tgt := 88) dX7_assemble_65 (by decide) (by omega) (by omega) (fun h65 => ?_) (fun h65 => ?_)
      · exact absurd h65 (by omega)
      · refine r_iload dX7_assemble_68 5 rfl ?_
        refine r_iload dX7_assemble_70 7 rfl ?_
        refine r_icmp_eqN (tgt := 88) dX7_assemble_72 (by decide) (by omega) (by omega) (fun h72 => ?_) (fun h72 => ?_)
        · exact absurd h72 (by omega)
        · refine r_iload dX7_assemble_75 6 rfl ?_
          refine r_iconst (v := nI 4294967295) dX7_assemble_77 (by decide) ?_
          refine r_icmp_eqW (tgt := 92) dX7_assemble_78 (by decide) (by omega) (by omega) (fun h78 => ?_) (fun h78 => ?_)
          · exact absurd h78 h32
          · refine r_iload dX7_assemble_81 6 rfl ?_
            refine r_iload dX7_assemble_83 7 rfl ?_
            refine r_icmp_neN (tgt := 92) dX7_assemble_85 (by decide) (by omega) (by omega) (fun h85 => ?_) (fun h85 => ?_)
            · refine r_iconst (v := nI 0) dX7_assemble_92 (by decide) ?_
              refine r_istore (lv' := [(8, .int (nI (0))), (7, .ref (o + 6 + a)), (0, .ref (o)), (1, .int (nI (a))), (2, .int (nI (p))), (3, .int (nI (n))), (4, .int (nI (t0))), (5, .int (nI (t1))), (6, .int (nI (t2)))]) dX7_assemble_93 (by decide) rfl ?_
              refine r_iload_n dX7_assemble_95 rfl 5 rfl ?_
              refine r_iconst (v := nI 1) dX7_assemble_96 (by decide) ?_
              refine r_icmp_ltN (tgt := 124) dX7_assemble_97 (by decide) (by omega) (by omega) (fun h97 => ?_) (fun h97 => ?_)
              · exact absurd h97 (by omega)
              · refine r_iload_n dX7_assemble_100 rfl 5 rfl ?_
                refine r_sipush (v := nI 200) dX7_assemble_101 (by decide) ?_
                refine r_icmp_gtN (tgt := 124) dX7_assemble_104 (by decide) (by omega) (by omega) (fun h104 => ?_) (fun h104 => ?_)
                · exact absurd h104 (by omega)
                · refine r_iload dX7_assemble_107 0 rfl ?_
                  refine r_if_neN (tgt := 124) dX7_assemble_109 (by decide) (by omega) (fun zz109 => ?_) (fun zz109 => ?_)
                  · exact absurd zz109 (by decide)
                  · refine r_iload dX7_assemble_112 7 rfl ?_
                    refine r_iconst (v := nI 4294967295) dX7_assemble_114 (by decide) ?_
                    refine r_icmp_neW (tgt := 127) dX7_assemble_115 (by decide) (by omega) (by omega) (fun h115 => ?_) (fun h115 => ?_)
                    · refine r_aload_n dX7_assemble_127 rfl 2 rfl ?_
                      refine r_getI (ci := 9) (k := 5) dX7_assemble_128 fr_X7_49 hx.1.1.1 rfl ?_
                      refine Wx.top hx.1.o0 ?_
                      refine Wx.topN hr.c0 ?_
                      refine r_aload_n dX7_assemble_131 rfl 2 rfl ?_
                      refine r_getR (ci := 9) (k := 2) (b := o + 3) dX7_assemble_132 fr_X7_25 hx.1.1.1 rfl hx.1.1.2.1.2.2.1 ?_
                      refine r_alenQ dX7_assemble_135 hx.1.1.2.2.2.2.1.1 (by decide) (by decide) ?_
                      refine Wx.top (congrArg nI hx.1.1.2.2.2.2.1.2) ?_
                      refine r_icmp_geN (tgt := 181) dX7_assemble_136 (by decide) (by omega) (by omega) (fun h136 => ?_) (fun h136 => ?_)
                      · exact absurd h136 (by omega)
                      · refine r_aload_n dX7_assemble_139 rfl 2 rfl ?_
                        refine r_iload dX7_assemble_140 6 rfl ?_
                        refine r_iload_n dX7_assemble_142 rfl 5 rfl ?_
                        refine r_fnV (M2 := m_X7_gives) (As := [.int (nI (t0)), .int (nI (n))]) (rest := []) (v := some (.int (nI (1)))) dX7_assemble_143 cc_X7_assemble_119 rfl rfl rfl (Nat.le_of_ble_eq_true rfl) hx.1.1.1 rfl rfl (by decide) (o_gives_1 hx.1 hr hal (l := t0) (by omega) hn f0) rfl ?_
                        refine r_if_eqN (tgt := 181) dX7_assemble_146 (by decide) (by omega) (fun zz146 => ?_) (fun zz146 => ?_)
                        · exact absurd zz146 (by decide)
                        · refine r_iload dX7_assemble_149 7 rfl ?_
                          refine r_iconst (v := nI 4294967295) dX7_assemble_151 (by decide) ?_
                          refine r_icmp_eqW (tgt := 165) dX7_assemble_152 (by decide) (by omega) (by omega) (fun h152 => ?_) (fun h152 => ?_)
                          · exact absurd h152 h32
                          · refine r_aload_n dX7_assemble_155 rfl 2 rfl ?_
                            refine r_iload dX7_assemble_156 7 rfl ?_
                            refine r_iload_n dX7_assemble_158 rfl 5 rfl ?_
                            refine r_fnV (M2 := m_X7_gives) (As := [.int (nI (t1)), .int (nI (n))]) (rest := []) (v := some (.int (nI (1)))) dX7_assemble_159 cc_X7_assemble_119 rfl rfl rfl (Nat.le_of_ble_eq_true rfl) hx.1.1.1 rfl rfl (by decide) (o_gives_1 hx.1 hr hal (l := t1) (by omega) hn f1) rfl ?_
                            refine r_if_eqN (tgt := 181) dX7_assemble_162 (by decide) (by omega) (fun zz162 => ?_) (fun zz162 => ?_)
                            · exact absurd zz162 (by decide)
                            · refine r_iload dX7_assemble_165 8 rfl ?_
                              refine r_iconst (v := nI 4294967295) dX7_assemble_167 (by decide) ?_
                              refine r_icmp_eqW (tgt := 184) dX7_assemble_168 (by decide) (by omega) (by omega) (fun h168 => ?_) (fun h168 => ?_)
                              · exact absurd h168 h47
                              · refine r_aload_n dX7_assemble_171 rfl 2 rfl ?_
                                refine r_iload dX7_assemble_172 8 rfl ?_
                                refine r_iload_n dX7_assemble_174 rfl 5 rfl ?_
                                refine r_fnV (M2 := m_X7_gives) (As := [.int (nI (t2)), .int (nI (n))]) (rest := []) (v := some (.int (nI (0)))) dX7_assemble_175 cc_X7_assemble_119 rfl rfl rfl (Nat.le_of_ble_eq_true rfl) hx.1.1.1 rfl rfl (by decide) (o_gives_0 hx.1 hr hal (l := t2) (by omega) hn f2) rfl ?_
                                refine r_if_neN (tgt := 184) dX7_assemble_178 (by decide) (by omega) (fun zz178 => ?_) (fun zz178 => ?_)
                                · exact absurd zz178 (by decide)
                                · refine r_bipush (v := nI 4294967293) dX7_assemble_181 (by decide) ?_
                                  exact r_iret (ty := .int) dX7_assemble_183 rfl rfl ⟨congrArg (fun x => Sum.inl (some (Value.int x))) (by decide : nI 4294967293 = -3), rfl⟩
                    · exact absurd h115 h32
            · exact absurd h85 (by omega)
