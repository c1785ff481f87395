set_option maxRecDepth 4000 in
theorem f_copies {G : GI} {T : Hp} {m : Nat} {V : RVal} {od : Nat → UInt64} (hs : RS T m) {j p j' q n1 n2 k : Nat} (hr1 : rowI j n1) (hr2 : rowI j' n2) (hn1 : n1 ≤ 80016) (hn2 : n2 ≤ 80016) (hk : V j p = nI k) (hk1 : p + 402 + 400 * k ≤ n1) (hk2 : q + 402 + 400 * k ≤ n2) (hd : j ≠ j' ∨ q + 402 + 400 * k ≤ p ∨ p + 402 + 400 * k ≤ q) : Fn m_X13_copies G [.ref (m + j), .int (nI p), .ref (m + j'), .int (nI q)] (rput T m V od) none (rput T m (cpV V j p j' q (402 + 400 * k)) od) := by
  refine Cn.of rfl (by decide) (Nat.le_of_ble_eq_true rfl) (fun hN hM => ?_)
  show Wx _ G _ 0 [(0, .ref (m + j)), (1, .int (nI (p))), (2, .ref (m + j')), (3, .int (nI (q)))] [] _
  refine r_sipush (v := nI 402) dX13_copies_0 (by decide) ?_
  refine r_sipush (v := nI 400) dX13_copies_3 (by decide) ?_
  refine r_aload_n dX13_copies_6 rfl 0 rfl ?_
  refine r_iload_n dX13_copies_7 rfl 1 rfl ?_
  refine m_iald (j := j) (n := n1) (i := p) hs hr1 dX13_copies_8 (by omega) (by omega) ?_
  refine Wx.top hk ?_
  refine r_imulN dX13_copies_9 ?_
  refine r_iaddN dX13_copies_10 ?_
  refine r_istore (lv' := [(4, .int (nI (402 + 400 * k))), (0, .ref (m + j)), (1, .int (nI (p))), (2, .ref (m + j')), (3, .int (nI (q)))]) dX13_copies_11 (by decide) rfl ?_
  refine r_iconst (v := nI 0) dX13_copies_13 (by decide) ?_
  refine r_istore (lv' := [(5, .int (nI (0))), (4, .int (nI (402 + 400 * k))), (0, .ref (m + j)), (1, .int (nI (p))), (2, .ref (m + j')), (3, .int (nI (q)))]) dX13_copies_14 (by decide) rfl ?_
  refine Wx.st' (S' := rput T m (cpV V j p j' q 0) od) (by rw [cpV_0]) ?_
  refine Wx.sub [2, 3, 4, 5, 1, 0] rfl ?_
  refine Wx.loop (fun u => rput T m (cpV V j p j' q u) od) (fun u => [(0, .ref (m + j)), (1, .int (nI (p))), (2, .ref (m + j')), (3, .int (nI (q))), (4, .int (nI (402 + 400 * k))), (5, .int (nI (u)))]) (402 + 400 * k) (0) (Nat.zero_le _) (fun u hge hle next => ?_)
  show Wx _ G (rput T m (cpV V j p j' q u) od) 16 [(0, .ref (m + j)), (1, .int (nI (p))), (2, .ref (m + j')), (3, .int (nI (q))), (4, .int (nI (402 + 400 * k))), (5, .int (nI (u)))] [] _
  refine r_iload dX13_copies_16 5 rfl ?_
  refine r_iload dX13_copies_18 4 rfl ?_
  refine r_icmp_geN (tgt := 41) dX13_copies_20 (by decide) (by omega) (by omega) (fun h20 => ?_) (fun h20 => ?_)
  · obtain rfl : u = 402 + 400 * k := by omega
    exact r_vret dX13_copies_41 rfl ⟨rfl, rfl⟩
  · refine r_aload_n dX13_copies_23 rfl 2 rfl ?_
    refine r_iload_n dX13_copies_24 rfl 3 rfl ?_
    refine r_iload dX13_copies_25 5 rfl ?_
    refine r_iaddN dX13_copies_27 ?_
    refine r_aload_n dX13_copies_28 rfl 0 rfl ?_
    refine r_iload_n dX13_copies_29 rfl 1 rfl ?_
    refine r_iload dX13_copies_30 5 rfl ?_
    refine r_iaddN dX13_copies_32 ?_
    refine m_iald (j := j) (n := n1) (i := p + u) hs hr1 dX13_copies_33 (by omega) (by omega) ?_
    refine m_iast (j := j') (n := n2) (i := q + u) hs hr2 dX13_copies_34 (by omega) (by omega) ?_
    refine r_iincN (k := 1) (lv' := [(5, .int (nI (u + 1))), (0, .ref (m + j)), (1, .int (nI (p))), (2, .ref (m + j')), (3, .int (nI (q))), (4, .int (nI (402 + 400 * k)))]) dX13_copies_35 (by decide) 5 rfl (by decide) rfl ?_
    refine r_goto (tgt := 16) dX13_copies_38 (by decide) ?_
    refine Wx.sub [1, 2, 3, 4, 5, 0] rfl ?_
    have n2 := next (by omega)
    rw [← cpV_s (by omega)] at n2
    exact n2
set_option maxRecDepth 4000 in
theorem f_aM_1 {G : GI} {S : Hp} {x y z : Int32} (h : ¬ vp_in x 6) : Fn m_X13_againstMachine G [.int (x), .int (y), .int (z)] S (some (.int (nI (1)))) S := by
  refine Cn.of rfl (by decide) (Nat.le_of_ble_eq_true rfl) (fun hN hM => ?_)
  show Wx _ G _ 0 [(0, .int (x)), (1, .int (y)), (2, .int (z))] [] _
  refine r_iload_n dX13_againstMachine_0 rfl 0 rfl ?_
  refine r_fnS (M2 := m_X13_isMachine) (As := [.int (x)]) (rest := []) (v := some (.int (bI (vp_in (x) 6)))) dX13_againstMachine_1 cc_X13_againstMachine_104 rfl rfl rfl (Nat.le_of_ble_eq_true rfl) f_isMachine rfl ?_
  refine r_if_eqB (tgt := 34) dX13_againstMachine_4 (by decide) (fun h4 => ?_) (fun h4 => ?_)
  · refine r_iconst (v := nI 1) dX13_againstMachine_34 (by decide) ?_
    exact r_iret (ty := .int) dX13_againstMachine_35 rfl rfl ⟨rfl, rfl⟩
  · exact absurd h4 h
set_option maxRecDepth 4000 in
theorem f_aM_2 {G : GI} {S : Hp} {x y z : Int32} (h : vp_in x 6) (h2 : ¬ (vp_in y 51 ∧ vp_in z 4)) : Fn m_X13_againstMachine G [.int (x), .int (y), .int (z)] S (some (.int (nI (2)))) S := by
  refine Cn.of rfl (by decide) (Nat.le_of_ble_eq_true rfl) (fun hN hM => ?_)
  show Wx _ G _ 0 [(0, .int (x)), (1, .int (y)), (2, .int (z))] [] _
  refine r_iload_n dX13_againstMachine_0 rfl 0 rfl ?_
  refine r_fnS (M2 := m_X13_isMachine) (As := [.int (x)]) (rest := []) (v := some (.int (bI (vp_in (x) 6)))) dX13_againstMachine_1 cc_X13_againstMachine_104 rfl rfl rfl (Nat.le_of_ble_eq_true rfl) f_isMachine rfl ?_
  refine r_if_eqB (tgt := 34) dX13_againstMachine_4 (by decide) (fun h4 => ?_) (fun h4 => ?_)
  · exact absurd h h4
  · refine r_iload_n dX13_againstMachine_7 rfl 1 rfl ?_
    refine r_iconst (v := nI 0) dX13_againstMachine_8 (by decide) ?_
    refine r_bipush (v := nI 50) dX13_againstMachine_9 (by decide) ?_
    refine r_fnS (M2 := m_X13_in) (As := [.int (y), .int (nI (0)), .int (nI (50))]) (rest := []) (v := some (.int (bI (vp_in (y) 51)))) dX13_againstMachine_11 cc_X13_againstMachine_68 rfl rfl rfl (Nat.le_of_ble_eq_true rfl) (f_in0 (n := 50) (by decide)) rfl ?_
    refine r_if_eqB (tgt := 30) dX13_againstMachine_14 (by decide) (fun h14 => ?_) (fun h14 => ?_)
    · refine r_iconst (v := nI 2) dX13_againstMachine_30 (by decide) ?_
      refine r_goto (tgt := 35) dX13_againstMachine_31 (by decide) ?_
      exact r_iret (ty := .int) dX13_againstMachine_35 rfl rfl ⟨rfl, rfl⟩
    · refine r_iload_n dX13_againstMachine_17 rfl 2 rfl ?_
      refine r_iconst (v := nI 0) dX13_againstMachine_18 (by decide) ?_
      refine r_iconst (v := nI 3) dX13_againstMachine_19 (by decide) ?_
      refine r_fnS (M2 := m_X13_in) (As := [.int (z), .int (nI (0)), .int (nI (3))]) (rest := []) (v := some (.int (bI (vp_in (z) 4)))) dX13_againstMachine_20 cc_X13_againstMachine_68 rfl rfl rfl (Nat.le_of_ble_eq_true rfl) (f_in0 (n := 3) (by decide)) rfl ?_
      refine r_if_eqB (tgt := 30) dX13_againstMachine_23 (by decide) (fun h23 => ?_) (fun h23 => ?_)
      · refine r_iconst (v := nI 2) dX13_againstMachine_30 (by decide) ?_
        refine r_goto (tgt := 35) dX13_againstMachine_31 (by decide) ?_
        exact r_iret (ty := .int) dX13_againstMachine_35 rfl rfl ⟨rfl, rfl⟩
      · exact absurd ⟨h14, h23⟩ h2
set_option maxRecDepth 4000 in
theorem f_aM_0 {G : GI} {S : Hp} {x y z : Int32} (h : vp_in x 6) (h2 : vp_in y 51 ∧ vp_in z 4) : Fn m_X13_againstMachine G [.int (x), .int (y), .int (z)] S (some (.int (nI (0)))) S := by
  refine Cn.of rfl (by decide) (Nat.le_of_ble_eq_true rfl) (fun hN hM => ?_)
  show Wx _ G _ 0 [(0, .int (x)), (1, .int (y)), (2, .int (z))] [] _
  refine r_iload_n dX13_againstMachine_0 rfl 0 rfl ?_
  refine r_fnS (M2 := m_X13_isMachine) (As := [.int (x)]) (rest := []) (v := some (.int (bI (vp_in (x) 6)))) dX13_againstMachine_1 cc_X13_againstMachine_104 rfl rfl rfl (Nat.le_of_ble_eq_true rfl) f_isMachine rfl ?_
  refine r_if_eqB (tgt := 34) dX13_againstMachine_4 (by decide) (fun h4 => ?_) (fun h4 => ?_)
  · exact absurd h h4
  · refine r_iload_n dX13_againstMachine_7 rfl 1 rfl ?_
    refine r_iconst (v := nI 0) dX13_againstMachine_8 (by decide) ?_
    refine r_bipush (v := nI 50) dX13_againstMachine_9 (by decide) ?_
    refine r_fnS (M2 := m_X13_in) (As := [.int (y), .int (nI (0)), .int (nI (50))]) (rest := []) (v := some (.int (bI (vp_in (y) 51)))) dX13_againstMachine_11 cc_X13_againstMachine_68 rfl rfl rfl (Nat.le_of_ble_eq_true rfl) (f_in0 (n := 50) (by decide)) rfl ?_
    refine r_if_eqB (tgt := 30) dX13_againstMachine_14 (by decide) (fun h14 => ?_) (fun h14 => ?_)
    · exact absurd h2.1 h14
    · refine r_iload_n dX13_againstMachine_17 rfl 2 rfl ?_
      refine r_iconst (v := nI 0) dX13_againstMachine_18 (by decide) ?_
      refine r_iconst (v := nI 3) dX13_againstMachine_19 (by decide) ?_
      refine r_fnS (M2 := m_X13_in) (As := [.int (z), .int (nI (0)), .int (nI (3))]) (rest := []) (v := some (.int (bI (vp_in (z) 4)))) dX13_againstMachine_20 cc_X13_againstMachine_68 rfl rfl rfl (Nat.le_of_ble_eq_true rfl) (f_in0 (n := 3) (by decide)) rfl ?_
      refine r_if_eqB (tgt := 30) dX13_againstMachine_23 (by decide) (fun h23 => ?_) (fun h23 => ?_)
      · exact absurd h2.2 h23
      · refine r_iconst (v := nI 0) dX13_againstMachine_26 (by decide) ?_
        refine r_goto (tgt := 35) dX13_againstMachine_27 (by decide) ?_
        exact r_iret (ty := .int) dX13_againstMachine_35 rfl rfl ⟨rfl, rfl⟩
set_option maxRecDepth 4000 in
theorem f_aP_1 {G : GI} {S : Hp} {x y z z2 : Int32} (h : ¬ vp_in x 4) : Fn m_X13_againstProduct G [.int (x), .int (y), .int (z), .int (z2)] S (some (.int (nI (1)))) S := by
  refine Cn.of rfl (by decide) (Nat.le_of_ble_eq_true rfl) (fun hN hM => ?_)
  show Wx _ G _ 0 [(0, .int (x)), (1, .int (y)), (2, .int (z)), (3, .int (z2))] [] _
  refine r_iload_n dX13_againstProduct_0 rfl 0 rfl ?_
  refine r_fnS (M2 := m_X13_isProduct) (As := [.int (x)]) (rest := []) (v := some (.int (bI (vp_in (x) 4)))) dX13_againstProduct_1 cc_X13_againstProduct_118 rfl rfl rfl (Nat.le_of_ble_eq_true rfl) f_isProduct rfl ?_
  refine r_if_eqB (tgt := 45) dX13_againstProduct_4 (by decide) (fun h4 => ?_) (fun h4 => ?_)
  · refine r_iconst (v := nI 1) dX13_againstProduct_45 (by decide) ?_
    exact r_iret (ty := .int) dX13_againstProduct_46 rfl rfl ⟨rfl, rfl⟩
  · exact absurd h4 h
set_option maxRecDepth 4000 in
theorem f_aP_2 {G : GI} {S : Hp} {x y z z2 : Int32} (h : vp_in x 4) (h2 : ¬ (vp_in y 31 ∧ vp_in z 16 ∧ vp_in z2 16)) : Fn m_X13_againstProduct G [.int (x), .int (y), .int (z), .int (z2)] S (some (.int (nI (2)))) S := by
  refine Cn.of rfl (by decide) (Nat.le_of_ble_eq_true rfl) (fun hN hM => ?_)
  show Wx _ G _ 0 [(0, .int (x)), (1, .int (y)), (2, .int (z)), (3, .int (z2))] [] _
  refine r_iload_n dX13_againstProduct_0 rfl 0 rfl ?_
  refine r_fnS (M2 := m_X13_isProduct) (As := [.int (x)]) (rest := []) (v := some (.int (bI (vp_in (x) 4)))) dX13_againstProduct_1 cc_X13_againstProduct_118 rfl rfl rfl (Nat.le_of_ble_eq_true rfl) f_isProduct rfl ?_
  refine r_if_eqB (tgt := 45) dX13_againstProduct_4 (by decide) (fun h4 => ?_) (fun h4 => ?_)
  · exact absurd h h4
  · refine r_iload_n dX13_againstProduct_7 rfl 1 rfl ?_
    refine r_iconst (v := nI 0) dX13_againstProduct_8 (by decide) ?_
    refine r_bipush (v := nI 30) dX13_againstProduct_9 (by decide) ?_
    refine r_fnS (M2 := m_X13_in) (As := [.int (y), .int (nI (0)), .int (nI (30))]) (rest := []) (v := some (.int (bI (vp_in (y) 31)))) dX13_againstProduct_11 cc_X13_againstProduct_68 rfl rfl rfl (Nat.le_of_ble_eq_true rfl) (f_in0 (n := 30) (by decide)) rfl ?_
    refine r_if_eqB (tgt := 41) dX13_againstProduct_14 (by decide) (fun h14 => ?_) (fun h14 => ?_)
    · refine r_iconst (v := nI 2) dX13_againstProduct_41 (by decide) ?_
      refine r_goto (tgt := 46) dX13_againstProduct_42 (by decide) ?_
      exact r_iret (ty := .int) dX13_againstProduct_46 rfl rfl ⟨rfl, rfl⟩
    · refine r_iload_n dX13_againstProduct_17 rfl 2 rfl ?_
      refine r_iconst (v := nI 0) dX13_againstProduct_18 (by decide) ?_
      refine r_bipush (v := nI 15) dX13_againstProduct_19 (by decide) ?_
      refine r_fnS (M2 := m_X13_in) (As := [.int (z), .int (nI (0)), .int (nI (15))]) (rest := []) (v := some (.int (bI (vp_in (z) 16)))) dX13_againstProduct_21 cc_X13_againstProduct_68 rfl rfl rfl (Nat.le_of_ble_eq_true rfl) (f_in0 (n := 15) (by decide)) rfl ?_
      refine r_if_eqB (tgt := 41) dX13_againstProduct_24 (by decide) (fun h24 => ?_) (fun h24 => ?_)
      · refine r_iconst (v := nI 2) dX13_againstProduct_41 (by decide) ?_
        refine r_goto (tgt := 46) dX13_againstProduct_42 (by decide) ?_
        exact r_iret (ty := .int) dX13_againstProduct_46 rfl rfl ⟨rfl, rfl⟩
      · refine r_iload_n dX13_againstProduct_27 rfl 3 rfl ?_
        refine r_iconst (v := nI 0) dX13_againstProduct_28 (by decide) ?_
        refine r_bipush (v := nI 15) dX13_againstProduct_29 (by decide) ?_
        refine r_fnS (M2 := m_X13_in) (As := [.int (z2), .int (nI (0)), .int (nI (15))]) (rest := []) (v := some (.int (bI (vp_in (z2) 16)))) dX13_againstProduct_31 cc_X13_againstProduct_68 rfl rfl rfl (Nat.le_of_ble_eq_true rfl) (f_in0 (n := 15) (by decide)) rfl ?_
        refine r_if_eqB (tgt := 41) dX13_againstProduct_34 (by decide) (fun h34 => ?_) (fun h34 => ?_)
        · refine r_iconst (v := nI 2) dX13_againstProduct_41 (by decide) ?_
          refine r_goto (tgt := 46) dX13_againstProduct_42 (by decide) ?_
          exact r_iret (ty := .int) dX13_againstProduct_46 rfl rfl ⟨rfl, rfl⟩
        · exact absurd ⟨h14, h24, h34⟩ h2
set_option maxRecDepth 4000 in
theorem f_aP_0 {G : GI} {S : Hp} {x y z z2 : Int32} (h : vp_in x 4) (h2 : vp_in y 31 ∧ vp_in z 16 ∧ vp_in z2 16) : Fn m_X13_againstProduct G [.int (x), .int (y), .int (z), .int (z2)] S (some (.int (nI (0)))) S := by
  refine Cn.of rfl (by decide) (Nat.le_of_ble_eq_true rfl) (fun hN hM => ?_)
  show Wx _ G _ 0 [(0, .int (x)), (1, .int (y)), (2, .int (z)), (3, .int (z2))] [] _
  refine r_iload_n dX13_againstProduct_0 rfl 0 rfl ?_
  refine r_fnS (M2 := m_X13_isProduct) (As := [.int (x)]) (rest := []) (v := some (.int (bI (vp_in (x) 4)))) dX13_againstProduct_1 cc_X13_againstProduct_118 rfl rfl rfl (Nat.le_of_ble_eq_true rfl) f_isProduct rfl ?_
  refine r_if_eqB (tgt := 45) dX13_againstProduct_4 (by decide) (fun h4 => ?_) (fun h4 => ?_)
  · exact absurd h h4
  · refine r_iload_n dX13_againstProduct_7 rfl 1 rfl ?_
    refine r_iconst (v := nI 0) dX13_againstProduct_8 (by decide) ?_
    refine r_bipush (v := nI 30) dX13_againstProduct_9 (by decide) ?_
    refine r_fnS (M2 := m_X13_in) (As := [.int (y), .int (nI (0)), .int (nI (30))]) (rest := []) (v := some (.int (bI (vp_in (y) 31)))) dX13_againstProduct_11 cc_X13_againstProduct_68 rfl rfl rfl (Nat.le_of_ble_eq_true rfl) (f_in0 (n := 30) (by decide)) rfl ?_
    refine r_if_eqB (tgt := 41) dX13_againstProduct_14 (by decide) (fun h14 => ?_) (fun h14 => ?_)
    · exact absurd h2.1 h14
    · refine r_iload_n dX13_againstProduct_17 rfl 2 rfl ?_
      refine r_iconst (v := nI 0) dX13_againstProduct_18 (by decide) ?_
      refine r_bipush (v := nI 15) dX13_againstProduct_19 (by decide) ?_
      refine r_fnS (M2 := m_X13_in) (As := [.int (z), .int (nI (0)), .int (nI (15))]) (rest := []) (v := some (.int (bI (vp_in (z) 16)))) dX13_againstProduct_21 cc_X13_againstProduct_68 rfl rfl rfl (Nat.le_of_ble_eq_true rfl) (f_in0 (n := 15) (by decide)) rfl ?_
      refine r_if_eqB (tgt := 41) dX13_againstProduct_24 (by decide) (fun h24 => ?_) (fun h24 => ?_)
      · exact absurd h2.2.1 h24
      · refine r_iload_n dX13_againstProduct_27 rfl 3 rfl ?_
        refine r_iconst (v := nI 0) dX13_againstProduct_28 (by decide) ?_
        refine r_bipush (v := nI 15) dX13_againstProduct_29 (by decide) ?_
        refine r_fnS (M2 := m_X13_in) (As := [.int (z2), .int (nI (0)), .int (nI (15))]) (rest := []) (v := some (.int (bI (vp_in (z2) 16)))) dX13_againstProduct_31 cc_X13_againstProduct_68 rfl rfl rfl (Nat.le_of_ble_eq_true rfl) (f_in0 (n := 15) (by decide)) rfl ?_
        refine r_if_eqB (tgt := 41) dX13_againstProduct_34 (by decide) (fun h34 => ?_) (fun h34 => ?_)
        · exact absurd h2.2.2 h34
        · refine r_iconst (v := nI 0) dX13_againstProduct_37 (by decide) ?_
          refine r_goto (tgt := 46) dX13_againstProduct_38 (by decide) ?_
          exact r_iret (ty := .int) dX13_againstProduct_46 rfl rfl ⟨rfl, rfl⟩
set_option maxRecDepth 4000 in
theorem f_machineNow {G : GI} {T : Hp} {m : Nat} {V : RVal} {od : Nat → UInt64} (hs : RS T m) {a : Nat} {y z : Int32} (ha : a < 6) : Fn m_X13_machineNow G [.ref (m), .int (nI (a)), .int (y), .int (z)] (rput T m V od) (some (.int (((nI 10) * (V 1 (4 + 3 * a))) + (V 1 (4 + 3 * a + 1))))) (rput T m (up2 (up2 V 1 (4 + 3 * a) (y)) 1 (4 + 3 * a + 1) (z)) od) := by
  refine Cn.of rfl (by decide) (Nat.le_of_ble_eq_true rfl) (fun hN hM => ?_)
  show Wx _ G _ 0 [(0, .ref (m)), (1, .int (nI (a))), (2, .int (y)), (3, .int (z))] [] _
  refine r_iconst (v := nI 4) dX13_machineNow_0 (by decide) ?_
  refine r_iconst (v := nI 3) dX13_machineNow_1 (by decide) ?_
  refine r_iload_n dX13_machineNow_2 rfl 1 rfl ?_
  refine r_imulN dX13_machineNow_3 ?_
  refine r_iaddN dX13_machineNow_4 ?_
  refine r_istore (lv' := [(4, .int (nI (4 + 3 * a))), (0, .ref (m)), (1, .int (nI (a))), (2, .int (y)), (3, .int (z))]) dX13_machineNow_5 (by decide) rfl ?_
  refine r_bipush (v := nI 10) dX13_machineNow_7 (by decide) ?_
  refine r_aload_n dX13_machineNow_9 rfl 1 rfl ?_
  refine m_ref (k := 0) (j := 1) hs hs.2.1.1 dX13_machineNow_10 fr_X13_7 rfl ?_
  refine r_iload dX13_machineNow_13 0 rfl ?_
  refine m_iald (j := 1) (n := 10002) (i := 4 + 3 * a) hs rw1 dX13_machineNow_15 (by omega) (by decide) ?_
  refine r_imul dX13_machineNow_16 ?_
  refine r_aload_n dX13_machineNow_17 rfl 1 rfl ?_
  refine m_ref (k := 0) (j := 1) hs hs.2.1.1 dX13_machineNow_18 fr_X13_7 rfl ?_
  refine r_iload dX13_machineNow_21 0 rfl ?_
  refine r_iconst (v := nI 1) dX13_machineNow_23 (by decide) ?_
  refine r_iaddN dX13_machineNow_24 ?_
  refine m_iald (j := 1) (n := 10002) (i := 4 + 3 * a + 1) hs rw1 dX13_machineNow_25 (by omega) (by decide) ?_
  refine r_iadd dX13_machineNow_26 ?_
  refine r_istore (lv' := [(5, .int (((nI 10) * (V 1 (4 + 3 * a))) + (V 1 (4 + 3 * a + 1)))), (4, .int (nI (4 + 3 * a))), (0, .ref (m)), (1, .int (nI (a))), (2, .int (y)), (3, .int (z))]) dX13_machineNow_27 (by decide) rfl ?_
  refine r_aload_n dX13_machineNow_29 rfl 2 rfl ?_
  refine m_ref (k := 0) (j := 1) hs hs.2.1.1 dX13_machineNow_30 fr_X13_7 rfl ?_
  refine r_iload dX13_machineNow_33 1 rfl ?_
  refine r_iload_n dX13_machineNow_35 rfl 4 rfl ?_
  refine m_iast (j := 1) (n := 10002) (i := 4 + 3 * a) hs rw1 dX13_machineNow_36 (by omega) (by decide) ?_
  refine r_aload_n dX13_machineNow_37 rfl 2 rfl ?_
  refine m_ref (k := 0) (j := 1) hs hs.2.1.1 dX13_machineNow_38 fr_X13_7 rfl ?_
  refine r_iload dX13_machineNow_41 1 rfl ?_
  refine r_iconst (v := nI 1) dX13_machineNow_43 (by decide) ?_
  refine r_iaddN dX13_machineNow_44 ?_
  refine r_iload_n dX13_machineNow_45 rfl 5 rfl ?_
  refine m_iast (j := 1) (n := 10002) (i := 4 + 3 * a + 1) hs rw1 dX13_machineNow_46 (by omega) (by decide) ?_
  refine r_iload dX13_machineNow_47 0 rfl ?_
  exact r_iret (ty := .int) dX13_machineNow_49 rfl rfl ⟨rfl, rfl⟩
set_option maxRecDepth 4000 in
theorem f_productNow {G : GI} {T : Hp} {m : Nat} {V : RVal} {od : Nat → UInt64} (hs : RS T m) {a : Nat} {x y z : Int32} (ha : a < 4) : Fn m_X13_productNow G [.ref (m), .int (nI (a)), .int (x), .int (y), .int (z)] (rput T m V od) (some (.int (V 1 (22 + 10 * a)))) (rput T m (up2 (up2 (up2 V 1 (22 + 10 * a) (x)) 1 (22 + 10 * a + 1) (y)) 1 (22 + 10 * a + 2) (z)) od) := by
  refine Cn.of rfl (by decide) (Nat.le_of_ble_eq_true rfl) (fun hN hM => ?_)
  show Wx _ G _ 0 [(0, .ref (m)), (1, .int (nI (a))), (2, .int (x)), (3, .int (y)), (4, .int (z))] [] _
  refine r_aload_n dX13_productNow_0 rfl 0 rfl ?_
  refine m_ref (k := 0) (j := 1) hs hs.2.1.1 dX13_productNow_1 fr_X13_7 rfl ?_
  refine r_bipush (v := nI 22) dX13_productNow_4 (by decide) ?_
  refine r_bipush (v := nI 10) dX13_productNow_6 (by decide) ?_
  refine r_iload_n dX13_productNow_8 rfl 1 rfl ?_
  refine r_imulN dX13_productNow_9 ?_
  refine r_iaddN dX13_productNow_10 ?_
  refine m_iald (j := 1) (n := 10002) (i := 22 + 10 * a) hs rw1 dX13_productNow_11 (by omega) (by decide) ?_
  refine r_istore (lv' := [(5, .int (V 1 (22 + 10 * a))), (0, .ref (m)), (1, .int (nI (a))), (2, .int (x)), (3, .int (y)), (4, .int (z))]) dX13_productNow_12 (by decide) rfl ?_
  refine r_aload_n dX13_productNow_14 rfl 1 rfl ?_
  refine m_ref (k := 0) (j := 1) hs hs.2.1.1 dX13_productNow_15 fr_X13_7 rfl ?_
  refine r_bipush (v := nI 22) dX13_productNow_18 (by decide) ?_
  refine r_bipush (v := nI 10) dX13_productNow_20 (by decide) ?_
  refine r_iload_n dX13_productNow_22 rfl 2 rfl ?_
  refine r_imulN dX13_productNow_23 ?_
  refine r_iaddN dX13_productNow_24 ?_
  refine r_iload_n dX13_productNow_25 rfl 3 rfl ?_
  refine m_iast (j := 1) (n := 10002) (i := 22 + 10 * a) hs rw1 dX13_productNow_26 (by omega) (by decide) ?_
  refine r_aload_n dX13_productNow_27 rfl 1 rfl ?_
  refine m_ref (k := 0) (j := 1) hs hs.2.1.1 dX13_productNow_28 fr_X13_7 rfl ?_
  refine r_bipush (v := nI 22) dX13_productNow_31 (by decide) ?_
  refine r_bipush (v := nI 10) dX13_productNow_33 (by decide) ?_
  refine r_iload_n dX13_productNow_35 rfl 2 rfl ?_
  refine r_imulN dX13_productNow_36 ?_
  refine r_iaddN dX13_productNow_37 ?_
  refine r_iconst (v := nI 1) dX13_productNow_38 (by decide) ?_
  refine r_iaddN dX13_productNow_39 ?_
  refine r_iload_n dX13_productNow_40 rfl 4 rfl ?_
  refine m_iast (j := 1) (n := 10002) (i := 22 + 10 * a + 1) hs rw1 dX13_productNow_41 (by omega) (by decide) ?_
  refine r_aload_n dX13_productNow_42 rfl 1 rfl ?_
  refine m_ref (k := 0) (j := 1) hs hs.2.1.1 dX13_productNow_43 fr_X13_7 rfl ?_
  refine r_bipush (v := nI 22) dX13_productNow_46 (by decide) ?_
  refine r_bipush (v := nI 10) dX13_productNow_48 (by decide) ?_
  refine r_iload_n dX13_productNow_50 rfl 2 rfl ?_
  refine r_imulN dX13_productNow_51 ?_
  refine r_iaddN dX13_productNow_52 ?_
  refine r_iconst (v := nI 2) dX13_productNow_53 (by decide) ?_
  refine r_iaddN dX13_productNow_54 ?_
  refine r_iload dX13_productNow_55 5 rfl ?_
  refine m_iast (j := 1) (n := 10002) (i := 22 + 10 * a + 2) hs rw1 dX13_productNow_57 (by omega) (by decide) ?_
  refine r_iload dX13_productNow_58 0 rfl ?_
  exact r_iret (ty := .int) dX13_productNow_60 rfl rfl ⟨rfl, rfl⟩
set_option maxRecDepth 4000 in
theorem f_seedNow {G : GI} {T : Hp} {m : Nat} {V : RVal} {od : Nat → UInt64} (hs : RS T m) {x : Int32} : Fn m_X13_seedNow G [.ref (m), .int (x)] (rput T m V od) (some (.int (V 1 (3)))) (rput T m (up2 V 1 (3) (x)) od) := by
  refine Cn.of rfl (by decide) (Nat.le_of_ble_eq_true rfl) (fun hN hM => ?_)
  show Wx _ G _ 0 [(0, .ref (m)), (1, .int (x))] [] _
  refine r_aload_n dX13_seedNow_0 rfl 0 rfl ?_
  refine m_ref (k := 0) (j := 1) hs hs.2.1.1 dX13_seedNow_1 fr_X13_7 rfl ?_
  refine r_iconst (v := nI 3) dX13_seedNow_4 (by decide) ?_
  refine m_iald (j := 1) (n := 10002) (i := 3) hs rw1 dX13_seedNow_5 (by omega) (by decide) ?_
  refine r_istore_n (lv' := [(2, .int (V 1 (3))), (0, .ref (m)), (1, .int (x))]) dX13_seedNow_6 rfl (by decide) rfl ?_
  refine r_aload_n dX13_seedNow_7 rfl 1 rfl ?_
  refine m_ref (k := 0) (j := 1) hs hs.2.1.1 dX13_seedNow_8 fr_X13_7 rfl ?_
  refine r_iconst (v := nI 3) dX13_seedNow_11 (by decide) ?_
  refine r_iload_n dX13_seedNow_12 rfl 2 rfl ?_
  refine m_iast (j := 1) (n := 10002) (i := 3) hs rw1 dX13_seedNow_13 (by omega) (by decide) ?_
  refine r_iload_n dX13_seedNow_14 rfl 0 rfl ?_
  exact r_iret (ty := .int) dX13_seedNow_15 rfl rfl ⟨rfl, rfl⟩
def bandN (n : Nat) : Nat := if n ≤ 8 then 0 else if n ≤ 15 then 1 else if n ≤ 25 then 2 else if n ≤ 50 then 3 else if n ≤ 90 then 4 else if n ≤ 150 then 5 else 6
def sizeN (b : Nat) : Nat := match b with | 0 => 2 | 1 => 3 | 2 => 5 | 3 => 8 | 4 => 13 | 5 => 20 | _ => 32
set_option maxRecDepth 4000 in
theorem f_bandOf {G : GI} {S : Hp} {n : Nat} (hn : n ≤ 200) : Fn m_X13_bandOf G [.int (nI (n))] S (some (.int (nI (bandN n)))) S := by
  refine Cn.of rfl (by decide) (Nat.le_of_ble_eq_true rfl) (fun hN hM => ?_)
  show Wx _ G _ 0 [(0, .int (nI (n)))] [] _
  refine r_iload_n dX13_bandOf_0 rfl 0 rfl ?_
  refine r_bipush (v := nI 8) dX13_bandOf_1 (by decide) ?_
  refine r_icmp_gtN (tgt := 10) dX13_bandOf_3 (by decide) (by omega) (by omega) (fun h3 => ?_) (fun h3 => ?_)
  · refine r_iload_n dX13_bandOf_10 rfl 0 rfl ?_
    refine r_bipush (v := nI 15) dX13_bandOf_11 (by decide) ?_
    refine r_icmp_gtN (tgt := 20) dX13_bandOf_13 (by decide) (by omega) (by omega) (fun h13 => ?_) (fun h13 => ?_)
    · refine r_iload_n dX13_bandOf_20 rfl 0 rfl ?_
      refine r_bipush (v := nI 25) dX13_bandOf_21 (by decide) ?_
      refine r_icmp_gtN (tgt := 30) dX13_bandOf_23 (by decide) (by omega) (by omega) (fun h23 => ?_) (fun h23 => ?_)
      · refine r_iload_n dX13_bandOf_30 rfl 0 rfl ?_
        refine r_bipush (v := nI 50) dX13_bandOf_31 (by decide) ?_
        refine r_icmp_gtN (tgt := 40) dX13_bandOf_33 (by decide) (by omega) (by omega) (fun h33 => ?_) (fun h33 => ?_)
        · refine r_iload_n dX13_bandOf_40 rfl 0 rfl ?_
          refine r_bipush (v := nI 90) dX13_bandOf_41 (by decide) ?_
          refine r_icmp_gtN (tgt := 50) dX13_bandOf_43 (by decide) (by omega) (by omega) (fun h43 => ?_) (fun h43 => ?_)
          · refine r_iload_n dX13_bandOf_50 rfl 0 rfl ?_
            refine r_sipush (v := nI 150) dX13_bandOf_51 (by decide) ?_
            refine r_icmp_gtN (tgt := 61) dX13_bandOf_54 (by decide) (by omega) (by omega) (fun h54 => ?_) (fun h54 => ?_)
            · refine r_bipush (v := nI 6) dX13_bandOf_61 (by decide) ?_
              have e : bandN n = 6 := by unfold bandN; rw [if_neg (by omega), if_neg (by omega), if_neg (by omega), if_neg (by omega), if_neg (by omega), if_neg (by omega)]
              exact r_iret (ty := .int) dX13_bandOf_63 rfl rfl ⟨congrArg (fun x => Sum.inl (some (Value.int x))) (congrArg nI e.symm), rfl⟩
            · refine r_iconst (v := nI 5) dX13_bandOf_57 (by decide) ?_
              refine r_goto (tgt := 63) dX13_bandOf_58 (by decide) ?_
              have e : bandN n = 5 := by unfold bandN; rw [if_neg (by omega), if_neg (by omega), if_neg (by omega), if_neg (by omega), if_neg (by omega), if_pos (by omega)]
              exact r_iret (ty := .int) dX13_bandOf_63 rfl rfl ⟨congrArg (fun x => Sum.inl (some (Value.int x))) (congrArg nI e.symm), rfl⟩
          · refine r_iconst (v := nI 4) dX13_bandOf_46 (by decide) ?_
            refine r_goto (tgt := 63) dX13_bandOf_47 (by decide) ?_
            have e : bandN n = 4 := by unfold bandN; rw [if_neg (by omega), if_neg (by omega), if_neg (by omega), if_neg (by omega), if_pos (by omega)]
            exact r_iret (ty := .int) dX13_bandOf_63 rfl rfl ⟨congrArg (fun x => Sum.inl (some (Value.int x))) (congrArg nI e.symm), rfl⟩
        · refine r_iconst (v := nI 3) dX13_bandOf_36 (by decide) ?_
          refine r_goto (tgt := 63) dX13_bandOf_37 (by decide) ?_
          have e : bandN n = 3 := by unfold bandN; rw [if_neg (by omega), if_neg (by omega), if_neg (by omega), if_pos (by omega)]
          exact r_iret (ty := .int) dX13_bandOf_63 rfl rfl ⟨congrArg (fun x => Sum.inl (some (Value.int x))) (congrArg nI e.symm), rfl⟩
      · refine r_iconst (v := nI 2) dX13_bandOf_26 (by decide) ?_
        refine r_goto (tgt := 63) dX13_bandOf_27 (by decide) ?_
        have e : bandN n = 2 := by unfold bandN; rw [if_neg (by omega), if_neg (by omega), if_pos (by omega)]
        exact r_iret (ty := .int) dX13_bandOf_63 rfl rfl ⟨congrArg (fun x => Sum.inl (some (Value.int x))) (congrArg nI e.symm), rfl⟩
    · refine r_iconst (v := nI 1) dX13_bandOf_16 (by decide) ?_
      refine r_goto (tgt := 63) dX13_bandOf_17 (by decide) ?_
      have e : bandN n = 1 := by unfold bandN; rw [if_neg (by omega), if_pos (by omega)]
      exact r_iret (ty := .int) dX13_bandOf_63 rfl rfl ⟨congrArg (fun x => Sum.inl (some (Value.int x))) (congrArg nI e.symm), rfl⟩
  · refine r_iconst (v := nI 0) dX13_bandOf_6 (by decide) ?_
    refine r_goto (tgt := 63) dX13_bandOf_7 (by decide) ?_
    have e : bandN n = 0 := by unfold bandN; rw [if_pos (by omega)]
    exact r_iret (ty := .int) dX13_bandOf_63 rfl rfl ⟨congrArg (fun x => Sum.inl (some (Value.int x))) (congrArg nI e.symm), rfl⟩
theorem bandN_le (n : Nat) : bandN n ≤ 6 := by unfold bandN; (repeat' split) <;> omega
theorem sizeN_le (b : Nat) : sizeN b ≤ 32 := by unfold sizeN; split <;> decide
set_option maxRecDepth 4000 in
theorem f_sizeOf {G : GI} {S : Hp} {b : Nat} (hb : b ≤ 6) : Fn m_X13_sizeOf G [.int (nI (b))] S (some (.int (nI (sizeN b)))) S := by
  refine Cn.of rfl (by decide) (Nat.le_of_ble_eq_true rfl) (fun hN hM => ?_)
  show Wx _ G _ 0 [(0, .int (nI (b)))] [] _
  refine r_iload_n dX13_sizeOf_0 rfl 0 rfl ?_
  obtain rfl | rfl | rfl | rfl | rfl | rfl | rfl : b = 0 ∨ b = 1 ∨ b = 2 ∨ b = 3 ∨ b = 4 ∨ b = 5 ∨ b = 6 := by omega
  · refine r_tableIn (off := 39) (tgt := 40) dX13_sizeOf_1 (by decide) (by decide) rfl (by decide) ?_
    refine r_iconst (v := nI 2) dX13_sizeOf_40 (by decide) ?_
    exact r_iret (ty := .int) dX13_sizeOf_41 rfl rfl ⟨rfl, rfl⟩
  · refine r_tableIn (off := 41) (tgt := 42) dX13_sizeOf_1 (by decide) (by decide) rfl (by decide) ?_
    refine r_iconst (v := nI 3) dX13_sizeOf_42 (by decide) ?_
    exact r_iret (ty := .int) dX13_sizeOf_43 rfl rfl ⟨rfl, rfl⟩
  · refine r_tableIn (off := 43) (tgt := 44) dX13_sizeOf_1 (by decide) (by decide) rfl (by decide) ?_
    refine r_iconst (v := nI 5) dX13_sizeOf_44 (by decide) ?_
    exact r_iret (ty := .int) dX13_sizeOf_45 rfl rfl ⟨rfl, rfl⟩
  · refine r_tableIn (off := 45) (tgt := 46) dX13_sizeOf_1 (by decide) (by decide) rfl (by decide) ?_
    refine r_bipush (v := nI 8) dX13_sizeOf_46 (by decide) ?_
    exact r_iret (ty := .int) dX13_sizeOf_48 rfl rfl ⟨rfl, rfl⟩
  · refine r_tableIn (off := 48) (tgt := 49) dX13_sizeOf_1 (by decide) (by decide) rfl (by decide) ?_
    refine r_bipush (v := nI 13) dX13_sizeOf_49 (by decide) ?_
    exact r_iret (ty := .int) dX13_sizeOf_51 rfl rfl ⟨rfl, rfl⟩
  · refine r_tableIn (off := 51) (tgt := 52) dX13_sizeOf_1 (by decide) (by decide) rfl (by decide) ?_
    refine r_bipush (v := nI 20) dX13_sizeOf_52 (by decide) ?_
    exact r_iret (ty := .int) dX13_sizeOf_54 rfl rfl ⟨rfl, rfl⟩
  · refine r_tableOut (tgt := 55) dX13_sizeOf_1 (by decide) (by decide) ?_
    refine r_bipush (v := nI 32) dX13_sizeOf_55 (by decide) ?_
    exact r_iret (ty := .int) dX13_sizeOf_57 rfl rfl ⟨rfl, rfl⟩
def smpN (n v : Nat) : Nat := Nat.min (sizeN (bandN n - (if v = 2 then 2 else 0))) n
set_option maxRecDepth 4000 in
theorem f_sample_2 {G : GI} {S : Hp} {n : Nat} (hn : n ≤ 200) : Fn m_X13_sample G [.int (nI (n)), .int (nI (2))] S (some (.int (nI (smpN n 2)))) S := by
  refine Cn.of rfl (by decide) (Nat.le_of_ble_eq_true rfl) (fun hN hM => ?_)
  show Wx _ G _ 0 [(0, .int (nI (n))), (1, .int (nI (2)))] [] _
  refine r_iload_n dX13_sample_0 rfl 0 rfl ?_
  refine r_fnS (M2 := m_X13_bandOf) (As := [.int (nI (n))]) (rest := []) (v := some (.int (nI (bandN n)))) dX13_sample_1 cc_X13_sample_128 rfl rfl rfl (Nat.le_of_ble_eq_true rfl) (f_bandOf (by omega)) rfl ?_
  refine r_iload_n dX13_sample_4 rfl 1 rfl ?_
  refine r_iconst (v := nI 2) dX13_sample_5 (by decide) ?_
  refine r_icmp_neN (tgt := 13) dX13_sample_6 (by decide) (by (have := bandN_le n; have := sizeN_le (bandN n - 2); have := sizeN_le 0; have := sizeN_le (bandN n - 0); have := sizeN_le (bandN n); omega)) (by (have := bandN_le n; have := sizeN_le (bandN n - 2); have := sizeN_le 0; have := sizeN_le (bandN n - 0); have := sizeN_le (bandN n); omega)) (fun zz6 => ?_) (fun zz6 => ?_)
  · exact absurd zz6 (by decide)
  · refine r_iconst (v := nI 2) dX13_sample_9 (by decide) ?_
    refine r_goto (tgt := 14) dX13_sample_10 (by decide) ?_
    by_cases hb2 : 2 ≤ bandN n
    · refine r_isubN dX13_sample_14 hb2 ?_
      refine r_istore_n (lv' := [(2, .int (nI (bandN n - 2))), (0, .int (nI (n))), (1, .int (nI (2)))]) dX13_sample_15 rfl (by decide) rfl ?_
      refine r_iload_n dX13_sample_16 rfl 0 rfl ?_
      refine r_if_geN (tgt := 24) dX13_sample_17 (by decide) (by (have := bandN_le n; have := sizeN_le (bandN n - 2); have := sizeN_le 0; have := sizeN_le (bandN n - 0); have := sizeN_le (bandN n); omega)) ?_
      refine r_iload_n dX13_sample_24 rfl 0 rfl ?_
      refine r_fnS (M2 := m_X13_sizeOf) (As := [.int (nI (bandN n - 2))]) (rest := []) (v := some (.int (nI (sizeN (bandN n - 2))))) dX13_sample_25 cc_X13_sample_131 rfl rfl rfl (Nat.le_of_ble_eq_true rfl) (f_sizeOf (by (have := bandN_le n; have := sizeN_le (bandN n - 2); have := sizeN_le 0; have := sizeN_le (bandN n - 0); have := sizeN_le (bandN n); omega))) rfl ?_
      refine r_istore_n (lv' := [(3, .int (nI (sizeN (bandN n - 2)))), (2, .int (nI (bandN n - 2))), (0, .int (nI (n))), (1, .int (nI (2)))]) dX13_sample_28 rfl (by decide) rfl ?_
      refine r_iload_n dX13_sample_29 rfl 0 rfl ?_
      refine r_iload_n dX13_sample_30 rfl 2 rfl ?_
      refine r_icmp_geN (tgt := 38) dX13_sample_31 (by decide) (by (have := bandN_le n; have := sizeN_le (bandN n - 2); have := sizeN_le 0; have := sizeN_le (bandN n - 0); have := sizeN_le (bandN n); omega)) (by (have := bandN_le n; have := sizeN_le (bandN n - 2); have := sizeN_le 0; have := sizeN_le (bandN n - 0); have := sizeN_le (bandN n); omega)) (fun h31 => ?_) (fun h31 => ?_)
      · refine r_iload_n dX13_sample_38 rfl 2 rfl ?_
        have e : smpN n 2 = n := by
          unfold smpN
          rw [if_pos rfl]
          exact Nat.min_eq_right h31
        exact r_iret (ty := .int) dX13_sample_39 rfl rfl ⟨congrArg (fun x => Sum.inl (some (Value.int x))) (congrArg nI e.symm), rfl⟩
      · refine r_iload_n dX13_sample_34 rfl 0 rfl ?_
        refine r_goto (tgt := 39) dX13_sample_35 (by decide) ?_
        have e : smpN n 2 = sizeN (bandN n - 2) := by
          unfold smpN
          rw [if_pos rfl]
          exact Nat.min_eq_left (Nat.le_of_lt h31)
        exact r_iret (ty := .int) dX13_sample_39 rfl rfl ⟨congrArg (fun x => Sum.inl (some (Value.int x))) (congrArg nI e.symm), rfl⟩
    · refine r_isub dX13_sample_14 ?_
      refine r_istore_n (lv' := [(2, .int (nI (bandN n) - nI 2)), (0, .int (nI (n))), (1, .int (nI (2)))]) dX13_sample_15 rfl (by decide) rfl ?_
      refine r_iload_n dX13_sample_16 rfl 0 rfl ?_
      refine r_if_ge (tgt := 24) dX13_sample_17 (by decide) (fun h17 => absurd (pk_sneg (by omega) (by omega)) (Int32.not_lt.mpr h17)) (fun _ => ?_)
      refine r_iconst (v := nI 0) dX13_sample_20 (by decide) ?_
      refine r_goto (tgt := 25) dX13_sample_21 (by decide) ?_
      refine r_fnS (M2 := m_X13_sizeOf) (As := [.int (nI (0))]) (rest := []) (v := some (.int (nI (sizeN 0)))) dX13_sample_25 cc_X13_sample_131 rfl rfl rfl (Nat.le_of_ble_eq_true rfl) (f_sizeOf (by (have := bandN_le n; have := sizeN_le (bandN n - 2); have := sizeN_le 0; have := sizeN_le (bandN n - 0); have := sizeN_le (bandN n); omega))) rfl ?_
      refine r_istore_n (lv' := [(3, .int (nI (sizeN 0))), (2, .int (nI (bandN n) - nI 2)), (0, .int (nI (n))), (1, .int (nI (2)))]) dX13_sample_28 rfl (by decide) rfl ?_
      refine r_iload_n dX13_sample_29 rfl 0 rfl ?_
      refine r_iload_n dX13_sample_30 rfl 2 rfl ?_
      refine r_icmp_geN (tgt := 38) dX13_sample_31 (by decide) (by (have := bandN_le n; have := sizeN_le (bandN n - 2); have := sizeN_le 0; have := sizeN_le (bandN n - 0); have := sizeN_le (bandN n); omega)) (by (have := bandN_le n; have := sizeN_le (bandN n - 2); have := sizeN_le 0; have := sizeN_le (bandN n - 0); have := sizeN_le (bandN n); omega)) (fun h31_1 => ?_) (fun h31_1 => ?_)
      · refine r_iload_n dX13_sample_38 rfl 2 rfl ?_
        have e : smpN n 2 = n := by
          unfold smpN
          rw [if_pos rfl]
          rw [show bandN n - 2 = 0 by omega]
          exact Nat.min_eq_right h31_1
        exact r_iret (ty := .int) dX13_sample_39 rfl rfl ⟨congrArg (fun x => Sum.inl (some (Value.int x))) (congrArg nI e.symm), rfl⟩
      · refine r_iload_n dX13_sample_34 rfl 0 rfl ?_
        refine r_goto (tgt := 39) dX13_sample_35 (by decide) ?_
        have e : smpN n 2 = sizeN 0 := by
          unfold smpN
          rw [if_pos rfl]
          rw [show bandN n - 2 = 0 by omega]
          exact Nat.min_eq_left (Nat.le_of_lt h31_1)
        exact r_iret (ty := .int) dX13_sample_39 rfl rfl ⟨congrArg (fun x => Sum.inl (some (Value.int x))) (congrArg nI e.symm), rfl⟩
set_option maxRecDepth 4000 in
theorem f_sample_n {G : GI} {S : Hp} {n v : Nat} (hn : n ≤ 200) (hv3 : v < 4) (hv : ¬ v = 2) : Fn m_X13_sample G [.int (nI (n)), .int (nI (v))] S (some (.int (nI (smpN n v)))) S := by
  refine Cn.of rfl (by decide) (Nat.le_of_ble_eq_true rfl) (fun hN hM => ?_)
  show Wx _ G _ 0 [(0, .int (nI (n))), (1, .int (nI (v)))] [] _
  refine r_iload_n dX13_sample_0 rfl 0 rfl ?_
  refine r_fnS (M2 := m_X13_bandOf) (As := [.int (nI (n))]) (rest := []) (v := some (.int (nI (bandN n)))) dX13_sample_1 cc_X13_sample_128 rfl rfl rfl (Nat.le_of_ble_eq_true rfl) (f_bandOf (by omega)) rfl ?_
  refine r_iload_n dX13_sample_4 rfl 1 rfl ?_
  refine r_iconst (v := nI 2) dX13_sample_5 (by decide) ?_
  refine r_icmp_neN (tgt := 13) dX13_sample_6 (by decide) (by (have := bandN_le n; have := sizeN_le (bandN n - 2); have := sizeN_le 0; have := sizeN_le (bandN n - 0); have := sizeN_le (bandN n); omega)) (by (have := bandN_le n; have := sizeN_le (bandN n - 2); have := sizeN_le 0; have := sizeN_le (bandN n - 0); have := sizeN_le (bandN n); omega)) (fun h6 => ?_) (fun h6 => ?_)
  · refine r_iconst (v := nI 0) dX13_sample_13 (by decide) ?_
    refine r_isubN dX13_sample_14 (by (have := bandN_le n; have := sizeN_le (bandN n - 2); have := sizeN_le 0; have := sizeN_le (bandN n - 0); have := sizeN_le (bandN n); omega)) ?_
    refine r_istore_n (lv' := [(2, .int (nI ((bandN n) - 0))), (0, .int (nI (n))), (1, .int (nI (v)))]) dX13_sample_15 rfl (by decide) rfl ?_
    refine r_iload_n dX13_sample_16 rfl 0 rfl ?_
    refine r_if_geN (tgt := 24) dX13_sample_17 (by decide) (by (have := bandN_le n; have := sizeN_le (bandN n - 2); have := sizeN_le 0; have := sizeN_le (bandN n - 0); have := sizeN_le (bandN n); omega)) ?_
    refine r_iload_n dX13_sample_24 rfl 0 rfl ?_
    refine r_fnS (M2 := m_X13_sizeOf) (As := [.int (nI ((bandN n) - 0))]) (rest := []) (v := some (.int (nI (sizeN ((bandN n) - 0))))) dX13_sample_25 cc_X13_sample_131 rfl rfl rfl (Nat.le_of_ble_eq_true rfl) (f_sizeOf (by (have := bandN_le n; have := sizeN_le (bandN n - 2); have := sizeN_le 0; have := sizeN_le (bandN n - 0); have := sizeN_le (bandN n); omega))) rfl ?_
    refine r_istore_n (lv' := [(3, .int (nI (sizeN ((bandN n) - 0)))), (2, .int (nI ((bandN n) - 0))), (0, .int (nI (n))), (1, .int (nI (v)))]) dX13_sample_28 rfl (by decide) rfl ?_
    refine r_iload_n dX13_sample_29 rfl 0 rfl ?_
    refine r_iload_n dX13_sample_30 rfl 2 rfl ?_
    refine r_icmp_geN (tgt := 38) dX13_sample_31 (by decide) (by (have := bandN_le n; have := sizeN_le (bandN n - 2); have := sizeN_le 0; have := sizeN_le (bandN n - 0); have := sizeN_le (bandN n); omega)) (by (have := bandN_le n; have := sizeN_le (bandN n - 2); have := sizeN_le 0; have := sizeN_le (bandN n - 0); have := sizeN_le (bandN n); omega)) (fun h31 => ?_) (fun h31 => ?_)
    · refine r_iload_n dX13_sample_38 rfl 2 rfl ?_
      have e : smpN n v = n := by
        unfold smpN
        rw [if_neg hv]
        exact Nat.min_eq_right h31
      exact r_iret (ty := .int) dX13_sample_39 rfl rfl ⟨congrArg (fun x => Sum.inl (some (Value.int x))) (congrArg nI e.symm), rfl⟩
    · refine r_iload_n dX13_sample_34 rfl 0 rfl ?_
      refine r_goto (tgt := 39) dX13_sample_35 (by decide) ?_
      have e : smpN n v = sizeN ((bandN n) - 0) := by
        unfold smpN
        rw [if_neg hv]
        exact Nat.min_eq_left (Nat.le_of_lt h31)
      exact r_iret (ty := .int) dX13_sample_39 rfl rfl ⟨congrArg (fun x => Sum.inl (some (Value.int x))) (congrArg nI e.symm), rfl⟩
  · exact absurd h6 hv
theorem f_sample {G : GI} {S : Hp} {n v : Nat} (hn : n ≤ 200) (hv3 : v < 4) : Fn m_X13_sample G [.int (nI n), .int (nI v)] S (some (.int (nI (smpN n v)))) S := by
  by_cases h : v = 2
  · subst h; exact f_sample_2 hn
  · exact f_sample_n hn hv3 h
def alwN (s q v : Nat) : Nat := if v = 0 then s * q / 100 else if v = 2 then s * q / 100 + 1 else s * q / 100 - 1
set_option maxRecDepth 4000 in
theorem f_allowed {G : GI} {S : Hp} {s q v : Nat} (hs : s ≤ 32) (hq : q ≤ 30) (hv : v < 4) : Fn m_X13_allowed G [.int (nI (s)), .int (nI (q)), .int (nI (v))] S (some (.int (nI (alwN s q v)))) S := by
  refine Cn.of rfl (by decide) (Nat.le_of_ble_eq_true rfl) (fun hN hM => ?_)
  show Wx _ G _ 0 [(0, .int (nI (s))), (1, .int (nI (q))), (2, .int (nI (v)))] [] _
  refine r_iload_n dX13_allowed_0 rfl 0 rfl ?_
  refine r_iload_n dX13_allowed_1 rfl 1 rfl ?_
  refine r_imulN dX13_allowed_2 ?_
  refine r_bipush (v := nI 100) dX13_allowed_3 (by decide) ?_
  refine r_idivN dX13_allowed_5 (by (have := Nat.mul_le_mul hs hq); omega) (by (have := Nat.mul_le_mul hs hq); omega) (by (have := Nat.mul_le_mul hs hq); omega) ?_
  refine r_istore_n (lv' := [(3, .int (nI ((s * q) / 100))), (0, .int (nI (s))), (1, .int (nI (q))), (2, .int (nI (v)))]) dX13_allowed_6 rfl (by decide) rfl ?_
  refine r_iload_n dX13_allowed_7 rfl 3 rfl ?_
  refine r_if_neN (tgt := 15) dX13_allowed_8 (by decide) (by (have := Nat.mul_le_mul hs hq); omega) (fun h8 => ?_) (fun h8 => ?_)
  · refine r_iload_n dX13_allowed_15 rfl 3 rfl ?_
    refine r_iconst (v := nI 2) dX13_allowed_16 (by decide) ?_
    refine r_icmp_neN (tgt := 26) dX13_allowed_17 (by decide) (by (have := Nat.mul_le_mul hs hq); omega) (by (have := Nat.mul_le_mul hs hq); omega) (fun h17 => ?_) (fun h17 => ?_)
    · refine r_iload_n dX13_allowed_26 rfl 0 rfl ?_
      refine r_if_leN (tgt := 36) dX13_allowed_27 (by decide) (by (have := Nat.mul_le_mul hs hq); omega) (fun h27 => ?_) (fun h27 => ?_)
      · refine r_iconst (v := nI 0) dX13_allowed_36 (by decide) ?_
        have e : alwN s q v = 0 := by
          unfold alwN
          rw [if_neg h8, if_neg h17]
          try omega
        exact r_iret (ty := .int) dX13_allowed_37 rfl rfl ⟨congrArg (fun x => Sum.inl (some (Value.int x))) (congrArg nI e.symm), rfl⟩
      · refine r_iload_n dX13_allowed_30 rfl 0 rfl ?_
        refine r_iconst (v := nI 1) dX13_allowed_31 (by decide) ?_
        refine r_isubN dX13_allowed_32 (by (have := Nat.mul_le_mul hs hq); omega) ?_
        refine r_goto (tgt := 37) dX13_allowed_33 (by decide) ?_
        have e : alwN s q v = ((s * q) / 100) - 1 := by
          unfold alwN
          rw [if_neg h8, if_neg h17]
          try omega
        exact r_iret (ty := .int) dX13_allowed_37 rfl rfl ⟨congrArg (fun x => Sum.inl (some (Value.int x))) (congrArg nI e.symm), rfl⟩
    · refine r_iload_n dX13_allowed_20 rfl 0 rfl ?_
      refine r_iconst (v := nI 1) dX13_allowed_21 (by decide) ?_
      refine r_iaddN dX13_allowed_22 ?_
      refine r_goto (tgt := 37) dX13_allowed_23 (by decide) ?_
      have e : alwN s q v = ((s * q) / 100) + 1 := by
        unfold alwN
        rw [if_neg h8, if_pos h17]
        try omega
      exact r_iret (ty := .int) dX13_allowed_37 rfl rfl ⟨congrArg (fun x => Sum.inl (some (Value.int x))) (congrArg nI e.symm), rfl⟩
  · refine r_iload_n dX13_allowed_11 rfl 0 rfl ?_
    refine r_goto (tgt := 37) dX13_allowed_12 (by decide) ?_
    have e : alwN s q v = (s * q) / 100 := by
      unfold alwN
      rw [if_pos h8]
      try omega
    exact r_iret (ty := .int) dX13_allowed_37 rfl rfl ⟨congrArg (fun x => Sum.inl (some (Value.int x))) (congrArg nI e.symm), rfl⟩
