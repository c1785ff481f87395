/-! THE REFERENCE CARRIES A COMMAND OUT -/
theorem nI_pos0 {a : Nat} (h : 0 < a) (h2 : a < 2 ^ 31) : ¬ a = 0 := by omega
set_option maxRecDepth 4000 in
set_option maxHeartbeats 1000000 in
theorem g_does_0 {G : GI} {T : Hp} {m : Nat} {V : RVal} {g : Nat → Nat} {od : Nat → UInt64} (hs : RS T m) {j : Nat} (hj : j < 10) {v0 v1 v2 : Nat} (eW : V 10 (9 * j) = nI 0) (e0 : V 10 (9 * j + 3) = nI (v0)) (e1 : V 10 (9 * j + 3 + 1) = nI (v1)) (e2 : V 10 (9 * j + 3 + 2) = nI (v2)) (hA : RfS m_X13_againstMachine [.int (nI (v0)), .int (nI (v1)), .int (nI (v2))] 0) {v : Nat} {g' : Nat → Nat} (hv : v < 2 ^ 31) (hNw : RfN m_X13_machineNow [.int (nI (v0)), .int (nI (v1)), .int (nI (v2))] g v g') : Cn m_X13_does G [.ref m, .int (nI j)] (rput T m (sg V g) od) (RfQ V T m od 1 g') := by
  refine Cn.of rfl (by decide) (Nat.le_of_ble_eq_true rfl) (fun hN hM => ?_)
  show Wx _ G _ 0 [(0, .ref (m)), (1, .int (nI (j)))] [] _
  refine r_bipush (v := nI 9) dX13_does_0 (by decide) ?_
  refine r_iload_n dX13_does_2 rfl 1 rfl ?_
  refine r_imulN dX13_does_3 ?_
  refine r_iconst (v := nI 3) dX13_does_4 (by decide) ?_
  refine r_iaddN dX13_does_5 ?_
  refine r_istore_n (lv' := [(2, .int (nI (9 * j + 3))), (0, .ref (m)), (1, .int (nI (j)))]) dX13_does_6 rfl (by decide) rfl ?_
  refine r_aload_n dX13_does_7 rfl 1 rfl ?_
  refine m_ref (k := 16) (j := 10) hs hs.2.1.2.2.2.2.2.2.2.2.2.1 dX13_does_8 fr_X13_44 rfl ?_
  refine r_iload_n dX13_does_11 rfl 0 rfl ?_
  refine o_iald (j := 10) (n := 160) (i := 9 * j + 3) (by decide) hs rw10 dX13_does_12 (by omega) (by decide) ?_
  refine Wx.top e0 ?_
  refine r_istore_n (lv' := [(3, .int (nI (v0))), (2, .int (nI (9 * j + 3))), (0, .ref (m)), (1, .int (nI (j)))]) dX13_does_13 rfl (by decide) rfl ?_
  refine r_aload_n dX13_does_14 rfl 2 rfl ?_
  refine m_ref (k := 16) (j := 10) hs hs.2.1.2.2.2.2.2.2.2.2.2.1 dX13_does_15 fr_X13_44 rfl ?_
  refine r_iload_n dX13_does_18 rfl 1 rfl ?_
  refine r_iconst (v := nI 1) dX13_does_19 (by decide) ?_
  refine r_iaddN dX13_does_20 ?_
  refine o_iald (j := 10) (n := 160) (i := 9 * j + 3 + 1) (by decide) hs rw10 dX13_does_21 (by omega) (by decide) ?_
  refine Wx.top e1 ?_
  refine r_istore (lv' := [(4, .int (nI (v1))), (3, .int (nI (v0))), (2, .int (nI (9 * j + 3))), (0, .ref (m)), (1, .int (nI (j)))]) dX13_does_22 (by decide) rfl ?_
  refine r_aload_n dX13_does_24 rfl 3 rfl ?_
  refine m_ref (k := 16) (j := 10) hs hs.2.1.2.2.2.2.2.2.2.2.2.1 dX13_does_25 fr_X13_44 rfl ?_
  refine r_iload_n dX13_does_28 rfl 2 rfl ?_
  refine r_iconst (v := nI 2) dX13_does_29 (by decide) ?_
  refine r_iaddN dX13_does_30 ?_
  refine o_iald (j := 10) (n := 160) (i := 9 * j + 3 + 2) (by decide) hs rw10 dX13_does_31 (by omega) (by decide) ?_
  refine Wx.top e2 ?_
  refine r_istore (lv' := [(5, .int (nI (v2))), (4, .int (nI (v1))), (3, .int (nI (v0))), (2, .int (nI (9 * j + 3))), (0, .ref (m)), (1, .int (nI (j)))]) dX13_does_32 (by decide) rfl ?_
  refine r_aload_n dX13_does_34 rfl 4 rfl ?_
  refine m_ref (k := 16) (j := 10) hs hs.2.1.2.2.2.2.2.2.2.2.2.1 dX13_does_35 fr_X13_44 rfl ?_
  refine r_bipush (v := nI 9) dX13_does_38 (by decide) ?_
  refine r_iload_n dX13_does_40 rfl 5 rfl ?_
  refine r_imulN dX13_does_41 ?_
  refine o_iald (j := 10) (n := 160) (i := 9 * j) (by decide) hs rw10 dX13_does_42 (by omega) (by decide) ?_
  refine Wx.top eW ?_
  refine r_tableIn (off := 45) (tgt := 88) dX13_does_43 (by decide) (by decide) rfl (by decide) ?_
  refine r_iload_n dX13_does_88 rfl 2 rfl ?_
  refine r_iload dX13_does_89 1 rfl ?_
  refine r_iload dX13_does_91 0 rfl ?_
  refine r_fnS (M2 := m_X13_againstMachine) (As := [.int (nI (v0)), .int (nI (v1)), .int (nI (v2))]) (rest := []) (v := some (.int (nI (0)))) dX13_does_93 cc_X13_does_107 rfl rfl rfl (Nat.le_of_ble_eq_true rfl) (hA G _) rfl ?_
  refine r_if_neN (tgt := 115) dX13_does_96 (by decide) (by omega) (fun zz96 => ?_) (fun zz96 => ?_)
  · exact absurd zz96 (by decide)
  · refine r_aload_n dX13_does_99 rfl 4 rfl ?_
    refine r_iload_n dX13_does_100 rfl 2 rfl ?_
    refine r_iload dX13_does_101 1 rfl ?_
    refine r_iload dX13_does_103 0 rfl ?_
    refine r_callV (M2 := m_X13_machineNow) (As := [.int (nI (v0)), .int (nI (v1)), .int (nI (v2))]) (rest := []) dX13_does_105 cc_X13_does_115 rfl rfl rfl (Nat.le_of_ble_eq_true rfl) hs.1 rfl rfl (by decide) (hNw G T m V od hs) (fun v9 U hq => ?_) (fun E9 T9 hq => by obtain ⟨hq, -⟩ := hq; cases hq)
    obtain ⟨hv9, V', hEq, rfl⟩ := hq
    cases hv9
    show Wx _ G (rput T m (sg V' g') od) 108 [(5, .int (nI (v2))), (4, .int (nI (v1))), (3, .int (nI (v0))), (2, .int (nI (9 * j + 3))), (0, .ref (m)), (1, .int (nI (j)))] [.int (nI (v))] _
    refine r_if_ltN (tgt := 115) dX13_does_108 (by decide) (by omega) ?_
    refine r_iconst (v := nI 1) dX13_does_111 (by decide) ?_
    refine r_goto (tgt := 116) dX13_does_112 (by decide) ?_
    exact r_iret (ty := .boolean) dX13_does_116 rfl (by decide) ⟨rfl, V', hEq, rfl⟩
set_option maxRecDepth 4000 in
set_option maxHeartbeats 1000000 in
theorem g_does_0_no {G : GI} {T : Hp} {m : Nat} {V : RVal} {g : Nat → Nat} {od : Nat → UInt64} (hs : RS T m) {j : Nat} (hj : j < 10) {v0 v1 v2 : Nat} (eW : V 10 (9 * j) = nI 0) (e0 : V 10 (9 * j + 3) = nI (v0)) (e1 : V 10 (9 * j + 3 + 1) = nI (v1)) (e2 : V 10 (9 * j + 3 + 2) = nI (v2)) {code : Nat} (hc : 0 < code ∧ code < 2 ^ 31) (hA : RfS m_X13_againstMachine [.int (nI (v0)), .int (nI (v1)), .int (nI (v2))] code) : Fn m_X13_does G [.ref m, .int (nI j)] (rput T m (sg V g) od) (some (.int (nI 0))) (rput T m (sg V g) od) := by
  refine Cn.of rfl (by decide) (Nat.le_of_ble_eq_true rfl) (fun hN hM => ?_)
  show Wx _ G _ 0 [(0, .ref (m)), (1, .int (nI (j)))] [] _
  refine r_bipush (v := nI 9) dX13_does_0 (by decide) ?_
  refine r_iload_n dX13_does_2 rfl 1 rfl ?_
  refine r_imulN dX13_does_3 ?_
  refine r_iconst (v := nI 3) dX13_does_4 (by decide) ?_
  refine r_iaddN dX13_does_5 ?_
  refine r_istore_n (lv' := [(2, .int (nI (9 * j + 3))), (0, .ref (m)), (1, .int (nI (j)))]) dX13_does_6 rfl (by decide) rfl ?_
  refine r_aload_n dX13_does_7 rfl 1 rfl ?_
  refine m_ref (k := 16) (j := 10) hs hs.2.1.2.2.2.2.2.2.2.2.2.1 dX13_does_8 fr_X13_44 rfl ?_
  refine r_iload_n dX13_does_11 rfl 0 rfl ?_
  refine o_iald (j := 10) (n := 160) (i := 9 * j + 3) (by decide) hs rw10 dX13_does_12 (by omega) (by decide) ?_
  refine Wx.top e0 ?_
  refine r_istore_n (lv' := [(3, .int (nI (v0))), (2, .int (nI (9 * j + 3))), (0, .ref (m)), (1, .int (nI (j)))]) dX13_does_13 rfl (by decide) rfl ?_
  refine r_aload_n dX13_does_14 rfl 2 rfl ?_
  refine m_ref (k := 16) (j := 10) hs hs.2.1.2.2.2.2.2.2.2.2.2.1 dX13_does_15 fr_X13_44 rfl ?_
  refine r_iload_n dX13_does_18 rfl 1 rfl ?_
  refine r_iconst (v := nI 1) dX13_does_19 (by decide) ?_
  refine r_iaddN dX13_does_20 ?_
  refine o_iald (j := 10) (n := 160) (i := 9 * j + 3 + 1) (by decide) hs rw10 dX13_does_21 (by omega) (by decide) ?_
  refine Wx.top e1 ?_
  refine r_istore (lv' := [(4, .int (nI (v1))), (3, .int (nI (v0))), (2, .int (nI (9 * j + 3))), (0, .ref (m)), (1, .int (nI (j)))]) dX13_does_22 (by decide) rfl ?_
  refine r_aload_n dX13_does_24 rfl 3 rfl ?_
  refine m_ref (k := 16) (j := 10) hs hs.2.1.2.2.2.2.2.2.2.2.2.1 dX13_does_25 fr_X13_44 rfl ?_
  refine r_iload_n dX13_does_28 rfl 2 rfl ?_
  refine r_iconst (v := nI 2) dX13_does_29 (by decide) ?_
  refine r_iaddN dX13_does_30 ?_
  refine o_iald (j := 10) (n := 160) (i := 9 * j + 3 + 2) (by decide) hs rw10 dX13_does_31 (by omega) (by decide) ?_
  refine Wx.top e2 ?_
  refine r_istore (lv' := [(5, .int (nI (v2))), (4, .int (nI (v1))), (3, .int (nI (v0))), (2, .int (nI (9 * j + 3))), (0, .ref (m)), (1, .int (nI (j)))]) dX13_does_32 (by decide) rfl ?_
  refine r_aload_n dX13_does_34 rfl 4 rfl ?_
  refine m_ref (k := 16) (j := 10) hs hs.2.1.2.2.2.2.2.2.2.2.2.1 dX13_does_35 fr_X13_44 rfl ?_
  refine r_bipush (v := nI 9) dX13_does_38 (by decide) ?_
  refine r_iload_n dX13_does_40 rfl 5 rfl ?_
  refine r_imulN dX13_does_41 ?_
  refine o_iald (j := 10) (n := 160) (i := 9 * j) (by decide) hs rw10 dX13_does_42 (by omega) (by decide) ?_
  refine Wx.top eW ?_
  refine r_tableIn (off := 45) (tgt := 88) dX13_does_43 (by decide) (by decide) rfl (by decide) ?_
  refine r_iload_n dX13_does_88 rfl 2 rfl ?_
  refine r_iload dX13_does_89 1 rfl ?_
  refine r_iload dX13_does_91 0 rfl ?_
  refine r_fnS (M2 := m_X13_againstMachine) (As := [.int (nI (v0)), .int (nI (v1)), .int (nI (v2))]) (rest := []) (v := some (.int (nI (code)))) dX13_does_93 cc_X13_does_107 rfl rfl rfl (Nat.le_of_ble_eq_true rfl) (hA G _) rfl ?_
  refine r_if_neN (tgt := 115) dX13_does_96 (by decide) (by omega) (fun h96 => ?_) (fun h96 => ?_)
  · refine r_iconst (v := nI 0) dX13_does_115 (by decide) ?_
    exact r_iret (ty := .boolean) dX13_does_116 rfl (by decide) ⟨rfl, rfl⟩
  · exact absurd h96 (by omega)
set_option maxRecDepth 4000 in
set_option maxHeartbeats 1000000 in
theorem g_does_1 {G : GI} {T : Hp} {m : Nat} {V : RVal} {g : Nat → Nat} {od : Nat → UInt64} (hs : RS T m) {j : Nat} (hj : j < 10) {v0 v1 v2 v3 : Nat} (eW : V 10 (9 * j) = nI 1) (e0 : V 10 (9 * j + 3) = nI (v0)) (e1 : V 10 (9 * j + 3 + 1) = nI (v1)) (e2 : V 10 (9 * j + 3 + 2) = nI (v2)) (e3 : V 10 (9 * j + 3 + 3) = nI (v3)) (hA : RfS m_X13_againstProduct [.int (nI (v0)), .int (nI (v1)), .int (nI (v2)), .int (nI (v3))] 0) {v : Nat} {g' : Nat → Nat} (hv : v < 2 ^ 31) (hNw : RfN m_X13_productNow [.int (nI (v0)), .int (nI (v1)), .int (nI (v2)), .int (nI (v3))] g v g') : Cn m_X13_does G [.ref m, .int (nI j)] (rput T m (sg V g) od) (RfQ V T m od 1 g') := by
  refine Cn.of rfl (by decide) (Nat.le_of_ble_eq_true rfl) (fun hN hM => ?_)
  show Wx _ G _ 0 [(0, .ref (m)), (1, .int (nI (j)))] [] _
  refine r_bipush (v := nI 9) dX13_does_0 (by decide) ?_
  refine r_iload_n dX13_does_2 rfl 1 rfl ?_
  refine r_imulN dX13_does_3 ?_
  refine r_iconst (v := nI 3) dX13_does_4 (by decide) ?_
  refine r_iaddN dX13_does_5 ?_
  refine r_istore_n (lv' := [(2, .int (nI (9 * j + 3))), (0, .ref (m)), (1, .int (nI (j)))]) dX13_does_6 rfl (by decide) rfl ?_
  refine r_aload_n dX13_does_7 rfl 1 rfl ?_
  refine m_ref (k := 16) (j := 10) hs hs.2.1.2.2.2.2.2.2.2.2.2.1 dX13_does_8 fr_X13_44 rfl ?_
  refine r_iload_n dX13_does_11 rfl 0 rfl ?_
  refine o_iald (j := 10) (n := 160) (i := 9 * j + 3) (by decide) hs rw10 dX13_does_12 (by omega) (by decide) ?_
  refine Wx.top e0 ?_
  refine r_istore_n (lv' := [(3, .int (nI (v0))), (2, .int (nI (9 * j + 3))), (0, .ref (m)), (1, .int (nI (j)))]) dX13_does_13 rfl (by decide) rfl ?_
  refine r_aload_n dX13_does_14 rfl 2 rfl ?_
  refine m_ref (k := 16) (j := 10) hs hs.2.1.2.2.2.2.2.2.2.2.2.1 dX13_does_15 fr_X13_44 rfl ?_
  refine r_iload_n dX13_does_18 rfl 1 rfl ?_
  refine r_iconst (v := nI 1) dX13_does_19 (by decide) ?_
  refine r_iaddN dX13_does_20 ?_
  refine o_iald (j := 10) (n := 160) (i := 9 * j + 3 + 1) (by decide) hs rw10 dX13_does_21 (by omega) (by decide) ?_
  refine Wx.top e1 ?_
  refine r_istore (lv' := [(4, .int (nI (v1))), (3, .int (nI (v0))), (2, .int (nI (9 * j + 3))), (0, .ref (m)), (1, .int (nI (j)))]) dX13_does_22 (by decide) rfl ?_
  refine r_aload_n dX13_does_24 rfl 3 rfl ?_
  refine m_ref (k := 16) (j := 10) hs hs.2.1.2.2.2.2.2.2.2.2.2.1 dX13_does_25 fr_X13_44 rfl ?_
  refine r_iload_n dX13_does_28 rfl 2 rfl ?_
  refine r_iconst (v := nI 2) dX13_does_29 (by decide) ?_
  refine r_iaddN dX13_does_30 ?_
  refine o_iald (j := 10) (n := 160) (i := 9 * j + 3 + 2) (by decide) hs rw10 dX13_does_31 (by omega) (by decide) ?_
  refine Wx.top e2 ?_
  refine r_istore (lv' := [(5, .int (nI (v2))), (4, .int (nI (v1))), (3, .int (nI (v0))), (2, .int (nI (9 * j + 3))), (0, .ref (m)), (1, .int (nI (j)))]) dX13_does_32 (by decide) rfl ?_
  refine r_aload_n dX13_does_34 rfl 4 rfl ?_
  refine m_ref (k := 16) (j := 10) hs hs.2.1.2.2.2.2.2.2.2.2.2.1 dX13_does_35 fr_X13_44 rfl ?_
  refine r_bipush (v := nI 9) dX13_does_38 (by decide) ?_
  refine r_iload_n dX13_does_40 rfl 5 rfl ?_
  refine r_imulN dX13_does_41 ?_
  refine o_iald (j := 10) (n := 160) (i := 9 * j) (by decide) hs rw10 dX13_does_42 (by omega) (by decide) ?_
  refine Wx.top eW ?_
  refine r_tableIn (off := 74) (tgt := 117) dX13_does_43 (by decide) (by decide) rfl (by decide) ?_
  refine r_iload_n dX13_does_117 rfl 2 rfl ?_
  refine r_iload dX13_does_118 1 rfl ?_
  refine r_iload dX13_does_120 0 rfl ?_
  refine r_aload_n dX13_does_122 rfl 4 rfl ?_
  refine m_ref (k := 16) (j := 10) hs hs.2.1.2.2.2.2.2.2.2.2.2.1 dX13_does_123 fr_X13_44 rfl ?_
  refine r_iload_n dX13_does_126 rfl 3 rfl ?_
  refine r_iconst (v := nI 3) dX13_does_127 (by decide) ?_
  refine r_iaddN dX13_does_128 ?_
  refine o_iald (j := 10) (n := 160) (i := 9 * j + 3 + 3) (by decide) hs rw10 dX13_does_129 (by omega) (by decide) ?_
  refine Wx.top e3 ?_
  refine r_fnS (M2 := m_X13_againstProduct) (As := [.int (nI (v0)), .int (nI (v1)), .int (nI (v2)), .int (nI (v3))]) (rest := []) (v := some (.int (nI (0)))) dX13_does_130 cc_X13_does_121 rfl rfl rfl (Nat.le_of_ble_eq_true rfl) (hA G _) rfl ?_
  refine r_if_neN (tgt := 160) dX13_does_133 (by decide) (by omega) (fun zz133 => ?_) (fun zz133 => ?_)
  · exact absurd zz133 (by decide)
  · refine r_aload_n dX13_does_136 rfl 4 rfl ?_
    refine r_iload_n dX13_does_137 rfl 2 rfl ?_
    refine r_iload dX13_does_138 1 rfl ?_
    refine r_iload dX13_does_140 0 rfl ?_
    refine r_aload_n dX13_does_142 rfl 4 rfl ?_
    refine m_ref (k := 16) (j := 10) hs hs.2.1.2.2.2.2.2.2.2.2.2.1 dX13_does_143 fr_X13_44 rfl ?_
    refine r_iload_n dX13_does_146 rfl 3 rfl ?_
    refine r_iconst (v := nI 3) dX13_does_147 (by decide) ?_
    refine r_iaddN dX13_does_148 ?_
    refine o_iald (j := 10) (n := 160) (i := 9 * j + 3 + 3) (by decide) hs rw10 dX13_does_149 (by omega) (by decide) ?_
    refine Wx.top e3 ?_
    refine r_callV (M2 := m_X13_productNow) (As := [.int (nI (v0)), .int (nI (v1)), .int (nI (v2)), .int (nI (v3))]) (rest := []) dX13_does_150 cc_X13_does_125 rfl rfl rfl (Nat.le_of_ble_eq_true rfl) hs.1 rfl rfl (by decide) (hNw G T m V od hs) (fun v9 U hq => ?_) (fun E9 T9 hq => by obtain ⟨hq, -⟩ := hq; cases hq)
    obtain ⟨hv9, V', hEq, rfl⟩ := hq
    cases hv9
    show Wx _ G (rput T m (sg V' g') od) 153 [(5, .int (nI (v2))), (4, .int (nI (v1))), (3, .int (nI (v0))), (2, .int (nI (9 * j + 3))), (0, .ref (m)), (1, .int (nI (j)))] [.int (nI (v))] _
    refine r_if_ltN (tgt := 160) dX13_does_153 (by decide) (by omega) ?_
    refine r_iconst (v := nI 1) dX13_does_156 (by decide) ?_
    refine r_goto (tgt := 161) dX13_does_157 (by decide) ?_
    exact r_iret (ty := .boolean) dX13_does_161 rfl (by decide) ⟨rfl, V', hEq, rfl⟩
set_option maxRecDepth 4000 in
set_option maxHeartbeats 1000000 in
theorem g_does_1_no {G : GI} {T : Hp} {m : Nat} {V : RVal} {g : Nat → Nat} {od : Nat → UInt64} (hs : RS T m) {j : Nat} (hj : j < 10) {v0 v1 v2 v3 : Nat} (eW : V 10 (9 * j) = nI 1) (e0 : V 10 (9 * j + 3) = nI (v0)) (e1 : V 10 (9 * j + 3 + 1) = nI (v1)) (e2 : V 10 (9 * j + 3 + 2) = nI (v2)) (e3 : V 10 (9 * j + 3 + 3) = nI (v3)) {code : Nat} (hc : 0 < code ∧ code < 2 ^ 31) (hA : RfS m_X13_againstProduct [.int (nI (v0)), .int (nI (v1)), .int (nI (v2)), .int (nI (v3))] code) : Fn m_X13_does G [.ref m, .int (nI j)] (rput T m (sg V g) od) (some (.int (nI 0))) (rput T m (sg V g) od) := by
  refine Cn.of rfl (by decide) (Nat.le_of_ble_eq_true rfl) (fun hN hM => ?_)
  show Wx _ G _ 0 [(0, .ref (m)), (1, .int (nI (j)))] [] _
  refine r_bipush (v := nI 9) dX13_does_0 (by decide) ?_
  refine r_iload_n dX13_does_2 rfl 1 rfl ?_
  refine r_imulN dX13_does_3 ?_
  refine r_iconst (v := nI 3) dX13_does_4 (by decide) ?_
  refine r_iaddN dX13_does_5 ?_
  refine r_istore_n (lv' := [(2, .int (nI (9 * j + 3))), (0, .ref (m)), (1, .int (nI (j)))]) dX13_does_6 rfl (by decide) rfl ?_
  refine r_aload_n dX13_does_7 rfl 1 rfl ?_
  refine m_ref (k := 16) (j := 10) hs hs.2.1.2.2.2.2.2.2.2.2.2.1 dX13_does_8 fr_X13_44 rfl ?_
  refine r_iload_n dX13_does_11 rfl 0 rfl ?_
  refine o_iald (j := 10) (n := 160) (i := 9 * j + 3) (by decide) hs rw10 dX13_does_12 (by omega) (by decide) ?_
  refine Wx.top e0 ?_
  refine r_istore_n (lv' := [(3, .int (nI (v0))), (2, .int (nI (9 * j + 3))), (0, .ref (m)), (1, .int (nI (j)))]) dX13_does_13 rfl (by decide) rfl ?_
  refine r_aload_n dX13_does_14 rfl 2 rfl ?_
  refine m_ref (k := 16) (j := 10) hs hs.2.1.2.2.2.2.2.2.2.2.2.1 dX13_does_15 fr_X13_44 rfl ?_
  refine r_iload_n dX13_does_18 rfl 1 rfl ?_
  refine r_iconst (v := nI 1) dX13_does_19 (by decide) ?_
  refine r_iaddN dX13_does_20 ?_
  refine o_iald (j := 10) (n := 160) (i := 9 * j + 3 + 1) (by decide) hs rw10 dX13_does_21 (by omega) (by decide) ?_
  refine Wx.top e1 ?_
  refine r_istore (lv' := [(4, .int (nI (v1))), (3, .int (nI (v0))), (2, .int (nI (9 * j + 3))), (0, .ref (m)), (1, .int (nI (j)))]) dX13_does_22 (by decide) rfl ?_
  refine r_aload_n dX13_does_24 rfl 3 rfl ?_
  refine m_ref (k := 16) (j := 10) hs hs.2.1.2.2.2.2.2.2.2.2.2.1 dX13_does_25 fr_X13_44 rfl ?_
  refine r_iload_n dX13_does_28 rfl 2 rfl ?_
  refine r_iconst (v := nI 2) dX13_does_29 (by decide) ?_
  refine r_iaddN dX13_does_30 ?_
  refine o_iald (j := 10) (n := 160) (i := 9 * j + 3 + 2) (by decide) hs rw10 dX13_does_31 (by omega) (by decide) ?_
  refine Wx.top e2 ?_
  refine r_istore (lv' := [(5, .int (nI (v2))), (4, .int (nI (v1))), (3, .int (nI (v0))), (2, .int (nI (9 * j + 3))), (0, .ref (m)), (1, .int (nI (j)))]) dX13_does_32 (by decide) rfl ?_
  refine r_aload_n dX13_does_34 rfl 4 rfl ?_
  refine m_ref (k := 16) (j := 10) hs hs.2.1.2.2.2.2.2.2.2.2.2.1 dX13_does_35 fr_X13_44 rfl ?_
  refine r_bipush (v := nI 9) dX13_does_38 (by decide) ?_
  refine r_iload_n dX13_does_40 rfl 5 rfl ?_
  refine r_imulN dX13_does_41 ?_
  refine o_iald (j := 10) (n := 160) (i := 9 * j) (by decide) hs rw10 dX13_does_42 (by omega) (by decide) ?_
  refine Wx.top eW ?_
  refine r_tableIn (off := 74) (tgt := 117) dX13_does_43 (by decide) (by decide) rfl (by decide) ?_
  refine r_iload_n dX13_does_117 rfl 2 rfl ?_
  refine r_iload dX13_does_118 1 rfl ?_
  refine r_iload dX13_does_120 0 rfl ?_
  refine r_aload_n dX13_does_122 rfl 4 rfl ?_
  refine m_ref (k := 16) (j := 10) hs hs.2.1.2.2.2.2.2.2.2.2.2.1 dX13_does_123 fr_X13_44 rfl ?_
  refine r_iload_n dX13_does_126 rfl 3 rfl ?_
  refine r_iconst (v := nI 3) dX13_does_127 (by decide) ?_
  refine r_iaddN dX13_does_128 ?_
  refine o_iald (j := 10) (n := 160) (i := 9 * j + 3 + 3) (by decide) hs rw10 dX13_does_129 (by omega) (by decide) ?_
  refine Wx.top e3 ?_
  refine r_fnS (M2 := m_X13_againstProduct) (As := [.int (nI (v0)), .int (nI (v1)), .int (nI (v2)), .int (nI (v3))]) (rest := []) (v := some (.int (nI (code)))) dX13_does_130 cc_X13_does_121 rfl rfl rfl (Nat.le_of_ble_eq_true rfl) (hA G _) rfl ?_
  refine r_if_neN (tgt := 160) dX13_does_133 (by decide) (by omega) (fun h133 => ?_) (fun h133 => ?_)
  · refine r_iconst (v := nI 0) dX13_does_160 (by decide) ?_
    exact r_iret (ty := .boolean) dX13_does_161 rfl (by decide) ⟨rfl, rfl⟩
  · exact absurd h133 (by omega)
set_option maxRecDepth 4000 in
set_option maxHeartbeats 1000000 in
theorem g_does_2 {G : GI} {T : Hp} {m : Nat} {V : RVal} {g : Nat → Nat} {od : Nat → UInt64} (hs : RS T m) {j : Nat} (hj : j < 10) {v0 v1 v2 : Nat} (eW : V 10 (9 * j) = nI 2) (e0 : V 10 (9 * j + 3) = nI (v0)) (e1 : V 10 (9 * j + 3 + 1) = nI (v1)) (e2 : V 10 (9 * j + 3 + 2) = nI (v2)) (hA : RfA m_X13_againstRaw [.int (nI (v0)), .int (nI (v1)), .int (nI (v2))] g 0) {v : Nat} {g' : Nat → Nat} (hv : v < 2 ^ 31) (hNw : RfN m_X13_rawNow [.int (nI (v0)), .int (nI (v1)), .int (nI (v2))] g v g') : Cn m_X13_does G [.ref m, .int (nI j)] (rput T m (sg V g) od) (RfQ V T m od 1 g') := by
  refine Cn.of rfl (by decide) (Nat.le_of_ble_eq_true rfl) (fun hN hM => ?_)
  show Wx _ G _ 0 [(0, .ref (m)), (1, .int (nI (j)))] [] _
  refine r_bipush (v := nI 9) dX13_does_0 (by decide) ?_
  refine r_iload_n dX13_does_2 rfl 1 rfl ?_
  refine r_imulN dX13_does_3 ?_
  refine r_iconst (v := nI 3) dX13_does_4 (by decide) ?_
  refine r_iaddN dX13_does_5 ?_
  refine r_istore_n (lv' := [(2, .int (nI (9 * j + 3))), (0, .ref (m)), (1, .int (nI (j)))]) dX13_does_6 rfl (by decide) rfl ?_
  refine r_aload_n dX13_does_7 rfl 1 rfl ?_
  refine m_ref (k := 16) (j := 10) hs hs.2.1.2.2.2.2.2.2.2.2.2.1 dX13_does_8 fr_X13_44 rfl ?_
  refine r_iload_n dX13_does_11 rfl 0 rfl ?_
  refine o_iald (j := 10) (n := 160) (i := 9 * j + 3) (by decide) hs rw10 dX13_does_12 (by omega) (by decide) ?_
  refine Wx.top e0 ?_
  refine r_istore_n (lv' := [(3, .int (nI (v0))), (2, .int (nI (9 * j + 3))), (0, .ref (m)), (1, .int (nI (j)))]) dX13_does_13 rfl (by decide) rfl ?_
  refine r_aload_n dX13_does_14 rfl 2 rfl ?_
  refine m_ref (k := 16) (j := 10) hs hs.2.1.2.2.2.2.2.2.2.2.2.1 dX13_does_15 fr_X13_44 rfl ?_
  refine r_iload_n dX13_does_18 rfl 1 rfl ?_
  refine r_iconst (v := nI 1) dX13_does_19 (by decide) ?_
  refine r_iaddN dX13_does_20 ?_
  refine o_iald (j := 10) (n := 160) (i := 9 * j + 3 + 1) (by decide) hs rw10 dX13_does_21 (by omega) (by decide) ?_
  refine Wx.top e1 ?_
  refine r_istore (lv' := [(4, .int (nI (v1))), (3, .int (nI (v0))), (2, .int (nI (9 * j + 3))), (0, .ref (m)), (1, .int (nI (j)))]) dX13_does_22 (by decide) rfl ?_
  refine r_aload_n dX13_does_24 rfl 3 rfl ?_
  refine m_ref (k := 16) (j := 10) hs hs.2.1.2.2.2.2.2.2.2.2.2.1 dX13_does_25 fr_X13_44 rfl ?_
  refine r_iload_n dX13_does_28 rfl 2 rfl ?_
  refine r_iconst (v := nI 2) dX13_does_29 (by decide) ?_
  refine r_iaddN dX13_does_30 ?_
  refine o_iald (j := 10) (n := 160) (i := 9 * j + 3 + 2) (by decide) hs rw10 dX13_does_31 (by omega) (by decide) ?_
  refine Wx.top e2 ?_
  refine r_istore (lv' := [(5, .int (nI (v2))), (4, .int (nI (v1))), (3, .int (nI (v0))), (2, .int (nI (9 * j + 3))), (0, .ref (m)), (1, .int (nI (j)))]) dX13_does_32 (by decide) rfl ?_
  refine r_aload_n dX13_does_34 rfl 4 rfl ?_
  refine m_ref (k := 16) (j := 10) hs hs.2.1.2.2.2.2.2.2.2.2.2.1 dX13_does_35 fr_X13_44 rfl ?_
  refine r_bipush (v := nI 9) dX13_does_38 (by decide) ?_
  refine r_iload_n dX13_does_40 rfl 5 rfl ?_
  refine r_imulN dX13_does_41 ?_
  refine o_iald (j := 10) (n := 160) (i := 9 * j) (by decide) hs rw10 dX13_does_42 (by omega) (by decide) ?_
  refine Wx.top eW ?_
  refine r_tableIn (off := 119) (tgt := 162) dX13_does_43 (by decide) (by decide) rfl (by decide) ?_
  refine r_aload_n dX13_does_162 rfl 4 rfl ?_
  refine r_iload_n dX13_does_163 rfl 2 rfl ?_
  refine r_iload dX13_does_164 1 rfl ?_
  refine r_iload dX13_does_166 0 rfl ?_
  refine r_fnV (M2 := m_X13_againstRaw) (As := [.int (nI (v0)), .int (nI (v1)), .int (nI (v2))]) (rest := []) (v := some (.int (nI (0)))) dX13_does_168 cc_X13_does_169 rfl rfl rfl (Nat.le_of_ble_eq_true rfl) hs.1 rfl rfl (by decide) (hA G T m V od hs) rfl ?_
  refine r_if_neN (tgt := 190) dX13_does_171 (by decide) (by omega) (fun zz171 => ?_) (fun zz171 => ?_)
  · exact absurd zz171 (by decide)
  · refine r_aload_n dX13_does_174 rfl 4 rfl ?_
    refine r_iload_n dX13_does_175 rfl 2 rfl ?_
    refine r_iload dX13_does_176 1 rfl ?_
    refine r_iload dX13_does_178 0 rfl ?_
    refine r_callV (M2 := m_X13_rawNow) (As := [.int (nI (v0)), .int (nI (v1)), .int (nI (v2))]) (rest := []) dX13_does_180 cc_X13_does_172 rfl rfl rfl (Nat.le_of_ble_eq_true rfl) hs.1 rfl rfl (by decide) (hNw G T m V od hs) (fun v9 U hq => ?_) (fun E9 T9 hq => by obtain ⟨hq, -⟩ := hq; cases hq)
    obtain ⟨hv9, V', hEq, rfl⟩ := hq
    cases hv9
    show Wx _ G (rput T m (sg V' g') od) 183 [(5, .int (nI (v2))), (4, .int (nI (v1))), (3, .int (nI (v0))), (2, .int (nI (9 * j + 3))), (0, .ref (m)), (1, .int (nI (j)))] [.int (nI (v))] _
    refine r_if_ltN (tgt := 190) dX13_does_183 (by decide) (by omega) ?_
    refine r_iconst (v := nI 1) dX13_does_186 (by decide) ?_
    refine r_goto (tgt := 191) dX13_does_187 (by decide) ?_
    exact r_iret (ty := .boolean) dX13_does_191 rfl (by decide) ⟨rfl, V', hEq, rfl⟩
set_option maxRecDepth 4000 in
set_option maxHeartbeats 1000000 in
theorem g_does_2_no {G : GI} {T : Hp} {m : Nat} {V : RVal} {g : Nat → Nat} {od : Nat → UInt64} (hs : RS T m) {j : Nat} (hj : j < 10) {v0 v1 v2 : Nat} (eW : V 10 (9 * j) = nI 2) (e0 : V 10 (9 * j + 3) = nI (v0)) (e1 : V 10 (9 * j + 3 + 1) = nI (v1)) (e2 : V 10 (9 * j + 3 + 2) = nI (v2)) {code : Nat} (hc : 0 < code ∧ code < 2 ^ 31) (hA : RfA m_X13_againstRaw [.int (nI (v0)), .int (nI (v1)), .int (nI (v2))] g code) : Fn m_X13_does G [.ref m, .int (nI j)] (rput T m (sg V g) od) (some (.int (nI 0))) (rput T m (sg V g) od) := by
  refine Cn.of rfl (by decide) (Nat.le_of_ble_eq_true rfl) (fun hN hM => ?_)
  show Wx _ G _ 0 [(0, .ref (m)), (1, .int (nI (j)))] [] _
  refine r_bipush (v := nI 9) dX13_does_0 (by decide) ?_
  refine r_iload_n dX13_does_2 rfl 1 rfl ?_
  refine r_imulN dX13_does_3 ?_
  refine r_iconst (v := nI 3) dX13_does_4 (by decide) ?_
  refine r_iaddN dX13_does_5 ?_
  refine r_istore_n (lv' := [(2, .int (nI (9 * j + 3))), (0, .ref (m)), (1, .int (nI (j)))]) dX13_does_6 rfl (by decide) rfl ?_
  refine r_aload_n dX13_does_7 rfl 1 rfl ?_
  refine m_ref (k := 16) (j := 10) hs hs.2.1.2.2.2.2.2.2.2.2.2.1 dX13_does_8 fr_X13_44 rfl ?_
  refine r_iload_n dX13_does_11 rfl 0 rfl ?_
  refine o_iald (j := 10) (n := 160) (i := 9 * j + 3) (by decide) hs rw10 dX13_does_12 (by omega) (by decide) ?_
  refine Wx.top e0 ?_
  refine r_istore_n (lv' := [(3, .int (nI (v0))), (2, .int (nI (9 * j + 3))), (0, .ref (m)), (1, .int (nI (j)))]) dX13_does_13 rfl (by decide) rfl ?_
  refine r_aload_n dX13_does_14 rfl 2 rfl ?_
  refine m_ref (k := 16) (j := 10) hs hs.2.1.2.2.2.2.2.2.2.2.2.1 dX13_does_15 fr_X13_44 rfl ?_
  refine r_iload_n dX13_does_18 rfl 1 rfl ?_
  refine r_iconst (v := nI 1) dX13_does_19 (by decide) ?_
  refine r_iaddN dX13_does_20 ?_
  refine o_iald (j := 10) (n := 160) (i := 9 * j + 3 + 1) (by decide) hs rw10 dX13_does_21 (by omega) (by decide) ?_
  refine Wx.top e1 ?_
  refine r_istore (lv' := [(4, .int (nI (v1))), (3, .int (nI (v0))), (2, .int (nI (9 * j + 3))), (0, .ref (m)), (1, .int (nI (j)))]) dX13_does_22 (by decide) rfl ?_
  refine r_aload_n dX13_does_24 rfl 3 rfl ?_
  refine m_ref (k := 16) (j := 10) hs hs.2.1.2.2.2.2.2.2.2.2.2.1 dX13_does_25 fr_X13_44 rfl ?_
  refine r_iload_n dX13_does_28 rfl 2 rfl ?_
  refine r_iconst (v := nI 2) dX13_does_29 (by decide) ?_
  refine r_iaddN dX13_does_30 ?_
  refine o_iald (j := 10) (n := 160) (i := 9 * j + 3 + 2) (by decide) hs rw10 dX13_does_31 (by omega) (by decide) ?_
  refine Wx.top e2 ?_
  refine r_istore (lv' := [(5, .int (nI (v2))), (4, .int (nI (v1))), (3, .int (nI (v0))), (2, .int (nI (9 * j + 3))), (0, .ref (m)), (1, .int (nI (j)))]) dX13_does_32 (by decide) rfl ?_
  refine r_aload_n dX13_does_34 rfl 4 rfl ?_
  refine m_ref (k := 16) (j := 10) hs hs.2.1.2.2.2.2.2.2.2.2.2.1 dX13_does_35 fr_X13_44 rfl ?_
  refine r_bipush (v := nI 9) dX13_does_38 (by decide) ?_
  refine r_iload_n dX13_does_40 rfl 5 rfl ?_
  refine r_imulN dX13_does_41 ?_
  refine o_iald (j := 10) (n := 160) (i := 9 * j) (by decide) hs rw10 dX13_does_42 (by omega) (by decide) ?_
  refine Wx.top eW ?_
  refine r_tableIn (off := 119) (tgt := 162) dX13_does_43 (by decide) (by decide) rfl (by decide) ?_
  refine r_aload_n dX13_does_162 rfl 4 rfl ?_
  refine r_iload_n dX13_does_163 rfl 2 rfl ?_
  refine r_iload dX13_does_164 1 rfl ?_
  refine r_iload dX13_does_166 0 rfl ?_
  refine r_fnV (M2 := m_X13_againstRaw) (As := [.int (nI (v0)), .int (nI (v1)), .int (nI (v2))]) (rest := []) (v := some (.int (nI (code)))) dX13_does_168 cc_X13_does_169 rfl rfl rfl (Nat.le_of_ble_eq_true rfl) hs.1 rfl rfl (by decide) (hA G T m V od hs) rfl ?_
  refine r_if_neN (tgt := 190) dX13_does_171 (by decide) (by omega) (fun h171 => ?_) (fun h171 => ?_)
  · refine r_iconst (v := nI 0) dX13_does_190 (by decide) ?_
    exact r_iret (ty := .boolean) dX13_does_191 rfl (by decide) ⟨rfl, rfl⟩
  · exact absurd h171 (by omega)
set_option maxRecDepth 4000 in
set_option maxHeartbeats 1000000 in
theorem g_does_3 {G : GI} {T : Hp} {m : Nat} {V : RVal} {g : Nat → Nat} {od : Nat → UInt64} (hs : RS T m) {j : Nat} (hj : j < 10) {v0 v1 v2 v3 v4 v5 : Nat} (eW : V 10 (9 * j) = nI 3) (e0 : V 10 (9 * j + 3) = nI (v0)) (e1 : V 10 (9 * j + 3 + 1) = nI (v1)) (e2 : V 10 (9 * j + 3 + 2) = nI (v2)) (e3 : V 10 (9 * j + 3 + 3) = nI (v3)) (e4 : V 10 (9 * j + 3 + 4) = nI (v4)) (e5 : V 10 (9 * j + 3 + 5) = nI (v5)) (hA : RfA m_X13_againstMake [.int (nI (v0)), .int (nI (v1)), .int (nI (v2)), .int (nI (v3)), .int (nI (v4)), .int (nI (v5))] g 0) {v : Nat} {g' : Nat → Nat} (hv : v < 2 ^ 31) (hNw : RfN m_X13_makeNow [.int (nI (v0)), .int (nI (v1)), .int (nI (v2)), .int (nI (v3)), .int (nI (v4)), .int (nI (v5))] g v g') : Cn m_X13_does G [.ref m, .int (nI j)] (rput T m (sg V g) od) (RfQ V T m od 1 g') := by
  refine Cn.of rfl (by decide) (Nat.le_of_ble_eq_true rfl) (fun hN hM => ?_)
  show Wx _ G _ 0 [(0, .ref (m)), (1, .int (nI (j)))] [] _
  refine r_bipush (v := nI 9) dX13_does_0 (by decide) ?_
  refine r_iload_n dX13_does_2 rfl 1 rfl ?_
  refine r_imulN dX13_does_3 ?_
  refine r_iconst (v := nI 3) dX13_does_4 (by decide) ?_
  refine r_iaddN dX13_does_5 ?_
  refine r_istore_n (lv' := [(2, .int (nI (9 * j + 3))), (0, .ref (m)), (1, .int (nI (j)))]) dX13_does_6 rfl (by decide) rfl ?_
  refine r_aload_n dX13_does_7 rfl 1 rfl ?_
  refine m_ref (k := 16) (j := 10) hs hs.2.1.2.2.2.2.2.2.2.2.2.1 dX13_does_8 fr_X13_44 rfl ?_
  refine r_iload_n dX13_does_11 rfl 0 rfl ?_
  refine o_iald (j := 10) (n := 160) (i := 9 * j + 3) (by decide) hs rw10 dX13_does_12 (by omega) (by decide) ?_
  refine Wx.top e0 ?_
  refine r_istore_n (lv' := [(3, .int (nI (v0))), (2, .int (nI (9 * j + 3))), (0, .ref (m)), (1, .int (nI (j)))]) dX13_does_13 rfl (by decide) rfl ?_
  refine r_aload_n dX13_does_14 rfl 2 rfl ?_
  refine m_ref (k := 16) (j := 10) hs hs.2.1.2.2.2.2.2.2.2.2.2.1 dX13_does_15 fr_X13_44 rfl ?_
  refine r_iload_n dX13_does_18 rfl 1 rfl ?_
  refine r_iconst (v := nI 1) dX13_does_19 (by decide) ?_
  refine r_iaddN dX13_does_20 ?_
  refine o_iald (j := 10) (n := 160) (i := 9 * j + 3 + 1) (by decide) hs rw10 dX13_does_21 (by omega) (by decide) ?_
  refine Wx.top e1 ?_
  refine r_istore (lv' := [(4, .int (nI (v1))), (3, .int (nI (v0))), (2, .int (nI (9 * j + 3))), (0, .ref (m)), (1, .int (nI (j)))]) dX13_does_22 (by decide) rfl ?_
  refine r_aload_n dX13_does_24 rfl 3 rfl ?_
  refine m_ref (k := 16) (j := 10) hs hs.2.1.2.2.2.2.2.2.2.2.2.1 dX13_does_25 fr_X13_44 rfl ?_
  refine r_iload_n dX13_does_28 rfl 2 rfl ?_
  refine r_iconst (v := nI 2) dX13_does_29 (by decide) ?_
  refine r_iaddN dX13_does_30 ?_
  refine o_iald (j := 10) (n := 160) (i := 9 * j + 3 + 2) (by decide) hs rw10 dX13_does_31 (by omega) (by decide) ?_
  refine Wx.top e2 ?_
  refine r_istore (lv' := [(5, .int (nI (v2))), (4, .int (nI (v1))), (3, .int (nI (v0))), (2, .int (nI (9 * j + 3))), (0, .ref (m)), (1, .int (nI (j)))]) dX13_does_32 (by decide) rfl ?_
  refine r_aload_n dX13_does_34 rfl 4 rfl ?_
  refine m_ref (k := 16) (j := 10) hs hs.2.1.2.2.2.2.2.2.2.2.2.1 dX13_does_35 fr_X13_44 rfl ?_
  refine r_bipush (v := nI 9) dX13_does_38 (by decide) ?_
  refine r_iload_n dX13_does_40 rfl 5 rfl ?_
  refine r_imulN dX13_does_41 ?_
  refine o_iald (j := 10) (n := 160) (i := 9 * j) (by decide) hs rw10 dX13_does_42 (by omega) (by decide) ?_
  refine Wx.top eW ?_
  refine r_tableIn (off := 149) (tgt := 192) dX13_does_43 (by decide) (by decide) rfl (by decide) ?_
  refine r_aload_n dX13_does_192 rfl 4 rfl ?_
  refine r_iload_n dX13_does_193 rfl 2 rfl ?_
  refine r_iload dX13_does_194 1 rfl ?_
  refine r_iload dX13_does_196 0 rfl ?_
  refine r_aload_n dX13_does_198 rfl 4 rfl ?_
  refine m_ref (k := 16) (j := 10) hs hs.2.1.2.2.2.2.2.2.2.2.2.1 dX13_does_199 fr_X13_44 rfl ?_
  refine r_iload_n dX13_does_202 rfl 3 rfl ?_
  refine r_iconst (v := nI 3) dX13_does_203 (by decide) ?_
  refine r_iaddN dX13_does_204 ?_
  refine o_iald (j := 10) (n := 160) (i := 9 * j + 3 + 3) (by decide) hs rw10 dX13_does_205 (by omega) (by decide) ?_
  refine Wx.top e3 ?_
  refine r_aload_n dX13_does_206 rfl 4 rfl ?_
  refine m_ref (k := 16) (j := 10) hs hs.2.1.2.2.2.2.2.2.2.2.2.1 dX13_does_207 fr_X13_44 rfl ?_
  refine r_iload_n dX13_does_210 rfl 3 rfl ?_
  refine r_iconst (v := nI 4) dX13_does_211 (by decide) ?_
  refine r_iaddN dX13_does_212 ?_
  refine o_iald (j := 10) (n := 160) (i := 9 * j + 3 + 4) (by decide) hs rw10 dX13_does_213 (by omega) (by decide) ?_
  refine Wx.top e4 ?_
  refine r_aload_n dX13_does_214 rfl 4 rfl ?_
  refine m_ref (k := 16) (j := 10) hs hs.2.1.2.2.2.2.2.2.2.2.2.1 dX13_does_215 fr_X13_44 rfl ?_
  refine r_iload_n dX13_does_218 rfl 3 rfl ?_
  refine r_iconst (v := nI 5) dX13_does_219 (by decide) ?_
  refine r_iaddN dX13_does_220 ?_
  refine o_iald (j := 10) (n := 160) (i := 9 * j + 3 + 5) (by decide) hs rw10 dX13_does_221 (by omega) (by decide) ?_
  refine Wx.top e5 ?_
  refine r_fnV (M2 := m_X13_againstMake) (As := [.int (nI (v0)), .int (nI (v1)), .int (nI (v2)), .int (nI (v3)), .int (nI (v4)), .int (nI (v5))]) (rest := []) (v := some (.int (nI (0)))) dX13_does_222 cc_X13_does_193 rfl rfl rfl (Nat.le_of_ble_eq_true rfl) hs.1 rfl rfl (by decide) (hA G T m V od hs) rfl ?_
  refine r_if_neN (tgt := 268) dX13_does_225 (by decide) (by omega) (fun zz225 => ?_) (fun zz225 => ?_)
  · exact absurd zz225 (by decide)
  · refine r_aload_n dX13_does_228 rfl 4 rfl ?_
    refine r_iload_n dX13_does_229 rfl 2 rfl ?_
    refine r_iload dX13_does_230 1 rfl ?_
    refine r_iload dX13_does_232 0 rfl ?_
    refine r_aload_n dX13_does_234 rfl 4 rfl ?_
    refine m_ref (k := 16) (j := 10) hs hs.2.1.2.2.2.2.2.2.2.2.2.1 dX13_does_235 fr_X13_44 rfl ?_
    refine r_iload_n dX13_does_238 rfl 3 rfl ?_
    refine r_iconst (v := nI 3) dX13_does_239 (by decide) ?_
    refine r_iaddN dX13_does_240 ?_
    refine o_iald (j := 10) (n := 160) (i := 9 * j + 3 + 3) (by decide) hs rw10 dX13_does_241 (by omega) (by decide) ?_
    refine Wx.top e3 ?_
    refine r_aload_n dX13_does_242 rfl 4 rfl ?_
    refine m_ref (k := 16) (j := 10) hs hs.2.1.2.2.2.2.2.2.2.2.2.1 dX13_does_243 fr_X13_44 rfl ?_
    refine r_iload_n dX13_does_246 rfl 3 rfl ?_
    refine r_iconst (v := nI 4) dX13_does_247 (by decide) ?_
    refine r_iaddN dX13_does_248 ?_
    refine o_iald (j := 10) (n := 160) (i := 9 * j + 3 + 4) (by decide) hs rw10 dX13_does_249 (by omega) (by decide) ?_
    refine Wx.top e4 ?_
    refine r_aload_n dX13_does_250 rfl 4 rfl ?_
    refine m_ref (k := 16) (j := 10) hs hs.2.1.2.2.2.2.2.2.2.2.2.1 dX13_does_251 fr_X13_44 rfl ?_
    refine r_iload_n dX13_does_254 rfl 3 rfl ?_
    refine r_iconst (v := nI 5) dX13_does_255 (by decide) ?_
    refine r_iaddN dX13_does_256 ?_
    refine o_iald (j := 10) (n := 160) (i := 9 * j + 3 + 5) (by decide) hs rw10 dX13_does_257 (by omega) (by decide) ?_
    refine Wx.top e5 ?_
    refine r_callV (M2 := m_X13_makeNow) (As := [.int (nI (v0)), .int (nI (v1)), .int (nI (v2)), .int (nI (v3)), .int (nI (v4)), .int (nI (v5))]) (rest := []) dX13_does_258 cc_X13_does_197 rfl rfl rfl (Nat.le_of_ble_eq_true rfl) hs.1 rfl rfl (by decide) (hNw G T m V od hs) (fun v9 U hq => ?_) (fun E9 T9 hq => by obtain ⟨hq, -⟩ := hq; cases hq)
    obtain ⟨hv9, V', hEq, rfl⟩ := hq
    cases hv9
    show Wx _ G (rput T m (sg V' g') od) 261 [(5, .int (nI (v2))), (4, .int (nI (v1))), (3, .int (nI (v0))), (2, .int (nI (9 * j + 3))), (0, .ref (m)), (1, .int (nI (j)))] [.int (nI (v))] _
    refine r_if_ltN (tgt := 268) dX13_does_261 (by decide) (by omega) ?_
    refine r_iconst (v := nI 1) dX13_does_264 (by decide) ?_
    refine r_goto (tgt := 269) dX13_does_265 (by decide) ?_
    exact r_iret (ty := .boolean) dX13_does_269 rfl (by decide) ⟨rfl, V', hEq, rfl⟩
set_option maxRecDepth 4000 in
set_option maxHeartbeats 1000000 in
theorem g_does_3_no {G : GI} {T : Hp} {m : Nat} {V : RVal} {g : Nat → Nat} {od : Nat → UInt64} (hs : RS T m) {j : Nat} (hj : j < 10) {v0 v1 v2 v3 v4 v5 : Nat} (eW : V 10 (9 * j) = nI 3) (e0 : V 10 (9 * j + 3) = nI (v0)) (e1 : V 10 (9 * j + 3 + 1) = nI (v1)) (e2 : V 10 (9 * j + 3 + 2) = nI (v2)) (e3 : V 10 (9 * j + 3 + 3) = nI (v3)) (e4 : V 10 (9 * j + 3 + 4) = nI (v4)) (e5 : V 10 (9 * j + 3 + 5) = nI (v5)) {code : Nat} (hc : 0 < code ∧ code < 2 ^ 31) (hA : RfA m_X13_againstMake [.int (nI (v0)), .int (nI (v1)), .int (nI (v2)), .int (nI (v3)), .int (nI (v4)), .int (nI (v5))] g code) : Fn m_X13_does G [.ref m, .int (nI j)] (rput T m (sg V g) od) (some (.int (nI 0))) (rput T m (sg V g) od) := by
  refine Cn.of rfl (by decide) (Nat.le_of_ble_eq_true rfl) (fun hN hM => ?_)
  show Wx _ G _ 0 [(0, .ref (m)), (1, .int (nI (j)))] [] _
  refine r_bipush (v := nI 9) dX13_does_0 (by decide) ?_
  refine r_iload_n dX13_does_2 rfl 1 rfl ?_
  refine r_imulN dX13_does_3 ?_
  refine r_iconst (v := nI 3) dX13_does_4 (by decide) ?_
  refine r_iaddN dX13_does_5 ?_
  refine r_istore_n (lv' := [(2, .int (nI (9 * j + 3))), (0, .ref (m)), (1, .int (nI (j)))]) dX13_does_6 rfl (by decide) rfl ?_
  refine r_aload_n dX13_does_7 rfl 1 rfl ?_
  refine m_ref (k := 16) (j := 10) hs hs.2.1.2.2.2.2.2.2.2.2.2.1 dX13_does_8 fr_X13_44 rfl ?_
  refine r_iload_n dX13_does_11 rfl 0 rfl ?_
  refine o_iald (j := 10) (n := 160) (i := 9 * j + 3) (by decide) hs rw10 dX13_does_12 (by omega) (by decide) ?_
  refine Wx.top e0 ?_
  refine r_istore_n (lv' := [(3, .int (nI (v0))), (2, .int (nI (9 * j + 3))), (0, .ref (m)), (1, .int (nI (j)))]) dX13_does_13 rfl (by decide) rfl ?_
  refine r_aload_n dX13_does_14 rfl 2 rfl ?_
  refine m_ref (k := 16) (j := 10) hs hs.2.1.2.2.2.2.2.2.2.2.2.1 dX13_does_15 fr_X13_44 rfl ?_
  refine r_iload_n dX13_does_18 rfl 1 rfl ?_
  refine r_iconst (v := nI 1) dX13_does_19 (by decide) ?_
  refine r_iaddN dX13_does_20 ?_
  refine o_iald (j := 10) (n := 160) (i := 9 * j + 3 + 1) (by decide) hs rw10 dX13_does_21 (by omega) (by decide) ?_
  refine Wx.top e1 ?_
  refine r_istore (lv' := [(4, .int (nI (v1))), (3, .int (nI (v0))), (2, .int (nI (9 * j + 3))), (0, .ref (m)), (1, .int (nI (j)))]) dX13_does_22 (by decide) rfl ?_
  refine r_aload_n dX13_does_24 rfl 3 rfl ?_
  refine m_ref (k := 16) (j := 10) hs hs.2.1.2.2.2.2.2.2.2.2.2.1 dX13_does_25 fr_X13_44 rfl ?_
  refine r_iload_n dX13_does_28 rfl 2 rfl ?_
  refine r_iconst (v := nI 2) dX13_does_29 (by decide) ?_
  refine r_iaddN dX13_does_30 ?_
  refine o_iald (j := 10) (n := 160) (i := 9 * j + 3 + 2) (by decide) hs rw10 dX13_does_31 (by omega) (by decide) ?_
  refine Wx.top e2 ?_
  refine r_istore (lv' := [(5, .int (nI (v2))), (4, .int (nI (v1))), (3, .int (nI (v0))), (2, .int (nI (9 * j + 3))), (0, .ref (m)), (1, .int (nI (j)))]) dX13_does_32 (by decide) rfl ?_
  refine r_aload_n dX13_does_34 rfl 4 rfl ?_
  refine m_ref (k := 16) (j := 10) hs hs.2.1.2.2.2.2.2.2.2.2.2.1 dX13_does_35 fr_X13_44 rfl ?_
  refine r_bipush (v := nI 9) dX13_does_38 (by decide) ?_
  refine r_iload_n dX13_does_40 rfl 5 rfl ?_
  refine r_imulN dX13_does_41 ?_
  refine o_iald (j := 10) (n := 160) (i := 9 * j) (by decide) hs rw10 dX13_does_42 (by omega) (by decide) ?_
  refine Wx.top eW ?_
  refine r_tableIn (off := 149) (tgt := 192) dX13_does_43 (by decide) (by decide) rfl (by decide) ?_
  refine r_aload_n dX13_does_192 rfl 4 rfl ?_
  refine r_iload_n dX13_does_193 rfl 2 rfl ?_
  refine r_iload dX13_does_194 1 rfl ?_
  refine r_iload dX13_does_196 0 rfl ?_
  refine r_aload_n dX13_does_198 rfl 4 rfl ?_
  refine m_ref (k := 16) (j := 10) hs hs.2.1.2.2.2.2.2.2.2.2.2.1 dX13_does_199 fr_X13_44 rfl ?_
  refine r_iload_n dX13_does_202 rfl 3 rfl ?_
  refine r_iconst (v := nI 3) dX13_does_203 (by decide) ?_
  refine r_iaddN dX13_does_204 ?_
  refine o_iald (j := 10) (n := 160) (i := 9 * j + 3 + 3) (by decide) hs rw10 dX13_does_205 (by omega) (by decide) ?_
  refine Wx.top e3 ?_
  refine r_aload_n dX13_does_206 rfl 4 rfl ?_
  refine m_ref (k := 16) (j := 10) hs hs.2.1.2.2.2.2.2.2.2.2.2.1 dX13_does_207 fr_X13_44 rfl ?_
  refine r_iload_n dX13_does_210 rfl 3 rfl ?_
  refine r_iconst (v := nI 4) dX13_does_211 (by decide) ?_
  refine r_iaddN dX13_does_212 ?_
  refine o_iald (j := 10) (n := 160) (i := 9 * j + 3 + 4) (by decide) hs rw10 dX13_does_213 (by omega) (by decide) ?_
  refine Wx.top e4 ?_
  refine r_aload_n dX13_does_214 rfl 4 rfl ?_
  refine m_ref (k := 16) (j := 10) hs hs.2.1.2.2.2.2.2.2.2.2.2.1 dX13_does_215 fr_X13_44 rfl ?_
  refine r_iload_n dX13_does_218 rfl 3 rfl ?_
  refine r_iconst (v := nI 5) dX13_does_219 (by decide) ?_
  refine r_iaddN dX13_does_220 ?_
  refine o_iald (j := 10) (n := 160) (i := 9 * j + 3 + 5) (by decide) hs rw10 dX13_does_221 (by omega) (by decide) ?_
  refine Wx.top e5 ?_
  refine r_fnV (M2 := m_X13_againstMake) (As := [.int (nI (v0)), .int (nI (v1)), .int (nI (v2)), .int (nI (v3)), .int (nI (v4)), .int (nI (v5))]) (rest := []) (v := some (.int (nI (code)))) dX13_does_222 cc_X13_does_193 rfl rfl rfl (Nat.le_of_ble_eq_true rfl) hs.1 rfl rfl (by decide) (hA G T m V od hs) rfl ?_
  refine r_if_neN (tgt := 268) dX13_does_225 (by decide) (by omega) (fun h225 => ?_) (fun h225 => ?_)
  · refine r_iconst (v := nI 0) dX13_does_268 (by decide) ?_
    exact r_iret (ty := .boolean) dX13_does_269 rfl (by decide) ⟨rfl, rfl⟩
  · exact absurd h225 (by omega)
set_option maxRecDepth 4000 in
set_option maxHeartbeats 1000000 in
theorem g_does_4 {G : GI} {T : Hp} {m : Nat} {V : RVal} {g : Nat → Nat} {od : Nat → UInt64} (hs : RS T m) {j : Nat} (hj : j < 10) {v0 : Nat} (eW : V 10 (9 * j) = nI 4) (e0 : V 10 (9 * j + 3) = nI (v0)) (hA : RfA m_X13_againstInspect [.int (nI (v0))] g 0) {v : Nat} {g' : Nat → Nat} (hv : v < 2 ^ 31) (hNw : RfN m_X13_inspectNow [.int (nI (v0))] g v g') : Cn m_X13_does G [.ref m, .int (nI j)] (rput T m (sg V g) od) (RfQ V T m od 1 g') := by
  refine Cn.of rfl (by decide) (Nat.le_of_ble_eq_true rfl) (fun hN hM => ?_)
  show Wx _ G _ 0 [(0, .ref (m)), (1, .int (nI (j)))] [] _
  refine r_bipush (v := nI 9) dX13_does_0 (by decide) ?_
  refine r_iload_n dX13_does_2 rfl 1 rfl ?_
  refine r_imulN dX13_does_3 ?_
  refine r_iconst (v := nI 3) dX13_does_4 (by decide) ?_
  refine r_iaddN dX13_does_5 ?_
  refine r_istore_n (lv' := [(2, .int (nI (9 * j + 3))), (0, .ref (m)), (1, .int (nI (j)))]) dX13_does_6 rfl (by decide) rfl ?_
  refine r_aload_n dX13_does_7 rfl 1 rfl ?_
  refine m_ref (k := 16) (j := 10) hs hs.2.1.2.2.2.2.2.2.2.2.2.1 dX13_does_8 fr_X13_44 rfl ?_
  refine r_iload_n dX13_does_11 rfl 0 rfl ?_
  refine o_iald (j := 10) (n := 160) (i := 9 * j + 3) (by decide) hs rw10 dX13_does_12 (by omega) (by decide) ?_
  refine Wx.top e0 ?_
  refine r_istore_n (lv' := [(3, .int (nI (v0))), (2, .int (nI (9 * j + 3))), (0, .ref (m)), (1, .int (nI (j)))]) dX13_does_13 rfl (by decide) rfl ?_
  refine r_aload_n dX13_does_14 rfl 2 rfl ?_
  refine m_ref (k := 16) (j := 10) hs hs.2.1.2.2.2.2.2.2.2.2.2.1 dX13_does_15 fr_X13_44 rfl ?_
  refine r_iload_n dX13_does_18 rfl 1 rfl ?_
  refine r_iconst (v := nI 1) dX13_does_19 (by decide) ?_
  refine r_iaddN dX13_does_20 ?_
  refine o_iald (j := 10) (n := 160) (i := 9 * j + 3 + 1) (by decide) hs rw10 dX13_does_21 (by omega) (by decide) ?_
  refine r_istore (lv' := [(4, .int (V 10 (9 * j + 3 + 1))), (3, .int (nI (v0))), (2, .int (nI (9 * j + 3))), (0, .ref (m)), (1, .int (nI (j)))]) dX13_does_22 (by decide) rfl ?_
  refine r_aload_n dX13_does_24 rfl 3 rfl ?_
  refine m_ref (k := 16) (j := 10) hs hs.2.1.2.2.2.2.2.2.2.2.2.1 dX13_does_25 fr_X13_44 rfl ?_
  refine r_iload_n dX13_does_28 rfl 2 rfl ?_
  refine r_iconst (v := nI 2) dX13_does_29 (by decide) ?_
  refine r_iaddN dX13_does_30 ?_
  refine o_iald (j := 10) (n := 160) (i := 9 * j + 3 + 2) (by decide) hs rw10 dX13_does_31 (by omega) (by decide) ?_
  refine r_istore (lv' := [(5, .int (V 10 (9 * j + 3 + 2))), (4, .int (V 10 (9 * j + 3 + 1))), (3, .int (nI (v0))), (2, .int (nI (9 * j + 3))), (0, .ref (m)), (1, .int (nI (j)))]) dX13_does_32 (by decide) rfl ?_
  refine r_aload_n dX13_does_34 rfl 4 rfl ?_
  refine m_ref (k := 16) (j := 10) hs hs.2.1.2.2.2.2.2.2.2.2.2.1 dX13_does_35 fr_X13_44 rfl ?_
  refine r_bipush (v := nI 9) dX13_does_38 (by decide) ?_
  refine r_iload_n dX13_does_40 rfl 5 rfl ?_
  refine r_imulN dX13_does_41 ?_
  refine o_iald (j := 10) (n := 160) (i := 9 * j) (by decide) hs rw10 dX13_does_42 (by omega) (by decide) ?_
  refine Wx.top eW ?_
  refine r_tableIn (off := 227) (tgt := 270) dX13_does_43 (by decide) (by decide) rfl (by decide) ?_
  refine r_aload_n dX13_does_270 rfl 4 rfl ?_
  refine r_iload_n dX13_does_271 rfl 2 rfl ?_
  refine r_fnV (M2 := m_X13_againstInspect) (As := [.int (nI (v0))]) (rest := []) (v := some (.int (nI (0)))) dX13_does_272 cc_X13_does_233 rfl rfl rfl (Nat.le_of_ble_eq_true rfl) hs.1 rfl rfl (by decide) (hA G T m V od hs) rfl ?_
  refine r_if_neN (tgt := 290) dX13_does_275 (by decide) (by omega) (fun zz275 => ?_) (fun zz275 => ?_)
  · exact absurd zz275 (by decide)
  · refine r_aload_n dX13_does_278 rfl 4 rfl ?_
    refine r_iload_n dX13_does_279 rfl 2 rfl ?_
    refine r_callV (M2 := m_X13_inspectNow) (As := [.int (nI (v0))]) (rest := []) dX13_does_280 cc_X13_does_236 rfl rfl rfl (Nat.le_of_ble_eq_true rfl) hs.1 rfl rfl (by decide) (hNw G T m V od hs) (fun v9 U hq => ?_) (fun E9 T9 hq => by obtain ⟨hq, -⟩ := hq; cases hq)
    obtain ⟨hv9, V', hEq, rfl⟩ := hq
    cases hv9
    show Wx _ G (rput T m (sg V' g') od) 283 [(5, .int (V 10 (9 * j + 3 + 2))), (4, .int (V 10 (9 * j + 3 + 1))), (3, .int (nI (v0))), (2, .int (nI (9 * j + 3))), (0, .ref (m)), (1, .int (nI (j)))] [.int (nI (v))] _
    refine r_if_ltN (tgt := 290) dX13_does_283 (by decide) (by omega) ?_
    refine r_iconst (v := nI 1) dX13_does_286 (by decide) ?_
    refine r_goto (tgt := 291) dX13_does_287 (by decide) ?_
    exact r_iret (ty := .boolean) dX13_does_291 rfl (by decide) ⟨rfl, V', hEq, rfl⟩
set_option maxRecDepth 4000 in
set_option maxHeartbeats 1000000 in
theorem g_does_4_no {G : GI} {T : Hp} {m : Nat} {V : RVal} {g : Nat → Nat} {od : Nat → UInt64} (hs : RS T m) {j : Nat} (hj : j < 10) {v0 : Nat} (eW : V 10 (9 * j) = nI 4) (e0 : V 10 (9 * j + 3) = nI (v0)) {code : Nat} (hc : 0 < code ∧ code < 2 ^ 31) (hA : RfA m_X13_againstInspect [.int (nI (v0))] g code) : Fn m_X13_does G [.ref m, .int (nI j)] (rput T m (sg V g) od) (some (.int (nI 0))) (rput T m (sg V g) od) := by
  refine Cn.of rfl (by decide) (Nat.le_of_ble_eq_true rfl) (fun hN hM => ?_)
  show Wx _ G _ 0 [(0, .ref (m)), (1, .int (nI (j)))] [] _
  refine r_bipush (v := nI 9) dX13_does_0 (by decide) ?_
  refine r_iload_n dX13_does_2 rfl 1 rfl ?_
  refine r_imulN dX13_does_3 ?_
  refine r_iconst (v := nI 3) dX13_does_4 (by decide) ?_
  refine r_iaddN dX13_does_5 ?_
  refine r_istore_n (lv' := [(2, .int (nI (9 * j + 3))), (0, .ref (m)), (1, .int (nI (j)))]) dX13_does_6 rfl (by decide) rfl ?_
  refine r_aload_n dX13_does_7 rfl 1 rfl ?_
  refine m_ref (k := 16) (j := 10) hs hs.2.1.2.2.2.2.2.2.2.2.2.1 dX13_does_8 fr_X13_44 rfl ?_
  refine r_iload_n dX13_does_11 rfl 0 rfl ?_
  refine o_iald (j := 10) (n := 160) (i := 9 * j + 3) (by decide) hs rw10 dX13_does_12 (by omega) (by decide) ?_
  refine Wx.top e0 ?_
  refine r_istore_n (lv' := [(3, .int (nI (v0))), (2, .int (nI (9 * j + 3))), (0, .ref (m)), (1, .int (nI (j)))]) dX13_does_13 rfl (by decide) rfl ?_
  refine r_aload_n dX13_does_14 rfl 2 rfl ?_
  refine m_ref (k := 16) (j := 10) hs hs.2.1.2.2.2.2.2.2.2.2.2.1 dX13_does_15 fr_X13_44 rfl ?_
  refine r_iload_n dX13_does_18 rfl 1 rfl ?_
  refine r_iconst (v := nI 1) dX13_does_19 (by decide) ?_
  refine r_iaddN dX13_does_20 ?_
  refine o_iald (j := 10) (n := 160) (i := 9 * j + 3 + 1) (by decide) hs rw10 dX13_does_21 (by omega) (by decide) ?_
  refine r_istore (lv' := [(4, .int (V 10 (9 * j + 3 + 1))), (3, .int (nI (v0))), (2, .int (nI (9 * j + 3))), (0, .ref (m)), (1, .int (nI (j)))]) dX13_does_22 (by decide) rfl ?_
  refine r_aload_n dX13_does_24 rfl 3 rfl ?_
  refine m_ref (k := 16) (j := 10) hs hs.2.1.2.2.2.2.2.2.2.2.2.1 dX13_does_25 fr_X13_44 rfl ?_
  refine r_iload_n dX13_does_28 rfl 2 rfl ?_
  refine r_iconst (v := nI 2) dX13_does_29 (by decide) ?_
  refine r_iaddN dX13_does_30 ?_
  refine o_iald (j := 10) (n := 160) (i := 9 * j + 3 + 2) (by decide) hs rw10 dX13_does_31 (by omega) (by decide) ?_
  refine r_istore (lv' := [(5, .int (V 10 (9 * j + 3 + 2))), (4, .int (V 10 (9 * j + 3 + 1))), (3, .int (nI (v0))), (2, .int (nI (9 * j + 3))), (0, .ref (m)), (1, .int (nI (j)))]) dX13_does_32 (by decide) rfl ?_
  refine r_aload_n dX13_does_34 rfl 4 rfl ?_
  refine m_ref (k := 16) (j := 10) hs hs.2.1.2.2.2.2.2.2.2.2.2.1 dX13_does_35 fr_X13_44 rfl ?_
  refine r_bipush (v := nI 9) dX13_does_38 (by decide) ?_
  refine r_iload_n dX13_does_40 rfl 5 rfl ?_
  refine r_imulN dX13_does_41 ?_
  refine o_iald (j := 10) (n := 160) (i := 9 * j) (by decide) hs rw10 dX13_does_42 (by omega) (by decide) ?_
  refine Wx.top eW ?_
  refine r_tableIn (off := 227) (tgt := 270) dX13_does_43 (by decide) (by decide) rfl (by decide) ?_
  refine r_aload_n dX13_does_270 rfl 4 rfl ?_
  refine r_iload_n dX13_does_271 rfl 2 rfl ?_
  refine r_fnV (M2 := m_X13_againstInspect) (As := [.int (nI (v0))]) (rest := []) (v := some (.int (nI (code)))) dX13_does_272 cc_X13_does_233 rfl rfl rfl (Nat.le_of_ble_eq_true rfl) hs.1 rfl rfl (by decide) (hA G T m V od hs) rfl ?_
  refine r_if_neN (tgt := 290) dX13_does_275 (by decide) (by omega) (fun h275 => ?_) (fun h275 => ?_)
  · refine r_iconst (v := nI 0) dX13_does_290 (by decide) ?_
    exact r_iret (ty := .boolean) dX13_does_291 rfl (by decide) ⟨rfl, rfl⟩
  · exact absurd h275 (by omega)
set_option maxRecDepth 4000 in
set_option maxHeartbeats 1000000 in
theorem g_does_5 {G : GI} {T : Hp} {m : Nat} {V : RVal} {g : Nat → Nat} {od : Nat → UInt64} (hs : RS T m) {j : Nat} (hj : j < 10) {v0 : Nat} (eW : V 10 (9 * j) = nI 5) (e0 : V 10 (9 * j + 3) = nI (v0)) (hA : RfA m_X13_againstSort [.int (nI (v0))] g 0) {v : Nat} {g' : Nat → Nat} (hv : v < 2 ^ 31) (hNw : RfN m_X13_sortNow [.int (nI (v0))] g v g') : Cn m_X13_does G [.ref m, .int (nI j)] (rput T m (sg V g) od) (RfQ V T m od 1 g') := by
  refine Cn.of rfl (by decide) (Nat.le_of_ble_eq_true rfl) (fun hN hM => ?_)
  show Wx _ G _ 0 [(0, .ref (m)), (1, .int (nI (j)))] [] _
  refine r_bipush (v := nI 9) dX13_does_0 (by decide) ?_
  refine r_iload_n dX13_does_2 rfl 1 rfl ?_
  refine r_imulN dX13_does_3 ?_
  refine r_iconst (v := nI 3) dX13_does_4 (by decide) ?_
  refine r_iaddN dX13_does_5 ?_
  refine r_istore_n (lv' := [(2, .int (nI (9 * j + 3))), (0, .ref (m)), (1, .int (nI (j)))]) dX13_does_6 rfl (by decide) rfl ?_
  refine r_aload_n dX13_does_7 rfl 1 rfl ?_
  refine m_ref (k := 16) (j := 10) hs hs.2.1.2.2.2.2.2.2.2.2.2.1 dX13_does_8 fr_X13_44 rfl ?_
  refine r_iload_n dX13_does_11 rfl 0 rfl ?_
  refine o_iald (j := 10) (n := 160) (i := 9 * j + 3) (by decide) hs rw10 dX13_does_12 (by omega) (by decide) ?_
  refine Wx.top e0 ?_
  refine r_istore_n (lv' := [(3, .int (nI (v0))), (2, .int (nI (9 * j + 3))), (0, .ref (m)), (1, .int (nI (j)))]) dX13_does_13 rfl (by decide) rfl ?_
  refine r_aload_n dX13_does_14 rfl 2 rfl ?_
  refine m_ref (k := 16) (j := 10) hs hs.2.1.2.2.2.2.2.2.2.2.2.1 dX13_does_15 fr_X13_44 rfl ?_
  refine r_iload_n dX13_does_18 rfl 1 rfl ?_
  refine r_iconst (v := nI 1) dX13_does_19 (by decide) ?_
  refine r_iaddN dX13_does_20 ?_
  refine o_iald (j := 10) (n := 160) (i := 9 * j + 3 + 1) (by decide) hs rw10 dX13_does_21 (by omega) (by decide) ?_
  refine r_istore (lv' := [(4, .int (V 10 (9 * j + 3 + 1))), (3, .int (nI (v0))), (2, .int (nI (9 * j + 3))), (0, .ref (m)), (1, .int (nI (j)))]) dX13_does_22 (by decide) rfl ?_
  refine r_aload_n dX13_does_24 rfl 3 rfl ?_
  refine m_ref (k := 16) (j := 10) hs hs.2.1.2.2.2.2.2.2.2.2.2.1 dX13_does_25 fr_X13_44 rfl ?_
  refine r_iload_n dX13_does_28 rfl 2 rfl ?_
  refine r_iconst (v := nI 2) dX13_does_29 (by decide) ?_
  refine r_iaddN dX13_does_30 ?_
  refine o_iald (j := 10) (n := 160) (i := 9 * j + 3 + 2) (by decide) hs rw10 dX13_does_31 (by omega) (by decide) ?_
  refine r_istore (lv' := [(5, .int (V 10 (9 * j + 3 + 2))), (4, .int (V 10 (9 * j + 3 + 1))), (3, .int (nI (v0))), (2, .int (nI (9 * j + 3))), (0, .ref (m)), (1, .int (nI (j)))]) dX13_does_32 (by decide) rfl ?_
  refine r_aload_n dX13_does_34 rfl 4 rfl ?_
  refine m_ref (k := 16) (j := 10) hs hs.2.1.2.2.2.2.2.2.2.2.2.1 dX13_does_35 fr_X13_44 rfl ?_
  refine r_bipush (v := nI 9) dX13_does_38 (by decide) ?_
  refine r_iload_n dX13_does_40 rfl 5 rfl ?_
  refine r_imulN dX13_does_41 ?_
  refine o_iald (j := 10) (n := 160) (i := 9 * j) (by decide) hs rw10 dX13_does_42 (by omega) (by decide) ?_
  refine Wx.top eW ?_
  refine r_tableIn (off := 249) (tgt := 292) dX13_does_43 (by decide) (by decide) rfl (by decide) ?_
  refine r_aload_n dX13_does_292 rfl 4 rfl ?_
  refine r_iload_n dX13_does_293 rfl 2 rfl ?_
  refine r_fnV (M2 := m_X13_againstSort) (As := [.int (nI (v0))]) (rest := []) (v := some (.int (nI (0)))) dX13_does_294 cc_X13_does_248 rfl rfl rfl (Nat.le_of_ble_eq_true rfl) hs.1 rfl rfl (by decide) (hA G T m V od hs) rfl ?_
  refine r_if_neN (tgt := 312) dX13_does_297 (by decide) (by omega) (fun zz297 => ?_) (fun zz297 => ?_)
  · exact absurd zz297 (by decide)
  · refine r_aload_n dX13_does_300 rfl 4 rfl ?_
    refine r_iload_n dX13_does_301 rfl 2 rfl ?_
    refine r_callV (M2 := m_X13_sortNow) (As := [.int (nI (v0))]) (rest := []) dX13_does_302 cc_X13_does_251 rfl rfl rfl (Nat.le_of_ble_eq_true rfl) hs.1 rfl rfl (by decide) (hNw G T m V od hs) (fun v9 U hq => ?_) (fun E9 T9 hq => by obtain ⟨hq, -⟩ := hq; cases hq)
    obtain ⟨hv9, V', hEq, rfl⟩ := hq
    cases hv9
    show Wx _ G (rput T m (sg V' g') od) 305 [(5, .int (V 10 (9 * j + 3 + 2))), (4, .int (V 10 (9 * j + 3 + 1))), (3, .int (nI (v0))), (2, .int (nI (9 * j + 3))), (0, .ref (m)), (1, .int (nI (j)))] [.int (nI (v))] _
    refine r_if_ltN (tgt := 312) dX13_does_305 (by decide) (by omega) ?_
    refine r_iconst (v := nI 1) dX13_does_308 (by decide) ?_
    refine r_goto (tgt := 313) dX13_does_309 (by decide) ?_
    exact r_iret (ty := .boolean) dX13_does_313 rfl (by decide) ⟨rfl, V', hEq, rfl⟩
set_option maxRecDepth 4000 in
set_option maxHeartbeats 1000000 in
theorem g_does_5_no {G : GI} {T : Hp} {m : Nat} {V : RVal} {g : Nat → Nat} {od : Nat → UInt64} (hs : RS T m) {j : Nat} (hj : j < 10) {v0 : Nat} (eW : V 10 (9 * j) = nI 5) (e0 : V 10 (9 * j + 3) = nI (v0)) {code : Nat} (hc : 0 < code ∧ code < 2 ^ 31) (hA : RfA m_X13_againstSort [.int (nI (v0))] g code) : Fn m_X13_does G [.ref m, .int (nI j)] (rput T m (sg V g) od) (some (.int (nI 0))) (rput T m (sg V g) od) := by
  refine Cn.of rfl (by decide) (Nat.le_of_ble_eq_true rfl) (fun hN hM => ?_)
  show Wx _ G _ 0 [(0, .ref (m)), (1, .int (nI (j)))] [] _
  refine r_bipush (v := nI 9) dX13_does_0 (by decide) ?_
  refine r_iload_n dX13_does_2 rfl 1 rfl ?_
  refine r_imulN dX13_does_3 ?_
  refine r_iconst (v := nI 3) dX13_does_4 (by decide) ?_
  refine r_iaddN dX13_does_5 ?_
  refine r_istore_n (lv' := [(2, .int (nI (9 * j + 3))), (0, .ref (m)), (1, .int (nI (j)))]) dX13_does_6 rfl (by decide) rfl ?_
  refine r_aload_n dX13_does_7 rfl 1 rfl ?_
  refine m_ref (k := 16) (j := 10) hs hs.2.1.2.2.2.2.2.2.2.2.2.1 dX13_does_8 fr_X13_44 rfl ?_
  refine r_iload_n dX13_does_11 rfl 0 rfl ?_
  refine o_iald (j := 10) (n := 160) (i := 9 * j + 3) (by decide) hs rw10 dX13_does_12 (by omega) (by decide) ?_
  refine Wx.top e0 ?_
  refine r_istore_n (lv' := [(3, .int (nI (v0))), (2, .int (nI (9 * j + 3))), (0, .ref (m)), (1, .int (nI (j)))]) dX13_does_13 rfl (by decide) rfl ?_
  refine r_aload_n dX13_does_14 rfl 2 rfl ?_
  refine m_ref (k := 16) (j := 10) hs hs.2.1.2.2.2.2.2.2.2.2.2.1 dX13_does_15 fr_X13_44 rfl ?_
  refine r_iload_n dX13_does_18 rfl 1 rfl ?_
  refine r_iconst (v := nI 1) dX13_does_19 (by decide) ?_
  refine r_iaddN dX13_does_20 ?_
  refine o_iald (j := 10) (n := 160) (i := 9 * j + 3 + 1) (by decide) hs rw10 dX13_does_21 (by omega) (by decide) ?_
  refine r_istore (lv' := [(4, .int (V 10 (9 * j + 3 + 1))), (3, .int (nI (v0))), (2, .int (nI (9 * j + 3))), (0, .ref (m)), (1, .int (nI (j)))]) dX13_does_22 (by decide) rfl ?_
  refine r_aload_n dX13_does_24 rfl 3 rfl ?_
  refine m_ref (k := 16) (j := 10) hs hs.2.1.2.2.2.2.2.2.2.2.2.1 dX13_does_25 fr_X13_44 rfl ?_
  refine r_iload_n dX13_does_28 rfl 2 rfl ?_
  refine r_iconst (v := nI 2) dX13_does_29 (by decide) ?_
  refine r_iaddN dX13_does_30 ?_
  refine o_iald (j := 10) (n := 160) (i := 9 * j + 3 + 2) (by decide) hs rw10 dX13_does_31 (by omega) (by decide) ?_
  refine r_istore (lv' := [(5, .int (V 10 (9 * j + 3 + 2))), (4, .int (V 10 (9 * j + 3 + 1))), (3, .int (nI (v0))), (2, .int (nI (9 * j + 3))), (0, .ref (m)), (1, .int (nI (j)))]) dX13_does_32 (by decide) rfl ?_
  refine r_aload_n dX13_does_34 rfl 4 rfl ?_
  refine m_ref (k := 16) (j := 10) hs hs.2.1.2.2.2.2.2.2.2.2.2.1 dX13_does_35 fr_X13_44 rfl ?_
  refine r_bipush (v := nI 9) dX13_does_38 (by decide) ?_
  refine r_iload_n dX13_does_40 rfl 5 rfl ?_
  refine r_imulN dX13_does_41 ?_
  refine o_iald (j := 10) (n := 160) (i := 9 * j) (by decide) hs rw10 dX13_does_42 (by omega) (by decide) ?_
  refine Wx.top eW ?_
  refine r_tableIn (off := 249) (tgt := 292) dX13_does_43 (by decide) (by decide) rfl (by decide) ?_
  refine r_aload_n dX13_does_292 rfl 4 rfl ?_
  refine r_iload_n dX13_does_293 rfl 2 rfl ?_
  refine r_fnV (M2 := m_X13_againstSort) (As := [.int (nI (v0))]) (rest := []) (v := some (.int (nI (code)))) dX13_does_294 cc_X13_does_248 rfl rfl rfl (Nat.le_of_ble_eq_true rfl) hs.1 rfl rfl (by decide) (hA G T m V od hs) rfl ?_
  refine r_if_neN (tgt := 312) dX13_does_297 (by decide) (by omega) (fun h297 => ?_) (fun h297 => ?_)
  · refine r_iconst (v := nI 0) dX13_does_312 (by decide) ?_
    exact r_iret (ty := .boolean) dX13_does_313 rfl (by decide) ⟨rfl, rfl⟩
  · exact absurd h297 (by omega)
set_option maxRecDepth 4000 in
set_option maxHeartbeats 1000000 in
theorem g_does_6 {G : GI} {T : Hp} {m : Nat} {V : RVal} {g : Nat → Nat} {od : Nat → UInt64} (hs : RS T m) {j : Nat} (hj : j < 10) {v0 : Nat} (eW : V 10 (9 * j) = nI 6) (e0 : V 10 (9 * j + 3) = nI (v0)) (hA : RfA m_X13_againstShip [.int (nI (v0))] g 0) {v : Nat} {g' : Nat → Nat} (hv : v < 2 ^ 31) (hNw : RfN m_X13_shipNow [.int (nI (v0))] g v g') : Cn m_X13_does G [.ref m, .int (nI j)] (rput T m (sg V g) od) (RfQ V T m od 1 g') := by
  refine Cn.of rfl (by decide) (Nat.le_of_ble_eq_true rfl) (fun hN hM => ?_)
  show Wx _ G _ 0 [(0, .ref (m)), (1, .int (nI (j)))] [] _
  refine r_bipush (v := nI 9) dX13_does_0 (by decide) ?_
  refine r_iload_n dX13_does_2 rfl 1 rfl ?_
  refine r_imulN dX13_does_3 ?_
  refine r_iconst (v := nI 3) dX13_does_4 (by decide) ?_
  refine r_iaddN dX13_does_5 ?_
  refine r_istore_n (lv' := [(2, .int (nI (9 * j + 3))), (0, .ref (m)), (1, .int (nI (j)))]) dX13_does_6 rfl (by decide) rfl ?_
  refine r_aload_n dX13_does_7 rfl 1 rfl ?_
  refine m_ref (k := 16) (j := 10) hs hs.2.1.2.2.2.2.2.2.2.2.2.1 dX13_does_8 fr_X13_44 rfl ?_
  refine r_iload_n dX13_does_11 rfl 0 rfl ?_
  refine o_iald (j := 10) (n := 160) (i := 9 * j + 3) (by decide) hs rw10 dX13_does_12 (by omega) (by decide) ?_
  refine Wx.top e0 ?_
  refine r_istore_n (lv' := [(3, .int (nI (v0))), (2, .int (nI (9 * j + 3))), (0, .ref (m)), (1, .int (nI (j)))]) dX13_does_13 rfl (by decide) rfl ?_
  refine r_aload_n dX13_does_14 rfl 2 rfl ?_
  refine m_ref (k := 16) (j := 10) hs hs.2.1.2.2.2.2.2.2.2.2.2.1 dX13_does_15 fr_X13_44 rfl ?_
  refine r_iload_n dX13_does_18 rfl 1 rfl ?_
  refine r_iconst (v := nI 1) dX13_does_19 (by decide) ?_
  refine r_iaddN dX13_does_20 ?_
  refine o_iald (j := 10) (n := 160) (i := 9 * j + 3 + 1) (by decide) hs rw10 dX13_does_21 (by omega) (by decide) ?_
  refine r_istore (lv' := [(4, .int (V 10 (9 * j + 3 + 1))), (3, .int (nI (v0))), (2, .int (nI (9 * j + 3))), (0, .ref (m)), (1, .int (nI (j)))]) dX13_does_22 (by decide) rfl ?_
  refine r_aload_n dX13_does_24 rfl 3 rfl ?_
  refine m_ref (k := 16) (j := 10) hs hs.2.1.2.2.2.2.2.2.2.2.2.1 dX13_does_25 fr_X13_44 rfl ?_
  refine r_iload_n dX13_does_28 rfl 2 rfl ?_
  refine r_iconst (v := nI 2) dX13_does_29 (by decide) ?_
  refine r_iaddN dX13_does_30 ?_
  refine o_iald (j := 10) (n := 160) (i := 9 * j + 3 + 2) (by decide) hs rw10 dX13_does_31 (by omega) (by decide) ?_
  refine r_istore (lv' := [(5, .int (V 10 (9 * j + 3 + 2))), (4, .int (V 10 (9 * j + 3 + 1))), (3, .int (nI (v0))), (2, .int (nI (9 * j + 3))), (0, .ref (m)), (1, .int (nI (j)))]) dX13_does_32 (by decide) rfl ?_
  refine r_aload_n dX13_does_34 rfl 4 rfl ?_
  refine m_ref (k := 16) (j := 10) hs hs.2.1.2.2.2.2.2.2.2.2.2.1 dX13_does_35 fr_X13_44 rfl ?_
  refine r_bipush (v := nI 9) dX13_does_38 (by decide) ?_
  refine r_iload_n dX13_does_40 rfl 5 rfl ?_
  refine r_imulN dX13_does_41 ?_
  refine o_iald (j := 10) (n := 160) (i := 9 * j) (by decide) hs rw10 dX13_does_42 (by omega) (by decide) ?_
  refine Wx.top eW ?_
  refine r_tableIn (off := 271) (tgt := 314) dX13_does_43 (by decide) (by decide) rfl (by decide) ?_
  refine r_aload_n dX13_does_314 rfl 4 rfl ?_
  refine r_iload_n dX13_does_315 rfl 2 rfl ?_
  refine r_fnV (M2 := m_X13_againstShip) (As := [.int (nI (v0))]) (rest := []) (v := some (.int (nI (0)))) dX13_does_316 cc_X13_does_254 rfl rfl rfl (Nat.le_of_ble_eq_true rfl) hs.1 rfl rfl (by decide) (hA G T m V od hs) rfl ?_
  refine r_if_neN (tgt := 334) dX13_does_319 (by decide) (by omega) (fun zz319 => ?_) (fun zz319 => ?_)
  · exact absurd zz319 (by decide)
  · refine r_aload_n dX13_does_322 rfl 4 rfl ?_
    refine r_iload_n dX13_does_323 rfl 2 rfl ?_
    refine r_callV (M2 := m_X13_shipNow) (As := [.int (nI (v0))]) (rest := []) dX13_does_324 cc_X13_does_257 rfl rfl rfl (Nat.le_of_ble_eq_true rfl) hs.1 rfl rfl (by decide) (hNw G T m V od hs) (fun v9 U hq => ?_) (fun E9 T9 hq => by obtain ⟨hq, -⟩ := hq; cases hq)
    obtain ⟨hv9, V', hEq, rfl⟩ := hq
    cases hv9
    show Wx _ G (rput T m (sg V' g') od) 327 [(5, .int (V 10 (9 * j + 3 + 2))), (4, .int (V 10 (9 * j + 3 + 1))), (3, .int (nI (v0))), (2, .int (nI (9 * j + 3))), (0, .ref (m)), (1, .int (nI (j)))] [.int (nI (v))] _
    refine r_if_ltN (tgt := 334) dX13_does_327 (by decide) (by omega) ?_
    refine r_iconst (v := nI 1) dX13_does_330 (by decide) ?_
    refine r_goto (tgt := 335) dX13_does_331 (by decide) ?_
    exact r_iret (ty := .boolean) dX13_does_335 rfl (by decide) ⟨rfl, V', hEq, rfl⟩
set_option maxRecDepth 4000 in
set_option maxHeartbeats 1000000 in
theorem g_does_6_no {G : GI} {T : Hp} {m : Nat} {V : RVal} {g : Nat → Nat} {od : Nat → UInt64} (hs : RS T m) {j : Nat} (hj : j < 10) {v0 : Nat} (eW : V 10 (9 * j) = nI 6) (e0 : V 10 (9 * j + 3) = nI (v0)) {code : Nat} (hc : 0 < code ∧ code < 2 ^ 31) (hA : RfA m_X13_againstShip [.int (nI (v0))] g code) : Fn m_X13_does G [.ref m, .int (nI j)] (rput T m (sg V g) od) (some (.int (nI 0))) (rput T m (sg V g) od) := by
  refine Cn.of rfl (by decide) (Nat.le_of_ble_eq_true rfl) (fun hN hM => ?_)
  show Wx _ G _ 0 [(0, .ref (m)), (1, .int (nI (j)))] [] _
  refine r_bipush (v := nI 9) dX13_does_0 (by decide) ?_
  refine r_iload_n dX13_does_2 rfl 1 rfl ?_
  refine r_imulN dX13_does_3 ?_
  refine r_iconst (v := nI 3) dX13_does_4 (by decide) ?_
  refine r_iaddN dX13_does_5 ?_
  refine r_istore_n (lv' := [(2, .int (nI (9 * j + 3))), (0, .ref (m)), (1, .int (nI (j)))]) dX13_does_6 rfl (by decide) rfl ?_
  refine r_aload_n dX13_does_7 rfl 1 rfl ?_
  refine m_ref (k := 16) (j := 10) hs hs.2.1.2.2.2.2.2.2.2.2.2.1 dX13_does_8 fr_X13_44 rfl ?_
  refine r_iload_n dX13_does_11 rfl 0 rfl ?_
  refine o_iald (j := 10) (n := 160) (i := 9 * j + 3) (by decide) hs rw10 dX13_does_12 (by omega) (by decide) ?_
  refine Wx.top e0 ?_
  refine r_istore_n (lv' := [(3, .int (nI (v0))), (2, .int (nI (9 * j + 3))), (0, .ref (m)), (1, .int (nI (j)))]) dX13_does_13 rfl (by decide) rfl ?_
  refine r_aload_n dX13_does_14 rfl 2 rfl ?_
  refine m_ref (k := 16) (j := 10) hs hs.2.1.2.2.2.2.2.2.2.2.2.1 dX13_does_15 fr_X13_44 rfl ?_
  refine r_iload_n dX13_does_18 rfl 1 rfl ?_
  refine r_iconst (v := nI 1) dX13_does_19 (by decide) ?_
  refine r_iaddN dX13_does_20 ?_
  refine o_iald (j := 10) (n := 160) (i := 9 * j + 3 + 1) (by decide) hs rw10 dX13_does_21 (by omega) (by decide) ?_
  refine r_istore (lv' := [(4, .int (V 10 (9 * j + 3 + 1))), (3, .int (nI (v0))), (2, .int (nI (9 * j + 3))), (0, .ref (m)), (1, .int (nI (j)))]) dX13_does_22 (by decide) rfl ?_
  refine r_aload_n dX13_does_24 rfl 3 rfl ?_
  refine m_ref (k := 16) (j := 10) hs hs.2.1.2.2.2.2.2.2.2.2.2.1 dX13_does_25 fr_X13_44 rfl ?_
  refine r_iload_n dX13_does_28 rfl 2 rfl ?_
  refine r_iconst (v := nI 2) dX13_does_29 (by decide) ?_
  refine r_iaddN dX13_does_30 ?_
  refine o_iald (j := 10) (n := 160) (i := 9 * j + 3 + 2) (by decide) hs rw10 dX13_does_31 (by omega) (by decide) ?_
  refine r_istore (lv' := [(5, .int (V 10 (9 * j + 3 + 2))), (4, .int (V 10 (9 * j + 3 + 1))), (3, .int (nI (v0))), (2, .int (nI (9 * j + 3))), (0, .ref (m)), (1, .int (nI (j)))]) dX13_does_32 (by decide) rfl ?_
  refine r_aload_n dX13_does_34 rfl 4 rfl ?_
  refine m_ref (k := 16) (j := 10) hs hs.2.1.2.2.2.2.2.2.2.2.2.1 dX13_does_35 fr_X13_44 rfl ?_
  refine r_bipush (v := nI 9) dX13_does_38 (by decide) ?_
  refine r_iload_n dX13_does_40 rfl 5 rfl ?_
  refine r_imulN dX13_does_41 ?_
  refine o_iald (j := 10) (n := 160) (i := 9 * j) (by decide) hs rw10 dX13_does_42 (by omega) (by decide) ?_
  refine Wx.top eW ?_
  refine r_tableIn (off := 271) (tgt := 314) dX13_does_43 (by decide) (by decide) rfl (by decide) ?_
  refine r_aload_n dX13_does_314 rfl 4 rfl ?_
  refine r_iload_n dX13_does_315 rfl 2 rfl ?_
  refine r_fnV (M2 := m_X13_againstShip) (As := [.int (nI (v0))]) (rest := []) (v := some (.int (nI (code)))) dX13_does_316 cc_X13_does_254 rfl rfl rfl (Nat.le_of_ble_eq_true rfl) hs.1 rfl rfl (by decide) (hA G T m V od hs) rfl ?_
  refine r_if_neN (tgt := 334) dX13_does_319 (by decide) (by omega) (fun h319 => ?_) (fun h319 => ?_)
  · refine r_iconst (v := nI 0) dX13_does_334 (by decide) ?_
    exact r_iret (ty := .boolean) dX13_does_335 rfl (by decide) ⟨rfl, rfl⟩
  · exact absurd h319 (by omega)
set_option maxRecDepth 4000 in
set_option maxHeartbeats 1000000 in
theorem g_does_7 {G : GI} {T : Hp} {m : Nat} {V : RVal} {g : Nat → Nat} {od : Nat → UInt64} (hs : RS T m) {j : Nat} (hj : j < 10) {v0 : Nat} (eW : V 10 (9 * j) = nI 7) (e0 : V 10 (9 * j + 3) = nI (v0)) (hA : RfA m_X13_againstRelease [.int (nI (v0))] g 0) {v : Nat} {g' : Nat → Nat} (hv : v < 2 ^ 31) (hNw : RfN m_X13_releaseNow [.int (nI (v0))] g v g') : Cn m_X13_does G [.ref m, .int (nI j)] (rput T m (sg V g) od) (RfQ V T m od 1 g') := by
  refine Cn.of rfl (by decide) (Nat.le_of_ble_eq_true rfl) (fun hN hM => ?_)
  show Wx _ G _ 0 [(0, .ref (m)), (1, .int (nI (j)))] [] _
  refine r_bipush (v := nI 9) dX13_does_0 (by decide) ?_
  refine r_iload_n dX13_does_2 rfl 1 rfl ?_
  refine r_imulN dX13_does_3 ?_
  refine r_iconst (v := nI 3) dX13_does_4 (by decide) ?_
  refine r_iaddN dX13_does_5 ?_
  refine r_istore_n (lv' := [(2, .int (nI (9 * j + 3))), (0, .ref (m)), (1, .int (nI (j)))]) dX13_does_6 rfl (by decide) rfl ?_
  refine r_aload_n dX13_does_7 rfl 1 rfl ?_
  refine m_ref (k := 16) (j := 10) hs hs.2.1.2.2.2.2.2.2.2.2.2.1 dX13_does_8 fr_X13_44 rfl ?_
  refine r_iload_n dX13_does_11 rfl 0 rfl ?_
  refine o_iald (j := 10) (n := 160) (i := 9 * j + 3) (by decide) hs rw10 dX13_does_12 (by omega) (by decide) ?_
  refine Wx.top e0 ?_
  refine r_istore_n (lv' := [(3, .int (nI (v0))), (2, .int (nI (9 * j + 3))), (0, .ref (m)), (1, .int (nI (j)))]) dX13_does_13 rfl (by decide) rfl ?_
  refine r_aload_n dX13_does_14 rfl 2 rfl ?_
  refine m_ref (k := 16) (j := 10) hs hs.2.1.2.2.2.2.2.2.2.2.2.1 dX13_does_15 fr_X13_44 rfl ?_
  refine r_iload_n dX13_does_18 rfl 1 rfl ?_
  refine r_iconst (v := nI 1) dX13_does_19 (by decide) ?_
  refine r_iaddN dX13_does_20 ?_
  refine o_iald (j := 10) (n := 160) (i := 9 * j + 3 + 1) (by decide) hs rw10 dX13_does_21 (by omega) (by decide) ?_
  refine r_istore (lv' := [(4, .int (V 10 (9 * j + 3 + 1))), (3, .int (nI (v0))), (2, .int (nI (9 * j + 3))), (0, .ref (m)), (1, .int (nI (j)))]) dX13_does_22 (by decide) rfl ?_
  refine r_aload_n dX13_does_24 rfl 3 rfl ?_
  refine m_ref (k := 16) (j := 10) hs hs.2.1.2.2.2.2.2.2.2.2.2.1 dX13_does_25 fr_X13_44 rfl ?_
  refine r_iload_n dX13_does_28 rfl 2 rfl ?_
  refine r_iconst (v := nI 2) dX13_does_29 (by decide) ?_
  refine r_iaddN dX13_does_30 ?_
  refine o_iald (j := 10) (n := 160) (i := 9 * j + 3 + 2) (by decide) hs rw10 dX13_does_31 (by omega) (by decide) ?_
  refine r_istore (lv' := [(5, .int (V 10 (9 * j + 3 + 2))), (4, .int (V 10 (9 * j + 3 + 1))), (3, .int (nI (v0))), (2, .int (nI (9 * j + 3))), (0, .ref (m)), (1, .int (nI (j)))]) dX13_does_32 (by decide) rfl ?_
  refine r_aload_n dX13_does_34 rfl 4 rfl ?_
  refine m_ref (k := 16) (j := 10) hs hs.2.1.2.2.2.2.2.2.2.2.2.1 dX13_does_35 fr_X13_44 rfl ?_
  refine r_bipush (v := nI 9) dX13_does_38 (by decide) ?_
  refine r_iload_n dX13_does_40 rfl 5 rfl ?_
  refine r_imulN dX13_does_41 ?_
  refine o_iald (j := 10) (n := 160) (i := 9 * j) (by decide) hs rw10 dX13_does_42 (by omega) (by decide) ?_
  refine Wx.top eW ?_
  refine r_tableIn (off := 293) (tgt := 336) dX13_does_43 (by decide) (by decide) rfl (by decide) ?_
  refine r_aload_n dX13_does_336 rfl 4 rfl ?_
  refine r_iload_n dX13_does_337 rfl 2 rfl ?_
  refine r_fnV (M2 := m_X13_againstRelease) (As := [.int (nI (v0))]) (rest := []) (v := some (.int (nI (0)))) dX13_does_338 cc_X13_does_150 rfl rfl rfl (Nat.le_of_ble_eq_true rfl) hs.1 rfl rfl (by decide) (hA G T m V od hs) rfl ?_
  refine r_if_neN (tgt := 356) dX13_does_341 (by decide) (by omega) (fun zz341 => ?_) (fun zz341 => ?_)
  · exact absurd zz341 (by decide)
  · refine r_aload_n dX13_does_344 rfl 4 rfl ?_
    refine r_iload_n dX13_does_345 rfl 2 rfl ?_
    refine r_callV (M2 := m_X13_releaseNow) (As := [.int (nI (v0))]) (rest := []) dX13_does_346 cc_X13_does_153 rfl rfl rfl (Nat.le_of_ble_eq_true rfl) hs.1 rfl rfl (by decide) (hNw G T m V od hs) (fun v9 U hq => ?_) (fun E9 T9 hq => by obtain ⟨hq, -⟩ := hq; cases hq)
    obtain ⟨hv9, V', hEq, rfl⟩ := hq
    cases hv9
    show Wx _ G (rput T m (sg V' g') od) 349 [(5, .int (V 10 (9 * j + 3 + 2))), (4, .int (V 10 (9 * j + 3 + 1))), (3, .int (nI (v0))), (2, .int (nI (9 * j + 3))), (0, .ref (m)), (1, .int (nI (j)))] [.int (nI (v))] _
    refine r_if_ltN (tgt := 356) dX13_does_349 (by decide) (by omega) ?_
    refine r_iconst (v := nI 1) dX13_does_352 (by decide) ?_
    refine r_goto (tgt := 357) dX13_does_353 (by decide) ?_
    exact r_iret (ty := .boolean) dX13_does_357 rfl (by decide) ⟨rfl, V', hEq, rfl⟩
set_option maxRecDepth 4000 in
set_option maxHeartbeats 1000000 in
theorem g_does_7_no {G : GI} {T : Hp} {m : Nat} {V : RVal} {g : Nat → Nat} {od : Nat → UInt64} (hs : RS T m) {j : Nat} (hj : j < 10) {v0 : Nat} (eW : V 10 (9 * j) = nI 7) (e0 : V 10 (9 * j + 3) = nI (v0)) {code : Nat} (hc : 0 < code ∧ code < 2 ^ 31) (hA : RfA m_X13_againstRelease [.int (nI (v0))] g code) : Fn m_X13_does G [.ref m, .int (nI j)] (rput T m (sg V g) od) (some (.int (nI 0))) (rput T m (sg V g) od) := by
  refine Cn.of rfl (by decide) (Nat.le_of_ble_eq_true rfl) (fun hN hM => ?_)
  show Wx _ G _ 0 [(0, .ref (m)), (1, .int (nI (j)))] [] _
  refine r_bipush (v := nI 9) dX13_does_0 (by decide) ?_
  refine r_iload_n dX13_does_2 rfl 1 rfl ?_
  refine r_imulN dX13_does_3 ?_
  refine r_iconst (v := nI 3) dX13_does_4 (by decide) ?_
  refine r_iaddN dX13_does_5 ?_
  refine r_istore_n (lv' := [(2, .int (nI (9 * j + 3))), (0, .ref (m)), (1, .int (nI (j)))]) dX13_does_6 rfl (by decide) rfl ?_
  refine r_aload_n dX13_does_7 rfl 1 rfl ?_
  refine m_ref (k := 16) (j := 10) hs hs.2.1.2.2.2.2.2.2.2.2.2.1 dX13_does_8 fr_X13_44 rfl ?_
  refine r_iload_n dX13_does_11 rfl 0 rfl ?_
  refine o_iald (j := 10) (n := 160) (i := 9 * j + 3) (by decide) hs rw10 dX13_does_12 (by omega) (by decide) ?_
  refine Wx.top e0 ?_
  refine r_istore_n (lv' := [(3, .int (nI (v0))), (2, .int (nI (9 * j + 3))), (0, .ref (m)), (1, .int (nI (j)))]) dX13_does_13 rfl (by decide) rfl ?_
  refine r_aload_n dX13_does_14 rfl 2 rfl ?_
  refine m_ref (k := 16) (j := 10) hs hs.2.1.2.2.2.2.2.2.2.2.2.1 dX13_does_15 fr_X13_44 rfl ?_
  refine r_iload_n dX13_does_18 rfl 1 rfl ?_
  refine r_iconst (v := nI 1) dX13_does_19 (by decide) ?_
  refine r_iaddN dX13_does_20 ?_
  refine o_iald (j := 10) (n := 160) (i := 9 * j + 3 + 1) (by decide) hs rw10 dX13_does_21 (by omega) (by decide) ?_
  refine r_istore (lv' := [(4, .int (V 10 (9 * j + 3 + 1))), (3, .int (nI (v0))), (2, .int (nI (9 * j + 3))), (0, .ref (m)), (1, .int (nI (j)))]) dX13_does_22 (by decide) rfl ?_
  refine r_aload_n dX13_does_24 rfl 3 rfl ?_
  refine m_ref (k := 16) (j := 10) hs hs.2.1.2.2.2.2.2.2.2.2.2.1 dX13_does_25 fr_X13_44 rfl ?_
  refine r_iload_n dX13_does_28 rfl 2 rfl ?_
  refine r_iconst (v := nI 2) dX13_does_29 (by decide) ?_
  refine r_iaddN dX13_does_30 ?_
  refine o_iald (j := 10) (n := 160) (i := 9 * j + 3 + 2) (by decide) hs rw10 dX13_does_31 (by omega) (by decide) ?_
  refine r_istore (lv' := [(5, .int (V 10 (9 * j + 3 + 2))), (4, .int (V 10 (9 * j + 3 + 1))), (3, .int (nI (v0))), (2, .int (nI (9 * j + 3))), (0, .ref (m)), (1, .int (nI (j)))]) dX13_does_32 (by decide) rfl ?_
  refine r_aload_n dX13_does_34 rfl 4 rfl ?_
  refine m_ref (k := 16) (j := 10) hs hs.2.1.2.2.2.2.2.2.2.2.2.1 dX13_does_35 fr_X13_44 rfl ?_
  refine r_bipush (v := nI 9) dX13_does_38 (by decide) ?_
  refine r_iload_n dX13_does_40 rfl 5 rfl ?_
  refine r_imulN dX13_does_41 ?_
  refine o_iald (j := 10) (n := 160) (i := 9 * j) (by decide) hs rw10 dX13_does_42 (by omega) (by decide) ?_
  refine Wx.top eW ?_
  refine r_tableIn (off := 293) (tgt := 336) dX13_does_43 (by decide) (by decide) rfl (by decide) ?_
  refine r_aload_n dX13_does_336 rfl 4 rfl ?_
  refine r_iload_n dX13_does_337 rfl 2 rfl ?_
  refine r_fnV (M2 := m_X13_againstRelease) (As := [.int (nI (v0))]) (rest := []) (v := some (.int (nI (code)))) dX13_does_338 cc_X13_does_150 rfl rfl rfl (Nat.le_of_ble_eq_true rfl) hs.1 rfl rfl (by decide) (hA G T m V od hs) rfl ?_
  refine r_if_neN (tgt := 356) dX13_does_341 (by decide) (by omega) (fun h341 => ?_) (fun h341 => ?_)
  · refine r_iconst (v := nI 0) dX13_does_356 (by decide) ?_
    exact r_iret (ty := .boolean) dX13_does_357 rfl (by decide) ⟨rfl, rfl⟩
  · exact absurd h341 (by omega)
set_option maxRecDepth 4000 in
set_option maxHeartbeats 1000000 in
theorem g_does_8 {G : GI} {T : Hp} {m : Nat} {V : RVal} {g : Nat → Nat} {od : Nat → UInt64} (hs : RS T m) {j : Nat} (hj : j < 10) {v0 : Nat} (eW : V 10 (9 * j) = nI 8) (e0 : V 10 (9 * j + 3) = nI (v0)) {v : Nat} {g' : Nat → Nat} (hv : v < 2 ^ 31) (hNw : RfN m_X13_seedNow [.int (nI (v0))] g v g') : Cn m_X13_does G [.ref m, .int (nI j)] (rput T m (sg V g) od) (RfQ V T m od 1 g') := by
  refine Cn.of rfl (by decide) (Nat.le_of_ble_eq_true rfl) (fun hN hM => ?_)
  show Wx _ G _ 0 [(0, .ref (m)), (1, .int (nI (j)))] [] _
  refine r_bipush (v := nI 9) dX13_does_0 (by decide) ?_
  refine r_iload_n dX13_does_2 rfl 1 rfl ?_
  refine r_imulN dX13_does_3 ?_
  refine r_iconst (v := nI 3) dX13_does_4 (by decide) ?_
  refine r_iaddN dX13_does_5 ?_
  refine r_istore_n (lv' := [(2, .int (nI (9 * j + 3))), (0, .ref (m)), (1, .int (nI (j)))]) dX13_does_6 rfl (by decide) rfl ?_
  refine r_aload_n dX13_does_7 rfl 1 rfl ?_
  refine m_ref (k := 16) (j := 10) hs hs.2.1.2.2.2.2.2.2.2.2.2.1 dX13_does_8 fr_X13_44 rfl ?_
  refine r_iload_n dX13_does_11 rfl 0 rfl ?_
  refine o_iald (j := 10) (n := 160) (i := 9 * j + 3) (by decide) hs rw10 dX13_does_12 (by omega) (by decide) ?_
  refine Wx.top e0 ?_
  refine r_istore_n (lv' := [(3, .int (nI (v0))), (2, .int (nI (9 * j + 3))), (0, .ref (m)), (1, .int (nI (j)))]) dX13_does_13 rfl (by decide) rfl ?_
  refine r_aload_n dX13_does_14 rfl 2 rfl ?_
  refine m_ref (k := 16) (j := 10) hs hs.2.1.2.2.2.2.2.2.2.2.2.1 dX13_does_15 fr_X13_44 rfl ?_
  refine r_iload_n dX13_does_18 rfl 1 rfl ?_
  refine r_iconst (v := nI 1) dX13_does_19 (by decide) ?_
  refine r_iaddN dX13_does_20 ?_
  refine o_iald (j := 10) (n := 160) (i := 9 * j + 3 + 1) (by decide) hs rw10 dX13_does_21 (by omega) (by decide) ?_
  refine r_istore (lv' := [(4, .int (V 10 (9 * j + 3 + 1))), (3, .int (nI (v0))), (2, .int (nI (9 * j + 3))), (0, .ref (m)), (1, .int (nI (j)))]) dX13_does_22 (by decide) rfl ?_
  refine r_aload_n dX13_does_24 rfl 3 rfl ?_
  refine m_ref (k := 16) (j := 10) hs hs.2.1.2.2.2.2.2.2.2.2.2.1 dX13_does_25 fr_X13_44 rfl ?_
  refine r_iload_n dX13_does_28 rfl 2 rfl ?_
  refine r_iconst (v := nI 2) dX13_does_29 (by decide) ?_
  refine r_iaddN dX13_does_30 ?_
  refine o_iald (j := 10) (n := 160) (i := 9 * j + 3 + 2) (by decide) hs rw10 dX13_does_31 (by omega) (by decide) ?_
  refine r_istore (lv' := [(5, .int (V 10 (9 * j + 3 + 2))), (4, .int (V 10 (9 * j + 3 + 1))), (3, .int (nI (v0))), (2, .int (nI (9 * j + 3))), (0, .ref (m)), (1, .int (nI (j)))]) dX13_does_32 (by decide) rfl ?_
  refine r_aload_n dX13_does_34 rfl 4 rfl ?_
  refine m_ref (k := 16) (j := 10) hs hs.2.1.2.2.2.2.2.2.2.2.2.1 dX13_does_35 fr_X13_44 rfl ?_
  refine r_bipush (v := nI 9) dX13_does_38 (by decide) ?_
  refine r_iload_n dX13_does_40 rfl 5 rfl ?_
  refine r_imulN dX13_does_41 ?_
  refine o_iald (j := 10) (n := 160) (i := 9 * j) (by decide) hs rw10 dX13_does_42 (by omega) (by decide) ?_
  refine Wx.top eW ?_
  refine r_tableOut (tgt := 358) dX13_does_43 (by decide) (by decide) ?_
  refine r_aload_n dX13_does_358 rfl 4 rfl ?_
  refine r_iload_n dX13_does_359 rfl 2 rfl ?_
  refine r_callV (M2 := m_X13_seedNow) (As := [.int (nI (v0))]) (rest := []) dX13_does_360 cc_X13_does_156 rfl rfl rfl (Nat.le_of_ble_eq_true rfl) hs.1 rfl rfl (by decide) (hNw G T m V od hs) (fun v9 U hq => ?_) (fun E9 T9 hq => by obtain ⟨hq, -⟩ := hq; cases hq)
  obtain ⟨hv9, V', hEq, rfl⟩ := hq
  cases hv9
  show Wx _ G (rput T m (sg V' g') od) 363 [(5, .int (V 10 (9 * j + 3 + 2))), (4, .int (V 10 (9 * j + 3 + 1))), (3, .int (nI (v0))), (2, .int (nI (9 * j + 3))), (0, .ref (m)), (1, .int (nI (j)))] [.int (nI (v))] _
  refine r_if_ltN (tgt := 370) dX13_does_363 (by decide) (by omega) ?_
  refine r_iconst (v := nI 1) dX13_does_366 (by decide) ?_
  refine r_goto (tgt := 371) dX13_does_367 (by decide) ?_
  exact r_iret (ty := .boolean) dX13_does_371 rfl (by decide) ⟨rfl, V', hEq, rfl⟩
