set_option maxRecDepth 4000 in
theorem g_causeOfE {G : GI} {T : Hp} {m : Nat} {V : RVal} {g : Nat → Nat} {od : Nat → UInt64} (hs : RS T m) (hb : WB g) {l u l' u' k n : Nat} (hk : k < 4) (ho : Org g k n l u l' u') : Fn m_X13_causeOf G [.ref (m), .int (nI (l)), .int (nI (u)), .int (nI (k))] (rput T m (sg V g) od) (some (.int (nI (cauV g k l' u')))) (rput T m (sg (up2 (up2 V 0 (7) (nI l')) 0 (8) (nI u')) (g)) od) := by
  refine Cn.of rfl (by decide) (Nat.le_of_ble_eq_true rfl) (fun hN hM => ?_)
  show Wx _ G _ 0 [(0, .ref (m)), (1, .int (nI (l))), (2, .int (nI (u))), (3, .int (nI (k)))] [] _
  refine r_iload_n dX13_causeOf_0 rfl 1 rfl ?_
  refine r_istore (lv' := [(4, .int (nI (l))), (0, .ref (m)), (1, .int (nI (l))), (2, .int (nI (u))), (3, .int (nI (k)))]) dX13_causeOf_1 (by decide) rfl ?_
  refine r_iload_n dX13_causeOf_3 rfl 3 rfl ?_
  refine r_istore (lv' := [(5, .int (nI (u))), (4, .int (nI (l))), (0, .ref (m)), (1, .int (nI (l))), (2, .int (nI (u))), (3, .int (nI (k)))]) dX13_causeOf_4 (by decide) rfl ?_
  refine Wx.sub [2, 5, 1, 0] rfl ?_
  induction n generalizing l u with
  | zero =>
    obtain ⟨hl, hu, h, rfl, rfl⟩ := ho
    refine r_aload_n dX13_causeOf_6 rfl 0 rfl ?_
    refine r_iload dX13_causeOf_7 2 rfl ?_
    refine r_iload dX13_causeOf_9 3 rfl ?_
    refine r_iload_n dX13_causeOf_11 rfl 1 rfl ?_
    refine r_fnV (M2 := m_X13_way) (As := [.int (nI (l)), .int (nI (u)), .int (nI (k))]) (rest := []) (v := some (.int (nI (yW (g (402 + 2 * (200 * l + u))) k)))) dX13_causeOf_12 cc_X13_causeOf_200 rfl rfl rfl (Nat.le_of_ble_eq_true rfl) hs.1 rfl rfl (by decide) (g_way hs hb (by (first | omega | (have := yW_lt (g (402 + 2 * (200 * l + u))) k; omega))) (by (first | omega | (have := yW_lt (g (402 + 2 * (200 * l + u))) k; omega))) (by (first | omega | (have := yW_lt (g (402 + 2 * (200 * l + u))) k; omega)))) rfl ?_
    refine r_if_neN (tgt := 85) dX13_causeOf_15 (by decide) (by (first | omega | (have := yW_lt (g (402 + 2 * (200 * l + u))) k; omega))) (fun h15 => ?_) (fun h15 => ?_)
    · refine r_aload_n dX13_causeOf_85 rfl 0 rfl ?_
      refine r_iload dX13_causeOf_86 2 rfl ?_
      refine o_put (k := 7) hs dX13_causeOf_88 fw_X13_causeOf_209 rfl rfl rfl ?_
      refine r_aload_n dX13_causeOf_91 rfl 0 rfl ?_
      refine r_iload dX13_causeOf_92 3 rfl ?_
      refine o_put (k := 8) hs dX13_causeOf_94 fw_X13_causeOf_212 rfl rfl rfl ?_
      refine r_aload_n dX13_causeOf_97 rfl 0 rfl ?_
      refine r_iload dX13_causeOf_98 2 rfl ?_
      refine r_iload dX13_causeOf_100 3 rfl ?_
      refine r_iload_n dX13_causeOf_102 rfl 1 rfl ?_
      refine r_fnV (M2 := m_X13_way) (As := [.int (nI (l)), .int (nI (u)), .int (nI (k))]) (rest := []) (v := some (.int (nI (yW (g (402 + 2 * (200 * l + u))) k)))) dX13_causeOf_103 cc_X13_causeOf_200 rfl rfl rfl (Nat.le_of_ble_eq_true rfl) hs.1 rfl rfl (by decide) (g_way hs hb (by (first | omega | (have := yW_lt (g (402 + 2 * (200 * l + u))) k; omega))) (by (first | omega | (have := yW_lt (g (402 + 2 * (200 * l + u))) k; omega))) (by (first | omega | (have := yW_lt (g (402 + 2 * (200 * l + u))) k; omega)))) rfl ?_
      refine r_iconst (v := nI 2) dX13_causeOf_106 (by decide) ?_
      refine r_icmp_neN (tgt := 115) dX13_causeOf_107 (by decide) (by (first | omega | (have := yW_lt (g (402 + 2 * (200 * l + u))) k; omega))) (by (first | omega | (have := yW_lt (g (402 + 2 * (200 * l + u))) k; omega))) (fun h107 => ?_) (fun h107 => ?_)
      · refine r_aload_n dX13_causeOf_115 rfl 0 rfl ?_
        refine m_ref (k := 0) (j := 1) hs hs.2.1.1 dX13_causeOf_116 fr_X13_7 rfl ?_
        refine r_iload dX13_causeOf_119 2 rfl ?_
        refine r_bipush (v := nI 9) dX13_causeOf_121 (by decide) ?_
        refine r_fnS (M2 := m_X13_at) (As := [.int (nI (l)), .int (nI (9))]) (rest := [.ref (m + 1)]) (v := some (.int (nI (90 + 13 * l + 9)))) dX13_causeOf_123 cc_X13_causeOf_72 rfl rfl rfl (Nat.le_of_ble_eq_true rfl) f_at rfl ?_
        refine g_iald (i := 90 + 13 * l + 9) hs dX13_causeOf_126 (by (first | omega | (have := yW_lt (g (402 + 2 * (200 * l + u))) k; omega))) ?_
        exact r_iret (ty := .int) dX13_causeOf_127 rfl rfl ⟨congrArg (fun x => Sum.inl (some (Value.int (nI x)))) (show g (90 + 13 * l + 9) = cauV g k l u from (if_neg h107).symm), rfl⟩
      · refine r_bipush (v := nI 6) dX13_causeOf_110 (by decide) ?_
        refine r_goto (tgt := 127) dX13_causeOf_112 (by decide) ?_
        exact r_iret (ty := .int) dX13_causeOf_127 rfl rfl ⟨congrArg (fun x => Sum.inl (some (Value.int (nI x)))) (show 6 = cauV g k l u from (if_pos h107).symm), rfl⟩
    · exact absurd h15 h
  | succ n ih =>
    obtain ⟨hl, hu, h, i, hi, hj, h0, h1, r⟩ := ho
    refine r_aload_n dX13_causeOf_6 rfl 0 rfl ?_
    refine r_iload dX13_causeOf_7 2 rfl ?_
    refine r_iload dX13_causeOf_9 3 rfl ?_
    refine r_iload_n dX13_causeOf_11 rfl 1 rfl ?_
    refine r_fnV (M2 := m_X13_way) (As := [.int (nI (l)), .int (nI (u)), .int (nI (k))]) (rest := []) (v := some (.int (nI (yW (g (402 + 2 * (200 * l + u))) k)))) dX13_causeOf_12 cc_X13_causeOf_200 rfl rfl rfl (Nat.le_of_ble_eq_true rfl) hs.1 rfl rfl (by decide) (g_way hs hb (by (first | omega | (have := hj q hle; have := hb (402 + 2 * (200 * g (90 + 13 * l + (10 + q)) + pW (g (402 + 2 * (200 * l + u) + 1)) q)) (by omega); have := Nat.div_le_self (g (402 + 2 * (200 * g (90 + 13 * l + (10 + q)) + pW (g (402 + 2 * (200 * l + u) + 1)) q)) % 16) (2 ^ k); omega))) (by (first | omega | (have := hj q hle; have := hb (402 + 2 * (200 * g (90 + 13 * l + (10 + q)) + pW (g (402 + 2 * (200 * l + u) + 1)) q)) (by omega); have := Nat.div_le_self (g (402 + 2 * (200 * g (90 + 13 * l + (10 + q)) + pW (g (402 + 2 * (200 * l + u) + 1)) q)) % 16) (2 ^ k); omega))) (by (first | omega | (have := hj q hle; have := hb (402 + 2 * (200 * g (90 + 13 * l + (10 + q)) + pW (g (402 + 2 * (200 * l + u) + 1)) q)) (by omega); have := Nat.div_le_self (g (402 + 2 * (200 * g (90 + 13 * l + (10 + q)) + pW (g (402 + 2 * (200 * l + u) + 1)) q)) % 16) (2 ^ k); omega)))) rfl ?_
    refine r_if_neN (tgt := 85) dX13_causeOf_15 (by decide) (by (first | omega | (have := hj q hle; have := hb (402 + 2 * (200 * g (90 + 13 * l + (10 + q)) + pW (g (402 + 2 * (200 * l + u) + 1)) q)) (by omega); have := Nat.div_le_self (g (402 + 2 * (200 * g (90 + 13 * l + (10 + q)) + pW (g (402 + 2 * (200 * l + u) + 1)) q)) % 16) (2 ^ k); omega))) (fun h15_1 => ?_) (fun h15_1 => ?_)
    · exact absurd h h15_1
    · refine r_iconst (v := nI 0) dX13_causeOf_18 (by decide) ?_
      refine r_istore (lv' := [(6, .int (nI (0))), (0, .ref (m)), (3, .int (nI (k))), (4, .int (nI (l))), (5, .int (nI (u)))]) dX13_causeOf_19 (by decide) rfl ?_
      refine Wx.sub [1, 2, 3, 4, 0] rfl ?_
      refine Wx.loop (fun q => (rput T m (sg V g) od)) (fun q => [(0, .ref (m)), (3, .int (nI (k))), (4, .int (nI (l))), (5, .int (nI (u))), (6, .int (nI (q)))]) (i) (0) (Nat.zero_le _) (fun q hge hle next => ?_)
      show Wx _ G ((rput T m (sg V g) od)) 21 [(0, .ref (m)), (3, .int (nI (k))), (4, .int (nI (l))), (5, .int (nI (u))), (6, .int (nI (q)))] [] _
      refine r_aload_n dX13_causeOf_21 rfl 0 rfl ?_
      refine r_aload_n dX13_causeOf_22 rfl 0 rfl ?_
      refine r_iload dX13_causeOf_23 2 rfl ?_
      refine r_iload dX13_causeOf_25 4 rfl ?_
      refine r_fnV (M2 := m_X13_part) (As := [.int (nI (l)), .int (nI (q))]) (rest := [.ref (m)]) (v := some (.int (nI (g (90 + 13 * l + (10 + q)))))) dX13_causeOf_27 cc_X13_causeOf_203 rfl rfl rfl (Nat.le_of_ble_eq_true rfl) hs.1 rfl rfl (by decide) (g_part hs (by (first | omega | (have := hj q hle; have := hb (402 + 2 * (200 * g (90 + 13 * l + (10 + q)) + pW (g (402 + 2 * (200 * l + u) + 1)) q)) (by omega); have := Nat.div_le_self (g (402 + 2 * (200 * g (90 + 13 * l + (10 + q)) + pW (g (402 + 2 * (200 * l + u) + 1)) q)) % 16) (2 ^ k); omega))) (by (first | omega | (have := hj q hle; have := hb (402 + 2 * (200 * g (90 + 13 * l + (10 + q)) + pW (g (402 + 2 * (200 * l + u) + 1)) q)) (by omega); have := Nat.div_le_self (g (402 + 2 * (200 * g (90 + 13 * l + (10 + q)) + pW (g (402 + 2 * (200 * l + u) + 1)) q)) % 16) (2 ^ k); omega)))) rfl ?_
      refine r_aload_n dX13_causeOf_30 rfl 0 rfl ?_
      refine r_iload dX13_causeOf_31 2 rfl ?_
      refine r_iload dX13_causeOf_33 3 rfl ?_
      refine r_iload dX13_causeOf_35 4 rfl ?_
      refine r_fnV (M2 := m_X13_partUnit) (As := [.int (nI (l)), .int (nI (u)), .int (nI (q))]) (rest := [.int (nI (g (90 + 13 * l + (10 + q)))), .ref (m)]) (v := some (.int (nI (pW (g (402 + 2 * (200 * l + u) + 1)) q)))) dX13_causeOf_37 cc_X13_causeOf_206 rfl rfl rfl (Nat.le_of_ble_eq_true rfl) hs.1 rfl rfl (by decide) (g_partUnit hs hb (by (first | omega | (have := hj q hle; have := hb (402 + 2 * (200 * g (90 + 13 * l + (10 + q)) + pW (g (402 + 2 * (200 * l + u) + 1)) q)) (by omega); have := Nat.div_le_self (g (402 + 2 * (200 * g (90 + 13 * l + (10 + q)) + pW (g (402 + 2 * (200 * l + u) + 1)) q)) % 16) (2 ^ k); omega))) (by (first | omega | (have := hj q hle; have := hb (402 + 2 * (200 * g (90 + 13 * l + (10 + q)) + pW (g (402 + 2 * (200 * l + u) + 1)) q)) (by omega); have := Nat.div_le_self (g (402 + 2 * (200 * g (90 + 13 * l + (10 + q)) + pW (g (402 + 2 * (200 * l + u) + 1)) q)) % 16) (2 ^ k); omega))) (by (first | omega | (have := hj q hle; have := hb (402 + 2 * (200 * g (90 + 13 * l + (10 + q)) + pW (g (402 + 2 * (200 * l + u) + 1)) q)) (by omega); have := Nat.div_le_self (g (402 + 2 * (200 * g (90 + 13 * l + (10 + q)) + pW (g (402 + 2 * (200 * l + u) + 1)) q)) % 16) (2 ^ k); omega)))) rfl ?_
      refine r_fnV (M2 := m_X13_defects) (As := [.int (nI (g (90 + 13 * l + (10 + q)))), .int (nI (pW (g (402 + 2 * (200 * l + u) + 1)) q))]) (rest := []) (v := some (.int (nI ((g (402 + 2 * (200 * (g (90 + 13 * l + (10 + q))) + (pW (g (402 + 2 * (200 * l + u) + 1)) q)))) % 16)))) dX13_causeOf_40 cc_X13_causeOf_87 rfl rfl rfl (Nat.le_of_ble_eq_true rfl) hs.1 rfl rfl (by decide) (g_defects hs hb (by (first | omega | (have := hj q hle; have := hb (402 + 2 * (200 * g (90 + 13 * l + (10 + q)) + pW (g (402 + 2 * (200 * l + u) + 1)) q)) (by omega); have := Nat.div_le_self (g (402 + 2 * (200 * g (90 + 13 * l + (10 + q)) + pW (g (402 + 2 * (200 * l + u) + 1)) q)) % 16) (2 ^ k); omega))) (by (first | omega | (have := hj q hle; have := hb (402 + 2 * (200 * g (90 + 13 * l + (10 + q)) + pW (g (402 + 2 * (200 * l + u) + 1)) q)) (by omega); have := Nat.div_le_self (g (402 + 2 * (200 * g (90 + 13 * l + (10 + q)) + pW (g (402 + 2 * (200 * l + u) + 1)) q)) % 16) (2 ^ k); omega)))) rfl ?_
      refine r_iload_n dX13_causeOf_43 rfl 1 rfl ?_
      refine r_ishrN dX13_causeOf_44 (by (first | omega | (have := hj q hle; have := hb (402 + 2 * (200 * g (90 + 13 * l + (10 + q)) + pW (g (402 + 2 * (200 * l + u) + 1)) q)) (by omega); have := Nat.div_le_self (g (402 + 2 * (200 * g (90 + 13 * l + (10 + q)) + pW (g (402 + 2 * (200 * l + u) + 1)) q)) % 16) (2 ^ k); omega))) (by (first | omega | (have := hj q hle; have := hb (402 + 2 * (200 * g (90 + 13 * l + (10 + q)) + pW (g (402 + 2 * (200 * l + u) + 1)) q)) (by omega); have := Nat.div_le_self (g (402 + 2 * (200 * g (90 + 13 * l + (10 + q)) + pW (g (402 + 2 * (200 * l + u) + 1)) q)) % 16) (2 ^ k); omega))) ?_
      refine r_iconst (v := nI 1) dX13_causeOf_45 (by decide) ?_
      refine r_iandM (k := 1) (c := 2) rfl rfl dX13_causeOf_46 (by decide) ?_
      refine r_if_neN (tgt := 56) dX13_causeOf_47 (by decide) (by (first | omega | (have := hj q hle; have := hb (402 + 2 * (200 * g (90 + 13 * l + (10 + q)) + pW (g (402 + 2 * (200 * l + u) + 1)) q)) (by omega); have := Nat.div_le_self (g (402 + 2 * (200 * g (90 + 13 * l + (10 + q)) + pW (g (402 + 2 * (200 * l + u) + 1)) q)) % 16) (2 ^ k); omega))) (fun h47 => ?_) (fun h47 => ?_)
      · obtain rfl : q = i := Nat.le_antisymm hle (Nat.le_of_not_lt fun hq => h47 (h0 q hq))
        refine r_aload_n dX13_causeOf_56 rfl 0 rfl ?_
        refine r_iload dX13_causeOf_57 2 rfl ?_
        refine r_iload dX13_causeOf_59 3 rfl ?_
        refine r_iload dX13_causeOf_61 4 rfl ?_
        refine r_fnV (M2 := m_X13_partUnit) (As := [.int (nI (l)), .int (nI (u)), .int (nI (q))]) (rest := []) (v := some (.int (nI (pW (g (402 + 2 * (200 * l + u) + 1)) q)))) dX13_causeOf_63 cc_X13_causeOf_206 rfl rfl rfl (Nat.le_of_ble_eq_true rfl) hs.1 rfl rfl (by decide) (g_partUnit hs hb (by (first | omega | (have := hj q hle; have := hb (402 + 2 * (200 * g (90 + 13 * l + (10 + q)) + pW (g (402 + 2 * (200 * l + u) + 1)) q)) (by omega); have := Nat.div_le_self (g (402 + 2 * (200 * g (90 + 13 * l + (10 + q)) + pW (g (402 + 2 * (200 * l + u) + 1)) q)) % 16) (2 ^ k); omega))) (by (first | omega | (have := hj q hle; have := hb (402 + 2 * (200 * g (90 + 13 * l + (10 + q)) + pW (g (402 + 2 * (200 * l + u) + 1)) q)) (by omega); have := Nat.div_le_self (g (402 + 2 * (200 * g (90 + 13 * l + (10 + q)) + pW (g (402 + 2 * (200 * l + u) + 1)) q)) % 16) (2 ^ k); omega))) (by (first | omega | (have := hj q hle; have := hb (402 + 2 * (200 * g (90 + 13 * l + (10 + q)) + pW (g (402 + 2 * (200 * l + u) + 1)) q)) (by omega); have := Nat.div_le_self (g (402 + 2 * (200 * g (90 + 13 * l + (10 + q)) + pW (g (402 + 2 * (200 * l + u) + 1)) q)) % 16) (2 ^ k); omega)))) rfl ?_
        refine r_istore (lv' := [(7, .int (nI (pW (g (402 + 2 * (200 * l + u) + 1)) q))), (0, .ref (m)), (3, .int (nI (k))), (4, .int (nI (l))), (5, .int (nI (u))), (6, .int (nI (q)))]) dX13_causeOf_66 (by decide) rfl ?_
        refine r_aload_n dX13_causeOf_68 rfl 1 rfl ?_
        refine r_iload dX13_causeOf_69 3 rfl ?_
        refine r_iload dX13_causeOf_71 5 rfl ?_
        refine r_fnV (M2 := m_X13_part) (As := [.int (nI (l)), .int (nI (q))]) (rest := []) (v := some (.int (nI (g (90 + 13 * l + (10 + q)))))) dX13_causeOf_73 cc_X13_causeOf_203 rfl rfl rfl (Nat.le_of_ble_eq_true rfl) hs.1 rfl rfl (by decide) (g_part hs (by (first | omega | (have := hj q hle; have := hb (402 + 2 * (200 * g (90 + 13 * l + (10 + q)) + pW (g (402 + 2 * (200 * l + u) + 1)) q)) (by omega); have := Nat.div_le_self (g (402 + 2 * (200 * g (90 + 13 * l + (10 + q)) + pW (g (402 + 2 * (200 * l + u) + 1)) q)) % 16) (2 ^ k); omega))) (by (first | omega | (have := hj q hle; have := hb (402 + 2 * (200 * g (90 + 13 * l + (10 + q)) + pW (g (402 + 2 * (200 * l + u) + 1)) q)) (by omega); have := Nat.div_le_self (g (402 + 2 * (200 * g (90 + 13 * l + (10 + q)) + pW (g (402 + 2 * (200 * l + u) + 1)) q)) % 16) (2 ^ k); omega)))) rfl ?_
        refine r_istore (lv' := [(4, .int (nI (g (90 + 13 * l + (10 + q))))), (7, .int (nI (pW (g (402 + 2 * (200 * l + u) + 1)) q))), (0, .ref (m)), (3, .int (nI (k))), (5, .int (nI (u))), (6, .int (nI (q)))]) dX13_causeOf_76 (by decide) rfl ?_
        refine r_iload dX13_causeOf_78 1 rfl ?_
        refine r_istore (lv' := [(5, .int (nI (pW (g (402 + 2 * (200 * l + u) + 1)) q))), (4, .int (nI (g (90 + 13 * l + (10 + q))))), (7, .int (nI (pW (g (402 + 2 * (200 * l + u) + 1)) q))), (0, .ref (m)), (3, .int (nI (k))), (6, .int (nI (q)))]) dX13_causeOf_80 (by decide) rfl ?_
        refine r_goto (tgt := 6) dX13_causeOf_82 (by decide) ?_
        refine Wx.sub [3, 4, 1, 0] rfl ?_
        exact ih r
      · refine r_iincN (k := 1) (lv' := [(6, .int (nI (q + 1))), (0, .ref (m)), (3, .int (nI (k))), (4, .int (nI (l))), (5, .int (nI (u)))]) dX13_causeOf_50 (by decide) 4 rfl (by decide) rfl ?_
        refine r_goto (tgt := 21) dX13_causeOf_53 (by decide) ?_
        refine Wx.sub [1, 2, 3, 4, 0] rfl ?_
        exact next (by have : q ≠ i := fun e => h1 (by rw [← e]; exact h47); omega)
set_option maxRecDepth 4000 in
theorem q_trace_b {G : GI} {T : Hp} {m : Nat} {V : RVal} {g : Nat → Nat} {od : Nat → UInt64} (hs : RS T m)  (h24 : g 0 ≤ 24) (hb : WB g) {l u : Nat} (hl : l < g 0) (hz : g (90 + 13 * l + 1) ≤ 200) (hu : u < g (90 + 13 * l + 1)) {k : Nat} (hk : k < 4) {n l' u' : Nat} (hd : ¬ bW (g (402 + 2 * (200 * l + u))) k = 0) (ho : Org g k n l u l' u') : Fn m_X13_trace G [.ref (m), .int (nI (l)), .int (nI (u)), .int (nI (k)), .int (nI (0))] (rput T m (sg V g) od) (some (.int (nI (1000 * (l') + (u'))))) (rput T m (sg (up2 (up2 (up2 V 0 (6) (nI 0)) 0 (7) (nI (l'))) 0 (8) (nI (u'))) (g)) od) := by
  refine Cn.of rfl (by decide) (Nat.le_of_ble_eq_true rfl) (fun hN hM => ?_)
  show Wx _ G _ 0 [(0, .ref (m)), (1, .int (nI (l))), (2, .int (nI (u))), (3, .int (nI (k))), (4, .int (nI (0)))] [] _
  refine r_aload_n dX13_trace_0 rfl 0 rfl ?_
  refine r_aload_n dX13_trace_1 rfl 0 rfl ?_
  refine r_iload_n dX13_trace_2 rfl 1 rfl ?_
  refine r_iload_n dX13_trace_3 rfl 2 rfl ?_
  refine r_fnV (M2 := m_X13_isUnit) (As := [.int (nI (l)), .int (nI (u))]) (rest := [.ref (m)]) (v := some (.int (nI (1)))) dX13_trace_4 cc_X13_trace_218 rfl rfl rfl (Nat.le_of_ble_eq_true rfl) hs.1 rfl rfl (by decide) (g_isUnit_2 hs h24 (by (first | omega | (have := Nat.div_le_self (g (402 + 2 * (200 * l + u)) % 16) (2 ^ k); omega))) (by (first | omega | (have := Nat.div_le_self (g (402 + 2 * (200 * l + u)) % 16) (2 ^ k); omega))) (by (first | omega | (have := Nat.div_le_self (g (402 + 2 * (200 * l + u)) % 16) (2 ^ k); omega)))) rfl ?_
  refine r_if_neN (tgt := 14) dX13_trace_7 (by decide) (by (first | omega | (have := Nat.div_le_self (g (402 + 2 * (200 * l + u)) % 16) (2 ^ k); omega))) (fun zz7 => ?_) (fun zz7 => ?_)
  · refine r_iload_n dX13_trace_14 rfl 3 rfl ?_
    refine r_iconst (v := nI 0) dX13_trace_15 (by decide) ?_
    refine r_iconst (v := nI 3) dX13_trace_16 (by decide) ?_
    refine r_fnS (M2 := m_X13_in) (As := [.int (nI (k)), .int (nI (0)), .int (nI (3))]) (rest := [.ref (m)]) (v := some (.int (nI (1)))) dX13_trace_17 cc_X13_trace_68 rfl rfl rfl (Nat.le_of_ble_eq_true rfl) (Fn.eq (f_in0 (n := 3) (by decide)) (congrArg (fun x => some (Value.int x)) (bI_t (vp_in_nI (by (first | omega | (have := Nat.div_le_self (g (402 + 2 * (200 * l + u)) % 16) (2 ^ k); omega))) (by decide)))) rfl) rfl ?_
    refine r_if_neN (tgt := 27) dX13_trace_20 (by decide) (by (first | omega | (have := Nat.div_le_self (g (402 + 2 * (200 * l + u)) % 16) (2 ^ k); omega))) (fun zz20 => ?_) (fun zz20 => ?_)
    · refine r_aload_n dX13_trace_27 rfl 0 rfl ?_
      refine r_iload_n dX13_trace_28 rfl 1 rfl ?_
      refine r_iload_n dX13_trace_29 rfl 2 rfl ?_
      refine r_fnV (M2 := m_X13_defects) (As := [.int (nI (l)), .int (nI (u))]) (rest := [.ref (m)]) (v := some (.int (nI ((g (402 + 2 * (200 * l + u))) % 16)))) dX13_trace_30 cc_X13_trace_87 rfl rfl rfl (Nat.le_of_ble_eq_true rfl) hs.1 rfl rfl (by decide) (g_defects hs hb (by (first | omega | (have := Nat.div_le_self (g (402 + 2 * (200 * l + u)) % 16) (2 ^ k); omega))) (by (first | omega | (have := Nat.div_le_self (g (402 + 2 * (200 * l + u)) % 16) (2 ^ k); omega)))) rfl ?_
      refine r_iload_n dX13_trace_33 rfl 3 rfl ?_
      refine r_ishrN dX13_trace_34 (by (first | omega | (have := Nat.div_le_self (g (402 + 2 * (200 * l + u)) % 16) (2 ^ k); omega))) (by (first | omega | (have := Nat.div_le_self (g (402 + 2 * (200 * l + u)) % 16) (2 ^ k); omega))) ?_
      refine r_iconst (v := nI 1) dX13_trace_35 (by decide) ?_
      refine r_iandM (k := 1) (c := 2) rfl rfl dX13_trace_36 (by decide) ?_
      refine r_if_neN (tgt := 44) dX13_trace_37 (by decide) (by (first | omega | (have := Nat.div_le_self (g (402 + 2 * (200 * l + u)) % 16) (2 ^ k); omega))) (fun h37 => ?_) (fun h37 => ?_)
      · refine r_iconst (v := nI 0) dX13_trace_44 (by decide) ?_
        refine o_put (k := 6) hs dX13_trace_45 fw_X13_trace_54 rfl rfl rfl ?_
        refine r_aload_n dX13_trace_48 rfl 0 rfl ?_
        refine o_get (k := 6) hs dX13_trace_49 fr_X13_54 rfl ?_
        refine Wx.top up2_s ?_
        refine r_if_leN (tgt := 57) dX13_trace_52 (by decide) (by (first | omega | (have := Nat.div_le_self (g (402 + 2 * (200 * l + u)) % 16) (2 ^ k); omega))) (fun zz52 => ?_) (fun zz52 => ?_)
        · refine r_aload_n dX13_trace_57 rfl 0 rfl ?_
          refine r_iload_n dX13_trace_58 rfl 1 rfl ?_
          refine r_iload_n dX13_trace_59 rfl 2 rfl ?_
          refine r_iload_n dX13_trace_60 rfl 3 rfl ?_
          refine r_fnV (M2 := m_X13_causeOf) (As := [.int (nI (l)), .int (nI (u)), .int (nI (k))]) (rest := []) (v := some (.int (nI (cauV g k l' u')))) dX13_trace_61 cc_X13_trace_215 rfl rfl rfl (Nat.le_of_ble_eq_true rfl) hs.1 rfl rfl (by decide) (g_causeOfE hs hb (by omega) ho) rfl ?_
          refine r_istore (lv' := [(5, .int (nI (cauV g k l' u'))), (0, .ref (m)), (1, .int (nI (l))), (2, .int (nI (u))), (3, .int (nI (k))), (4, .int (nI (0)))]) dX13_trace_64 (by decide) rfl ?_
          refine r_iload dX13_trace_66 5 rfl ?_
          refine r_if_eqN (tgt := 76) dX13_trace_68 (by decide) (by (first | omega | (have := Nat.div_le_self (g (402 + 2 * (200 * l + u)) % 16) (2 ^ k); omega))) (fun zz68 => ?_) (fun zz68 => ?_)
          · refine r_sipush (v := nI 1000) dX13_trace_76 (by decide) ?_
            refine r_aload_n dX13_trace_79 rfl 1 rfl ?_
            refine o_get (k := 7) hs dX13_trace_80 fr_X13_209 rfl ?_
            refine Wx.top (up2_n (by omega)) ?_
            refine Wx.top up2_s ?_
            refine r_imulN dX13_trace_83 ?_
            refine r_aload_n dX13_trace_84 rfl 1 rfl ?_
            refine o_get (k := 8) hs dX13_trace_85 fr_X13_212 rfl ?_
            refine Wx.top up2_s ?_
            refine r_iaddN dX13_trace_88 ?_
            exact r_iret (ty := .int) dX13_trace_89 rfl rfl ⟨rfl, rfl⟩
          · exact absurd zz68 (by decide)
        · exact absurd zz52 (by decide)
      · exact absurd h37 hd
    · exact absurd zz20 (by decide)
  · exact absurd zz7 (by decide)
