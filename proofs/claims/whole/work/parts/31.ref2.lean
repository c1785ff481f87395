set_option maxRecDepth 4000 in
theorem f_copies {G : GI} {T : Hp} {m : Nat} {V : RVal} {od : Nat → UInt64} (hs : RS T m) {j p j' q n1 n2 k : Nat} (hr1 : rowI j n1) (hr2 : rowI j' n2) (hn1 : n1 ≤ 80016) (hn2 : n2 ≤ 80016) (hk : V j p = nI k) (hk1 : p + 402 + 400 * k ≤ n1) (hk2 : q + 402 + 400 * k ≤ n2) (hd : j ≠ j' ∨ q + 402 + 400 * k ≤ p ∨ p + 402 + 400 * k ≤ q) : Fn m_X13_copies G [.ref (m + j), .int (nI p), .ref (m + j'), .int (nI q)] (rput T m V od) none (rput T m (cpV V j p j' q (402 + 400 * k)) od) := by
  refine Cn.of rfl (by decide) (Nat.le_of_ble_eq_true rfl) (fun hN hM => ?_)
  show Wx _ G _ 0 [(0, .ref (m + j)), (1, .int (nI (p))), (2, .ref (m + j')), (3, .int (nI (q)))] [] _
  refine r_sipush (v := nI 402) dX13_copies_0 (by decide) ?_
  refine r_sipush (v := nI 400) dX13_copies_3 (by decide) ?_
  refine r_aload_n dX13_copies_6 rfl 0 rfl ?_
  refine r_iload_n dX13_copies_7 rfl 1 rfl ?_
  refine m_iald (j := j) (n := n1) (i := p) hs hr1 dX13_copies_8 (by omega) (by omega) ?_
  refine Wx.top hk ?_
  refine r_imulN dX13_copies_9 ?_
  refine r_iaddN dX13_copies_10 ?_
  refine r_istore (lv' := [(4, .int (nI (402 + 400 * k))), (0, .ref (m + j)), (1, .int (nI (p))), (2, .ref (m + j')), (3, .int (nI (q)))]) dX13_copies_11 (by decide) rfl ?_
  refine r_iconst (v := nI 0) dX13_copies_13 (by decide) ?_
  refine r_istore (lv' := [(5, .int (nI (0))), (4, .int (nI (402 + 400 * k))), (0, .ref (m + j)), (1, .int (nI (p))), (2, .ref (m + j')), (3, .int (nI (q)))]) dX13_copies_14 (by decide) rfl ?_
  refine Wx.st' (S' := rput T m (cpV V j p j' q 0) od) (by rw [cpV_0]) ?_
  refine Wx.sub [2, 3, 4, 5, 1, 0] rfl ?_
  refine Wx.loop (fun u => rput T m (cpV V j p j' q u) od) (fun u => [(0, .ref (m + j)), (1, .int (nI (p))), (2, .ref (m + j')), (3, .int (nI (q))), (4, .int (nI (402 + 400 * k))), (5, .int (nI (u)))]) (402 + 400 * k) (0) (Nat.zero_le _) (fun u hge hle next => ?_)
  show Wx _ G (rput T m (cpV V j p j' q u) od) 16 [(0, .ref (m + j)), (1, .int (nI (p))), (2, .ref (m + j')), (3, .int (nI (q))), (4, .int (nI (402 + 400 * k))), (5, .int (nI (u)))] [] _
  refine r_iload dX13_copies_16 5 rfl ?_
  refine r_iload dX13_copies_18 4 rfl ?_
  refine r_icmp_geN (tgt := 41) dX13_copies_20 (by decide) (by omega) (by omega) (fun h20 => ?_) (fun h20 => ?_)
  · obtain rfl : u = 402 + 400 * k := by omega
    exact r_vret dX13_copies_41 rfl ⟨rfl, rfl⟩
  · refine r_aload_n dX13_copies_23 rfl 2 rfl ?_
    refine r_iload_n dX13_copies_24 rfl 3 rfl ?_
    refine r_iload dX13_copies_25 5 rfl ?_
    refine r_iaddN dX13_copies_27 ?_
    refine r_aload_n dX13_copies_28 rfl 0 rfl ?_
    refine r_iload_n dX13_copies_29 rfl 1 rfl ?_
    refine r_iload dX13_copies_30 5 rfl ?_
    refine r_iaddN dX13_copies_32 ?_
    refine m_iald (j := j) (n := n1) (i := p + u) hs hr1 dX13_copies_33 (by omega) (by omega) ?_
    refine m_iast (j := j') (n := n2) (i := q + u) hs hr2 dX13_copies_34 (by omega) (by omega) ?_
    refine r_iincN (k := 1) (lv' := [(5, .int (nI (u + 1))), (0, .ref (m + j)), (1, .int (nI (p))), (2, .ref (m + j')), (3, .int (nI (q))), (4, .int (nI (402 + 400 * k)))]) dX13_copies_35 (by decide) 5 rfl (by decide) rfl ?_
    refine r_goto (tgt := 16) dX13_copies_38 (by decide) ?_
    refine Wx.sub [1, 2, 3, 4, 5, 0] rfl ?_
    have n2 := next (by omega)
    rw [← cpV_s (by omega)] at n2
    exact n2
