set_option maxRecDepth 4000 in
theorem q_recall_1 {G : GI} {T : Hp} {m : Nat} {V : RVal} {g : Nat → Nat} {od : Nat → UInt64} (hs : RS T m)  (h24 : g 0 ≤ 24) {x : Int32} (hx : ¬ vp_in x (g 0)) : Fn m_X13_recall G [.ref (m), .int (x)] (rput T m (sg V g) od) (some (.int (nI (0)))) (rput T m (sg (up2 V 0 (6) (nI 1)) (g)) od) := by
  refine Cn.of rfl (by decide) (Nat.le_of_ble_eq_true rfl) (fun hN hM => ?_)
  show Wx _ G _ 0 [(0, .ref (m)), (1, .int (x))] [] _
  refine r_aload_n dX13_recall_0 rfl 0 rfl ?_
  refine r_aload_n dX13_recall_1 rfl 0 rfl ?_
  refine r_iload_n dX13_recall_2 rfl 1 rfl ?_
  refine r_fnV (M2 := m_X13_isLot) (As := [.int (x)]) (rest := [.ref (m)]) (v := some (.int (nI (0)))) dX13_recall_3 cc_X13_recall_76 rfl rfl rfl (Nat.le_of_ble_eq_true rfl) hs.1 rfl rfl (by decide) (Fn.eq (g_isLot hs h24) (congrArg (fun x => some (Value.int x)) (bI_f hx)) rfl) rfl ?_
  refine r_if_eqN (tgt := 13) dX13_recall_6 (by decide) (by omega) (fun zz6 => ?_) (fun zz6 => ?_)
  · refine r_iconst (v := nI 1) dX13_recall_13 (by decide) ?_
    refine o_put (k := 6) hs dX13_recall_14 fw_X13_recall_54 rfl rfl rfl ?_
    refine r_aload_n dX13_recall_17 rfl 0 rfl ?_
    refine o_get (k := 6) hs dX13_recall_18 fr_X13_54 rfl ?_
    refine Wx.top up2_s ?_
    refine r_if_leN (tgt := 28) dX13_recall_21 (by decide) (by omega) (fun zz21 => ?_) (fun zz21 => ?_)
    · exact absurd zz21 (by decide)
    · refine r_iconst (v := nI 0) dX13_recall_24 (by decide) ?_
      refine r_goto (tgt := 33) dX13_recall_25 (by decide) ?_
      exact r_iret (ty := .int) dX13_recall_33 rfl rfl ⟨rfl, rfl⟩
  · exact absurd zz6 (by decide)
set_option maxRecDepth 4000 in
theorem q_recall_0 {G : GI} {T : Hp} {m : Nat} {V : RVal} {g : Nat → Nat} {od : Nat → UInt64} (hs : RS T m)  (h24 : g 0 ≤ 24) (hb : WB g) {a : Nat} {Mk : Nat → Prop} (ha : a < g 0) (hw : PartW g) (hmk : MarkP g a Mk) : Fn m_X13_recall G [.ref (m), .int (nI (a))] (rput T m (sg V g) od) (some (.int (nI (recI g Mk (g 0))))) (rput T m (sg (mkV (up2 V 0 (6) (nI 0)) g Mk (g 0) 0) (g)) od) := by
  refine Cn.of rfl (by decide) (Nat.le_of_ble_eq_true rfl) (fun hN hM => ?_)
  show Wx _ G _ 0 [(0, .ref (m)), (1, .int (nI (a)))] [] _
  refine r_aload_n dX13_recall_0 rfl 0 rfl ?_
  refine r_aload_n dX13_recall_1 rfl 0 rfl ?_
  refine r_iload_n dX13_recall_2 rfl 1 rfl ?_
  refine r_fnV (M2 := m_X13_isLot) (As := [.int (nI (a))]) (rest := [.ref (m)]) (v := some (.int (nI (1)))) dX13_recall_3 cc_X13_recall_76 rfl rfl rfl (Nat.le_of_ble_eq_true rfl) hs.1 rfl rfl (by decide) (Fn.eq (g_isLot hs h24) (congrArg (fun x => some (Value.int x)) (bI_t (vp_in_nI (by omega) (by first | decide | omega)))) rfl) rfl ?_
  refine r_if_eqN (tgt := 13) dX13_recall_6 (by decide) (by omega) (fun zz6 => ?_) (fun zz6 => ?_)
  · exact absurd zz6 (by decide)
  · refine r_iconst (v := nI 0) dX13_recall_9 (by decide) ?_
    refine r_goto (tgt := 14) dX13_recall_10 (by decide) ?_
    refine o_put (k := 6) hs dX13_recall_14 fw_X13_recall_54 rfl rfl rfl ?_
    refine r_aload_n dX13_recall_17 rfl 0 rfl ?_
    refine o_get (k := 6) hs dX13_recall_18 fr_X13_54 rfl ?_
    refine Wx.top up2_s ?_
    refine r_if_leN (tgt := 28) dX13_recall_21 (by decide) (by omega) (fun zz21 => ?_) (fun zz21 => ?_)
    · refine r_aload_n dX13_recall_28 rfl 0 rfl ?_
      refine r_iload_n dX13_recall_29 rfl 1 rfl ?_
      refine r_fnV (M2 := m_X13_marks) (As := [.int (nI (a))]) (rest := []) (v := some (.int (nI (recI g Mk (g 0))))) dX13_recall_30 cc_X13_recall_286 rfl rfl rfl (Nat.le_of_ble_eq_true rfl) hs.1 rfl rfl (by decide) (g_marks hs h24 hb ha hw hmk) rfl ?_
      exact r_iret (ty := .int) dX13_recall_33 rfl rfl ⟨rfl, rfl⟩
    · exact absurd zz21 (by decide)
set_option maxRecDepth 4000 in
theorem q_recalled_1 {G : GI} {T : Hp} {m : Nat} {V : RVal} {g : Nat → Nat} {od : Nat → UInt64} (hs : RS T m)  (h24 : g 0 ≤ 24) {x y : Int32} (hx : ¬ vp_in x (g 0)) : Fn m_X13_recalled G [.ref (m), .int (x), .int (y)] (rput T m (sg V g) od) (some (.int (nI (0)))) (rput T m (sg (up2 V 0 (6) (nI 1)) (g)) od) := by
  refine Cn.of rfl (by decide) (Nat.le_of_ble_eq_true rfl) (fun hN hM => ?_)
  show Wx _ G _ 0 [(0, .ref (m)), (1, .int (x)), (2, .int (y))] [] _
  refine r_aload_n dX13_recalled_0 rfl 0 rfl ?_
  refine r_aload_n dX13_recalled_1 rfl 0 rfl ?_
  refine r_iload_n dX13_recalled_2 rfl 1 rfl ?_
  refine r_fnV (M2 := m_X13_isLot) (As := [.int (x)]) (rest := [.ref (m)]) (v := some (.int (nI (0)))) dX13_recalled_3 cc_X13_recalled_76 rfl rfl rfl (Nat.le_of_ble_eq_true rfl) hs.1 rfl rfl (by decide) (Fn.eq (g_isLot hs h24) (congrArg (fun x => some (Value.int x)) (bI_f hx)) rfl) rfl ?_
  refine r_if_eqN (tgt := 26) dX13_recalled_6 (by decide) (by omega) (fun zz6 => ?_) (fun zz6 => ?_)
  · refine r_iconst (v := nI 1) dX13_recalled_26 (by decide) ?_
    refine o_put (k := 6) hs dX13_recalled_27 fw_X13_recalled_54 rfl rfl rfl ?_
    refine r_aload_n dX13_recalled_30 rfl 0 rfl ?_
    refine o_get (k := 6) hs dX13_recalled_31 fr_X13_54 rfl ?_
    refine Wx.top up2_s ?_
    refine r_if_leN (tgt := 39) dX13_recalled_34 (by decide) (by omega) (fun zz34 => ?_) (fun zz34 => ?_)
    · exact absurd zz34 (by decide)
    · refine r_iconst (v := nI 0) dX13_recalled_37 (by decide) ?_
      exact r_iret (ty := .int) dX13_recalled_38 rfl rfl ⟨rfl, rfl⟩
  · exact absurd zz6 (by decide)
set_option maxRecDepth 4000 in
theorem q_recalled_2 {G : GI} {T : Hp} {m : Nat} {V : RVal} {g : Nat → Nat} {od : Nat → UInt64} (hs : RS T m)  (h24 : g 0 ≤ 24) {a : Nat} (ha : a < g 0) {y : Int32} (hy : ¬ vp_in y 5) : Fn m_X13_recalled G [.ref (m), .int (nI (a)), .int (y)] (rput T m (sg V g) od) (some (.int (nI (0)))) (rput T m (sg (up2 V 0 (6) (nI 2)) (g)) od) := by
  refine Cn.of rfl (by decide) (Nat.le_of_ble_eq_true rfl) (fun hN hM => ?_)
  show Wx _ G _ 0 [(0, .ref (m)), (1, .int (nI (a))), (2, .int (y))] [] _
  refine r_aload_n dX13_recalled_0 rfl 0 rfl ?_
  refine r_aload_n dX13_recalled_1 rfl 0 rfl ?_
  refine r_iload_n dX13_recalled_2 rfl 1 rfl ?_
  refine r_fnV (M2 := m_X13_isLot) (As := [.int (nI (a))]) (rest := [.ref (m)]) (v := some (.int (nI (1)))) dX13_recalled_3 cc_X13_recalled_76 rfl rfl rfl (Nat.le_of_ble_eq_true rfl) hs.1 rfl rfl (by decide) (Fn.eq (g_isLot hs h24) (congrArg (fun x => some (Value.int x)) (bI_t (vp_in_nI (by omega) (by first | decide | omega)))) rfl) rfl ?_
  refine r_if_eqN (tgt := 26) dX13_recalled_6 (by decide) (by omega) (fun zz6 => ?_) (fun zz6 => ?_)
  · exact absurd zz6 (by decide)
  · refine r_iload_n dX13_recalled_9 rfl 2 rfl ?_
    refine r_iconst (v := nI 0) dX13_recalled_10 (by decide) ?_
    refine r_iconst (v := nI 4) dX13_recalled_11 (by decide) ?_
    refine r_fnS (M2 := m_X13_in) (As := [.int (y), .int (nI (0)), .int (nI (4))]) (rest := [.ref (m)]) (v := some (.int (nI (0)))) dX13_recalled_12 cc_X13_recalled_68 rfl rfl rfl (Nat.le_of_ble_eq_true rfl) (Fn.eq (f_in0 (n := 4) (by decide)) (congrArg (fun x => some (Value.int x)) (bI_f hy)) rfl) rfl ?_
    refine r_if_eqN (tgt := 22) dX13_recalled_15 (by decide) (by omega) (fun zz15 => ?_) (fun zz15 => ?_)
    · refine r_iconst (v := nI 2) dX13_recalled_22 (by decide) ?_
      refine r_goto (tgt := 27) dX13_recalled_23 (by decide) ?_
      refine o_put (k := 6) hs dX13_recalled_27 fw_X13_recalled_54 rfl rfl rfl ?_
      refine r_aload_n dX13_recalled_30 rfl 0 rfl ?_
      refine o_get (k := 6) hs dX13_recalled_31 fr_X13_54 rfl ?_
      refine Wx.top up2_s ?_
      refine r_if_leN (tgt := 39) dX13_recalled_34 (by decide) (by omega) (fun zz34 => ?_) (fun zz34 => ?_)
      · exact absurd zz34 (by decide)
      · refine r_iconst (v := nI 0) dX13_recalled_37 (by decide) ?_
        exact r_iret (ty := .int) dX13_recalled_38 rfl rfl ⟨rfl, rfl⟩
    · exact absurd zz15 (by decide)
noncomputable def rclN (g : Nat → Nat) (Mk : Nat → Prop) (k l : Nat) : Nat := cnt (fun u => Mk (200 * l + u) ∧ sW (g (402 + 2 * (200 * l + u))) = k) (g (90 + 13 * l + 1))
set_option maxRecDepth 4000 in
theorem q_recalled_0 {G : GI} {T : Hp} {m : Nat} {V : RVal} {g : Nat → Nat} {od : Nat → UInt64} (hs : RS T m)  (h24 : g 0 ≤ 24) (hb : WB g) {a : Nat} {Mk : Nat → Prop} (ha : a < g 0) (hw : PartW g) (hmk : MarkP g a Mk) {k : Nat} (hk : k < 5) : Fn m_X13_recalled G [.ref (m), .int (nI (a)), .int (nI (k))] (rput T m (sg V g) od) (some (.int (nI (sumN (rclN g Mk k) (g 0))))) (rput T m (sg (mkV (up2 V 0 (6) (nI 0)) g Mk (g 0) 0) (g)) od) := by
  refine Cn.of rfl (by decide) (Nat.le_of_ble_eq_true rfl) (fun hN hM => ?_)
  show Wx _ G _ 0 [(0, .ref (m)), (1, .int (nI (a))), (2, .int (nI (k)))] [] _
  refine r_aload_n dX13_recalled_0 rfl 0 rfl ?_
  refine r_aload_n dX13_recalled_1 rfl 0 rfl ?_
  refine r_iload_n dX13_recalled_2 rfl 1 rfl ?_
  refine r_fnV (M2 := m_X13_isLot) (As := [.int (nI (a))]) (rest := [.ref (m)]) (v := some (.int (nI (1)))) dX13_recalled_3 cc_X13_recalled_76 rfl rfl rfl (Nat.le_of_ble_eq_true rfl) hs.1 rfl rfl (by decide) (Fn.eq (g_isLot hs h24) (congrArg (fun x => some (Value.int x)) (bI_t (vp_in_nI (by (first | omega | (have := hw l (by omega); omega) | (have := sW_lt (g (402 + 2 * (200 * l + u))); omega))) (by first | decide | omega)))) rfl) rfl ?_
  refine r_if_eqN (tgt := 26) dX13_recalled_6 (by decide) (by (first | omega | (have := hw l (by omega); omega) | (have := sW_lt (g (402 + 2 * (200 * l + u))); omega))) (fun zz6 => ?_) (fun zz6 => ?_)
  · exact absurd zz6 (by decide)
  · refine r_iload_n dX13_recalled_9 rfl 2 rfl ?_
    refine r_iconst (v := nI 0) dX13_recalled_10 (by decide) ?_
    refine r_iconst (v := nI 4) dX13_recalled_11 (by decide) ?_
    refine r_fnS (M2 := m_X13_in) (As := [.int (nI (k)), .int (nI (0)), .int (nI (4))]) (rest := [.ref (m)]) (v := some (.int (nI (1)))) dX13_recalled_12 cc_X13_recalled_68 rfl rfl rfl (Nat.le_of_ble_eq_true rfl) (Fn.eq (f_in0 (n := 4) (by decide)) (congrArg (fun x => some (Value.int x)) (bI_t (vp_in_nI (by (first | omega | (have := hw l (by omega); omega) | (have := sW_lt (g (402 + 2 * (200 * l + u))); omega))) (by decide)))) rfl) rfl ?_
    refine r_if_eqN (tgt := 22) dX13_recalled_15 (by decide) (by (first | omega | (have := hw l (by omega); omega) | (have := sW_lt (g (402 + 2 * (200 * l + u))); omega))) (fun zz15 => ?_) (fun zz15 => ?_)
    · exact absurd zz15 (by decide)
    · refine r_iconst (v := nI 0) dX13_recalled_18 (by decide) ?_
      refine r_goto (tgt := 27) dX13_recalled_19 (by decide) ?_
      refine o_put (k := 6) hs dX13_recalled_27 fw_X13_recalled_54 rfl rfl rfl ?_
      refine r_aload_n dX13_recalled_30 rfl 0 rfl ?_
      refine o_get (k := 6) hs dX13_recalled_31 fr_X13_54 rfl ?_
      refine Wx.top up2_s ?_
      refine r_if_leN (tgt := 39) dX13_recalled_34 (by decide) (by (first | omega | (have := hw l (by omega); omega) | (have := sW_lt (g (402 + 2 * (200 * l + u))); omega))) (fun zz34 => ?_) (fun zz34 => ?_)
      · refine r_aload_n dX13_recalled_39 rfl 0 rfl ?_
        refine r_iload_n dX13_recalled_40 rfl 1 rfl ?_
        refine r_fnV (M2 := m_X13_marks) (As := [.int (nI (a))]) (rest := []) (v := some (.int (nI (recI g Mk (g 0))))) dX13_recalled_41 cc_X13_recalled_286 rfl rfl rfl (Nat.le_of_ble_eq_true rfl) hs.1 rfl rfl (by decide) (g_marks hs h24 hb ha hw hmk) rfl ?_
        refine r_pop dX13_recalled_44 rfl ?_
        refine r_iconst (v := nI 0) dX13_recalled_45 (by decide) ?_
        refine r_istore_n (lv' := [(3, .int (nI (0))), (0, .ref (m)), (1, .int (nI (a))), (2, .int (nI (k)))]) dX13_recalled_46 rfl (by decide) rfl ?_
        refine r_iconst (v := nI 0) dX13_recalled_47 (by decide) ?_
        refine r_istore (lv' := [(4, .int (nI (0))), (3, .int (nI (0))), (0, .ref (m)), (1, .int (nI (a))), (2, .int (nI (k)))]) dX13_recalled_48 (by decide) rfl ?_
        refine Wx.sub [2, 3, 4, 1, 0] rfl ?_
        refine Wx.loop (fun l => rput T m (sg (mkV (up2 V 0 (6) (nI 0)) g Mk (g 0) 0) g) od) (fun l => [(0, .ref (m)), (1, .int (nI (a))), (2, .int (nI (k))), (3, .int (nI (sumN (rclN g Mk k) l))), (4, .int (nI (l)))]) (g 0) (0) (Nat.zero_le _) (fun l hge hle next => ?_)
        show Wx _ G (rput T m (sg (mkV (up2 V 0 (6) (nI 0)) g Mk (g 0) 0) g) od) 50 [(0, .ref (m)), (1, .int (nI (a))), (2, .int (nI (k))), (3, .int (nI (sumN (rclN g Mk k) l))), (4, .int (nI (l)))] [] _
        refine r_iload dX13_recalled_50 4 rfl ?_
        refine r_aload_n dX13_recalled_52 rfl 0 rfl ?_
        refine m_ref (k := 0) (j := 1) hs hs.2.1.1 dX13_recalled_53 fr_X13_7 rfl ?_
        refine r_iconst (v := nI 0) dX13_recalled_56 (by decide) ?_
        refine g_iald (i := 0) hs dX13_recalled_57 (by (first | omega | (have := hw l (by omega); omega) | (have := sW_lt (g (402 + 2 * (200 * l + u))); omega))) ?_
        refine r_icmp_geN (tgt := 124) dX13_recalled_58 (by decide) (by (first | omega | (have := hw l (by omega); omega) | (have := sW_lt (g (402 + 2 * (200 * l + u))); omega))) (by (first | omega | (have := hw l (by omega); omega) | (have := sW_lt (g (402 + 2 * (200 * l + u))); omega))) (fun h58 => ?_) (fun h58 => ?_)
        · refine r_iload_n dX13_recalled_124 rfl 3 rfl ?_
          obtain rfl : l = g 0 := by omega
          exact r_iret (ty := .int) dX13_recalled_125 rfl rfl ⟨rfl, rfl⟩
        · refine r_iconst (v := nI 0) dX13_recalled_61 (by decide) ?_
          refine r_istore (lv' := [(5, .int (nI (0))), (0, .ref (m)), (1, .int (nI (a))), (2, .int (nI (k))), (3, .int (nI (sumN (rclN g Mk k) l))), (4, .int (nI (l)))]) dX13_recalled_62 (by decide) rfl ?_
          refine Wx.sub [1, 2, 3, 4, 5, 0] rfl ?_
          refine Wx.loop (fun u => rput T m (sg (mkV (up2 V 0 (6) (nI 0)) g Mk (g 0) 0) g) od) (fun u => [(0, .ref (m)), (1, .int (nI (a))), (2, .int (nI (k))), (3, .int (nI (sumN (rclN g Mk k) l + cnt (fun u => Mk (200 * l + u) ∧ sW (g (402 + 2 * (200 * l + u))) = k) u))), (4, .int (nI (l))), (5, .int (nI (u)))]) (g (90 + 13 * l + 1)) (0) (Nat.zero_le _) (fun u hge_1 hle_1 next_1 => ?_)
          show Wx _ G (rput T m (sg (mkV (up2 V 0 (6) (nI 0)) g Mk (g 0) 0) g) od) 64 [(0, .ref (m)), (1, .int (nI (a))), (2, .int (nI (k))), (3, .int (nI (sumN (rclN g Mk k) l + cnt (fun u => Mk (200 * l + u) ∧ sW (g (402 + 2 * (200 * l + u))) = k) u))), (4, .int (nI (l))), (5, .int (nI (u)))] [] _
          refine r_iload dX13_recalled_64 5 rfl ?_
          refine r_aload_n dX13_recalled_66 rfl 0 rfl ?_
          refine r_iload dX13_recalled_67 4 rfl ?_
          refine r_fnV (M2 := m_X13_size) (As := [.int (nI (l))]) (rest := [.int (nI (u))]) (v := some (.int (nI (g (90 + 13 * l + 1))))) dX13_recalled_69 cc_X13_recalled_80 rfl rfl rfl (Nat.le_of_ble_eq_true rfl) hs.1 rfl rfl (by decide) (g_size hs (by (first | omega | (have := hw l (by omega); omega) | (have := sW_lt (g (402 + 2 * (200 * l + u))); omega)))) rfl ?_
          refine r_icmp_geN (tgt := 118) dX13_recalled_72 (by decide) (by (first | omega | (have := hw l (by omega); omega) | (have := sW_lt (g (402 + 2 * (200 * l + u))); omega))) (by (first | omega | (have := hw l (by omega); omega) | (have := sW_lt (g (402 + 2 * (200 * l + u))); omega))) (fun h72 => ?_) (fun h72 => ?_)
          · refine r_iincN (k := 1) (lv' := [(4, .int (nI (l + 1))), (0, .ref (m)), (1, .int (nI (a))), (2, .int (nI (k))), (3, .int (nI (sumN (rclN g Mk k) l + cnt (fun u => Mk (200 * l + u) ∧ sW (g (402 + 2 * (200 * l + u))) = k) u))), (5, .int (nI (u)))]) dX13_recalled_118 (by decide) 4 rfl (by decide) rfl ?_
            refine r_goto (tgt := 50) dX13_recalled_121 (by decide) ?_
            refine Wx.sub [1, 2, 3, 4, 0] rfl ?_
            obtain rfl : u = g (90 + 13 * l + 1) := by omega
            exact next (by omega)
          · refine r_iload_n dX13_recalled_75 rfl 3 rfl ?_
            refine r_aload_n dX13_recalled_76 rfl 0 rfl ?_
            refine m_ref (k := 11) (j := 7) hs hs.2.1.2.2.2.2.2.2.1 dX13_recalled_77 fr_X13_31 rfl ?_
            refine r_sipush (v := nI 200) dX13_recalled_80 (by decide) ?_
            refine r_iload dX13_recalled_83 4 rfl ?_
            refine r_imulN dX13_recalled_85 ?_
            refine r_iload dX13_recalled_86 5 rfl ?_
            refine r_iaddN dX13_recalled_88 ?_
            refine o_zald (j := 7) (n := 4800) (i := 200 * l + u) (by decide) hs rw7 dX13_recalled_89 (by (first | omega | (have := hw l (by omega); omega) | (have := sW_lt (g (402 + 2 * (200 * l + u))); omega))) (by decide) ?_
            refine Wx.top (mkV_r (l := g 0) (by omega) (by omega) (by have := hw l (by omega); omega)) ?_
            refine r_if_eqB (tgt := 109) dX13_recalled_90 (by decide) (fun h90 => ?_) (fun h90 => ?_)
            · refine r_iconst (v := nI 0) dX13_recalled_109 (by decide) ?_
              refine r_iaddN dX13_recalled_110 ?_
              refine r_istore_n (lv' := [(3, .int (nI (sumN (rclN g Mk k) l + cnt (fun u => Mk (200 * l + u) ∧ sW (g (402 + 2 * (200 * l + u))) = k) u + 0))), (0, .ref (m)), (1, .int (nI (a))), (2, .int (nI (k))), (4, .int (nI (l))), (5, .int (nI (u)))]) dX13_recalled_111 rfl (by decide) rfl ?_
              refine r_iincN (k := 1) (lv' := [(5, .int (nI (u + 1))), (3, .int (nI (sumN (rclN g Mk k) l + cnt (fun u => Mk (200 * l + u) ∧ sW (g (402 + 2 * (200 * l + u))) = k) u + 0))), (0, .ref (m)), (1, .int (nI (a))), (2, .int (nI (k))), (4, .int (nI (l)))]) dX13_recalled_112 (by decide) 5 rfl (by decide) rfl ?_
              refine r_goto (tgt := 64) dX13_recalled_115 (by decide) ?_
              refine Wx.sub [2, 3, 4, 1, 5, 0] rfl ?_
              have n2 := next_1 (by omega)
              rw [cnt_f (p := fun u => Mk (200 * l + u) ∧ sW (g (402 + 2 * (200 * l + u))) = k) (fun q => h90 q.1)] at n2
              exact n2
            · refine r_aload_n dX13_recalled_93 rfl 0 rfl ?_
              refine r_iload dX13_recalled_94 4 rfl ?_
              refine r_iload dX13_recalled_96 5 rfl ?_
              refine r_fnV (M2 := m_X13_state) (As := [.int (nI (l)), .int (nI (u))]) (rest := [.int (nI (sumN (rclN g Mk k) l + cnt (fun u => Mk (200 * l + u) ∧ sW (g (402 + 2 * (200 * l + u))) = k) u))]) (v := some (.int (nI (sW (g (402 + 2 * (200 * l + u))))))) dX13_recalled_98 cc_X13_recalled_93 rfl rfl rfl (Nat.le_of_ble_eq_true rfl) hs.1 rfl rfl (by decide) (g_state hs hb (by (first | omega | (have := hw l (by omega); omega) | (have := sW_lt (g (402 + 2 * (200 * l + u))); omega))) (by (first | omega | (have := hw l (by omega); omega) | (have := sW_lt (g (402 + 2 * (200 * l + u))); omega)))) rfl ?_
              refine r_iload_n dX13_recalled_101 rfl 2 rfl ?_
              refine r_icmp_neN (tgt := 109) dX13_recalled_102 (by decide) (by (first | omega | (have := hw l (by omega); omega) | (have := sW_lt (g (402 + 2 * (200 * l + u))); omega))) (by (first | omega | (have := hw l (by omega); omega) | (have := sW_lt (g (402 + 2 * (200 * l + u))); omega))) (fun h102 => ?_) (fun h102 => ?_)
              · refine r_iconst (v := nI 0) dX13_recalled_109 (by decide) ?_
                refine r_iaddN dX13_recalled_110 ?_
                refine r_istore_n (lv' := [(3, .int (nI (sumN (rclN g Mk k) l + cnt (fun u => Mk (200 * l + u) ∧ sW (g (402 + 2 * (200 * l + u))) = k) u + 0))), (0, .ref (m)), (1, .int (nI (a))), (2, .int (nI (k))), (4, .int (nI (l))), (5, .int (nI (u)))]) dX13_recalled_111 rfl (by decide) rfl ?_
                refine r_iincN (k := 1) (lv' := [(5, .int (nI (u + 1))), (3, .int (nI (sumN (rclN g Mk k) l + cnt (fun u => Mk (200 * l + u) ∧ sW (g (402 + 2 * (200 * l + u))) = k) u + 0))), (0, .ref (m)), (1, .int (nI (a))), (2, .int (nI (k))), (4, .int (nI (l)))]) dX13_recalled_112 (by decide) 5 rfl (by decide) rfl ?_
                refine r_goto (tgt := 64) dX13_recalled_115 (by decide) ?_
                refine Wx.sub [2, 3, 4, 1, 5, 0] rfl ?_
                have n2 := next_1 (by omega)
                rw [cnt_f (p := fun u => Mk (200 * l + u) ∧ sW (g (402 + 2 * (200 * l + u))) = k) (fun q => h102 q.2)] at n2
                exact n2
              · refine r_iconst (v := nI 1) dX13_recalled_105 (by decide) ?_
                refine r_goto (tgt := 110) dX13_recalled_106 (by decide) ?_
                refine r_iaddN dX13_recalled_110 ?_
                refine r_istore_n (lv' := [(3, .int (nI (sumN (rclN g Mk k) l + cnt (fun u => Mk (200 * l + u) ∧ sW (g (402 + 2 * (200 * l + u))) = k) u + 1))), (0, .ref (m)), (1, .int (nI (a))), (2, .int (nI (k))), (4, .int (nI (l))), (5, .int (nI (u)))]) dX13_recalled_111 rfl (by decide) rfl ?_
                refine r_iincN (k := 1) (lv' := [(5, .int (nI (u + 1))), (3, .int (nI (sumN (rclN g Mk k) l + cnt (fun u => Mk (200 * l + u) ∧ sW (g (402 + 2 * (200 * l + u))) = k) u + 1))), (0, .ref (m)), (1, .int (nI (a))), (2, .int (nI (k))), (4, .int (nI (l)))]) dX13_recalled_112 (by decide) 5 rfl (by decide) rfl ?_
                refine r_goto (tgt := 64) dX13_recalled_115 (by decide) ?_
                refine Wx.sub [2, 3, 4, 1, 5, 0] rfl ?_
                have n2 := next_1 (by omega)
                rw [cnt_t (p := fun u => Mk (200 * l + u) ∧ sW (g (402 + 2 * (200 * l + u))) = k) ⟨h90, h102⟩] at n2
                exact n2
      · exact absurd zz34 (by decide)
