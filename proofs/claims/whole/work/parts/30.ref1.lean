theorem rw1 : rowI 1 10002 := Or.inl ⟨rfl, rfl⟩
theorem rw2 : rowI 2 10002 := Or.inr (Or.inl ⟨rfl, rfl⟩)
theorem rw3 : rowI 3 10002 := Or.inr (Or.inr (Or.inl ⟨rfl, rfl⟩))
theorem rw4 : rowI 4 80016 := Or.inr (Or.inr (Or.inr (Or.inl ⟨rfl, rfl⟩)))
theorem rw8 : rowI 8 88 := Or.inr (Or.inr (Or.inr (Or.inr (Or.inl ⟨rfl, rfl⟩))))
theorem rw9 : rowI 9 60 := Or.inr (Or.inr (Or.inr (Or.inr (Or.inr (Or.inl ⟨rfl, rfl⟩)))))
theorem rw10 : rowI 10 160 := Or.inr (Or.inr (Or.inr (Or.inr (Or.inr (Or.inr (⟨rfl, rfl⟩))))))
theorem rw5 : rowZ 5 200 := Or.inl ⟨rfl, rfl⟩
theorem rw7 : rowZ 7 4800 := Or.inr ⟨rfl, rfl⟩
set_option maxRecDepth 4000 in
theorem f_at {G : GI} {S : Hp} {l w : Nat} : Fn m_X13_at G [.int (nI l), .int (nI w)] S (some (.int (nI (90 + 13 * l + w)))) S := by
  refine Cn.of rfl (by decide) (Nat.le_of_ble_eq_true rfl) (fun hN hM => ?_)
  show Wx _ G _ 0 [(0, .int (nI (l))), (1, .int (nI (w)))] [] _
  refine r_bipush (v := nI 90) dX13_at_0 (by decide) ?_
  refine r_bipush (v := nI 13) dX13_at_2 (by decide) ?_
  refine r_iload_n dX13_at_4 rfl 0 rfl ?_
  refine r_imulN dX13_at_5 ?_
  refine r_iaddN dX13_at_6 ?_
  refine r_iload_n dX13_at_7 rfl 1 rfl ?_
  refine r_iaddN dX13_at_8 ?_
  exact r_iret (ty := .int) dX13_at_9 rfl rfl ⟨rfl, rfl⟩
set_option maxRecDepth 4000 in
theorem f_spot {G : GI} {S : Hp} {l u : Nat} : Fn m_X13_spot G [.int (nI l), .int (nI u)] S (some (.int (nI (402 + 2 * (200 * l + u))))) S := by
  refine Cn.of rfl (by decide) (Nat.le_of_ble_eq_true rfl) (fun hN hM => ?_)
  show Wx _ G _ 0 [(0, .int (nI (l))), (1, .int (nI (u)))] [] _
  refine r_sipush (v := nI 402) dX13_spot_0 (by decide) ?_
  refine r_iconst (v := nI 2) dX13_spot_3 (by decide) ?_
  refine r_sipush (v := nI 200) dX13_spot_4 (by decide) ?_
  refine r_iload_n dX13_spot_7 rfl 0 rfl ?_
  refine r_imulN dX13_spot_8 ?_
  refine r_iload_n dX13_spot_9 rfl 1 rfl ?_
  refine r_iaddN dX13_spot_10 ?_
  refine r_imulN dX13_spot_11 ?_
  refine r_iaddN dX13_spot_12 ?_
  exact r_iret (ty := .int) dX13_spot_13 rfl rfl ⟨rfl, rfl⟩
set_option maxRecDepth 4000 in
theorem f_in {G : GI} {S : Hp} {v lo hi : Int32} : Fn m_X13_in G [.int v, .int lo, .int hi] S (some (.int (bI (lo ≤ v ∧ v ≤ hi)))) S := by
  refine Cn.of rfl (by decide) (Nat.le_of_ble_eq_true rfl) (fun hN hM => ?_)
  show Wx _ G _ 0 [(0, .int (v)), (1, .int (lo)), (2, .int (hi))] [] _
  refine r_iload_n dX13_in_0 rfl 0 rfl ?_
  refine r_iload_n dX13_in_1 rfl 1 rfl ?_
  refine r_icmp_lt (tgt := 14) dX13_in_2 (by decide) (fun h2 => ?_) (fun h2 => ?_)
  · refine r_iconst (v := nI 0) dX13_in_14 (by decide) ?_
    exact r_iret (ty := .boolean) dX13_in_15 rfl (by decide) ⟨by rw [bI_f (fun q => absurd h2 (Int32.not_lt.mpr q.1))], rfl⟩
  · refine r_iload_n dX13_in_5 rfl 0 rfl ?_
    refine r_iload_n dX13_in_6 rfl 2 rfl ?_
    refine r_icmp_gt (tgt := 14) dX13_in_7 (by decide) (fun h7 => ?_) (fun h7 => ?_)
    · refine r_iconst (v := nI 0) dX13_in_14 (by decide) ?_
      exact r_iret (ty := .boolean) dX13_in_15 rfl (by decide) ⟨by rw [bI_f (fun q => absurd h7 (Int32.not_lt.mpr q.2))], rfl⟩
    · refine r_iconst (v := nI 1) dX13_in_10 (by decide) ?_
      refine r_goto (tgt := 15) dX13_in_11 (by decide) ?_
      exact r_iret (ty := .boolean) dX13_in_15 rfl (by decide) ⟨by rw [bI_t ⟨Int32.not_lt.mp h2, Int32.not_lt.mp h7⟩], rfl⟩
theorem f_in0 {G : GI} {S : Hp} {v : Int32} {n : Nat} (hn : n + 1 < 2 ^ 31) : Fn m_X13_in G [.int v, .int (nI 0), .int (nI n)] S (some (.int (bI (vp_in v (n + 1))))) S := Fn.eq f_in (by rw [bI_iff (inR_le hn)]) rfl
set_option maxRecDepth 4000 in
theorem f_isMachine {G : GI} {S : Hp} {x : Int32} : Fn m_X13_isMachine G [.int x] S (some (.int (bI (vp_in x 6)))) S := by
  refine Cn.of rfl (by decide) (Nat.le_of_ble_eq_true rfl) (fun hN hM => ?_)
  show Wx _ G _ 0 [(0, .int (x))] [] _
  refine r_iload_n dX13_isMachine_0 rfl 0 rfl ?_
  refine r_iconst (v := nI 0) dX13_isMachine_1 (by decide) ?_
  refine r_iconst (v := nI 5) dX13_isMachine_2 (by decide) ?_
  refine r_fnS (M2 := m_X13_in) (As := [.int (x), .int (nI (0)), .int (nI (5))]) (rest := []) (v := some (.int (bI (vp_in (x) 6)))) dX13_isMachine_3 cc_X13_isMachine_68 rfl rfl rfl (Nat.le_of_ble_eq_true rfl) (f_in0 (n := 5) (by decide)) rfl ?_
  exact r_iret (ty := .boolean) dX13_isMachine_6 rfl bI_nar ⟨congrArg (fun x => Sum.inl (some (Value.int x))) (rfl), rfl⟩
set_option maxRecDepth 4000 in
theorem f_isProduct {G : GI} {S : Hp} {x : Int32} : Fn m_X13_isProduct G [.int x] S (some (.int (bI (vp_in x 4)))) S := by
  refine Cn.of rfl (by decide) (Nat.le_of_ble_eq_true rfl) (fun hN hM => ?_)
  show Wx _ G _ 0 [(0, .int (x))] [] _
  refine r_iload_n dX13_isProduct_0 rfl 0 rfl ?_
  refine r_iconst (v := nI 0) dX13_isProduct_1 (by decide) ?_
  refine r_iconst (v := nI 3) dX13_isProduct_2 (by decide) ?_
  refine r_fnS (M2 := m_X13_in) (As := [.int (x), .int (nI (0)), .int (nI (3))]) (rest := []) (v := some (.int (bI (vp_in (x) 4)))) dX13_isProduct_3 cc_X13_isProduct_68 rfl rfl rfl (Nat.le_of_ble_eq_true rfl) (f_in0 (n := 3) (by decide)) rfl ?_
  exact r_iret (ty := .boolean) dX13_isProduct_6 rfl bI_nar ⟨congrArg (fun x => Sum.inl (some (Value.int x))) (rfl), rfl⟩
set_option maxRecDepth 4000 in
theorem f_isDrawer {G : GI} {S : Hp} {x : Int32} : Fn m_X13_isDrawer G [.int x] S (some (.int (bI (vp_in x 4)))) S := by
  refine Cn.of rfl (by decide) (Nat.le_of_ble_eq_true rfl) (fun hN hM => ?_)
  show Wx _ G _ 0 [(0, .int (x))] [] _
  refine r_iload_n dX13_isDrawer_0 rfl 0 rfl ?_
  refine r_iconst (v := nI 0) dX13_isDrawer_1 (by decide) ?_
  refine r_iconst (v := nI 3) dX13_isDrawer_2 (by decide) ?_
  refine r_fnS (M2 := m_X13_in) (As := [.int (x), .int (nI (0)), .int (nI (3))]) (rest := []) (v := some (.int (bI (vp_in (x) 4)))) dX13_isDrawer_3 cc_X13_isDrawer_68 rfl rfl rfl (Nat.le_of_ble_eq_true rfl) (f_in0 (n := 3) (by decide)) rfl ?_
  exact r_iret (ty := .boolean) dX13_isDrawer_6 rfl bI_nar ⟨congrArg (fun x => Sum.inl (some (Value.int x))) (rfl), rfl⟩
set_option maxRecDepth 4000 in
theorem f_size {G : GI} {T : Hp} {m : Nat} {V : RVal} {od : Nat → UInt64} (hs : RS T m) {l s : Nat} (hl : l < 24) (hz : V 1 (90 + 13 * l + 1) = nI s) : Fn m_X13_size G [.ref (m), .int (nI (l))] (rput T m V od) (some (.int (nI (s)))) (rput T m V od) := by
  refine Cn.of rfl (by decide) (Nat.le_of_ble_eq_true rfl) (fun hN hM => ?_)
  show Wx _ G _ 0 [(0, .ref (m)), (1, .int (nI (l)))] [] _
  refine r_aload_n dX13_size_0 rfl 0 rfl ?_
  refine m_ref (k := 0) (j := 1) hs hs.2.1.1 dX13_size_1 fr_X13_7 rfl ?_
  refine r_iload_n dX13_size_4 rfl 1 rfl ?_
  refine r_iconst (v := nI 1) dX13_size_5 (by decide) ?_
  refine r_fnS (M2 := m_X13_at) (As := [.int (nI (l)), .int (nI (1))]) (rest := [.ref (m + 1)]) (v := some (.int (nI (90 + 13 * l + 1)))) dX13_size_6 cc_X13_size_72 rfl rfl rfl (Nat.le_of_ble_eq_true rfl) f_at rfl ?_
  refine m_iald (j := 1) (n := 10002) (i := 90 + 13 * l + 1) hs rw1 dX13_size_9 (by omega) (by decide) ?_
  refine Wx.top hz ?_
  exact r_iret (ty := .int) dX13_size_10 rfl rfl ⟨rfl, rfl⟩
set_option maxRecDepth 4000 in
theorem f_productOf {G : GI} {T : Hp} {m : Nat} {V : RVal} {od : Nat → UInt64} (hs : RS T m) {l p : Nat} (hl : l < 24) (hp : V 1 (90 + 13 * l + 0) = nI p) : Fn m_X13_productOf G [.ref (m), .int (nI (l))] (rput T m V od) (some (.int (nI (22 + 10 * p)))) (rput T m V od) := by
  refine Cn.of rfl (by decide) (Nat.le_of_ble_eq_true rfl) (fun hN hM => ?_)
  show Wx _ G _ 0 [(0, .ref (m)), (1, .int (nI (l)))] [] _
  refine r_bipush (v := nI 22) dX13_productOf_0 (by decide) ?_
  refine r_bipush (v := nI 10) dX13_productOf_2 (by decide) ?_
  refine r_aload_n dX13_productOf_4 rfl 0 rfl ?_
  refine m_ref (k := 0) (j := 1) hs hs.2.1.1 dX13_productOf_5 fr_X13_7 rfl ?_
  refine r_iload_n dX13_productOf_8 rfl 1 rfl ?_
  refine r_iconst (v := nI 0) dX13_productOf_9 (by decide) ?_
  refine r_fnS (M2 := m_X13_at) (As := [.int (nI (l)), .int (nI (0))]) (rest := [.ref (m + 1), .int (nI (10)), .int (nI (22))]) (v := some (.int (nI (90 + 13 * l + 0)))) dX13_productOf_10 cc_X13_productOf_72 rfl rfl rfl (Nat.le_of_ble_eq_true rfl) f_at rfl ?_
  refine m_iald (j := 1) (n := 10002) (i := 90 + 13 * l + 0) hs rw1 dX13_productOf_13 (by omega) (by decide) ?_
  refine Wx.top hp ?_
  refine r_imulN dX13_productOf_14 ?_
  refine r_iaddN dX13_productOf_15 ?_
  exact r_iret (ty := .int) dX13_productOf_16 rfl rfl ⟨rfl, rfl⟩
set_option maxRecDepth 4000 in
theorem f_defects {G : GI} {T : Hp} {m : Nat} {V : RVal} {od : Nat → UInt64} (hs : RS T m) {l u : Nat} (hl : l < 24) (hu : u < 200) : Fn m_X13_defects G [.ref (m), .int (nI (l)), .int (nI (u))] (rput T m V od) (some (.int (wD (V 1 (402 + 2 * (200 * l + u)))))) (rput T m V od) := by
  refine Cn.of rfl (by decide) (Nat.le_of_ble_eq_true rfl) (fun hN hM => ?_)
  show Wx _ G _ 0 [(0, .ref (m)), (1, .int (nI (l))), (2, .int (nI (u)))] [] _
  refine r_aload_n dX13_defects_0 rfl 0 rfl ?_
  refine m_ref (k := 0) (j := 1) hs hs.2.1.1 dX13_defects_1 fr_X13_7 rfl ?_
  refine r_iload_n dX13_defects_4 rfl 1 rfl ?_
  refine r_iload_n dX13_defects_5 rfl 2 rfl ?_
  refine r_fnS (M2 := m_X13_spot) (As := [.int (nI (l)), .int (nI (u))]) (rest := [.ref (m + 1)]) (v := some (.int (nI (402 + 2 * (200 * l + u))))) dX13_defects_6 cc_X13_defects_84 rfl rfl rfl (Nat.le_of_ble_eq_true rfl) f_spot rfl ?_
  refine m_iald (j := 1) (n := 10002) (i := 402 + 2 * (200 * l + u)) hs rw1 dX13_defects_9 (by omega) (by decide) ?_
  refine r_bipush (v := nI 15) dX13_defects_10 (by decide) ?_
  refine r_iand dX13_defects_12 ?_
  exact r_iret (ty := .int) dX13_defects_13 rfl rfl ⟨rfl, rfl⟩
set_option maxRecDepth 4000 in
theorem f_repairs {G : GI} {T : Hp} {m : Nat} {V : RVal} {od : Nat → UInt64} (hs : RS T m) {l u : Nat} (hl : l < 24) (hu : u < 200) : Fn m_X13_repairs G [.ref (m), .int (nI (l)), .int (nI (u))] (rput T m V od) (some (.int (wR (V 1 (402 + 2 * (200 * l + u)))))) (rput T m V od) := by
  refine Cn.of rfl (by decide) (Nat.le_of_ble_eq_true rfl) (fun hN hM => ?_)
  show Wx _ G _ 0 [(0, .ref (m)), (1, .int (nI (l))), (2, .int (nI (u)))] [] _
  refine r_aload_n dX13_repairs_0 rfl 0 rfl ?_
  refine m_ref (k := 0) (j := 1) hs hs.2.1.1 dX13_repairs_1 fr_X13_7 rfl ?_
  refine r_iload_n dX13_repairs_4 rfl 1 rfl ?_
  refine r_iload_n dX13_repairs_5 rfl 2 rfl ?_
  refine r_fnS (M2 := m_X13_spot) (As := [.int (nI (l)), .int (nI (u))]) (rest := [.ref (m + 1)]) (v := some (.int (nI (402 + 2 * (200 * l + u))))) dX13_repairs_6 cc_X13_repairs_84 rfl rfl rfl (Nat.le_of_ble_eq_true rfl) f_spot rfl ?_
  refine m_iald (j := 1) (n := 10002) (i := 402 + 2 * (200 * l + u)) hs rw1 dX13_repairs_9 (by omega) (by decide) ?_
  refine r_iconst (v := nI 4) dX13_repairs_10 (by decide) ?_
  refine r_ishr dX13_repairs_11 ?_
  refine r_iconst (v := nI 3) dX13_repairs_12 (by decide) ?_
  refine r_iand dX13_repairs_13 ?_
  exact r_iret (ty := .int) dX13_repairs_14 rfl rfl ⟨rfl, rfl⟩
set_option maxRecDepth 4000 in
theorem f_state {G : GI} {T : Hp} {m : Nat} {V : RVal} {od : Nat → UInt64} (hs : RS T m) {l u : Nat} (hl : l < 24) (hu : u < 200) : Fn m_X13_state G [.ref (m), .int (nI (l)), .int (nI (u))] (rput T m V od) (some (.int (wS (V 1 (402 + 2 * (200 * l + u)))))) (rput T m V od) := by
  refine Cn.of rfl (by decide) (Nat.le_of_ble_eq_true rfl) (fun hN hM => ?_)
  show Wx _ G _ 0 [(0, .ref (m)), (1, .int (nI (l))), (2, .int (nI (u)))] [] _
  refine r_aload_n dX13_state_0 rfl 0 rfl ?_
  refine m_ref (k := 0) (j := 1) hs hs.2.1.1 dX13_state_1 fr_X13_7 rfl ?_
  refine r_iload_n dX13_state_4 rfl 1 rfl ?_
  refine r_iload_n dX13_state_5 rfl 2 rfl ?_
  refine r_fnS (M2 := m_X13_spot) (As := [.int (nI (l)), .int (nI (u))]) (rest := [.ref (m + 1)]) (v := some (.int (nI (402 + 2 * (200 * l + u))))) dX13_state_6 cc_X13_state_84 rfl rfl rfl (Nat.le_of_ble_eq_true rfl) f_spot rfl ?_
  refine m_iald (j := 1) (n := 10002) (i := 402 + 2 * (200 * l + u)) hs rw1 dX13_state_9 (by omega) (by decide) ?_
  refine r_bipush (v := nI 6) dX13_state_10 (by decide) ?_
  refine r_ishr dX13_state_12 ?_
  refine r_bipush (v := nI 7) dX13_state_13 (by decide) ?_
  refine r_iand dX13_state_15 ?_
  exact r_iret (ty := .int) dX13_state_16 rfl rfl ⟨rfl, rfl⟩
set_option maxRecDepth 4000 in
theorem f_way {G : GI} {T : Hp} {m : Nat} {V : RVal} {od : Nat → UInt64} (hs : RS T m) {l u : Nat} (hl : l < 24) (hu : u < 200) {k : Nat} : Fn m_X13_way G [.ref (m), .int (nI (l)), .int (nI (u)), .int (nI (k))] (rput T m V od) (some (.int (wY (V 1 (402 + 2 * (200 * l + u))) k))) (rput T m V od) := by
  refine Cn.of rfl (by decide) (Nat.le_of_ble_eq_true rfl) (fun hN hM => ?_)
  show Wx _ G _ 0 [(0, .ref (m)), (1, .int (nI (l))), (2, .int (nI (u))), (3, .int (nI (k)))] [] _
  refine r_aload_n dX13_way_0 rfl 0 rfl ?_
  refine m_ref (k := 0) (j := 1) hs hs.2.1.1 dX13_way_1 fr_X13_7 rfl ?_
  refine r_iload_n dX13_way_4 rfl 1 rfl ?_
  refine r_iload_n dX13_way_5 rfl 2 rfl ?_
  refine r_fnS (M2 := m_X13_spot) (As := [.int (nI (l)), .int (nI (u))]) (rest := [.ref (m + 1)]) (v := some (.int (nI (402 + 2 * (200 * l + u))))) dX13_way_6 cc_X13_way_84 rfl rfl rfl (Nat.le_of_ble_eq_true rfl) f_spot rfl ?_
  refine m_iald (j := 1) (n := 10002) (i := 402 + 2 * (200 * l + u)) hs rw1 dX13_way_9 (by omega) (by decide) ?_
  refine r_bipush (v := nI 10) dX13_way_10 (by decide) ?_
  refine r_iconst (v := nI 2) dX13_way_12 (by decide) ?_
  refine r_iload_n dX13_way_13 rfl 3 rfl ?_
  refine r_imulN dX13_way_14 ?_
  refine r_iaddN dX13_way_15 ?_
  refine r_ishr dX13_way_16 ?_
  refine r_iconst (v := nI 3) dX13_way_17 (by decide) ?_
  refine r_iand dX13_way_18 ?_
  exact r_iret (ty := .int) dX13_way_19 rfl rfl ⟨rfl, rfl⟩
set_option maxRecDepth 4000 in
theorem f_partUnit {G : GI} {T : Hp} {m : Nat} {V : RVal} {od : Nat → UInt64} (hs : RS T m) {l u : Nat} (hl : l < 24) (hu : u < 200) {k : Nat} : Fn m_X13_partUnit G [.ref (m), .int (nI (l)), .int (nI (u)), .int (nI (k))] (rput T m V od) (some (.int (wP (V 1 (402 + 2 * (200 * l + u) + 1)) k))) (rput T m V od) := by
  refine Cn.of rfl (by decide) (Nat.le_of_ble_eq_true rfl) (fun hN hM => ?_)
  show Wx _ G _ 0 [(0, .ref (m)), (1, .int (nI (l))), (2, .int (nI (u))), (3, .int (nI (k)))] [] _
  refine r_aload_n dX13_partUnit_0 rfl 0 rfl ?_
  refine m_ref (k := 0) (j := 1) hs hs.2.1.1 dX13_partUnit_1 fr_X13_7 rfl ?_
  refine r_iload_n dX13_partUnit_4 rfl 1 rfl ?_
  refine r_iload_n dX13_partUnit_5 rfl 2 rfl ?_
  refine r_fnS (M2 := m_X13_spot) (As := [.int (nI (l)), .int (nI (u))]) (rest := [.ref (m + 1)]) (v := some (.int (nI (402 + 2 * (200 * l + u))))) dX13_partUnit_6 cc_X13_partUnit_84 rfl rfl rfl (Nat.le_of_ble_eq_true rfl) f_spot rfl ?_
  refine r_iconst (v := nI 1) dX13_partUnit_9 (by decide) ?_
  refine r_iaddN dX13_partUnit_10 ?_
  refine m_iald (j := 1) (n := 10002) (i := 402 + 2 * (200 * l + u) + 1) hs rw1 dX13_partUnit_11 (by omega) (by decide) ?_
  refine r_bipush (v := nI 8) dX13_partUnit_12 (by decide) ?_
  refine r_iload_n dX13_partUnit_14 rfl 3 rfl ?_
  refine r_imulN dX13_partUnit_15 ?_
  refine r_ishr dX13_partUnit_16 ?_
  refine r_sipush (v := nI 255) dX13_partUnit_17 (by decide) ?_
  refine r_iand dX13_partUnit_20 ?_
  exact r_iret (ty := .int) dX13_partUnit_21 rfl rfl ⟨rfl, rfl⟩
set_option maxRecDepth 4000 in
theorem f_part {G : GI} {T : Hp} {m : Nat} {V : RVal} {od : Nat → UInt64} (hs : RS T m) {l k : Nat} (hl : l < 24) (hk : k < 3) : Fn m_X13_part G [.ref (m), .int (nI (l)), .int (nI (k))] (rput T m V od) (some (.int (V 1 (90 + 13 * l + (10 + k))))) (rput T m V od) := by
  refine Cn.of rfl (by decide) (Nat.le_of_ble_eq_true rfl) (fun hN hM => ?_)
  show Wx _ G _ 0 [(0, .ref (m)), (1, .int (nI (l))), (2, .int (nI (k)))] [] _
  refine r_aload_n dX13_part_0 rfl 0 rfl ?_
  refine m_ref (k := 0) (j := 1) hs hs.2.1.1 dX13_part_1 fr_X13_7 rfl ?_
  refine r_iload_n dX13_part_4 rfl 1 rfl ?_
  refine r_bipush (v := nI 10) dX13_part_5 (by decide) ?_
  refine r_iload_n dX13_part_7 rfl 2 rfl ?_
  refine r_iaddN dX13_part_8 ?_
  refine r_fnS (M2 := m_X13_at) (As := [.int (nI (l)), .int (nI (10 + k))]) (rest := [.ref (m + 1)]) (v := some (.int (nI (90 + 13 * l + (10 + k))))) dX13_part_9 cc_X13_part_72 rfl rfl rfl (Nat.le_of_ble_eq_true rfl) f_at rfl ?_
  refine m_iald (j := 1) (n := 10002) (i := 90 + 13 * l + (10 + k)) hs rw1 dX13_part_12 (by omega) (by decide) ?_
  exact r_iret (ty := .int) dX13_part_13 rfl rfl ⟨rfl, rfl⟩
set_option maxRecDepth 4000 in
theorem f_isBad {G : GI} {T : Hp} {m : Nat} {V : RVal} {od : Nat → UInt64} (hs : RS T m) {l u : Nat} (hl : l < 24) (hu : u < 200) {p : Nat} (hp : V 1 (90 + 13 * l + 0) = nI p) (hp4 : p < 4) : Fn m_X13_isBad G [.ref (m), .int (nI (l)), .int (nI (u))] (rput T m V od) (some (.int (bI (¬ wD (V 1 (402 + 2 * (200 * l + u))) &&& V 1 (22 + 10 * p + 1) = 0)))) (rput T m V od) := by
  refine Cn.of rfl (by decide) (Nat.le_of_ble_eq_true rfl) (fun hN hM => ?_)
  show Wx _ G _ 0 [(0, .ref (m)), (1, .int (nI (l))), (2, .int (nI (u)))] [] _
  refine r_aload_n dX13_isBad_0 rfl 0 rfl ?_
  refine r_iload_n dX13_isBad_1 rfl 1 rfl ?_
  refine r_iload_n dX13_isBad_2 rfl 2 rfl ?_
  refine r_fnV (M2 := m_X13_defects) (As := [.int (nI (l)), .int (nI (u))]) (rest := []) (v := some (.int (wD (V 1 (402 + 2 * (200 * l + u)))))) dX13_isBad_3 cc_X13_isBad_87 rfl rfl rfl (Nat.le_of_ble_eq_true rfl) hs.1 rfl rfl (by decide) (f_defects hs (by omega) (by omega)) rfl ?_
  refine r_aload_n dX13_isBad_6 rfl 0 rfl ?_
  refine m_ref (k := 0) (j := 1) hs hs.2.1.1 dX13_isBad_7 fr_X13_7 rfl ?_
  refine r_aload_n dX13_isBad_10 rfl 0 rfl ?_
  refine r_iload_n dX13_isBad_11 rfl 1 rfl ?_
  refine r_fnV (M2 := m_X13_productOf) (As := [.int (nI (l))]) (rest := [.ref (m + 1), .int (wD (V 1 (402 + 2 * (200 * l + u))))]) (v := some (.int (nI (22 + 10 * p)))) dX13_isBad_12 cc_X13_isBad_90 rfl rfl rfl (Nat.le_of_ble_eq_true rfl) hs.1 rfl rfl (by decide) (f_productOf hs (by omega) hp) rfl ?_
  refine r_iconst (v := nI 1) dX13_isBad_15 (by decide) ?_
  refine r_iaddN dX13_isBad_16 ?_
  refine m_iald (j := 1) (n := 10002) (i := 22 + 10 * p + 1) hs rw1 dX13_isBad_17 (by omega) (by decide) ?_
  refine r_iand dX13_isBad_18 ?_
  refine r_if_eq (tgt := 26) dX13_isBad_19 (by decide) (fun h19 => ?_) (fun h19 => ?_)
  · refine r_iconst (v := nI 0) dX13_isBad_26 (by decide) ?_
    exact r_iret (ty := .boolean) dX13_isBad_27 rfl (by decide) ⟨congrArg (fun x => Sum.inl (some (Value.int x))) ((bI_f (fun q => q h19)).symm), rfl⟩
  · refine r_iconst (v := nI 1) dX13_isBad_22 (by decide) ?_
    refine r_goto (tgt := 27) dX13_isBad_23 (by decide) ?_
    exact r_iret (ty := .boolean) dX13_isBad_27 rfl (by decide) ⟨congrArg (fun x => Sum.inl (some (Value.int x))) ((bI_t h19).symm), rfl⟩
set_option maxRecDepth 4000 in
theorem f_isLot {G : GI} {T : Hp} {m : Nat} {V : RVal} {od : Nat → UInt64} (hs : RS T m) {x : Int32} {n : Nat} (hn : V 1 0 = nI n) (h24 : n ≤ 24) : Fn m_X13_isLot G [.ref (m), .int (x)] (rput T m V od) (some (.int (bI (vp_in x n)))) (rput T m V od) := by
  refine Cn.of rfl (by decide) (Nat.le_of_ble_eq_true rfl) (fun hN hM => ?_)
  show Wx _ G _ 0 [(0, .ref (m)), (1, .int (x))] [] _
  refine r_iload_n dX13_isLot_0 rfl 1 rfl ?_
  refine r_iconst (v := nI 0) dX13_isLot_1 (by decide) ?_
  refine r_aload_n dX13_isLot_2 rfl 0 rfl ?_
  refine m_ref (k := 0) (j := 1) hs hs.2.1.1 dX13_isLot_3 fr_X13_7 rfl ?_
  refine r_iconst (v := nI 0) dX13_isLot_6 (by decide) ?_
  refine m_iald (j := 1) (n := 10002) (i := 0) hs rw1 dX13_isLot_7 (by omega) (by decide) ?_
  refine Wx.top hn ?_
  refine r_iconst (v := nI 1) dX13_isLot_8 (by decide) ?_
  refine r_isub dX13_isLot_9 ?_
  refine r_fnS (M2 := m_X13_in) (As := [.int (x), .int (nI (0)), .int ((nI n) - (nI 1))]) (rest := []) (v := some (.int (bI (nI 0 ≤ x ∧ x ≤ (nI n) - (nI 1))))) dX13_isLot_10 cc_X13_isLot_68 rfl rfl rfl (Nat.le_of_ble_eq_true rfl) f_in rfl ?_
  exact r_iret (ty := .boolean) dX13_isLot_13 rfl bI_nar ⟨congrArg (fun x => Sum.inl (some (Value.int x))) (bI_iff (inR_iff0 (by omega))), rfl⟩
set_option maxRecDepth 4000 in
theorem f_inState {G : GI} {T : Hp} {m : Nat} {V : RVal} {od : Nat → UInt64} (hs : RS T m) {l s : Nat} (hl : l < 24) (hz : V 1 (90 + 13 * l + 1) = nI s) (hs200 : s ≤ 200) {x : Int32} : Fn m_X13_inState G [.ref (m), .int (nI (l)), .int (x)] (rput T m V od) (some (.int (nI (cnt (fun u => wS (V 1 (402 + 2 * (200 * l + u))) = x) s)))) (rput T m V od) := by
  refine Cn.of rfl (by decide) (Nat.le_of_ble_eq_true rfl) (fun hN hM => ?_)
  show Wx _ G _ 0 [(0, .ref (m)), (1, .int (nI (l))), (2, .int (x))] [] _
  refine r_iconst (v := nI 0) dX13_inState_0 (by decide) ?_
  refine r_istore_n (lv' := [(3, .int (nI (0))), (0, .ref (m)), (1, .int (nI (l))), (2, .int (x))]) dX13_inState_1 rfl (by decide) rfl ?_
  refine r_iconst (v := nI 0) dX13_inState_2 (by decide) ?_
  refine r_istore (lv' := [(4, .int (nI (0))), (3, .int (nI (0))), (0, .ref (m)), (1, .int (nI (l))), (2, .int (x))]) dX13_inState_3 (by decide) rfl ?_
  refine Wx.sub [2, 3, 4, 1, 0] rfl ?_
  refine Wx.loop (fun u => rput T m V od) (fun u => [(0, .ref (m)), (1, .int (nI (l))), (2, .int (x)), (3, .int (nI (cnt (fun u => wS (V 1 (402 + 2 * (200 * l + u))) = x) u))), (4, .int (nI (u)))]) (s) (0) (Nat.zero_le _) (fun u hge hle next => ?_)
  show Wx _ G (rput T m V od) 5 [(0, .ref (m)), (1, .int (nI (l))), (2, .int (x)), (3, .int (nI (cnt (fun u => wS (V 1 (402 + 2 * (200 * l + u))) = x) u))), (4, .int (nI (u)))] [] _
  refine r_iload dX13_inState_5 4 rfl ?_
  refine r_aload_n dX13_inState_7 rfl 0 rfl ?_
  refine r_iload_n dX13_inState_8 rfl 1 rfl ?_
  refine r_fnV (M2 := m_X13_size) (As := [.int (nI (l))]) (rest := [.int (nI (u))]) (v := some (.int (nI (s)))) dX13_inState_9 cc_X13_inState_80 rfl rfl rfl (Nat.le_of_ble_eq_true rfl) hs.1 rfl rfl (by decide) (f_size hs (by omega) hz) rfl ?_
  refine r_icmp_geN (tgt := 40) dX13_inState_12 (by decide) (by omega) (by omega) (fun h12 => ?_) (fun h12 => ?_)
  · refine r_iload_n dX13_inState_40 rfl 3 rfl ?_
    obtain rfl : u = s := by omega
    exact r_iret (ty := .int) dX13_inState_41 rfl rfl ⟨rfl, rfl⟩
  · refine r_iload_n dX13_inState_15 rfl 3 rfl ?_
    refine r_aload_n dX13_inState_16 rfl 0 rfl ?_
    refine r_iload_n dX13_inState_17 rfl 1 rfl ?_
    refine r_iload dX13_inState_18 4 rfl ?_
    refine r_fnV (M2 := m_X13_state) (As := [.int (nI (l)), .int (nI (u))]) (rest := [.int (nI (cnt (fun u => wS (V 1 (402 + 2 * (200 * l + u))) = x) u))]) (v := some (.int (wS (V 1 (402 + 2 * (200 * l + u)))))) dX13_inState_20 cc_X13_inState_93 rfl rfl rfl (Nat.le_of_ble_eq_true rfl) hs.1 rfl rfl (by decide) (f_state hs (by omega) (by omega)) rfl ?_
    refine r_iload_n dX13_inState_23 rfl 2 rfl ?_
    refine r_icmp_ne (tgt := 31) dX13_inState_24 (by decide) (fun h24 => ?_) (fun h24 => ?_)
    · refine r_iconst (v := nI 0) dX13_inState_31 (by decide) ?_
      refine r_iaddN dX13_inState_32 ?_
      refine r_istore_n (lv' := [(3, .int (nI (cnt (fun u => wS (V 1 (402 + 2 * (200 * l + u))) = x) u + 0))), (0, .ref (m)), (1, .int (nI (l))), (2, .int (x)), (4, .int (nI (u)))]) dX13_inState_33 rfl (by decide) rfl ?_
      refine r_iincN (k := 1) (lv' := [(4, .int (nI (u + 1))), (3, .int (nI (cnt (fun u => wS (V 1 (402 + 2 * (200 * l + u))) = x) u + 0))), (0, .ref (m)), (1, .int (nI (l))), (2, .int (x))]) dX13_inState_34 (by decide) 4 rfl (by decide) rfl ?_
      refine r_goto (tgt := 5) dX13_inState_37 (by decide) ?_
      refine Wx.sub [2, 3, 4, 1, 0] rfl ?_
      have n2 := next (by omega)
      first | exact n2 | (rw [cnt_t (p := fun u => wS (V 1 (402 + 2 * (200 * l + u))) = x) (by first | assumption | exact Classical.not_not.mp (by assumption))] at n2; exact n2) | (rw [cnt_f (p := fun u => wS (V 1 (402 + 2 * (200 * l + u))) = x) (by assumption)] at n2; exact n2)
    · refine r_iconst (v := nI 1) dX13_inState_27 (by decide) ?_
      refine r_goto (tgt := 32) dX13_inState_28 (by decide) ?_
      refine r_iaddN dX13_inState_32 ?_
      refine r_istore_n (lv' := [(3, .int (nI (cnt (fun u => wS (V 1 (402 + 2 * (200 * l + u))) = x) u + 1))), (0, .ref (m)), (1, .int (nI (l))), (2, .int (x)), (4, .int (nI (u)))]) dX13_inState_33 rfl (by decide) rfl ?_
      refine r_iincN (k := 1) (lv' := [(4, .int (nI (u + 1))), (3, .int (nI (cnt (fun u => wS (V 1 (402 + 2 * (200 * l + u))) = x) u + 1))), (0, .ref (m)), (1, .int (nI (l))), (2, .int (x))]) dX13_inState_34 (by decide) 4 rfl (by decide) rfl ?_
      refine r_goto (tgt := 5) dX13_inState_37 (by decide) ?_
      refine Wx.sub [2, 3, 4, 1, 0] rfl ?_
      have n2 := next (by omega)
      first | exact n2 | (rw [cnt_t (p := fun u => wS (V 1 (402 + 2 * (200 * l + u))) = x) (by first | assumption | exact Classical.not_not.mp (by assumption))] at n2; exact n2) | (rw [cnt_f (p := fun u => wS (V 1 (402 + 2 * (200 * l + u))) = x) (by assumption)] at n2; exact n2)
