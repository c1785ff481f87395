set_option maxRecDepth 4000 in
theorem c_machine_1 {G : GI} {T : Hp} {m : Nat} {V : RVal} {g : Nat → Nat} {od : Nat → UInt64} (hs : RS T m)  {x : Int32} (hx : ¬ vp_in x 6) {y : Int32} {z : Int32} : Fn m_X13_machine G [.ref (m), .int (x), .int (y), .int (z)] (rput T m (sg V g) od) (some (.int (nI (0)))) (rput T m (sg (up2 V 0 (6) (nI 1)) (g)) od) := by
  refine Cn.of rfl (by decide) (Nat.le_of_ble_eq_true rfl) (fun hN hM => ?_)
  show Wx _ G _ 0 [(0, .ref (m)), (1, .int (x)), (2, .int (y)), (3, .int (z))] [] _
  refine r_aload_n dX13_machine_0 rfl 0 rfl ?_
  refine r_iload_n dX13_machine_1 rfl 1 rfl ?_
  refine r_iload_n dX13_machine_2 rfl 2 rfl ?_
  refine r_iload_n dX13_machine_3 rfl 3 rfl ?_
  refine r_fnS (M2 := m_X13_againstMachine) (As := [.int (x), .int (y), .int (z)]) (rest := [.ref (m)]) (v := some (.int (nI (1)))) dX13_machine_4 cc_X13_machine_107 rfl rfl rfl (Nat.le_of_ble_eq_true rfl) (f_aM_1 hx) rfl ?_
  refine o_put (k := 6) hs dX13_machine_7 fw_X13_machine_54 rfl rfl rfl ?_
  refine r_aload_n dX13_machine_10 rfl 0 rfl ?_
  refine o_get (k := 6) hs dX13_machine_11 fr_X13_54 rfl ?_
  refine Wx.top up2_s ?_
  refine r_if_leN (tgt := 19) dX13_machine_14 (by decide) (by omega) (fun zz14 => ?_) (fun zz14 => ?_)
  · exact absurd zz14 (by decide)
  · refine r_iconst (v := nI 0) dX13_machine_17 (by decide) ?_
    exact r_iret (ty := .int) dX13_machine_18 rfl rfl ⟨rfl, rfl⟩
set_option maxRecDepth 4000 in
theorem c_machine_2 {G : GI} {T : Hp} {m : Nat} {V : RVal} {g : Nat → Nat} {od : Nat → UInt64} (hs : RS T m)  {a : Nat} (ha : a < 6) {y z : Int32} (h2 : ¬ (vp_in y 51 ∧ vp_in z 4)) : Fn m_X13_machine G [.ref (m), .int (nI (a)), .int (y), .int (z)] (rput T m (sg V g) od) (some (.int (nI (0)))) (rput T m (sg (up2 V 0 (6) (nI 2)) (g)) od) := by
  refine Cn.of rfl (by decide) (Nat.le_of_ble_eq_true rfl) (fun hN hM => ?_)
  show Wx _ G _ 0 [(0, .ref (m)), (1, .int (nI (a))), (2, .int (y)), (3, .int (z))] [] _
  refine r_aload_n dX13_machine_0 rfl 0 rfl ?_
  refine r_iload_n dX13_machine_1 rfl 1 rfl ?_
  refine r_iload_n dX13_machine_2 rfl 2 rfl ?_
  refine r_iload_n dX13_machine_3 rfl 3 rfl ?_
  refine r_fnS (M2 := m_X13_againstMachine) (As := [.int (nI (a)), .int (y), .int (z)]) (rest := [.ref (m)]) (v := some (.int (nI (2)))) dX13_machine_4 cc_X13_machine_107 rfl rfl rfl (Nat.le_of_ble_eq_true rfl) (f_aM_2 (vp_in_nI ha (by decide)) h2) rfl ?_
  refine o_put (k := 6) hs dX13_machine_7 fw_X13_machine_54 rfl rfl rfl ?_
  refine r_aload_n dX13_machine_10 rfl 0 rfl ?_
  refine o_get (k := 6) hs dX13_machine_11 fr_X13_54 rfl ?_
  refine Wx.top up2_s ?_
  refine r_if_leN (tgt := 19) dX13_machine_14 (by decide) (by omega) (fun zz14 => ?_) (fun zz14 => ?_)
  · exact absurd zz14 (by decide)
  · refine r_iconst (v := nI 0) dX13_machine_17 (by decide) ?_
    exact r_iret (ty := .int) dX13_machine_18 rfl rfl ⟨rfl, rfl⟩
set_option maxRecDepth 4000 in
theorem c_machine_0 {G : GI} {T : Hp} {m : Nat} {V : RVal} {g : Nat → Nat} {od : Nat → UInt64} (hs : RS T m)  {a : Nat} (ha : a < 6) {y : Nat} (hy : y < 51) {z : Nat} (hz : z < 4) {V2 : RVal} (hch : Fn m_X13_changes G [.ref (m), .ref (m + 1)] (rput T m (sg (up2 V 0 (6) (nI 0)) g) od) none (rput T m (sg V2 g) od)) : Fn m_X13_machine G [.ref (m), .int (nI (a)), .int (nI (y)), .int (nI (z))] (rput T m (sg V g) od) (some (.int (nI (10 * (g (4 + 3 * a)) + (g (4 + 3 * a + 1)))))) (rput T m (sg V2 ((up1 (up1 g (4 + 3 * a) (y)) (4 + 3 * a + 1) (z)))) od) := by
  refine Cn.of rfl (by decide) (Nat.le_of_ble_eq_true rfl) (fun hN hM => ?_)
  show Wx _ G _ 0 [(0, .ref (m)), (1, .int (nI (a))), (2, .int (nI (y))), (3, .int (nI (z)))] [] _
  refine r_aload_n dX13_machine_0 rfl 0 rfl ?_
  refine r_iload_n dX13_machine_1 rfl 1 rfl ?_
  refine r_iload_n dX13_machine_2 rfl 2 rfl ?_
  refine r_iload_n dX13_machine_3 rfl 3 rfl ?_
  refine r_fnS (M2 := m_X13_againstMachine) (As := [.int (nI (a)), .int (nI (y)), .int (nI (z))]) (rest := [.ref (m)]) (v := some (.int (nI (0)))) dX13_machine_4 cc_X13_machine_107 rfl rfl rfl (Nat.le_of_ble_eq_true rfl) (f_aM_0 (vp_in_nI ha (by decide)) ⟨vp_in_nI hy (by decide), vp_in_nI hz (by decide)⟩) rfl ?_
  refine o_put (k := 6) hs dX13_machine_7 fw_X13_machine_54 rfl rfl rfl ?_
  refine r_aload_n dX13_machine_10 rfl 0 rfl ?_
  refine o_get (k := 6) hs dX13_machine_11 fr_X13_54 rfl ?_
  refine Wx.top up2_s ?_
  refine r_if_leN (tgt := 19) dX13_machine_14 (by decide) (by omega) (fun zz14 => ?_) (fun zz14 => ?_)
  · refine r_aload_n dX13_machine_19 rfl 0 rfl ?_
    refine r_aload_n dX13_machine_20 rfl 0 rfl ?_
    refine m_ref (k := 0) (j := 1) hs hs.2.1.1 dX13_machine_21 fr_X13_7 rfl ?_
    refine r_fnV (M2 := m_X13_changes) (As := [.ref (m + 1)]) (rest := []) (v := none) dX13_machine_24 cc_X13_machine_111 rfl rfl rfl (Nat.le_of_ble_eq_true rfl) hs.1 rfl rfl (by decide) hch rfl ?_
    refine r_aload_n dX13_machine_27 rfl 0 rfl ?_
    refine r_iload_n dX13_machine_28 rfl 1 rfl ?_
    refine r_iload_n dX13_machine_29 rfl 2 rfl ?_
    refine r_iload_n dX13_machine_30 rfl 3 rfl ?_
    refine r_fnV (M2 := m_X13_machineNow) (As := [.int (nI (a)), .int (nI (y)), .int (nI (z))]) (rest := []) (v := some (.int (nI (10 * (g (4 + 3 * a)) + (g (4 + 3 * a + 1)))))) dX13_machine_31 cc_X13_machine_115 rfl rfl rfl (Nat.le_of_ble_eq_true rfl) hs.1 rfl rfl (by decide) (g_machineNow hs ha) rfl ?_
    exact r_iret (ty := .int) dX13_machine_34 rfl rfl ⟨rfl, rfl⟩
  · exact absurd zz14 (by decide)
set_option maxRecDepth 4000 in
theorem c_product_1 {G : GI} {T : Hp} {m : Nat} {V : RVal} {g : Nat → Nat} {od : Nat → UInt64} (hs : RS T m)  {x : Int32} (hx : ¬ vp_in x 4) {y : Int32} {z : Int32} {z2 : Int32} : Fn m_X13_product G [.ref (m), .int (x), .int (y), .int (z), .int (z2)] (rput T m (sg V g) od) (some (.int (nI (0)))) (rput T m (sg (up2 V 0 (6) (nI 1)) (g)) od) := by
  refine Cn.of rfl (by decide) (Nat.le_of_ble_eq_true rfl) (fun hN hM => ?_)
  show Wx _ G _ 0 [(0, .ref (m)), (1, .int (x)), (2, .int (y)), (3, .int (z)), (4, .int (z2))] [] _
  refine r_aload_n dX13_product_0 rfl 0 rfl ?_
  refine r_iload_n dX13_product_1 rfl 1 rfl ?_
  refine r_iload_n dX13_product_2 rfl 2 rfl ?_
  refine r_iload_n dX13_product_3 rfl 3 rfl ?_
  refine r_iload dX13_product_4 4 rfl ?_
  refine r_fnS (M2 := m_X13_againstProduct) (As := [.int (x), .int (y), .int (z), .int (z2)]) (rest := [.ref (m)]) (v := some (.int (nI (1)))) dX13_product_6 cc_X13_product_121 rfl rfl rfl (Nat.le_of_ble_eq_true rfl) (f_aP_1 hx) rfl ?_
  refine o_put (k := 6) hs dX13_product_9 fw_X13_product_54 rfl rfl rfl ?_
  refine r_aload_n dX13_product_12 rfl 0 rfl ?_
  refine o_get (k := 6) hs dX13_product_13 fr_X13_54 rfl ?_
  refine Wx.top up2_s ?_
  refine r_if_leN (tgt := 21) dX13_product_16 (by decide) (by omega) (fun zz16 => ?_) (fun zz16 => ?_)
  · exact absurd zz16 (by decide)
  · refine r_iconst (v := nI 0) dX13_product_19 (by decide) ?_
    exact r_iret (ty := .int) dX13_product_20 rfl rfl ⟨rfl, rfl⟩
set_option maxRecDepth 4000 in
theorem c_product_2 {G : GI} {T : Hp} {m : Nat} {V : RVal} {g : Nat → Nat} {od : Nat → UInt64} (hs : RS T m)  {a : Nat} (ha : a < 4) {y z z2 : Int32} (h2 : ¬ (vp_in y 31 ∧ vp_in z 16 ∧ vp_in z2 16)) : Fn m_X13_product G [.ref (m), .int (nI (a)), .int (y), .int (z), .int (z2)] (rput T m (sg V g) od) (some (.int (nI (0)))) (rput T m (sg (up2 V 0 (6) (nI 2)) (g)) od) := by
  refine Cn.of rfl (by decide) (Nat.le_of_ble_eq_true rfl) (fun hN hM => ?_)
  show Wx _ G _ 0 [(0, .ref (m)), (1, .int (nI (a))), (2, .int (y)), (3, .int (z)), (4, .int (z2))] [] _
  refine r_aload_n dX13_product_0 rfl 0 rfl ?_
  refine r_iload_n dX13_product_1 rfl 1 rfl ?_
  refine r_iload_n dX13_product_2 rfl 2 rfl ?_
  refine r_iload_n dX13_product_3 rfl 3 rfl ?_
  refine r_iload dX13_product_4 4 rfl ?_
  refine r_fnS (M2 := m_X13_againstProduct) (As := [.int (nI (a)), .int (y), .int (z), .int (z2)]) (rest := [.ref (m)]) (v := some (.int (nI (2)))) dX13_product_6 cc_X13_product_121 rfl rfl rfl (Nat.le_of_ble_eq_true rfl) (f_aP_2 (vp_in_nI ha (by decide)) h2) rfl ?_
  refine o_put (k := 6) hs dX13_product_9 fw_X13_product_54 rfl rfl rfl ?_
  refine r_aload_n dX13_product_12 rfl 0 rfl ?_
  refine o_get (k := 6) hs dX13_product_13 fr_X13_54 rfl ?_
  refine Wx.top up2_s ?_
  refine r_if_leN (tgt := 21) dX13_product_16 (by decide) (by omega) (fun zz16 => ?_) (fun zz16 => ?_)
  · exact absurd zz16 (by decide)
  · refine r_iconst (v := nI 0) dX13_product_19 (by decide) ?_
    exact r_iret (ty := .int) dX13_product_20 rfl rfl ⟨rfl, rfl⟩
set_option maxRecDepth 4000 in
theorem c_product_0 {G : GI} {T : Hp} {m : Nat} {V : RVal} {g : Nat → Nat} {od : Nat → UInt64} (hs : RS T m)  {a : Nat} (ha : a < 4) {x : Nat} (hx : x < 31) {y : Nat} (hy : y < 16) {z : Nat} (hz : z < 16) {V2 : RVal} (hch : Fn m_X13_changes G [.ref (m), .ref (m + 1)] (rput T m (sg (up2 V 0 (6) (nI 0)) g) od) none (rput T m (sg V2 g) od)) : Fn m_X13_product G [.ref (m), .int (nI (a)), .int (nI (x)), .int (nI (y)), .int (nI (z))] (rput T m (sg V g) od) (some (.int (nI (g (22 + 10 * a))))) (rput T m (sg V2 ((up1 (up1 (up1 g (22 + 10 * a) (x)) (22 + 10 * a + 1) (y)) (22 + 10 * a + 2) (z)))) od) := by
  refine Cn.of rfl (by decide) (Nat.le_of_ble_eq_true rfl) (fun hN hM => ?_)
  show Wx _ G _ 0 [(0, .ref (m)), (1, .int (nI (a))), (2, .int (nI (x))), (3, .int (nI (y))), (4, .int (nI (z)))] [] _
  refine r_aload_n dX13_product_0 rfl 0 rfl ?_
  refine r_iload_n dX13_product_1 rfl 1 rfl ?_
  refine r_iload_n dX13_product_2 rfl 2 rfl ?_
  refine r_iload_n dX13_product_3 rfl 3 rfl ?_
  refine r_iload dX13_product_4 4 rfl ?_
  refine r_fnS (M2 := m_X13_againstProduct) (As := [.int (nI (a)), .int (nI (x)), .int (nI (y)), .int (nI (z))]) (rest := [.ref (m)]) (v := some (.int (nI (0)))) dX13_product_6 cc_X13_product_121 rfl rfl rfl (Nat.le_of_ble_eq_true rfl) (f_aP_0 (vp_in_nI ha (by decide)) ⟨vp_in_nI hx (by decide), vp_in_nI hy (by decide), vp_in_nI hz (by decide)⟩) rfl ?_
  refine o_put (k := 6) hs dX13_product_9 fw_X13_product_54 rfl rfl rfl ?_
  refine r_aload_n dX13_product_12 rfl 0 rfl ?_
  refine o_get (k := 6) hs dX13_product_13 fr_X13_54 rfl ?_
  refine Wx.top up2_s ?_
  refine r_if_leN (tgt := 21) dX13_product_16 (by decide) (by omega) (fun zz16 => ?_) (fun zz16 => ?_)
  · refine r_aload_n dX13_product_21 rfl 0 rfl ?_
    refine r_aload_n dX13_product_22 rfl 0 rfl ?_
    refine m_ref (k := 0) (j := 1) hs hs.2.1.1 dX13_product_23 fr_X13_7 rfl ?_
    refine r_fnV (M2 := m_X13_changes) (As := [.ref (m + 1)]) (rest := []) (v := none) dX13_product_26 cc_X13_product_111 rfl rfl rfl (Nat.le_of_ble_eq_true rfl) hs.1 rfl rfl (by decide) hch rfl ?_
    refine r_aload_n dX13_product_29 rfl 0 rfl ?_
    refine r_iload_n dX13_product_30 rfl 1 rfl ?_
    refine r_iload_n dX13_product_31 rfl 2 rfl ?_
    refine r_iload_n dX13_product_32 rfl 3 rfl ?_
    refine r_iload dX13_product_33 4 rfl ?_
    refine r_fnV (M2 := m_X13_productNow) (As := [.int (nI (a)), .int (nI (x)), .int (nI (y)), .int (nI (z))]) (rest := []) (v := some (.int (nI (g (22 + 10 * a))))) dX13_product_35 cc_X13_product_125 rfl rfl rfl (Nat.le_of_ble_eq_true rfl) hs.1 rfl rfl (by decide) (g_productNow hs ha) rfl ?_
    exact r_iret (ty := .int) dX13_product_38 rfl rfl ⟨rfl, rfl⟩
  · exact absurd zz16 (by decide)
set_option maxRecDepth 4000 in
theorem p_aRel_1 {G : GI} {T : Hp} {m : Nat} {V : RVal} {g : Nat → Nat} {od : Nat → UInt64} (hs : RS T m)  {x : Int32} (hx : ¬ vp_in x 4) : Fn m_X13_againstRelease G [.ref (m), .int (x)] (rput T m (sg V g) od) (some (.int (nI (1)))) (rput T m (sg V (g)) od) := by
  refine Cn.of rfl (by decide) (Nat.le_of_ble_eq_true rfl) (fun hN hM => ?_)
  show Wx _ G _ 0 [(0, .ref (m)), (1, .int (x))] [] _
  refine r_iload_n dX13_againstRelease_0 rfl 1 rfl ?_
  refine r_fnS (M2 := m_X13_isProduct) (As := [.int (x)]) (rest := []) (v := some (.int (nI (0)))) dX13_againstRelease_1 cc_X13_againstRelease_118 rfl rfl rfl (Nat.le_of_ble_eq_true rfl) (Fn.eq f_isProduct (congrArg (fun x => some (Value.int x)) (bI_f hx)) rfl) rfl ?_
  refine r_if_eqN (tgt := 33) dX13_againstRelease_4 (by decide) (by omega) (fun zz4 => ?_) (fun zz4 => ?_)
  · refine r_iconst (v := nI 1) dX13_againstRelease_33 (by decide) ?_
    exact r_iret (ty := .int) dX13_againstRelease_34 rfl rfl ⟨rfl, rfl⟩
  · exact absurd zz4 (by decide)
set_option maxRecDepth 4000 in
theorem p_aRel_2 {G : GI} {T : Hp} {m : Nat} {V : RVal} {g : Nat → Nat} {od : Nat → UInt64} (hs : RS T m)  {p : Nat} (hp : p < 4) (h3 : g (22 + 10 * p + 3) ≤ 3) (h : ¬ g (22 + 10 * p + 3) = 3) : Fn m_X13_againstRelease G [.ref (m), .int (nI (p))] (rput T m (sg V g) od) (some (.int (nI (2)))) (rput T m (sg V (g)) od) := by
  refine Cn.of rfl (by decide) (Nat.le_of_ble_eq_true rfl) (fun hN hM => ?_)
  show Wx _ G _ 0 [(0, .ref (m)), (1, .int (nI (p)))] [] _
  refine r_iload_n dX13_againstRelease_0 rfl 1 rfl ?_
  refine r_fnS (M2 := m_X13_isProduct) (As := [.int (nI (p))]) (rest := []) (v := some (.int (nI (1)))) dX13_againstRelease_1 cc_X13_againstRelease_118 rfl rfl rfl (Nat.le_of_ble_eq_true rfl) (Fn.eq f_isProduct (congrArg (fun x => some (Value.int x)) (bI_t (vp_in_nI (by omega) (by first | decide | omega)))) rfl) rfl ?_
  refine r_if_eqN (tgt := 33) dX13_againstRelease_4 (by decide) (by omega) (fun zz4 => ?_) (fun zz4 => ?_)
  · exact absurd zz4 (by decide)
  · refine r_aload_n dX13_againstRelease_7 rfl 0 rfl ?_
    refine m_ref (k := 0) (j := 1) hs hs.2.1.1 dX13_againstRelease_8 fr_X13_7 rfl ?_
    refine r_bipush (v := nI 22) dX13_againstRelease_11 (by decide) ?_
    refine r_bipush (v := nI 10) dX13_againstRelease_13 (by decide) ?_
    refine r_iload_n dX13_againstRelease_15 rfl 1 rfl ?_
    refine r_imulN dX13_againstRelease_16 ?_
    refine r_iaddN dX13_againstRelease_17 ?_
    refine r_iconst (v := nI 3) dX13_againstRelease_18 (by decide) ?_
    refine r_iaddN dX13_againstRelease_19 ?_
    refine g_iald (i := 22 + 10 * p + 3) hs dX13_againstRelease_20 (by omega) ?_
    refine r_iconst (v := nI 3) dX13_againstRelease_21 (by decide) ?_
    refine r_icmp_neN (tgt := 29) dX13_againstRelease_22 (by decide) (by omega) (by omega) (fun h22 => ?_) (fun h22 => ?_)
    · refine r_iconst (v := nI 2) dX13_againstRelease_29 (by decide) ?_
      refine r_goto (tgt := 34) dX13_againstRelease_30 (by decide) ?_
      exact r_iret (ty := .int) dX13_againstRelease_34 rfl rfl ⟨rfl, rfl⟩
    · exact absurd h22 h
set_option maxRecDepth 4000 in
theorem p_aRel_0 {G : GI} {T : Hp} {m : Nat} {V : RVal} {g : Nat → Nat} {od : Nat → UInt64} (hs : RS T m)  {p : Nat} (hp : p < 4) (h3 : g (22 + 10 * p + 3) ≤ 3) (h : g (22 + 10 * p + 3) = 3) : Fn m_X13_againstRelease G [.ref (m), .int (nI (p))] (rput T m (sg V g) od) (some (.int (nI (0)))) (rput T m (sg V (g)) od) := by
  refine Cn.of rfl (by decide) (Nat.le_of_ble_eq_true rfl) (fun hN hM => ?_)
  show Wx _ G _ 0 [(0, .ref (m)), (1, .int (nI (p)))] [] _
  refine r_iload_n dX13_againstRelease_0 rfl 1 rfl ?_
  refine r_fnS (M2 := m_X13_isProduct) (As := [.int (nI (p))]) (rest := []) (v := some (.int (nI (1)))) dX13_againstRelease_1 cc_X13_againstRelease_118 rfl rfl rfl (Nat.le_of_ble_eq_true rfl) (Fn.eq f_isProduct (congrArg (fun x => some (Value.int x)) (bI_t (vp_in_nI (by omega) (by first | decide | omega)))) rfl) rfl ?_
  refine r_if_eqN (tgt := 33) dX13_againstRelease_4 (by decide) (by omega) (fun zz4 => ?_) (fun zz4 => ?_)
  · exact absurd zz4 (by decide)
  · refine r_aload_n dX13_againstRelease_7 rfl 0 rfl ?_
    refine m_ref (k := 0) (j := 1) hs hs.2.1.1 dX13_againstRelease_8 fr_X13_7 rfl ?_
    refine r_bipush (v := nI 22) dX13_againstRelease_11 (by decide) ?_
    refine r_bipush (v := nI 10) dX13_againstRelease_13 (by decide) ?_
    refine r_iload_n dX13_againstRelease_15 rfl 1 rfl ?_
    refine r_imulN dX13_againstRelease_16 ?_
    refine r_iaddN dX13_againstRelease_17 ?_
    refine r_iconst (v := nI 3) dX13_againstRelease_18 (by decide) ?_
    refine r_iaddN dX13_againstRelease_19 ?_
    refine g_iald (i := 22 + 10 * p + 3) hs dX13_againstRelease_20 (by omega) ?_
    refine r_iconst (v := nI 3) dX13_againstRelease_21 (by decide) ?_
    refine r_icmp_neN (tgt := 29) dX13_againstRelease_22 (by decide) (by omega) (by omega) (fun h22 => ?_) (fun h22 => ?_)
    · exact absurd h h22
    · refine r_iconst (v := nI 0) dX13_againstRelease_25 (by decide) ?_
      refine r_goto (tgt := 34) dX13_againstRelease_26 (by decide) ?_
      exact r_iret (ty := .int) dX13_againstRelease_34 rfl rfl ⟨rfl, rfl⟩
set_option maxRecDepth 4000 in
theorem c_release_1 {G : GI} {T : Hp} {m : Nat} {V : RVal} {g : Nat → Nat} {od : Nat → UInt64} (hs : RS T m)  {x : Int32} (hx : ¬ vp_in x 4) : Fn m_X13_release G [.ref (m), .int (x)] (rput T m (sg V g) od) (some (.int (nI (0)))) (rput T m (sg (up2 V 0 (6) (nI 1)) (g)) od) := by
  refine Cn.of rfl (by decide) (Nat.le_of_ble_eq_true rfl) (fun hN hM => ?_)
  show Wx _ G _ 0 [(0, .ref (m)), (1, .int (x))] [] _
  refine r_aload_n dX13_release_0 rfl 0 rfl ?_
  refine r_aload_n dX13_release_1 rfl 0 rfl ?_
  refine r_iload_n dX13_release_2 rfl 1 rfl ?_
  refine r_fnV (M2 := m_X13_againstRelease) (As := [.int (x)]) (rest := [.ref (m)]) (v := some (.int (nI (1)))) dX13_release_3 cc_X13_release_150 rfl rfl rfl (Nat.le_of_ble_eq_true rfl) hs.1 rfl rfl (by decide) (p_aRel_1 hs hx) rfl ?_
  refine o_put (k := 6) hs dX13_release_6 fw_X13_release_54 rfl rfl rfl ?_
  refine r_aload_n dX13_release_9 rfl 0 rfl ?_
  refine o_get (k := 6) hs dX13_release_10 fr_X13_54 rfl ?_
  refine Wx.top up2_s ?_
  refine r_if_leN (tgt := 18) dX13_release_13 (by decide) (by omega) (fun zz13 => ?_) (fun zz13 => ?_)
  · exact absurd zz13 (by decide)
  · refine r_iconst (v := nI 0) dX13_release_16 (by decide) ?_
    exact r_iret (ty := .int) dX13_release_17 rfl rfl ⟨rfl, rfl⟩
set_option maxRecDepth 4000 in
theorem c_release_2 {G : GI} {T : Hp} {m : Nat} {V : RVal} {g : Nat → Nat} {od : Nat → UInt64} (hs : RS T m)  {p : Nat} (hp : p < 4) (h3 : g (22 + 10 * p + 3) ≤ 3) (h : ¬ g (22 + 10 * p + 3) = 3) : Fn m_X13_release G [.ref (m), .int (nI (p))] (rput T m (sg V g) od) (some (.int (nI (0)))) (rput T m (sg (up2 V 0 (6) (nI 2)) (g)) od) := by
  refine Cn.of rfl (by decide) (Nat.le_of_ble_eq_true rfl) (fun hN hM => ?_)
  show Wx _ G _ 0 [(0, .ref (m)), (1, .int (nI (p)))] [] _
  refine r_aload_n dX13_release_0 rfl 0 rfl ?_
  refine r_aload_n dX13_release_1 rfl 0 rfl ?_
  refine r_iload_n dX13_release_2 rfl 1 rfl ?_
  refine r_fnV (M2 := m_X13_againstRelease) (As := [.int (nI (p))]) (rest := [.ref (m)]) (v := some (.int (nI (2)))) dX13_release_3 cc_X13_release_150 rfl rfl rfl (Nat.le_of_ble_eq_true rfl) hs.1 rfl rfl (by decide) (p_aRel_2 hs hp h3 h) rfl ?_
  refine o_put (k := 6) hs dX13_release_6 fw_X13_release_54 rfl rfl rfl ?_
  refine r_aload_n dX13_release_9 rfl 0 rfl ?_
  refine o_get (k := 6) hs dX13_release_10 fr_X13_54 rfl ?_
  refine Wx.top up2_s ?_
  refine r_if_leN (tgt := 18) dX13_release_13 (by decide) (by omega) (fun zz13 => ?_) (fun zz13 => ?_)
  · exact absurd zz13 (by decide)
  · refine r_iconst (v := nI 0) dX13_release_16 (by decide) ?_
    exact r_iret (ty := .int) dX13_release_17 rfl rfl ⟨rfl, rfl⟩
set_option maxRecDepth 4000 in
theorem c_release_0 {G : GI} {T : Hp} {m : Nat} {V : RVal} {g : Nat → Nat} {od : Nat → UInt64} (hs : RS T m)  {p : Nat} (hp : p < 4) (h3 : g (22 + 10 * p + 3) ≤ 3) (h : g (22 + 10 * p + 3) = 3) (h24 : g 0 ≤ 24) (hP : ∀ l, l < g 0 → g (90 + 13 * l + 0) < 4 ∧ g (90 + 13 * l + 2) < 4) {V2 : RVal} (hch : Fn m_X13_changes G [.ref (m), .ref (m + 1)] (rput T m (sg (up2 V 0 (6) (nI 0)) g) od) none (rput T m (sg V2 g) od)) : Fn m_X13_release G [.ref (m), .int (nI (p))] (rput T m (sg V g) od) (some (.int (nI (relN g p)))) (rput T m (sg V2 ((fgtG g (22 + 10 * p) 1))) od) := by
  refine Cn.of rfl (by decide) (Nat.le_of_ble_eq_true rfl) (fun hN hM => ?_)
  show Wx _ G _ 0 [(0, .ref (m)), (1, .int (nI (p)))] [] _
  refine r_aload_n dX13_release_0 rfl 0 rfl ?_
  refine r_aload_n dX13_release_1 rfl 0 rfl ?_
  refine r_iload_n dX13_release_2 rfl 1 rfl ?_
  refine r_fnV (M2 := m_X13_againstRelease) (As := [.int (nI (p))]) (rest := [.ref (m)]) (v := some (.int (nI (0)))) dX13_release_3 cc_X13_release_150 rfl rfl rfl (Nat.le_of_ble_eq_true rfl) hs.1 rfl rfl (by decide) (p_aRel_0 hs hp h3 h) rfl ?_
  refine o_put (k := 6) hs dX13_release_6 fw_X13_release_54 rfl rfl rfl ?_
  refine r_aload_n dX13_release_9 rfl 0 rfl ?_
  refine o_get (k := 6) hs dX13_release_10 fr_X13_54 rfl ?_
  refine Wx.top up2_s ?_
  refine r_if_leN (tgt := 18) dX13_release_13 (by decide) (by omega) (fun zz13 => ?_) (fun zz13 => ?_)
  · refine r_aload_n dX13_release_18 rfl 0 rfl ?_
    refine r_aload_n dX13_release_19 rfl 0 rfl ?_
    refine m_ref (k := 0) (j := 1) hs hs.2.1.1 dX13_release_20 fr_X13_7 rfl ?_
    refine r_fnV (M2 := m_X13_changes) (As := [.ref (m + 1)]) (rest := []) (v := none) dX13_release_23 cc_X13_release_111 rfl rfl rfl (Nat.le_of_ble_eq_true rfl) hs.1 rfl rfl (by decide) hch rfl ?_
    refine r_aload_n dX13_release_26 rfl 0 rfl ?_
    refine r_iload_n dX13_release_27 rfl 1 rfl ?_
    refine r_fnV (M2 := m_X13_releaseNow) (As := [.int (nI (p))]) (rest := []) (v := some (.int (nI (relN g p)))) dX13_release_28 cc_X13_release_153 rfl rfl rfl (Nat.le_of_ble_eq_true rfl) hs.1 rfl rfl (by decide) (g_releaseNow hs hp h24 hP) rfl ?_
    exact r_iret (ty := .int) dX13_release_31 rfl rfl ⟨rfl, rfl⟩
  · exact absurd zz13 (by decide)
set_option maxRecDepth 4000 in
theorem c_seed_1 {G : GI} {T : Hp} {m : Nat} {V : RVal} {g : Nat → Nat} {od : Nat → UInt64} (hs : RS T m)  {x : Int32} (hx : x < 0) : Fn m_X13_seed G [.ref (m), .int (x)] (rput T m (sg V g) od) (some (.int (nI (0)))) (rput T m (sg (up2 V 0 (6) (nI 1)) (g)) od) := by
  refine Cn.of rfl (by decide) (Nat.le_of_ble_eq_true rfl) (fun hN hM => ?_)
  show Wx _ G _ 0 [(0, .ref (m)), (1, .int (x))] [] _
  refine r_aload_n dX13_seed_0 rfl 0 rfl ?_
  refine r_iload_n dX13_seed_1 rfl 1 rfl ?_
  refine r_if_ge (tgt := 9) dX13_seed_2 (by decide) (fun h2 => ?_) (fun h2 => ?_)
  · exact absurd hx (Int32.not_lt.mpr h2)
  · refine r_iconst (v := nI 1) dX13_seed_5 (by decide) ?_
    refine r_goto (tgt := 10) dX13_seed_6 (by decide) ?_
    refine o_put (k := 6) hs dX13_seed_10 fw_X13_seed_54 rfl rfl rfl ?_
    refine r_aload_n dX13_seed_13 rfl 0 rfl ?_
    refine o_get (k := 6) hs dX13_seed_14 fr_X13_54 rfl ?_
    refine Wx.top up2_s ?_
    refine r_if_leN (tgt := 22) dX13_seed_17 (by decide) (by omega) (fun zz17 => ?_) (fun zz17 => ?_)
    · exact absurd zz17 (by decide)
    · refine r_iconst (v := nI 0) dX13_seed_20 (by decide) ?_
      exact r_iret (ty := .int) dX13_seed_21 rfl rfl ⟨rfl, rfl⟩
set_option maxRecDepth 4000 in
theorem c_seed_0 {G : GI} {T : Hp} {m : Nat} {V : RVal} {g : Nat → Nat} {od : Nat → UInt64} (hs : RS T m)  {n : Nat} (hn : n < 2147483648) {V2 : RVal} (hch : Fn m_X13_changes G [.ref (m), .ref (m + 1)] (rput T m (sg (up2 V 0 (6) (nI 0)) g) od) none (rput T m (sg V2 g) od)) : Fn m_X13_seed G [.ref (m), .int (nI (n))] (rput T m (sg V g) od) (some (.int (nI (g 3)))) (rput T m (sg V2 ((up1 g 3 n))) od) := by
  refine Cn.of rfl (by decide) (Nat.le_of_ble_eq_true rfl) (fun hN hM => ?_)
  show Wx _ G _ 0 [(0, .ref (m)), (1, .int (nI (n)))] [] _
  refine r_aload_n dX13_seed_0 rfl 0 rfl ?_
  refine r_iload_n dX13_seed_1 rfl 1 rfl ?_
  refine r_if_geN (tgt := 9) dX13_seed_2 (by decide) (by omega) ?_
  refine r_iconst (v := nI 0) dX13_seed_9 (by decide) ?_
  refine o_put (k := 6) hs dX13_seed_10 fw_X13_seed_54 rfl rfl rfl ?_
  refine r_aload_n dX13_seed_13 rfl 0 rfl ?_
  refine o_get (k := 6) hs dX13_seed_14 fr_X13_54 rfl ?_
  refine Wx.top up2_s ?_
  refine r_if_leN (tgt := 22) dX13_seed_17 (by decide) (by omega) (fun zz17 => ?_) (fun zz17 => ?_)
  · refine r_aload_n dX13_seed_22 rfl 0 rfl ?_
    refine r_aload_n dX13_seed_23 rfl 0 rfl ?_
    refine m_ref (k := 0) (j := 1) hs hs.2.1.1 dX13_seed_24 fr_X13_7 rfl ?_
    refine r_fnV (M2 := m_X13_changes) (As := [.ref (m + 1)]) (rest := []) (v := none) dX13_seed_27 cc_X13_seed_111 rfl rfl rfl (Nat.le_of_ble_eq_true rfl) hs.1 rfl rfl (by decide) hch rfl ?_
    refine r_aload_n dX13_seed_30 rfl 0 rfl ?_
    refine r_iload_n dX13_seed_31 rfl 1 rfl ?_
    refine r_fnV (M2 := m_X13_seedNow) (As := [.int (nI (n))]) (rest := []) (v := some (.int (nI (g 3)))) dX13_seed_32 cc_X13_seed_156 rfl rfl rfl (Nat.le_of_ble_eq_true rfl) hs.1 rfl rfl (by decide) (g_seedNow hs) rfl ?_
    exact r_iret (ty := .int) dX13_seed_35 rfl rfl ⟨rfl, rfl⟩
  · exact absurd zz17 (by decide)
set_option maxRecDepth 4000 in
theorem p_aRaw_1a {G : GI} {T : Hp} {m : Nat} {V : RVal} {g : Nat → Nat} {od : Nat → UInt64} (hs : RS T m)  {x : Int32} (hx : ¬ vp_in x 6) {y : Int32} {z : Int32} : Fn m_X13_againstRaw G [.ref (m), .int (x), .int (y), .int (z)] (rput T m (sg V g) od) (some (.int (nI (1)))) (rput T m (sg V (g)) od) := by
  refine Cn.of rfl (by decide) (Nat.le_of_ble_eq_true rfl) (fun hN hM => ?_)
  show Wx _ G _ 0 [(0, .ref (m)), (1, .int (x)), (2, .int (y)), (3, .int (z))] [] _
  refine r_iload_n dX13_againstRaw_0 rfl 1 rfl ?_
  refine r_fnS (M2 := m_X13_isMachine) (As := [.int (x)]) (rest := []) (v := some (.int (nI (0)))) dX13_againstRaw_1 cc_X13_againstRaw_104 rfl rfl rfl (Nat.le_of_ble_eq_true rfl) (Fn.eq f_isMachine (congrArg (fun x => some (Value.int x)) (bI_f hx)) rfl) rfl ?_
  refine r_if_eqN (tgt := 14) dX13_againstRaw_4 (by decide) (by omega) (fun zz4 => ?_) (fun zz4 => ?_)
  · refine r_iconst (v := nI 1) dX13_againstRaw_14 (by decide) ?_
    refine r_goto (tgt := 49) dX13_againstRaw_15 (by decide) ?_
    exact r_iret (ty := .int) dX13_againstRaw_49 rfl rfl ⟨rfl, rfl⟩
  · exact absurd zz4 (by decide)
set_option maxRecDepth 4000 in
theorem p_aRaw_1b {G : GI} {T : Hp} {m : Nat} {V : RVal} {g : Nat → Nat} {od : Nat → UInt64} (hs : RS T m)  {a : Nat} (ha : a < 6) {y : Int32} (hy : ¬ vp_in y 4) {z : Int32} : Fn m_X13_againstRaw G [.ref (m), .int (nI (a)), .int (y), .int (z)] (rput T m (sg V g) od) (some (.int (nI (1)))) (rput T m (sg V (g)) od) := by
  refine Cn.of rfl (by decide) (Nat.le_of_ble_eq_true rfl) (fun hN hM => ?_)
  show Wx _ G _ 0 [(0, .ref (m)), (1, .int (nI (a))), (2, .int (y)), (3, .int (z))] [] _
  refine r_iload_n dX13_againstRaw_0 rfl 1 rfl ?_
  refine r_fnS (M2 := m_X13_isMachine) (As := [.int (nI (a))]) (rest := []) (v := some (.int (nI (1)))) dX13_againstRaw_1 cc_X13_againstRaw_104 rfl rfl rfl (Nat.le_of_ble_eq_true rfl) (Fn.eq f_isMachine (congrArg (fun x => some (Value.int x)) (bI_t (vp_in_nI (by omega) (by first | decide | omega)))) rfl) rfl ?_
  refine r_if_eqN (tgt := 14) dX13_againstRaw_4 (by decide) (by omega) (fun zz4 => ?_) (fun zz4 => ?_)
  · exact absurd zz4 (by decide)
  · refine r_iload_n dX13_againstRaw_7 rfl 2 rfl ?_
    refine r_fnS (M2 := m_X13_isProduct) (As := [.int (y)]) (rest := []) (v := some (.int (nI (0)))) dX13_againstRaw_8 cc_X13_againstRaw_118 rfl rfl rfl (Nat.le_of_ble_eq_true rfl) (Fn.eq f_isProduct (congrArg (fun x => some (Value.int x)) (bI_f hy)) rfl) rfl ?_
    refine r_if_neN (tgt := 18) dX13_againstRaw_11 (by decide) (by omega) (fun zz11 => ?_) (fun zz11 => ?_)
    · exact absurd zz11 (by decide)
    · refine r_iconst (v := nI 1) dX13_againstRaw_14 (by decide) ?_
      refine r_goto (tgt := 49) dX13_againstRaw_15 (by decide) ?_
      exact r_iret (ty := .int) dX13_againstRaw_49 rfl rfl ⟨rfl, rfl⟩
set_option maxRecDepth 4000 in
theorem p_aRaw_2 {G : GI} {T : Hp} {m : Nat} {V : RVal} {g : Nat → Nat} {od : Nat → UInt64} (hs : RS T m)  {a : Nat} (ha : a < 6) {p : Nat} (hp : p < 4) {z : Int32} (hz : ¬ (nI 1 ≤ z ∧ z ≤ nI 200)) : Fn m_X13_againstRaw G [.ref (m), .int (nI (a)), .int (nI (p)), .int (z)] (rput T m (sg V g) od) (some (.int (nI (2)))) (rput T m (sg V (g)) od) := by
  refine Cn.of rfl (by decide) (Nat.le_of_ble_eq_true rfl) (fun hN hM => ?_)
  show Wx _ G _ 0 [(0, .ref (m)), (1, .int (nI (a))), (2, .int (nI (p))), (3, .int (z))] [] _
  refine r_iload_n dX13_againstRaw_0 rfl 1 rfl ?_
  refine r_fnS (M2 := m_X13_isMachine) (As := [.int (nI (a))]) (rest := []) (v := some (.int (nI (1)))) dX13_againstRaw_1 cc_X13_againstRaw_104 rfl rfl rfl (Nat.le_of_ble_eq_true rfl) (Fn.eq f_isMachine (congrArg (fun x => some (Value.int x)) (bI_t (vp_in_nI (by omega) (by first | decide | omega)))) rfl) rfl ?_
  refine r_if_eqN (tgt := 14) dX13_againstRaw_4 (by decide) (by omega) (fun zz4 => ?_) (fun zz4 => ?_)
  · exact absurd zz4 (by decide)
  · refine r_iload_n dX13_againstRaw_7 rfl 2 rfl ?_
    refine r_fnS (M2 := m_X13_isProduct) (As := [.int (nI (p))]) (rest := []) (v := some (.int (nI (1)))) dX13_againstRaw_8 cc_X13_againstRaw_118 rfl rfl rfl (Nat.le_of_ble_eq_true rfl) (Fn.eq f_isProduct (congrArg (fun x => some (Value.int x)) (bI_t (vp_in_nI (by omega) (by first | decide | omega)))) rfl) rfl ?_
    refine r_if_neN (tgt := 18) dX13_againstRaw_11 (by decide) (by omega) (fun zz11 => ?_) (fun zz11 => ?_)
    · refine r_iload_n dX13_againstRaw_18 rfl 3 rfl ?_
      refine r_iconst (v := nI 1) dX13_againstRaw_19 (by decide) ?_
      refine r_sipush (v := nI 200) dX13_againstRaw_20 (by decide) ?_
      refine r_fnS (M2 := m_X13_in) (As := [.int (z), .int (nI (1)), .int (nI (200))]) (rest := []) (v := some (.int (nI (0)))) dX13_againstRaw_23 cc_X13_againstRaw_68 rfl rfl rfl (Nat.le_of_ble_eq_true rfl) (Fn.eq f_in (congrArg (fun x => some (Value.int x)) (bI_f hz)) rfl) rfl ?_
      refine r_if_neN (tgt := 33) dX13_againstRaw_26 (by decide) (by omega) (fun zz26 => ?_) (fun zz26 => ?_)
      · exact absurd zz26 (by decide)
      · refine r_iconst (v := nI 2) dX13_againstRaw_29 (by decide) ?_
        refine r_goto (tgt := 49) dX13_againstRaw_30 (by decide) ?_
        exact r_iret (ty := .int) dX13_againstRaw_49 rfl rfl ⟨rfl, rfl⟩
    · exact absurd zz11 (by decide)
set_option maxRecDepth 4000 in
theorem p_aRaw_3 {G : GI} {T : Hp} {m : Nat} {V : RVal} {g : Nat → Nat} {od : Nat → UInt64} (hs : RS T m)  {a : Nat} (ha : a < 6) {p : Nat} (hp : p < 4) {n : Nat} (hn0 : 0 < n) (hn : n ≤ 200) (h : g 0 = 24) : Fn m_X13_againstRaw G [.ref (m), .int (nI (a)), .int (nI (p)), .int (nI (n))] (rput T m (sg V g) od) (some (.int (nI (3)))) (rput T m (sg V (g)) od) := by
  refine Cn.of rfl (by decide) (Nat.le_of_ble_eq_true rfl) (fun hN hM => ?_)
  show Wx _ G _ 0 [(0, .ref (m)), (1, .int (nI (a))), (2, .int (nI (p))), (3, .int (nI (n)))] [] _
  refine r_iload_n dX13_againstRaw_0 rfl 1 rfl ?_
  refine r_fnS (M2 := m_X13_isMachine) (As := [.int (nI (a))]) (rest := []) (v := some (.int (nI (1)))) dX13_againstRaw_1 cc_X13_againstRaw_104 rfl rfl rfl (Nat.le_of_ble_eq_true rfl) (Fn.eq f_isMachine (congrArg (fun x => some (Value.int x)) (bI_t (vp_in_nI (by omega) (by first | decide | omega)))) rfl) rfl ?_
  refine r_if_eqN (tgt := 14) dX13_againstRaw_4 (by decide) (by omega) (fun zz4 => ?_) (fun zz4 => ?_)
  · exact absurd zz4 (by decide)
  · refine r_iload_n dX13_againstRaw_7 rfl 2 rfl ?_
    refine r_fnS (M2 := m_X13_isProduct) (As := [.int (nI (p))]) (rest := []) (v := some (.int (nI (1)))) dX13_againstRaw_8 cc_X13_againstRaw_118 rfl rfl rfl (Nat.le_of_ble_eq_true rfl) (Fn.eq f_isProduct (congrArg (fun x => some (Value.int x)) (bI_t (vp_in_nI (by omega) (by first | decide | omega)))) rfl) rfl ?_
    refine r_if_neN (tgt := 18) dX13_againstRaw_11 (by decide) (by omega) (fun zz11 => ?_) (fun zz11 => ?_)
    · refine r_iload_n dX13_againstRaw_18 rfl 3 rfl ?_
      refine r_iconst (v := nI 1) dX13_againstRaw_19 (by decide) ?_
      refine r_sipush (v := nI 200) dX13_againstRaw_20 (by decide) ?_
      refine r_fnS (M2 := m_X13_in) (As := [.int (nI (n)), .int (nI (1)), .int (nI (200))]) (rest := []) (v := some (.int (nI (1)))) dX13_againstRaw_23 cc_X13_againstRaw_68 rfl rfl rfl (Nat.le_of_ble_eq_true rfl) (Fn.eq f_in (congrArg (fun x => some (Value.int x)) (bI_t ⟨(nI_le (by omega) (by omega)), nI_le (by omega) (by omega)⟩)) rfl) rfl ?_
      refine r_if_neN (tgt := 33) dX13_againstRaw_26 (by decide) (by omega) (fun zz26 => ?_) (fun zz26 => ?_)
      · refine r_aload_n dX13_againstRaw_33 rfl 0 rfl ?_
        refine m_ref (k := 0) (j := 1) hs hs.2.1.1 dX13_againstRaw_34 fr_X13_7 rfl ?_
        refine r_iconst (v := nI 0) dX13_againstRaw_37 (by decide) ?_
        refine g_iald (i := 0) hs dX13_againstRaw_38 (by omega) ?_
        refine r_bipush (v := nI 24) dX13_againstRaw_39 (by decide) ?_
        refine r_icmp_neN (tgt := 48) dX13_againstRaw_41 (by decide) (by omega) (by omega) (fun h41 => ?_) (fun h41 => ?_)
        · exact absurd h h41
        · refine r_iconst (v := nI 3) dX13_againstRaw_44 (by decide) ?_
          refine r_goto (tgt := 49) dX13_againstRaw_45 (by decide) ?_
          exact r_iret (ty := .int) dX13_againstRaw_49 rfl rfl ⟨rfl, rfl⟩
      · exact absurd zz26 (by decide)
    · exact absurd zz11 (by decide)
set_option maxRecDepth 4000 in
theorem p_aRaw_0 {G : GI} {T : Hp} {m : Nat} {V : RVal} {g : Nat → Nat} {od : Nat → UInt64} (hs : RS T m)  {a : Nat} (ha : a < 6) {p : Nat} (hp : p < 4) {n : Nat} (hn0 : 0 < n) (hn : n ≤ 200) (h0 : g 0 < 24) : Fn m_X13_againstRaw G [.ref (m), .int (nI (a)), .int (nI (p)), .int (nI (n))] (rput T m (sg V g) od) (some (.int (nI (0)))) (rput T m (sg V (g)) od) := by
  refine Cn.of rfl (by decide) (Nat.le_of_ble_eq_true rfl) (fun hN hM => ?_)
  show Wx _ G _ 0 [(0, .ref (m)), (1, .int (nI (a))), (2, .int (nI (p))), (3, .int (nI (n)))] [] _
  refine r_iload_n dX13_againstRaw_0 rfl 1 rfl ?_
  refine r_fnS (M2 := m_X13_isMachine) (As := [.int (nI (a))]) (rest := []) (v := some (.int (nI (1)))) dX13_againstRaw_1 cc_X13_againstRaw_104 rfl rfl rfl (Nat.le_of_ble_eq_true rfl) (Fn.eq f_isMachine (congrArg (fun x => some (Value.int x)) (bI_t (vp_in_nI (by omega) (by first | decide | omega)))) rfl) rfl ?_
  refine r_if_eqN (tgt := 14) dX13_againstRaw_4 (by decide) (by omega) (fun zz4 => ?_) (fun zz4 => ?_)
  · exact absurd zz4 (by decide)
  · refine r_iload_n dX13_againstRaw_7 rfl 2 rfl ?_
    refine r_fnS (M2 := m_X13_isProduct) (As := [.int (nI (p))]) (rest := []) (v := some (.int (nI (1)))) dX13_againstRaw_8 cc_X13_againstRaw_118 rfl rfl rfl (Nat.le_of_ble_eq_true rfl) (Fn.eq f_isProduct (congrArg (fun x => some (Value.int x)) (bI_t (vp_in_nI (by omega) (by first | decide | omega)))) rfl) rfl ?_
    refine r_if_neN (tgt := 18) dX13_againstRaw_11 (by decide) (by omega) (fun zz11 => ?_) (fun zz11 => ?_)
    · refine r_iload_n dX13_againstRaw_18 rfl 3 rfl ?_
      refine r_iconst (v := nI 1) dX13_againstRaw_19 (by decide) ?_
      refine r_sipush (v := nI 200) dX13_againstRaw_20 (by decide) ?_
      refine r_fnS (M2 := m_X13_in) (As := [.int (nI (n)), .int (nI (1)), .int (nI (200))]) (rest := []) (v := some (.int (nI (1)))) dX13_againstRaw_23 cc_X13_againstRaw_68 rfl rfl rfl (Nat.le_of_ble_eq_true rfl) (Fn.eq f_in (congrArg (fun x => some (Value.int x)) (bI_t ⟨(nI_le (by omega) (by omega)), nI_le (by omega) (by omega)⟩)) rfl) rfl ?_
      refine r_if_neN (tgt := 33) dX13_againstRaw_26 (by decide) (by omega) (fun zz26 => ?_) (fun zz26 => ?_)
      · refine r_aload_n dX13_againstRaw_33 rfl 0 rfl ?_
        refine m_ref (k := 0) (j := 1) hs hs.2.1.1 dX13_againstRaw_34 fr_X13_7 rfl ?_
        refine r_iconst (v := nI 0) dX13_againstRaw_37 (by decide) ?_
        refine g_iald (i := 0) hs dX13_againstRaw_38 (by omega) ?_
        refine r_bipush (v := nI 24) dX13_againstRaw_39 (by decide) ?_
        refine r_icmp_neN (tgt := 48) dX13_againstRaw_41 (by decide) (by omega) (by omega) (fun h41 => ?_) (fun h41 => ?_)
        · refine r_iconst (v := nI 0) dX13_againstRaw_48 (by decide) ?_
          exact r_iret (ty := .int) dX13_againstRaw_49 rfl rfl ⟨rfl, rfl⟩
        · exact absurd h41 (by omega)
      · exact absurd zz26 (by decide)
    · exact absurd zz11 (by decide)
set_option maxRecDepth 4000 in
theorem c_raw_1a {G : GI} {T : Hp} {m : Nat} {V : RVal} {g : Nat → Nat} {od : Nat → UInt64} (hs : RS T m)  {x : Int32} (hx : ¬ vp_in x 6) {y : Int32} {z : Int32} : Fn m_X13_raw G [.ref (m), .int (x), .int (y), .int (z)] (rput T m (sg V g) od) (some (.int (nI (0)))) (rput T m (sg (up2 V 0 (6) (nI 1)) (g)) od) := by
  refine Cn.of rfl (by decide) (Nat.le_of_ble_eq_true rfl) (fun hN hM => ?_)
  show Wx _ G _ 0 [(0, .ref (m)), (1, .int (x)), (2, .int (y)), (3, .int (z))] [] _
  refine r_aload_n dX13_raw_0 rfl 0 rfl ?_
  refine r_aload_n dX13_raw_1 rfl 0 rfl ?_
  refine r_iload_n dX13_raw_2 rfl 1 rfl ?_
  refine r_iload_n dX13_raw_3 rfl 2 rfl ?_
  refine r_iload_n dX13_raw_4 rfl 3 rfl ?_
  refine r_fnV (M2 := m_X13_againstRaw) (As := [.int (x), .int (y), .int (z)]) (rest := [.ref (m)]) (v := some (.int (nI (1)))) dX13_raw_5 cc_X13_raw_169 rfl rfl rfl (Nat.le_of_ble_eq_true rfl) hs.1 rfl rfl (by decide) (p_aRaw_1a hs hx) rfl ?_
  refine o_put (k := 6) hs dX13_raw_8 fw_X13_raw_54 rfl rfl rfl ?_
  refine r_aload_n dX13_raw_11 rfl 0 rfl ?_
  refine o_get (k := 6) hs dX13_raw_12 fr_X13_54 rfl ?_
  refine Wx.top up2_s ?_
  refine r_if_leN (tgt := 20) dX13_raw_15 (by decide) (by omega) (fun zz15 => ?_) (fun zz15 => ?_)
  · exact absurd zz15 (by decide)
  · refine r_iconst (v := nI 0) dX13_raw_18 (by decide) ?_
    exact r_iret (ty := .int) dX13_raw_19 rfl rfl ⟨rfl, rfl⟩
set_option maxRecDepth 4000 in
theorem c_raw_1b {G : GI} {T : Hp} {m : Nat} {V : RVal} {g : Nat → Nat} {od : Nat → UInt64} (hs : RS T m)  {a : Nat} (ha : a < 6) {y : Int32} (hy : ¬ vp_in y 4) {z : Int32} : Fn m_X13_raw G [.ref (m), .int (nI (a)), .int (y), .int (z)] (rput T m (sg V g) od) (some (.int (nI (0)))) (rput T m (sg (up2 V 0 (6) (nI 1)) (g)) od) := by
  refine Cn.of rfl (by decide) (Nat.le_of_ble_eq_true rfl) (fun hN hM => ?_)
  show Wx _ G _ 0 [(0, .ref (m)), (1, .int (nI (a))), (2, .int (y)), (3, .int (z))] [] _
  refine r_aload_n dX13_raw_0 rfl 0 rfl ?_
  refine r_aload_n dX13_raw_1 rfl 0 rfl ?_
  refine r_iload_n dX13_raw_2 rfl 1 rfl ?_
  refine r_iload_n dX13_raw_3 rfl 2 rfl ?_
  refine r_iload_n dX13_raw_4 rfl 3 rfl ?_
  refine r_fnV (M2 := m_X13_againstRaw) (As := [.int (nI (a)), .int (y), .int (z)]) (rest := [.ref (m)]) (v := some (.int (nI (1)))) dX13_raw_5 cc_X13_raw_169 rfl rfl rfl (Nat.le_of_ble_eq_true rfl) hs.1 rfl rfl (by decide) (p_aRaw_1b hs ha hy) rfl ?_
  refine o_put (k := 6) hs dX13_raw_8 fw_X13_raw_54 rfl rfl rfl ?_
  refine r_aload_n dX13_raw_11 rfl 0 rfl ?_
  refine o_get (k := 6) hs dX13_raw_12 fr_X13_54 rfl ?_
  refine Wx.top up2_s ?_
  refine r_if_leN (tgt := 20) dX13_raw_15 (by decide) (by omega) (fun zz15 => ?_) (fun zz15 => ?_)
  · exact absurd zz15 (by decide)
  · refine r_iconst (v := nI 0) dX13_raw_18 (by decide) ?_
    exact r_iret (ty := .int) dX13_raw_19 rfl rfl ⟨rfl, rfl⟩
set_option maxRecDepth 4000 in
theorem c_raw_2 {G : GI} {T : Hp} {m : Nat} {V : RVal} {g : Nat → Nat} {od : Nat → UInt64} (hs : RS T m)  {a : Nat} (ha : a < 6) {p : Nat} (hp : p < 4) {z : Int32} (hz : ¬ (nI 1 ≤ z ∧ z ≤ nI 200)) : Fn m_X13_raw G [.ref (m), .int (nI (a)), .int (nI (p)), .int (z)] (rput T m (sg V g) od) (some (.int (nI (0)))) (rput T m (sg (up2 V 0 (6) (nI 2)) (g)) od) := by
  refine Cn.of rfl (by decide) (Nat.le_of_ble_eq_true rfl) (fun hN hM => ?_)
  show Wx _ G _ 0 [(0, .ref (m)), (1, .int (nI (a))), (2, .int (nI (p))), (3, .int (z))] [] _
  refine r_aload_n dX13_raw_0 rfl 0 rfl ?_
  refine r_aload_n dX13_raw_1 rfl 0 rfl ?_
  refine r_iload_n dX13_raw_2 rfl 1 rfl ?_
  refine r_iload_n dX13_raw_3 rfl 2 rfl ?_
  refine r_iload_n dX13_raw_4 rfl 3 rfl ?_
  refine r_fnV (M2 := m_X13_againstRaw) (As := [.int (nI (a)), .int (nI (p)), .int (z)]) (rest := [.ref (m)]) (v := some (.int (nI (2)))) dX13_raw_5 cc_X13_raw_169 rfl rfl rfl (Nat.le_of_ble_eq_true rfl) hs.1 rfl rfl (by decide) (p_aRaw_2 hs ha hp hz) rfl ?_
  refine o_put (k := 6) hs dX13_raw_8 fw_X13_raw_54 rfl rfl rfl ?_
  refine r_aload_n dX13_raw_11 rfl 0 rfl ?_
  refine o_get (k := 6) hs dX13_raw_12 fr_X13_54 rfl ?_
  refine Wx.top up2_s ?_
  refine r_if_leN (tgt := 20) dX13_raw_15 (by decide) (by omega) (fun zz15 => ?_) (fun zz15 => ?_)
  · exact absurd zz15 (by decide)
  · refine r_iconst (v := nI 0) dX13_raw_18 (by decide) ?_
    exact r_iret (ty := .int) dX13_raw_19 rfl rfl ⟨rfl, rfl⟩
set_option maxRecDepth 4000 in
theorem c_raw_3 {G : GI} {T : Hp} {m : Nat} {V : RVal} {g : Nat → Nat} {od : Nat → UInt64} (hs : RS T m)  {a : Nat} (ha : a < 6) {p : Nat} (hp : p < 4) {n : Nat} (hn0 : 0 < n) (hn : n ≤ 200) (h : g 0 = 24) : Fn m_X13_raw G [.ref (m), .int (nI (a)), .int (nI (p)), .int (nI (n))] (rput T m (sg V g) od) (some (.int (nI (0)))) (rput T m (sg (up2 V 0 (6) (nI 3)) (g)) od) := by
  refine Cn.of rfl (by decide) (Nat.le_of_ble_eq_true rfl) (fun hN hM => ?_)
  show Wx _ G _ 0 [(0, .ref (m)), (1, .int (nI (a))), (2, .int (nI (p))), (3, .int (nI (n)))] [] _
  refine r_aload_n dX13_raw_0 rfl 0 rfl ?_
  refine r_aload_n dX13_raw_1 rfl 0 rfl ?_
  refine r_iload_n dX13_raw_2 rfl 1 rfl ?_
  refine r_iload_n dX13_raw_3 rfl 2 rfl ?_
  refine r_iload_n dX13_raw_4 rfl 3 rfl ?_
  refine r_fnV (M2 := m_X13_againstRaw) (As := [.int (nI (a)), .int (nI (p)), .int (nI (n))]) (rest := [.ref (m)]) (v := some (.int (nI (3)))) dX13_raw_5 cc_X13_raw_169 rfl rfl rfl (Nat.le_of_ble_eq_true rfl) hs.1 rfl rfl (by decide) (p_aRaw_3 hs ha hp hn0 hn h) rfl ?_
  refine o_put (k := 6) hs dX13_raw_8 fw_X13_raw_54 rfl rfl rfl ?_
  refine r_aload_n dX13_raw_11 rfl 0 rfl ?_
  refine o_get (k := 6) hs dX13_raw_12 fr_X13_54 rfl ?_
  refine Wx.top up2_s ?_
  refine r_if_leN (tgt := 20) dX13_raw_15 (by decide) (by omega) (fun zz15 => ?_) (fun zz15 => ?_)
  · exact absurd zz15 (by decide)
  · refine r_iconst (v := nI 0) dX13_raw_18 (by decide) ?_
    exact r_iret (ty := .int) dX13_raw_19 rfl rfl ⟨rfl, rfl⟩
set_option maxRecDepth 4000 in
theorem c_raw_0 {G : GI} {T : Hp} {m : Nat} {V : RVal} {g : Nat → Nat} {od : Nat → UInt64} (hs : RS T m)  (hb : WB g) {a : Nat} (ha : a < 6) {p : Nat} (hp : p < 4) {n : Nat} (hn0 : 0 < n) (hn : n ≤ 200) (h0 : g 0 < 24) (h1 : g (4 + 3 * a) ≤ 50) (h2 : g (4 + 3 * a + 1) < 4) (h3 : g (4 + 3 * a + 2) < 2147470000) {V2 : RVal} (hch : Fn m_X13_changes G [.ref (m), .ref (m + 1)] (rput T m (sg (up2 V 0 (6) (nI 0)) g) od) none (rput T m (sg V2 g) od)) : Fn m_X13_raw G [.ref (m), .int (nI (a)), .int (nI (p)), .int (nI (n))] (rput T m (sg V g) od) (some (.int (nI (g 0)))) (rput T m (sg V2 ((wrkI (begG g a p n 0) a (g 0) n))) od) := by
  refine Cn.of rfl (by decide) (Nat.le_of_ble_eq_true rfl) (fun hN hM => ?_)
  show Wx _ G _ 0 [(0, .ref (m)), (1, .int (nI (a))), (2, .int (nI (p))), (3, .int (nI (n)))] [] _
  refine r_aload_n dX13_raw_0 rfl 0 rfl ?_
  refine r_aload_n dX13_raw_1 rfl 0 rfl ?_
  refine r_iload_n dX13_raw_2 rfl 1 rfl ?_
  refine r_iload_n dX13_raw_3 rfl 2 rfl ?_
  refine r_iload_n dX13_raw_4 rfl 3 rfl ?_
  refine r_fnV (M2 := m_X13_againstRaw) (As := [.int (nI (a)), .int (nI (p)), .int (nI (n))]) (rest := [.ref (m)]) (v := some (.int (nI (0)))) dX13_raw_5 cc_X13_raw_169 rfl rfl rfl (Nat.le_of_ble_eq_true rfl) hs.1 rfl rfl (by decide) (p_aRaw_0 hs ha hp hn0 hn h0) rfl ?_
  refine o_put (k := 6) hs dX13_raw_8 fw_X13_raw_54 rfl rfl rfl ?_
  refine r_aload_n dX13_raw_11 rfl 0 rfl ?_
  refine o_get (k := 6) hs dX13_raw_12 fr_X13_54 rfl ?_
  refine Wx.top up2_s ?_
  refine r_if_leN (tgt := 20) dX13_raw_15 (by decide) (by omega) (fun zz15 => ?_) (fun zz15 => ?_)
  · refine r_aload_n dX13_raw_20 rfl 0 rfl ?_
    refine r_aload_n dX13_raw_21 rfl 0 rfl ?_
    refine m_ref (k := 0) (j := 1) hs hs.2.1.1 dX13_raw_22 fr_X13_7 rfl ?_
    refine r_fnV (M2 := m_X13_changes) (As := [.ref (m + 1)]) (rest := []) (v := none) dX13_raw_25 cc_X13_raw_111 rfl rfl rfl (Nat.le_of_ble_eq_true rfl) hs.1 rfl rfl (by decide) hch rfl ?_
    refine r_aload_n dX13_raw_28 rfl 0 rfl ?_
    refine r_iload_n dX13_raw_29 rfl 1 rfl ?_
    refine r_iload_n dX13_raw_30 rfl 2 rfl ?_
    refine r_iload_n dX13_raw_31 rfl 3 rfl ?_
    refine r_fnV (M2 := m_X13_rawNow) (As := [.int (nI (a)), .int (nI (p)), .int (nI (n))]) (rest := []) (v := some (.int (nI (g 0)))) dX13_raw_32 cc_X13_raw_172 rfl rfl rfl (Nat.le_of_ble_eq_true rfl) hs.1 rfl rfl (by decide) (g_rawNow hs hb h0 hn ha h1 h2 h3) rfl ?_
    exact r_iret (ty := .int) dX13_raw_35 rfl rfl ⟨rfl, rfl⟩
  · exact absurd zz15 (by decide)
set_option maxRecDepth 4000 in
theorem p_maybe {G : GI} {T : Hp} {m : Nat} {V : RVal} {g : Nat → Nat} {od : Nat → UInt64} (hs : RS T m)  (h24 : g 0 ≤ 24) {x : Int32} : Fn m_X13_maybePart G [.ref (m), .int (x)] (rput T m (sg V g) od) (some (.int (bI (x = (-1) ∨ vp_in x (g 0))))) (rput T m (sg V (g)) od) := by
  refine Cn.of rfl (by decide) (Nat.le_of_ble_eq_true rfl) (fun hN hM => ?_)
  show Wx _ G _ 0 [(0, .ref (m)), (1, .int (x))] [] _
  refine r_iload_n dX13_maybePart_0 rfl 1 rfl ?_
  refine r_iconst (v := (-1)) dX13_maybePart_1 (by decide) ?_
  refine r_icmp_eq (tgt := 13) dX13_maybePart_2 (by decide) (fun h2 => ?_) (fun h2 => ?_)
  · refine r_iconst (v := nI 1) dX13_maybePart_13 (by decide) ?_
    refine r_goto (tgt := 18) dX13_maybePart_14 (by decide) ?_
    exact r_iret (ty := .boolean) dX13_maybePart_18 rfl (by decide) ⟨congrArg (fun x => Sum.inl (some (Value.int x))) (bI_t (Or.inl h2)).symm, rfl⟩
  · refine r_aload_n dX13_maybePart_5 rfl 0 rfl ?_
    refine r_iload_n dX13_maybePart_6 rfl 1 rfl ?_
    refine r_fnV (M2 := m_X13_isLot) (As := [.int (x)]) (rest := []) (v := some (.int (bI (vp_in (x) (g 0))))) dX13_maybePart_7 cc_X13_maybePart_76 rfl rfl rfl (Nat.le_of_ble_eq_true rfl) hs.1 rfl rfl (by decide) (g_isLot hs h24) rfl ?_
    refine r_if_eqB (tgt := 17) dX13_maybePart_10 (by decide) (fun h10 => ?_) (fun h10 => ?_)
    · refine r_iconst (v := nI 0) dX13_maybePart_17 (by decide) ?_
      exact r_iret (ty := .boolean) dX13_maybePart_18 rfl (by decide) ⟨congrArg (fun x => Sum.inl (some (Value.int x))) (bI_f (fun q => q.elim h2 h10)).symm, rfl⟩
    · refine r_iconst (v := nI 1) dX13_maybePart_13 (by decide) ?_
      refine r_goto (tgt := 18) dX13_maybePart_14 (by decide) ?_
      exact r_iret (ty := .boolean) dX13_maybePart_18 rfl (by decide) ⟨congrArg (fun x => Sum.inl (some (Value.int x))) (bI_t (Or.inr h10)).symm, rfl⟩
def fewP (g : Nat → Nat) (l n : Nat) : Prop := ¬ g (90 + 13 * l + 2) = 1 ∨ inS g l 0 < n
set_option maxRecDepth 4000 in
theorem p_few {G : GI} {T : Hp} {m : Nat} {V : RVal} {g : Nat → Nat} {od : Nat → UInt64} (hs : RS T m)  (h24 : g 0 ≤ 24) (hb : WB g) {l n : Nat} (hl : l < g 0) (hz : g (90 + 13 * l + 1) ≤ 200) (hst : g (90 + 13 * l + 2) < 4) (hn : n ≤ 200) : Fn m_X13_hasFew G [.ref (m), .int (nI (l)), .int (nI (n))] (rput T m (sg V g) od) (some (.int (bI (fewP g l n)))) (rput T m (sg V (g)) od) := by
  refine Cn.of rfl (by decide) (Nat.le_of_ble_eq_true rfl) (fun hN hM => ?_)
  show Wx _ G _ 0 [(0, .ref (m)), (1, .int (nI (l))), (2, .int (nI (n)))] [] _
  refine r_iload_n dX13_hasFew_0 rfl 1 rfl ?_
  refine r_if_ltN (tgt := 32) dX13_hasFew_1 (by decide) (by (first | omega | (have : inS g l 0 ≤ g (90 + 13 * l + 1) := cnt_le _ _; omega))) ?_
  refine r_aload_n dX13_hasFew_4 rfl 0 rfl ?_
  refine m_ref (k := 0) (j := 1) hs hs.2.1.1 dX13_hasFew_5 fr_X13_7 rfl ?_
  refine r_iload_n dX13_hasFew_8 rfl 1 rfl ?_
  refine r_iconst (v := nI 2) dX13_hasFew_9 (by decide) ?_
  refine r_fnS (M2 := m_X13_at) (As := [.int (nI (l)), .int (nI (2))]) (rest := [.ref (m + 1)]) (v := some (.int (nI (90 + 13 * l + 2)))) dX13_hasFew_10 cc_X13_hasFew_72 rfl rfl rfl (Nat.le_of_ble_eq_true rfl) f_at rfl ?_
  refine g_iald (i := 90 + 13 * l + 2) hs dX13_hasFew_13 (by (first | omega | (have : inS g l 0 ≤ g (90 + 13 * l + 1) := cnt_le _ _; omega))) ?_
  refine r_iconst (v := nI 1) dX13_hasFew_14 (by decide) ?_
  refine r_icmp_neN (tgt := 28) dX13_hasFew_15 (by decide) (by (first | omega | (have : inS g l 0 ≤ g (90 + 13 * l + 1) := cnt_le _ _; omega))) (by (first | omega | (have : inS g l 0 ≤ g (90 + 13 * l + 1) := cnt_le _ _; omega))) (fun h15 => ?_) (fun h15 => ?_)
  · refine r_iconst (v := nI 1) dX13_hasFew_28 (by decide) ?_
    refine r_goto (tgt := 33) dX13_hasFew_29 (by decide) ?_
    exact r_iret (ty := .boolean) dX13_hasFew_33 rfl (by decide) ⟨congrArg (fun x => Sum.inl (some (Value.int x))) (bI_t (Or.inl h15)).symm, rfl⟩
  · refine r_aload_n dX13_hasFew_18 rfl 0 rfl ?_
    refine r_iload_n dX13_hasFew_19 rfl 1 rfl ?_
    refine r_iconst (v := nI 0) dX13_hasFew_20 (by decide) ?_
    refine r_fnV (M2 := m_X13_inState) (As := [.int (nI (l)), .int (nI (0))]) (rest := []) (v := some (.int (nI (inS g l 0)))) dX13_hasFew_21 cc_X13_hasFew_175 rfl rfl rfl (Nat.le_of_ble_eq_true rfl) hs.1 rfl rfl (by decide) (g_inState hs hb (by (first | omega | (have : inS g l 0 ≤ g (90 + 13 * l + 1) := cnt_le _ _; omega))) (by (first | omega | (have : inS g l 0 ≤ g (90 + 13 * l + 1) := cnt_le _ _; omega))) (by (first | omega | (have : inS g l 0 ≤ g (90 + 13 * l + 1) := cnt_le _ _; omega)))) rfl ?_
    refine r_iload_n dX13_hasFew_24 rfl 2 rfl ?_
    refine r_icmp_geN (tgt := 32) dX13_hasFew_25 (by decide) (by (first | omega | (have : inS g l 0 ≤ g (90 + 13 * l + 1) := cnt_le _ _; omega))) (by (first | omega | (have : inS g l 0 ≤ g (90 + 13 * l + 1) := cnt_le _ _; omega))) (fun h25 => ?_) (fun h25 => ?_)
    · refine r_iconst (v := nI 0) dX13_hasFew_32 (by decide) ?_
      exact r_iret (ty := .boolean) dX13_hasFew_33 rfl (by decide) ⟨congrArg (fun x => Sum.inl (some (Value.int x))) (bI_f (fun q => q.elim (fun q => q h15) (fun q => absurd q (Nat.not_lt.mpr h25)))).symm, rfl⟩
    · refine r_iconst (v := nI 1) dX13_hasFew_28 (by decide) ?_
      refine r_goto (tgt := 33) dX13_hasFew_29 (by decide) ?_
      exact r_iret (ty := .boolean) dX13_hasFew_33 rfl (by decide) ⟨congrArg (fun x => Sum.inl (some (Value.int x))) (bI_t (Or.inr h25)).symm, rfl⟩
set_option maxRecDepth 4000 in
theorem p_few_no {G : GI} {T : Hp} {m : Nat} {V : RVal} {g : Nat → Nat} {od : Nat → UInt64} (hs : RS T m)  {x : Int32} : Fn m_X13_hasFew G [.ref (m), .int ((-1)), .int (x)] (rput T m (sg V g) od) (some (.int (nI (0)))) (rput T m (sg V (g)) od) := by
  refine Cn.of rfl (by decide) (Nat.le_of_ble_eq_true rfl) (fun hN hM => ?_)
  show Wx _ G _ 0 [(0, .ref (m)), (1, .int ((-1))), (2, .int (x))] [] _
  refine r_iload_n dX13_hasFew_0 rfl 1 rfl ?_
  refine r_if_lt (tgt := 32) dX13_hasFew_1 (by decide) (fun h1 => ?_) (fun h1 => ?_)
  · refine r_iconst (v := nI 0) dX13_hasFew_32 (by decide) ?_
    exact r_iret (ty := .boolean) dX13_hasFew_33 rfl (by decide) ⟨rfl, rfl⟩
  · exact absurd (by decide : (-1 : Int32) < 0) h1
set_option maxRecDepth 4000 in
theorem p_aMk_1 {G : GI} {T : Hp} {m : Nat} {V : RVal} {g : Nat → Nat} {od : Nat → UInt64} (hs : RS T m)  (h24 : g 0 ≤ 24) {x0 x1 x2 x3 x4 x5 : Int32} (h : ¬ (vp_in x0 6 ∧ vp_in x1 4 ∧ vp_in x3 (g 0) ∧ (x4 = (-1) ∨ vp_in x4 (g 0)) ∧ (x5 = (-1) ∨ vp_in x5 (g 0)))) : Fn m_X13_againstMake G [.ref (m), .int (x0), .int (x1), .int (x2), .int (x3), .int (x4), .int (x5)] (rput T m (sg V g) od) (some (.int (nI (1)))) (rput T m (sg V (g)) od) := by
  refine Cn.of rfl (by decide) (Nat.le_of_ble_eq_true rfl) (fun hN hM => ?_)
  show Wx _ G _ 0 [(0, .ref (m)), (1, .int (x0)), (2, .int (x1)), (3, .int (x2)), (4, .int (x3)), (5, .int (x4)), (6, .int (x5))] [] _
  refine r_iload_n dX13_againstMake_0 rfl 1 rfl ?_
  refine r_fnS (M2 := m_X13_isMachine) (As := [.int (x0)]) (rest := []) (v := some (.int (bI (vp_in (x0) 6)))) dX13_againstMake_1 cc_X13_againstMake_104 rfl rfl rfl (Nat.le_of_ble_eq_true rfl) f_isMachine rfl ?_
  refine r_if_eqB (tgt := 41) dX13_againstMake_4 (by decide) (fun h4 => ?_) (fun h4 => ?_)
  · refine r_iconst (v := nI 1) dX13_againstMake_41 (by decide) ?_
    exact r_iret (ty := .int) dX13_againstMake_42 rfl rfl ⟨rfl, rfl⟩
  · refine r_iload_n dX13_againstMake_7 rfl 2 rfl ?_
    refine r_fnS (M2 := m_X13_isProduct) (As := [.int (x1)]) (rest := []) (v := some (.int (bI (vp_in (x1) 4)))) dX13_againstMake_8 cc_X13_againstMake_118 rfl rfl rfl (Nat.le_of_ble_eq_true rfl) f_isProduct rfl ?_
    refine r_if_eqB (tgt := 41) dX13_againstMake_11 (by decide) (fun h11 => ?_) (fun h11 => ?_)
    · refine r_iconst (v := nI 1) dX13_againstMake_41 (by decide) ?_
      exact r_iret (ty := .int) dX13_againstMake_42 rfl rfl ⟨rfl, rfl⟩
    · refine r_aload_n dX13_againstMake_14 rfl 0 rfl ?_
      refine r_iload dX13_againstMake_15 4 rfl ?_
      refine r_fnV (M2 := m_X13_isLot) (As := [.int (x3)]) (rest := []) (v := some (.int (bI (vp_in (x3) (g 0))))) dX13_againstMake_17 cc_X13_againstMake_76 rfl rfl rfl (Nat.le_of_ble_eq_true rfl) hs.1 rfl rfl (by decide) (g_isLot hs h24) rfl ?_
      refine r_if_eqB (tgt := 41) dX13_againstMake_20 (by decide) (fun h20 => ?_) (fun h20 => ?_)
      · refine r_iconst (v := nI 1) dX13_againstMake_41 (by decide) ?_
        exact r_iret (ty := .int) dX13_againstMake_42 rfl rfl ⟨rfl, rfl⟩
      · refine r_aload_n dX13_againstMake_23 rfl 0 rfl ?_
        refine r_iload dX13_againstMake_24 5 rfl ?_
        refine r_fnV (M2 := m_X13_maybePart) (As := [.int (x4)]) (rest := []) (v := some (.int (bI (x4 = (-1) ∨ vp_in x4 (g 0))))) dX13_againstMake_26 cc_X13_againstMake_178 rfl rfl rfl (Nat.le_of_ble_eq_true rfl) hs.1 rfl rfl (by decide) (p_maybe hs h24) rfl ?_
        refine r_if_eqB (tgt := 41) dX13_againstMake_29 (by decide) (fun h29 => ?_) (fun h29 => ?_)
        · refine r_iconst (v := nI 1) dX13_againstMake_41 (by decide) ?_
          exact r_iret (ty := .int) dX13_againstMake_42 rfl rfl ⟨rfl, rfl⟩
        · refine r_aload_n dX13_againstMake_32 rfl 0 rfl ?_
          refine r_iload dX13_againstMake_33 6 rfl ?_
          refine r_fnV (M2 := m_X13_maybePart) (As := [.int (x5)]) (rest := []) (v := some (.int (bI (x5 = (-1) ∨ vp_in x5 (g 0))))) dX13_againstMake_35 cc_X13_againstMake_178 rfl rfl rfl (Nat.le_of_ble_eq_true rfl) hs.1 rfl rfl (by decide) (p_maybe hs h24) rfl ?_
          refine r_if_neB (tgt := 43) dX13_againstMake_38 (by decide) (fun h38 => ?_) (fun h38 => ?_)
          · exact absurd ⟨h4, h11, h20, h29, h38⟩ h
          · refine r_iconst (v := nI 1) dX13_againstMake_41 (by decide) ?_
            exact r_iret (ty := .int) dX13_againstMake_42 rfl rfl ⟨rfl, rfl⟩
set_option maxRecDepth 4000 in
theorem p_aMk_2 {G : GI} {T : Hp} {m : Nat} {V : RVal} {g : Nat → Nat} {od : Nat → UInt64} (hs : RS T m)  (h24 : g 0 ≤ 24) {x0 x1 x2 x3 x4 x5 : Int32} (h1 : (vp_in x0 6 ∧ vp_in x1 4 ∧ vp_in x3 (g 0) ∧ (x4 = (-1) ∨ vp_in x4 (g 0)) ∧ (x5 = (-1) ∨ vp_in x5 (g 0)))) (h2 : ¬ ((nI 1 ≤ x2 ∧ x2 ≤ nI 200) ∧ (¬ x3 = x4) ∧ (¬ x3 = x5) ∧ (¬ (x4 = x5 ∧ 0 ≤ x4)) ∧ ¬ (x4 < 0 ∧ 0 ≤ x5))) : Fn m_X13_againstMake G [.ref (m), .int (x0), .int (x1), .int (x2), .int (x3), .int (x4), .int (x5)] (rput T m (sg V g) od) (some (.int (nI (2)))) (rput T m (sg V (g)) od) := by
  refine Cn.of rfl (by decide) (Nat.le_of_ble_eq_true rfl) (fun hN hM => ?_)
  show Wx _ G _ 0 [(0, .ref (m)), (1, .int (x0)), (2, .int (x1)), (3, .int (x2)), (4, .int (x3)), (5, .int (x4)), (6, .int (x5))] [] _
  refine r_iload_n dX13_againstMake_0 rfl 1 rfl ?_
  refine r_fnS (M2 := m_X13_isMachine) (As := [.int (x0)]) (rest := []) (v := some (.int (bI (vp_in (x0) 6)))) dX13_againstMake_1 cc_X13_againstMake_104 rfl rfl rfl (Nat.le_of_ble_eq_true rfl) f_isMachine rfl ?_
  refine r_if_eqB (tgt := 41) dX13_againstMake_4 (by decide) (fun h4 => ?_) (fun h4 => ?_)
  · exact absurd h1 (fun q => by obtain ⟨q1, q2, q3, q4, q5⟩ := q; first | exact h4 q1 | exact h4 q2 | exact h4 q3 | exact h4 q4 | exact h4 q5)
  · refine r_iload_n dX13_againstMake_7 rfl 2 rfl ?_
    refine r_fnS (M2 := m_X13_isProduct) (As := [.int (x1)]) (rest := []) (v := some (.int (bI (vp_in (x1) 4)))) dX13_againstMake_8 cc_X13_againstMake_118 rfl rfl rfl (Nat.le_of_ble_eq_true rfl) f_isProduct rfl ?_
    refine r_if_eqB (tgt := 41) dX13_againstMake_11 (by decide) (fun h11 => ?_) (fun h11 => ?_)
    · exact absurd h1 (fun q => by obtain ⟨q1, q2, q3, q4, q5⟩ := q; first | exact h11 q1 | exact h11 q2 | exact h11 q3 | exact h11 q4 | exact h11 q5)
    · refine r_aload_n dX13_againstMake_14 rfl 0 rfl ?_
      refine r_iload dX13_againstMake_15 4 rfl ?_
      refine r_fnV (M2 := m_X13_isLot) (As := [.int (x3)]) (rest := []) (v := some (.int (bI (vp_in (x3) (g 0))))) dX13_againstMake_17 cc_X13_againstMake_76 rfl rfl rfl (Nat.le_of_ble_eq_true rfl) hs.1 rfl rfl (by decide) (g_isLot hs h24) rfl ?_
      refine r_if_eqB (tgt := 41) dX13_againstMake_20 (by decide) (fun h20 => ?_) (fun h20 => ?_)
      · exact absurd h1 (fun q => by obtain ⟨q1, q2, q3, q4, q5⟩ := q; first | exact h20 q1 | exact h20 q2 | exact h20 q3 | exact h20 q4 | exact h20 q5)
      · refine r_aload_n dX13_againstMake_23 rfl 0 rfl ?_
        refine r_iload dX13_againstMake_24 5 rfl ?_
        refine r_fnV (M2 := m_X13_maybePart) (As := [.int (x4)]) (rest := []) (v := some (.int (bI (x4 = (-1) ∨ vp_in x4 (g 0))))) dX13_againstMake_26 cc_X13_againstMake_178 rfl rfl rfl (Nat.le_of_ble_eq_true rfl) hs.1 rfl rfl (by decide) (p_maybe hs h24) rfl ?_
        refine r_if_eqB (tgt := 41) dX13_againstMake_29 (by decide) (fun h29 => ?_) (fun h29 => ?_)
        · exact absurd h1 (fun q => by obtain ⟨q1, q2, q3, q4, q5⟩ := q; first | exact h29 q1 | exact h29 q2 | exact h29 q3 | exact h29 q4 | exact h29 q5)
        · refine r_aload_n dX13_againstMake_32 rfl 0 rfl ?_
          refine r_iload dX13_againstMake_33 6 rfl ?_
          refine r_fnV (M2 := m_X13_maybePart) (As := [.int (x5)]) (rest := []) (v := some (.int (bI (x5 = (-1) ∨ vp_in x5 (g 0))))) dX13_againstMake_35 cc_X13_againstMake_178 rfl rfl rfl (Nat.le_of_ble_eq_true rfl) hs.1 rfl rfl (by decide) (p_maybe hs h24) rfl ?_
          refine r_if_neB (tgt := 43) dX13_againstMake_38 (by decide) (fun h38 => ?_) (fun h38 => ?_)
          · refine r_iload_n dX13_againstMake_43 rfl 3 rfl ?_
            refine r_iconst (v := nI 1) dX13_againstMake_44 (by decide) ?_
            refine r_sipush (v := nI 200) dX13_againstMake_45 (by decide) ?_
            refine r_fnS (M2 := m_X13_in) (As := [.int (x2), .int (nI (1)), .int (nI (200))]) (rest := []) (v := some (.int (bI (nI 1 ≤ x2 ∧ x2 ≤ nI 200)))) dX13_againstMake_48 cc_X13_againstMake_68 rfl rfl rfl (Nat.le_of_ble_eq_true rfl) f_in rfl ?_
            refine r_if_eqB (tgt := 90) dX13_againstMake_51 (by decide) (fun h51 => ?_) (fun h51 => ?_)
            · refine r_iconst (v := nI 2) dX13_againstMake_90 (by decide) ?_
              exact r_iret (ty := .int) dX13_againstMake_91 rfl rfl ⟨rfl, rfl⟩
            · refine r_iload dX13_againstMake_54 4 rfl ?_
              refine r_iload dX13_againstMake_56 5 rfl ?_
              refine r_icmp_eq (tgt := 90) dX13_againstMake_58 (by decide) (fun h58 => ?_) (fun h58 => ?_)
              · refine r_iconst (v := nI 2) dX13_againstMake_90 (by decide) ?_
                exact r_iret (ty := .int) dX13_againstMake_91 rfl rfl ⟨rfl, rfl⟩
              · refine r_iload dX13_againstMake_61 4 rfl ?_
                refine r_iload dX13_againstMake_63 6 rfl ?_
                refine r_icmp_eq (tgt := 90) dX13_againstMake_65 (by decide) (fun h65 => ?_) (fun h65 => ?_)
                · refine r_iconst (v := nI 2) dX13_againstMake_90 (by decide) ?_
                  exact r_iret (ty := .int) dX13_againstMake_91 rfl rfl ⟨rfl, rfl⟩
                · refine r_iload dX13_againstMake_68 5 rfl ?_
                  refine r_iload dX13_againstMake_70 6 rfl ?_
                  refine r_icmp_ne (tgt := 80) dX13_againstMake_72 (by decide) (fun h72 => ?_) (fun h72 => ?_)
                  · refine r_iload dX13_againstMake_80 5 rfl ?_
                    refine r_if_ge (tgt := 92) dX13_againstMake_82 (by decide) (fun h82 => ?_) (fun h82 => ?_)
                    · exact absurd ⟨h51, h58, h65, (fun q => h72 q.1), (fun q => by first | exact absurd q.1 h82 | exact absurd q.1 (Int32.not_lt.mpr h82))⟩ h2
                    · refine r_iload dX13_againstMake_85 6 rfl ?_
                      refine r_if_lt (tgt := 92) dX13_againstMake_87 (by decide) (fun h87 => ?_) (fun h87 => ?_)
                      · exact absurd ⟨h51, h58, h65, (fun q => h72 q.1), (fun q => by first | exact absurd q.1 h82 | exact absurd q.1 (Int32.not_lt.mpr h82) | exact absurd q.2 h87 | exact absurd q.2 (Int32.not_le.mpr h87))⟩ h2
                      · refine r_iconst (v := nI 2) dX13_againstMake_90 (by decide) ?_
                        exact r_iret (ty := .int) dX13_againstMake_91 rfl rfl ⟨rfl, rfl⟩
                  · refine r_iload dX13_againstMake_75 5 rfl ?_
                    refine r_if_ge (tgt := 90) dX13_againstMake_77 (by decide) (fun h77 => ?_) (fun h77 => ?_)
                    · refine r_iconst (v := nI 2) dX13_againstMake_90 (by decide) ?_
                      exact r_iret (ty := .int) dX13_againstMake_91 rfl rfl ⟨rfl, rfl⟩
                    · refine r_iload dX13_againstMake_80 5 rfl ?_
                      refine r_if_ge (tgt := 92) dX13_againstMake_82 (by decide) (fun h82_1 => ?_) (fun h82_1 => ?_)
                      · exact absurd ⟨h51, h58, h65, (fun q => absurd q.2 (by first | exact h77 | exact Int32.not_le.mpr (Int32.not_le.mp h77))), (fun q => by first | exact absurd q.1 h82_1 | exact absurd q.1 (Int32.not_lt.mpr h82_1))⟩ h2
                      · refine r_iload dX13_againstMake_85 6 rfl ?_
                        refine r_if_lt (tgt := 92) dX13_againstMake_87 (by decide) (fun h87_1 => ?_) (fun h87_1 => ?_)
                        · exact absurd ⟨h51, h58, h65, (fun q => absurd q.2 (by first | exact h77 | exact Int32.not_le.mpr (Int32.not_le.mp h77))), (fun q => by first | exact absurd q.1 h82_1 | exact absurd q.1 (Int32.not_lt.mpr h82_1) | exact absurd q.2 h87_1 | exact absurd q.2 (Int32.not_le.mpr h87_1))⟩ h2
                        · refine r_iconst (v := nI 2) dX13_againstMake_90 (by decide) ?_
                          exact r_iret (ty := .int) dX13_againstMake_91 rfl rfl ⟨rfl, rfl⟩
          · exact absurd h1 (fun q => by obtain ⟨q1, q2, q3, q4, q5⟩ := q; first | exact h38 q1 | exact h38 q2 | exact h38 q3 | exact h38 q4 | exact h38 q5)
