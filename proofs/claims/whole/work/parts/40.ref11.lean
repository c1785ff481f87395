set_option maxRecDepth 4000 in
theorem g_isUnit_0 {G : GI} {T : Hp} {m : Nat} {V : RVal} {g : Nat → Nat} {od : Nat → UInt64} (hs : RS T m)  (h24 : g 0 ≤ 24) {x y : Int32} (hx : ¬ vp_in x (g 0)) : Fn m_X13_isUnit G [.ref (m), .int (x), .int (y)] (rput T m (sg V g) od) (some (.int (nI (0)))) (rput T m (sg V (g)) od) := by
  refine Cn.of rfl (by decide) (Nat.le_of_ble_eq_true rfl) (fun hN hM => ?_)
  show Wx _ G _ 0 [(0, .ref (m)), (1, .int (x)), (2, .int (y))] [] _
  refine r_aload_n dX13_isUnit_0 rfl 0 rfl ?_
  refine r_iload_n dX13_isUnit_1 rfl 1 rfl ?_
  refine r_fnV (M2 := m_X13_isLot) (As := [.int (x)]) (rest := []) (v := some (.int (nI (0)))) dX13_isUnit_2 cc_X13_isUnit_76 rfl rfl rfl (Nat.le_of_ble_eq_true rfl) hs.1 rfl rfl (by decide) (Fn.eq (g_isLot hs h24) (congrArg (fun x => some (Value.int x)) (bI_f hx)) rfl) rfl ?_
  refine r_if_eqN (tgt := 27) dX13_isUnit_5 (by decide) (by omega) (fun zz5 => ?_) (fun zz5 => ?_)
  · refine r_iconst (v := nI 0) dX13_isUnit_27 (by decide) ?_
    exact r_iret (ty := .boolean) dX13_isUnit_28 rfl (by decide) ⟨rfl, rfl⟩
  · exact absurd zz5 (by decide)
set_option maxRecDepth 4000 in
theorem g_isUnit_1 {G : GI} {T : Hp} {m : Nat} {V : RVal} {g : Nat → Nat} {od : Nat → UInt64} (hs : RS T m)  (h24 : g 0 ≤ 24) {l : Nat} (hl : l < g 0) (hz : g (90 + 13 * l + 1) ≤ 200) {y : Int32} (hy : ¬ vp_in y (g (90 + 13 * l + 1))) : Fn m_X13_isUnit G [.ref (m), .int (nI (l)), .int (y)] (rput T m (sg V g) od) (some (.int (nI (0)))) (rput T m (sg V (g)) od) := by
  refine Cn.of rfl (by decide) (Nat.le_of_ble_eq_true rfl) (fun hN hM => ?_)
  show Wx _ G _ 0 [(0, .ref (m)), (1, .int (nI (l))), (2, .int (y))] [] _
  refine r_aload_n dX13_isUnit_0 rfl 0 rfl ?_
  refine r_iload_n dX13_isUnit_1 rfl 1 rfl ?_
  refine r_fnV (M2 := m_X13_isLot) (As := [.int (nI (l))]) (rest := []) (v := some (.int (nI (1)))) dX13_isUnit_2 cc_X13_isUnit_76 rfl rfl rfl (Nat.le_of_ble_eq_true rfl) hs.1 rfl rfl (by decide) (Fn.eq (g_isLot hs h24) (congrArg (fun x => some (Value.int x)) (bI_t (vp_in_nI (by omega) (by first | decide | omega)))) rfl) rfl ?_
  refine r_if_eqN (tgt := 27) dX13_isUnit_5 (by decide) (by omega) (fun zz5 => ?_) (fun zz5 => ?_)
  · exact absurd zz5 (by decide)
  · refine r_iload_n dX13_isUnit_8 rfl 2 rfl ?_
    refine r_iconst (v := nI 0) dX13_isUnit_9 (by decide) ?_
    refine r_aload_n dX13_isUnit_10 rfl 0 rfl ?_
    refine r_iload_n dX13_isUnit_11 rfl 1 rfl ?_
    refine r_fnV (M2 := m_X13_size) (As := [.int (nI (l))]) (rest := [.int (nI (0)), .int (y)]) (v := some (.int (nI (g (90 + 13 * l + 1))))) dX13_isUnit_12 cc_X13_isUnit_80 rfl rfl rfl (Nat.le_of_ble_eq_true rfl) hs.1 rfl rfl (by decide) (g_size hs (by omega)) rfl ?_
    refine r_iconst (v := nI 1) dX13_isUnit_15 (by decide) ?_
    refine r_isub dX13_isUnit_16 ?_
    refine r_fnS (M2 := m_X13_in) (As := [.int (y), .int (nI (0)), .int (nI (g (90 + 13 * l + 1)) - nI 1)]) (rest := []) (v := some (.int (nI (0)))) dX13_isUnit_17 cc_X13_isUnit_68 rfl rfl rfl (Nat.le_of_ble_eq_true rfl) (Fn.eq f_in (show some (Value.int (bI (nI 0 ≤ y ∧ y ≤ nI (g (90 + 13 * l + 1)) - nI 1))) = some (Value.int (nI 0)) from congrArg (fun x => some (Value.int x)) ((bI_iff (inR_iff0 (by omega))).trans (bI_f hy))) rfl) rfl ?_
    refine r_if_eqN (tgt := 27) dX13_isUnit_20 (by decide) (by omega) (fun zz20 => ?_) (fun zz20 => ?_)
    · refine r_iconst (v := nI 0) dX13_isUnit_27 (by decide) ?_
      exact r_iret (ty := .boolean) dX13_isUnit_28 rfl (by decide) ⟨rfl, rfl⟩
    · exact absurd zz20 (by decide)
set_option maxRecDepth 4000 in
theorem g_isUnit_2 {G : GI} {T : Hp} {m : Nat} {V : RVal} {g : Nat → Nat} {od : Nat → UInt64} (hs : RS T m)  (h24 : g 0 ≤ 24) {l : Nat} (hl : l < g 0) (hz : g (90 + 13 * l + 1) ≤ 200) {u : Nat} (hu : u < g (90 + 13 * l + 1)) : Fn m_X13_isUnit G [.ref (m), .int (nI (l)), .int (nI (u))] (rput T m (sg V g) od) (some (.int (nI (1)))) (rput T m (sg V (g)) od) := by
  refine Cn.of rfl (by decide) (Nat.le_of_ble_eq_true rfl) (fun hN hM => ?_)
  show Wx _ G _ 0 [(0, .ref (m)), (1, .int (nI (l))), (2, .int (nI (u)))] [] _
  refine r_aload_n dX13_isUnit_0 rfl 0 rfl ?_
  refine r_iload_n dX13_isUnit_1 rfl 1 rfl ?_
  refine r_fnV (M2 := m_X13_isLot) (As := [.int (nI (l))]) (rest := []) (v := some (.int (nI (1)))) dX13_isUnit_2 cc_X13_isUnit_76 rfl rfl rfl (Nat.le_of_ble_eq_true rfl) hs.1 rfl rfl (by decide) (Fn.eq (g_isLot hs h24) (congrArg (fun x => some (Value.int x)) (bI_t (vp_in_nI (by omega) (by first | decide | omega)))) rfl) rfl ?_
  refine r_if_eqN (tgt := 27) dX13_isUnit_5 (by decide) (by omega) (fun zz5 => ?_) (fun zz5 => ?_)
  · exact absurd zz5 (by decide)
  · refine r_iload_n dX13_isUnit_8 rfl 2 rfl ?_
    refine r_iconst (v := nI 0) dX13_isUnit_9 (by decide) ?_
    refine r_aload_n dX13_isUnit_10 rfl 0 rfl ?_
    refine r_iload_n dX13_isUnit_11 rfl 1 rfl ?_
    refine r_fnV (M2 := m_X13_size) (As := [.int (nI (l))]) (rest := [.int (nI (0)), .int (nI (u))]) (v := some (.int (nI (g (90 + 13 * l + 1))))) dX13_isUnit_12 cc_X13_isUnit_80 rfl rfl rfl (Nat.le_of_ble_eq_true rfl) hs.1 rfl rfl (by decide) (g_size hs (by omega)) rfl ?_
    refine r_iconst (v := nI 1) dX13_isUnit_15 (by decide) ?_
    refine r_isub dX13_isUnit_16 ?_
    refine r_fnS (M2 := m_X13_in) (As := [.int (nI (u)), .int (nI (0)), .int (nI (g (90 + 13 * l + 1)) - nI 1)]) (rest := []) (v := some (.int (nI (1)))) dX13_isUnit_17 cc_X13_isUnit_68 rfl rfl rfl (Nat.le_of_ble_eq_true rfl) (Fn.eq f_in (show some (Value.int (bI (nI 0 ≤ nI u ∧ nI u ≤ nI (g (90 + 13 * l + 1)) - nI 1))) = some (Value.int (nI 1)) from congrArg (fun x => some (Value.int x)) ((bI_iff (inR_iff0 (by omega))).trans (bI_t (vp_in_nI hu (by omega))))) rfl) rfl ?_
    refine r_if_eqN (tgt := 27) dX13_isUnit_20 (by decide) (by omega) (fun zz20 => ?_) (fun zz20 => ?_)
    · exact absurd zz20 (by decide)
    · refine r_iconst (v := nI 1) dX13_isUnit_23 (by decide) ?_
      refine r_goto (tgt := 28) dX13_isUnit_24 (by decide) ?_
      exact r_iret (ty := .boolean) dX13_isUnit_28 rfl (by decide) ⟨rfl, rfl⟩
set_option maxRecDepth 4000 in
theorem q_worked_1 {G : GI} {T : Hp} {m : Nat} {V : RVal} {g : Nat → Nat} {od : Nat → UInt64} (hs : RS T m)  {x : Int32} (hx : ¬ vp_in x 6) : Fn m_X13_worked G [.ref (m), .int (x)] (rput T m (sg V g) od) (some (.int (nI (0)))) (rput T m (sg (up2 V 0 (6) (nI 1)) (g)) od) := by
  refine Cn.of rfl (by decide) (Nat.le_of_ble_eq_true rfl) (fun hN hM => ?_)
  show Wx _ G _ 0 [(0, .ref (m)), (1, .int (x))] [] _
  refine r_aload_n dX13_worked_0 rfl 0 rfl ?_
  refine r_iload_n dX13_worked_1 rfl 1 rfl ?_
  refine r_fnS (M2 := m_X13_isMachine) (As := [.int (x)]) (rest := [.ref (m)]) (v := some (.int (nI (0)))) dX13_worked_2 cc_X13_worked_104 rfl rfl rfl (Nat.le_of_ble_eq_true rfl) (Fn.eq f_isMachine (congrArg (fun x => some (Value.int x)) (bI_f hx)) rfl) rfl ?_
  refine r_if_eqN (tgt := 12) dX13_worked_5 (by decide) (by omega) (fun zz5 => ?_) (fun zz5 => ?_)
  · refine r_iconst (v := nI 1) dX13_worked_12 (by decide) ?_
    refine o_put (k := 6) hs dX13_worked_13 fw_X13_worked_54 rfl rfl rfl ?_
    refine r_aload_n dX13_worked_16 rfl 0 rfl ?_
    refine o_get (k := 6) hs dX13_worked_17 fr_X13_54 rfl ?_
    refine Wx.top up2_s ?_
    refine r_if_leN (tgt := 27) dX13_worked_20 (by decide) (by omega) (fun zz20 => ?_) (fun zz20 => ?_)
    · exact absurd zz20 (by decide)
    · refine r_iconst (v := nI 0) dX13_worked_23 (by decide) ?_
      refine r_goto (tgt := 39) dX13_worked_24 (by decide) ?_
      exact r_iret (ty := .int) dX13_worked_39 rfl rfl ⟨rfl, rfl⟩
  · exact absurd zz5 (by decide)
set_option maxRecDepth 4000 in
theorem q_worked_0 {G : GI} {T : Hp} {m : Nat} {V : RVal} {g : Nat → Nat} {od : Nat → UInt64} (hs : RS T m)  {a : Nat} (ha : a < 6) : Fn m_X13_worked G [.ref (m), .int (nI (a))] (rput T m (sg V g) od) (some (.int (nI (g (4 + 3 * a + 2))))) (rput T m (sg (up2 V 0 (6) (nI 0)) (g)) od) := by
  refine Cn.of rfl (by decide) (Nat.le_of_ble_eq_true rfl) (fun hN hM => ?_)
  show Wx _ G _ 0 [(0, .ref (m)), (1, .int (nI (a)))] [] _
  refine r_aload_n dX13_worked_0 rfl 0 rfl ?_
  refine r_iload_n dX13_worked_1 rfl 1 rfl ?_
  refine r_fnS (M2 := m_X13_isMachine) (As := [.int (nI (a))]) (rest := [.ref (m)]) (v := some (.int (nI (1)))) dX13_worked_2 cc_X13_worked_104 rfl rfl rfl (Nat.le_of_ble_eq_true rfl) (Fn.eq f_isMachine (congrArg (fun x => some (Value.int x)) (bI_t (vp_in_nI (by omega) (by first | decide | omega)))) rfl) rfl ?_
  refine r_if_eqN (tgt := 12) dX13_worked_5 (by decide) (by omega) (fun zz5 => ?_) (fun zz5 => ?_)
  · exact absurd zz5 (by decide)
  · refine r_iconst (v := nI 0) dX13_worked_8 (by decide) ?_
    refine r_goto (tgt := 13) dX13_worked_9 (by decide) ?_
    refine o_put (k := 6) hs dX13_worked_13 fw_X13_worked_54 rfl rfl rfl ?_
    refine r_aload_n dX13_worked_16 rfl 0 rfl ?_
    refine o_get (k := 6) hs dX13_worked_17 fr_X13_54 rfl ?_
    refine Wx.top up2_s ?_
    refine r_if_leN (tgt := 27) dX13_worked_20 (by decide) (by omega) (fun zz20 => ?_) (fun zz20 => ?_)
    · refine r_aload_n dX13_worked_27 rfl 0 rfl ?_
      refine m_ref (k := 0) (j := 1) hs hs.2.1.1 dX13_worked_28 fr_X13_7 rfl ?_
      refine r_iconst (v := nI 4) dX13_worked_31 (by decide) ?_
      refine r_iconst (v := nI 3) dX13_worked_32 (by decide) ?_
      refine r_iload_n dX13_worked_33 rfl 1 rfl ?_
      refine r_imulN dX13_worked_34 ?_
      refine r_iaddN dX13_worked_35 ?_
      refine r_iconst (v := nI 2) dX13_worked_36 (by decide) ?_
      refine r_iaddN dX13_worked_37 ?_
      refine g_iald (i := 4 + 3 * a + 2) hs dX13_worked_38 (by omega) ?_
      exact r_iret (ty := .int) dX13_worked_39 rfl rfl ⟨rfl, rfl⟩
    · exact absurd zz20 (by decide)
set_option maxRecDepth 4000 in
theorem q_policy_1 {G : GI} {T : Hp} {m : Nat} {V : RVal} {g : Nat → Nat} {od : Nat → UInt64} (hs : RS T m)  {x : Int32} (hx : ¬ vp_in x 4) {y : Int32} : Fn m_X13_policy G [.ref (m), .int (x), .int (y)] (rput T m (sg V g) od) (some (.int (nI (0)))) (rput T m (sg (up2 V 0 (6) (nI 1)) (g)) od) := by
  refine Cn.of rfl (by decide) (Nat.le_of_ble_eq_true rfl) (fun hN hM => ?_)
  show Wx _ G _ 0 [(0, .ref (m)), (1, .int (x)), (2, .int (y))] [] _
  refine r_aload_n dX13_policy_0 rfl 0 rfl ?_
  refine r_iload_n dX13_policy_1 rfl 1 rfl ?_
  refine r_fnS (M2 := m_X13_isProduct) (As := [.int (x)]) (rest := [.ref (m)]) (v := some (.int (nI (0)))) dX13_policy_2 cc_X13_policy_118 rfl rfl rfl (Nat.le_of_ble_eq_true rfl) (Fn.eq f_isProduct (congrArg (fun x => some (Value.int x)) (bI_f hx)) rfl) rfl ?_
  refine r_if_eqN (tgt := 26) dX13_policy_5 (by decide) (by omega) (fun zz5 => ?_) (fun zz5 => ?_)
  · refine r_iconst (v := nI 1) dX13_policy_26 (by decide) ?_
    refine o_put (k := 6) hs dX13_policy_27 fw_X13_policy_54 rfl rfl rfl ?_
    refine r_aload_n dX13_policy_30 rfl 0 rfl ?_
    refine o_get (k := 6) hs dX13_policy_31 fr_X13_54 rfl ?_
    refine Wx.top up2_s ?_
    refine r_if_leN (tgt := 41) dX13_policy_34 (by decide) (by omega) (fun zz34 => ?_) (fun zz34 => ?_)
    · exact absurd zz34 (by decide)
    · refine r_iconst (v := nI 0) dX13_policy_37 (by decide) ?_
      refine r_goto (tgt := 55) dX13_policy_38 (by decide) ?_
      exact r_iret (ty := .int) dX13_policy_55 rfl rfl ⟨rfl, rfl⟩
  · exact absurd zz5 (by decide)
set_option maxRecDepth 4000 in
theorem q_policy_2 {G : GI} {T : Hp} {m : Nat} {V : RVal} {g : Nat → Nat} {od : Nat → UInt64} (hs : RS T m)  {p : Nat} (hp : p < 4) {y : Int32} (hy : ¬ vp_in y 7) : Fn m_X13_policy G [.ref (m), .int (nI (p)), .int (y)] (rput T m (sg V g) od) (some (.int (nI (0)))) (rput T m (sg (up2 V 0 (6) (nI 2)) (g)) od) := by
  refine Cn.of rfl (by decide) (Nat.le_of_ble_eq_true rfl) (fun hN hM => ?_)
  show Wx _ G _ 0 [(0, .ref (m)), (1, .int (nI (p))), (2, .int (y))] [] _
  refine r_aload_n dX13_policy_0 rfl 0 rfl ?_
  refine r_iload_n dX13_policy_1 rfl 1 rfl ?_
  refine r_fnS (M2 := m_X13_isProduct) (As := [.int (nI (p))]) (rest := [.ref (m)]) (v := some (.int (nI (1)))) dX13_policy_2 cc_X13_policy_118 rfl rfl rfl (Nat.le_of_ble_eq_true rfl) (Fn.eq f_isProduct (congrArg (fun x => some (Value.int x)) (bI_t (vp_in_nI (by omega) (by first | decide | omega)))) rfl) rfl ?_
  refine r_if_eqN (tgt := 26) dX13_policy_5 (by decide) (by omega) (fun zz5 => ?_) (fun zz5 => ?_)
  · exact absurd zz5 (by decide)
  · refine r_iload_n dX13_policy_8 rfl 2 rfl ?_
    refine r_iconst (v := nI 0) dX13_policy_9 (by decide) ?_
    refine r_bipush (v := nI 6) dX13_policy_10 (by decide) ?_
    refine r_fnS (M2 := m_X13_in) (As := [.int (y), .int (nI (0)), .int (nI (6))]) (rest := [.ref (m)]) (v := some (.int (nI (0)))) dX13_policy_12 cc_X13_policy_68 rfl rfl rfl (Nat.le_of_ble_eq_true rfl) (Fn.eq (f_in0 (n := 6) (by decide)) (congrArg (fun x => some (Value.int x)) (bI_f hy)) rfl) rfl ?_
    refine r_if_eqN (tgt := 22) dX13_policy_15 (by decide) (by omega) (fun zz15 => ?_) (fun zz15 => ?_)
    · refine r_iconst (v := nI 2) dX13_policy_22 (by decide) ?_
      refine r_goto (tgt := 27) dX13_policy_23 (by decide) ?_
      refine o_put (k := 6) hs dX13_policy_27 fw_X13_policy_54 rfl rfl rfl ?_
      refine r_aload_n dX13_policy_30 rfl 0 rfl ?_
      refine o_get (k := 6) hs dX13_policy_31 fr_X13_54 rfl ?_
      refine Wx.top up2_s ?_
      refine r_if_leN (tgt := 41) dX13_policy_34 (by decide) (by omega) (fun zz34 => ?_) (fun zz34 => ?_)
      · exact absurd zz34 (by decide)
      · refine r_iconst (v := nI 0) dX13_policy_37 (by decide) ?_
        refine r_goto (tgt := 55) dX13_policy_38 (by decide) ?_
        exact r_iret (ty := .int) dX13_policy_55 rfl rfl ⟨rfl, rfl⟩
    · exact absurd zz15 (by decide)
set_option maxRecDepth 4000 in
theorem q_policy_0 {G : GI} {T : Hp} {m : Nat} {V : RVal} {g : Nat → Nat} {od : Nat → UInt64} (hs : RS T m)  {p : Nat} (hp : p < 4) {k : Nat} (hk : k < 7) : Fn m_X13_policy G [.ref (m), .int (nI (p)), .int (nI (k))] (rput T m (sg V g) od) (some (.int (nI (g (22 + 10 * p + k))))) (rput T m (sg (up2 V 0 (6) (nI 0)) (g)) od) := by
  refine Cn.of rfl (by decide) (Nat.le_of_ble_eq_true rfl) (fun hN hM => ?_)
  show Wx _ G _ 0 [(0, .ref (m)), (1, .int (nI (p))), (2, .int (nI (k)))] [] _
  refine r_aload_n dX13_policy_0 rfl 0 rfl ?_
  refine r_iload_n dX13_policy_1 rfl 1 rfl ?_
  refine r_fnS (M2 := m_X13_isProduct) (As := [.int (nI (p))]) (rest := [.ref (m)]) (v := some (.int (nI (1)))) dX13_policy_2 cc_X13_policy_118 rfl rfl rfl (Nat.le_of_ble_eq_true rfl) (Fn.eq f_isProduct (congrArg (fun x => some (Value.int x)) (bI_t (vp_in_nI (by omega) (by first | decide | omega)))) rfl) rfl ?_
  refine r_if_eqN (tgt := 26) dX13_policy_5 (by decide) (by omega) (fun zz5 => ?_) (fun zz5 => ?_)
  · exact absurd zz5 (by decide)
  · refine r_iload_n dX13_policy_8 rfl 2 rfl ?_
    refine r_iconst (v := nI 0) dX13_policy_9 (by decide) ?_
    refine r_bipush (v := nI 6) dX13_policy_10 (by decide) ?_
    refine r_fnS (M2 := m_X13_in) (As := [.int (nI (k)), .int (nI (0)), .int (nI (6))]) (rest := [.ref (m)]) (v := some (.int (nI (1)))) dX13_policy_12 cc_X13_policy_68 rfl rfl rfl (Nat.le_of_ble_eq_true rfl) (Fn.eq (f_in0 (n := 6) (by decide)) (congrArg (fun x => some (Value.int x)) (bI_t (vp_in_nI (by omega) (by decide)))) rfl) rfl ?_
    refine r_if_eqN (tgt := 22) dX13_policy_15 (by decide) (by omega) (fun zz15 => ?_) (fun zz15 => ?_)
    · exact absurd zz15 (by decide)
    · refine r_iconst (v := nI 0) dX13_policy_18 (by decide) ?_
      refine r_goto (tgt := 27) dX13_policy_19 (by decide) ?_
      refine o_put (k := 6) hs dX13_policy_27 fw_X13_policy_54 rfl rfl rfl ?_
      refine r_aload_n dX13_policy_30 rfl 0 rfl ?_
      refine o_get (k := 6) hs dX13_policy_31 fr_X13_54 rfl ?_
      refine Wx.top up2_s ?_
      refine r_if_leN (tgt := 41) dX13_policy_34 (by decide) (by omega) (fun zz34 => ?_) (fun zz34 => ?_)
      · refine r_aload_n dX13_policy_41 rfl 0 rfl ?_
        refine m_ref (k := 0) (j := 1) hs hs.2.1.1 dX13_policy_42 fr_X13_7 rfl ?_
        refine r_bipush (v := nI 22) dX13_policy_45 (by decide) ?_
        refine r_bipush (v := nI 10) dX13_policy_47 (by decide) ?_
        refine r_iload_n dX13_policy_49 rfl 1 rfl ?_
        refine r_imulN dX13_policy_50 ?_
        refine r_iaddN dX13_policy_51 ?_
        refine r_iload_n dX13_policy_52 rfl 2 rfl ?_
        refine r_iaddN dX13_policy_53 ?_
        refine g_iald (i := 22 + 10 * p + k) hs dX13_policy_54 (by omega) ?_
        exact r_iret (ty := .int) dX13_policy_55 rfl rfl ⟨rfl, rfl⟩
      · exact absurd zz34 (by decide)
set_option maxRecDepth 4000 in
theorem q_table_1 {G : GI} {T : Hp} {m : Nat} {V : RVal} {g : Nat → Nat} {od : Nat → UInt64} (hs : RS T m)  {x : Int32} (hx : ¬ vp_in x 4) {y : Int32} {z : Int32} {z2 : Int32} : Fn m_X13_table G [.ref (m), .int (x), .int (y), .int (z), .int (z2)] (rput T m (sg V g) od) (some (.int (nI (0)))) (rput T m (sg (up2 V 0 (6) (nI 1)) (g)) od) := by
  refine Cn.of rfl (by decide) (Nat.le_of_ble_eq_true rfl) (fun hN hM => ?_)
  show Wx _ G _ 0 [(0, .ref (m)), (1, .int (x)), (2, .int (y)), (3, .int (z)), (4, .int (z2))] [] _
  refine r_aload_n dX13_table_0 rfl 0 rfl ?_
  refine r_iload_n dX13_table_1 rfl 1 rfl ?_
  refine r_fnS (M2 := m_X13_isProduct) (As := [.int (x)]) (rest := [.ref (m)]) (v := some (.int (nI (0)))) dX13_table_2 cc_X13_table_118 rfl rfl rfl (Nat.le_of_ble_eq_true rfl) (Fn.eq f_isProduct (congrArg (fun x => some (Value.int x)) (bI_f hx)) rfl) rfl ?_
  refine r_if_eqN (tgt := 36) dX13_table_5 (by decide) (by omega) (fun zz5 => ?_) (fun zz5 => ?_)
  · refine r_iconst (v := nI 1) dX13_table_36 (by decide) ?_
    refine o_put (k := 6) hs dX13_table_37 fw_X13_table_54 rfl rfl rfl ?_
    refine r_aload_n dX13_table_40 rfl 0 rfl ?_
    refine o_get (k := 6) hs dX13_table_41 fr_X13_54 rfl ?_
    refine Wx.top up2_s ?_
    refine r_if_leN (tgt := 49) dX13_table_44 (by decide) (by omega) (fun zz44 => ?_) (fun zz44 => ?_)
    · exact absurd zz44 (by decide)
    · refine r_iconst (v := nI 0) dX13_table_47 (by decide) ?_
      exact r_iret (ty := .int) dX13_table_48 rfl rfl ⟨rfl, rfl⟩
  · exact absurd zz5 (by decide)
set_option maxRecDepth 4000 in
theorem q_table_2 {G : GI} {T : Hp} {m : Nat} {V : RVal} {g : Nat → Nat} {od : Nat → UInt64} (hs : RS T m)  {p : Nat} (hp : p < 4) {y z z2 : Int32} (hy : ¬ (nI 1 ≤ y ∧ y ≤ nI 200)) : Fn m_X13_table G [.ref (m), .int (nI (p)), .int (y), .int (z), .int (z2)] (rput T m (sg V g) od) (some (.int (nI (0)))) (rput T m (sg (up2 V 0 (6) (nI 2)) (g)) od) := by
  refine Cn.of rfl (by decide) (Nat.le_of_ble_eq_true rfl) (fun hN hM => ?_)
  show Wx _ G _ 0 [(0, .ref (m)), (1, .int (nI (p))), (2, .int (y)), (3, .int (z)), (4, .int (z2))] [] _
  refine r_aload_n dX13_table_0 rfl 0 rfl ?_
  refine r_iload_n dX13_table_1 rfl 1 rfl ?_
  refine r_fnS (M2 := m_X13_isProduct) (As := [.int (nI (p))]) (rest := [.ref (m)]) (v := some (.int (nI (1)))) dX13_table_2 cc_X13_table_118 rfl rfl rfl (Nat.le_of_ble_eq_true rfl) (Fn.eq f_isProduct (congrArg (fun x => some (Value.int x)) (bI_t (vp_in_nI (by omega) (by first | decide | omega)))) rfl) rfl ?_
  refine r_if_eqN (tgt := 36) dX13_table_5 (by decide) (by omega) (fun zz5 => ?_) (fun zz5 => ?_)
  · exact absurd zz5 (by decide)
  · refine r_iload_n dX13_table_8 rfl 2 rfl ?_
    refine r_iconst (v := nI 1) dX13_table_9 (by decide) ?_
    refine r_sipush (v := nI 200) dX13_table_10 (by decide) ?_
    refine r_fnS (M2 := m_X13_in) (As := [.int (y), .int (nI (1)), .int (nI (200))]) (rest := [.ref (m)]) (v := some (.int (nI (0)))) dX13_table_13 cc_X13_table_68 rfl rfl rfl (Nat.le_of_ble_eq_true rfl) (Fn.eq f_in (congrArg (fun x => some (Value.int x)) (bI_f hy)) rfl) rfl ?_
    refine r_if_eqN (tgt := 32) dX13_table_16 (by decide) (by omega) (fun zz16 => ?_) (fun zz16 => ?_)
    · refine r_iconst (v := nI 2) dX13_table_32 (by decide) ?_
      refine r_goto (tgt := 37) dX13_table_33 (by decide) ?_
      refine o_put (k := 6) hs dX13_table_37 fw_X13_table_54 rfl rfl rfl ?_
      refine r_aload_n dX13_table_40 rfl 0 rfl ?_
      refine o_get (k := 6) hs dX13_table_41 fr_X13_54 rfl ?_
      refine Wx.top up2_s ?_
      refine r_if_leN (tgt := 49) dX13_table_44 (by decide) (by omega) (fun zz44 => ?_) (fun zz44 => ?_)
      · exact absurd zz44 (by decide)
      · refine r_iconst (v := nI 0) dX13_table_47 (by decide) ?_
        exact r_iret (ty := .int) dX13_table_48 rfl rfl ⟨rfl, rfl⟩
    · exact absurd zz16 (by decide)
set_option maxRecDepth 4000 in
theorem q_table_3 {G : GI} {T : Hp} {m : Nat} {V : RVal} {g : Nat → Nat} {od : Nat → UInt64} (hs : RS T m)  {p : Nat} (hp : p < 4) {n : Nat} (hn0 : 0 < n) (hn : n ≤ 200) {z : Int32} (hz : ¬ vp_in z 3) {z2 : Int32} : Fn m_X13_table G [.ref (m), .int (nI (p)), .int (nI (n)), .int (z), .int (z2)] (rput T m (sg V g) od) (some (.int (nI (0)))) (rput T m (sg (up2 V 0 (6) (nI 2)) (g)) od) := by
  refine Cn.of rfl (by decide) (Nat.le_of_ble_eq_true rfl) (fun hN hM => ?_)
  show Wx _ G _ 0 [(0, .ref (m)), (1, .int (nI (p))), (2, .int (nI (n))), (3, .int (z)), (4, .int (z2))] [] _
  refine r_aload_n dX13_table_0 rfl 0 rfl ?_
  refine r_iload_n dX13_table_1 rfl 1 rfl ?_
  refine r_fnS (M2 := m_X13_isProduct) (As := [.int (nI (p))]) (rest := [.ref (m)]) (v := some (.int (nI (1)))) dX13_table_2 cc_X13_table_118 rfl rfl rfl (Nat.le_of_ble_eq_true rfl) (Fn.eq f_isProduct (congrArg (fun x => some (Value.int x)) (bI_t (vp_in_nI (by omega) (by first | decide | omega)))) rfl) rfl ?_
  refine r_if_eqN (tgt := 36) dX13_table_5 (by decide) (by omega) (fun zz5 => ?_) (fun zz5 => ?_)
  · exact absurd zz5 (by decide)
  · refine r_iload_n dX13_table_8 rfl 2 rfl ?_
    refine r_iconst (v := nI 1) dX13_table_9 (by decide) ?_
    refine r_sipush (v := nI 200) dX13_table_10 (by decide) ?_
    refine r_fnS (M2 := m_X13_in) (As := [.int (nI (n)), .int (nI (1)), .int (nI (200))]) (rest := [.ref (m)]) (v := some (.int (nI (1)))) dX13_table_13 cc_X13_table_68 rfl rfl rfl (Nat.le_of_ble_eq_true rfl) (Fn.eq f_in (congrArg (fun x => some (Value.int x)) (bI_t ⟨(nI_le (by omega) (by omega)), nI_le (by omega) (by omega)⟩)) rfl) rfl ?_
    refine r_if_eqN (tgt := 32) dX13_table_16 (by decide) (by omega) (fun zz16 => ?_) (fun zz16 => ?_)
    · exact absurd zz16 (by decide)
    · refine r_iload_n dX13_table_19 rfl 3 rfl ?_
      refine r_iconst (v := nI 0) dX13_table_20 (by decide) ?_
      refine r_iconst (v := nI 2) dX13_table_21 (by decide) ?_
      refine r_fnS (M2 := m_X13_in) (As := [.int (z), .int (nI (0)), .int (nI (2))]) (rest := [.ref (m)]) (v := some (.int (nI (0)))) dX13_table_22 cc_X13_table_68 rfl rfl rfl (Nat.le_of_ble_eq_true rfl) (Fn.eq (f_in0 (n := 2) (by decide)) (congrArg (fun x => some (Value.int x)) (bI_f hz)) rfl) rfl ?_
      refine r_if_eqN (tgt := 32) dX13_table_25 (by decide) (by omega) (fun zz25 => ?_) (fun zz25 => ?_)
      · refine r_iconst (v := nI 2) dX13_table_32 (by decide) ?_
        refine r_goto (tgt := 37) dX13_table_33 (by decide) ?_
        refine o_put (k := 6) hs dX13_table_37 fw_X13_table_54 rfl rfl rfl ?_
        refine r_aload_n dX13_table_40 rfl 0 rfl ?_
        refine o_get (k := 6) hs dX13_table_41 fr_X13_54 rfl ?_
        refine Wx.top up2_s ?_
        refine r_if_leN (tgt := 49) dX13_table_44 (by decide) (by omega) (fun zz44 => ?_) (fun zz44 => ?_)
        · exact absurd zz44 (by decide)
        · refine r_iconst (v := nI 0) dX13_table_47 (by decide) ?_
          exact r_iret (ty := .int) dX13_table_48 rfl rfl ⟨rfl, rfl⟩
      · exact absurd zz25 (by decide)
theorem smpN_le (n v : Nat) : smpN n v ≤ n ∧ smpN n v ≤ 32 := ⟨Nat.min_le_right _ _, Nat.le_trans (Nat.min_le_left _ _) (sizeN_le _)⟩
set_option maxRecDepth 4000 in
theorem q_table_a {G : GI} {T : Hp} {m : Nat} {V : RVal} {g : Nat → Nat} {od : Nat → UInt64} (hs : RS T m)  {p : Nat} (hp : p < 4) {n v : Nat} (hn0 : 0 < n) (hn : n ≤ 200) (hv : v < 3) : Fn m_X13_table G [.ref (m), .int (nI (p)), .int (nI (n)), .int (nI (v)), .int (nI (1))] (rput T m (sg V g) od) (some (.int (nI (smpN n v)))) (rput T m (sg (up2 V 0 (6) (nI 0)) (g)) od) := by
  refine Cn.of rfl (by decide) (Nat.le_of_ble_eq_true rfl) (fun hN hM => ?_)
  show Wx _ G _ 0 [(0, .ref (m)), (1, .int (nI (p))), (2, .int (nI (n))), (3, .int (nI (v))), (4, .int (nI (1)))] [] _
  refine r_aload_n dX13_table_0 rfl 0 rfl ?_
  refine r_iload_n dX13_table_1 rfl 1 rfl ?_
  refine r_fnS (M2 := m_X13_isProduct) (As := [.int (nI (p))]) (rest := [.ref (m)]) (v := some (.int (nI (1)))) dX13_table_2 cc_X13_table_118 rfl rfl rfl (Nat.le_of_ble_eq_true rfl) (Fn.eq f_isProduct (congrArg (fun x => some (Value.int x)) (bI_t (vp_in_nI (by omega) (by first | decide | omega)))) rfl) rfl ?_
  refine r_if_eqN (tgt := 36) dX13_table_5 (by decide) (by omega) (fun zz5 => ?_) (fun zz5 => ?_)
  · exact absurd zz5 (by decide)
  · refine r_iload_n dX13_table_8 rfl 2 rfl ?_
    refine r_iconst (v := nI 1) dX13_table_9 (by decide) ?_
    refine r_sipush (v := nI 200) dX13_table_10 (by decide) ?_
    refine r_fnS (M2 := m_X13_in) (As := [.int (nI (n)), .int (nI (1)), .int (nI (200))]) (rest := [.ref (m)]) (v := some (.int (nI (1)))) dX13_table_13 cc_X13_table_68 rfl rfl rfl (Nat.le_of_ble_eq_true rfl) (Fn.eq f_in (congrArg (fun x => some (Value.int x)) (bI_t ⟨(nI_le (by omega) (by omega)), nI_le (by omega) (by omega)⟩)) rfl) rfl ?_
    refine r_if_eqN (tgt := 32) dX13_table_16 (by decide) (by omega) (fun zz16 => ?_) (fun zz16 => ?_)
    · exact absurd zz16 (by decide)
    · refine r_iload_n dX13_table_19 rfl 3 rfl ?_
      refine r_iconst (v := nI 0) dX13_table_20 (by decide) ?_
      refine r_iconst (v := nI 2) dX13_table_21 (by decide) ?_
      refine r_fnS (M2 := m_X13_in) (As := [.int (nI (v)), .int (nI (0)), .int (nI (2))]) (rest := [.ref (m)]) (v := some (.int (nI (1)))) dX13_table_22 cc_X13_table_68 rfl rfl rfl (Nat.le_of_ble_eq_true rfl) (Fn.eq (f_in0 (n := 2) (by decide)) (congrArg (fun x => some (Value.int x)) (bI_t (vp_in_nI (by omega) (by decide)))) rfl) rfl ?_
      refine r_if_eqN (tgt := 32) dX13_table_25 (by decide) (by omega) (fun zz25 => ?_) (fun zz25 => ?_)
      · exact absurd zz25 (by decide)
      · refine r_iconst (v := nI 0) dX13_table_28 (by decide) ?_
        refine r_goto (tgt := 37) dX13_table_29 (by decide) ?_
        refine o_put (k := 6) hs dX13_table_37 fw_X13_table_54 rfl rfl rfl ?_
        refine r_aload_n dX13_table_40 rfl 0 rfl ?_
        refine o_get (k := 6) hs dX13_table_41 fr_X13_54 rfl ?_
        refine Wx.top up2_s ?_
        refine r_if_leN (tgt := 49) dX13_table_44 (by decide) (by omega) (fun zz44 => ?_) (fun zz44 => ?_)
        · refine r_iload_n dX13_table_49 rfl 2 rfl ?_
          refine r_iload_n dX13_table_50 rfl 3 rfl ?_
          refine r_fnS (M2 := m_X13_sample) (As := [.int (nI (n)), .int (nI (v))]) (rest := []) (v := some (.int (nI (smpN n v)))) dX13_table_51 cc_X13_table_134 rfl rfl rfl (Nat.le_of_ble_eq_true rfl) (f_sample (by omega) (by omega)) rfl ?_
          refine r_istore (lv' := [(5, .int (nI (smpN n v))), (0, .ref (m)), (1, .int (nI (p))), (2, .int (nI (n))), (3, .int (nI (v))), (4, .int (nI (1)))]) dX13_table_54 (by decide) rfl ?_
          refine r_iload dX13_table_56 5 rfl ?_
          refine r_if_eqN (tgt := 66) dX13_table_58 (by decide) (by omega) (fun zz58 => ?_) (fun zz58 => ?_)
          · exact absurd zz58 (by decide)
          · refine r_iload dX13_table_61 0 rfl ?_
            refine r_goto (tgt := 84) dX13_table_63 (by decide) ?_
            exact r_iret (ty := .int) dX13_table_84 rfl rfl ⟨rfl, rfl⟩
        · exact absurd zz44 (by decide)
set_option maxRecDepth 4000 in
theorem q_table_b {G : GI} {T : Hp} {m : Nat} {V : RVal} {g : Nat → Nat} {od : Nat → UInt64} (hs : RS T m)  {p : Nat} (hp : p < 4) {n v : Nat} (hn0 : 0 < n) (hn : n ≤ 200) (hv : v < 3) (hq : g (22 + 10 * p) ≤ 30) : Fn m_X13_table G [.ref (m), .int (nI (p)), .int (nI (n)), .int (nI (v)), .int (nI (0))] (rput T m (sg V g) od) (some (.int (nI (alwN (smpN n v) (g (22 + 10 * p)) v)))) (rput T m (sg (up2 V 0 (6) (nI 0)) (g)) od) := by
  refine Cn.of rfl (by decide) (Nat.le_of_ble_eq_true rfl) (fun hN hM => ?_)
  show Wx _ G _ 0 [(0, .ref (m)), (1, .int (nI (p))), (2, .int (nI (n))), (3, .int (nI (v))), (4, .int (nI (0)))] [] _
  refine r_aload_n dX13_table_0 rfl 0 rfl ?_
  refine r_iload_n dX13_table_1 rfl 1 rfl ?_
  refine r_fnS (M2 := m_X13_isProduct) (As := [.int (nI (p))]) (rest := [.ref (m)]) (v := some (.int (nI (1)))) dX13_table_2 cc_X13_table_118 rfl rfl rfl (Nat.le_of_ble_eq_true rfl) (Fn.eq f_isProduct (congrArg (fun x => some (Value.int x)) (bI_t (vp_in_nI (by (first | omega | (have := smpN_le n v; omega))) (by first | decide | omega)))) rfl) rfl ?_
  refine r_if_eqN (tgt := 36) dX13_table_5 (by decide) (by (first | omega | (have := smpN_le n v; omega))) (fun zz5 => ?_) (fun zz5 => ?_)
  · exact absurd zz5 (by decide)
  · refine r_iload_n dX13_table_8 rfl 2 rfl ?_
    refine r_iconst (v := nI 1) dX13_table_9 (by decide) ?_
    refine r_sipush (v := nI 200) dX13_table_10 (by decide) ?_
    refine r_fnS (M2 := m_X13_in) (As := [.int (nI (n)), .int (nI (1)), .int (nI (200))]) (rest := [.ref (m)]) (v := some (.int (nI (1)))) dX13_table_13 cc_X13_table_68 rfl rfl rfl (Nat.le_of_ble_eq_true rfl) (Fn.eq f_in (congrArg (fun x => some (Value.int x)) (bI_t ⟨(nI_le (by (first | omega | (have := smpN_le n v; omega))) (by (first | omega | (have := smpN_le n v; omega)))), nI_le (by (first | omega | (have := smpN_le n v; omega))) (by (first | omega | (have := smpN_le n v; omega)))⟩)) rfl) rfl ?_
    refine r_if_eqN (tgt := 32) dX13_table_16 (by decide) (by (first | omega | (have := smpN_le n v; omega))) (fun zz16 => ?_) (fun zz16 => ?_)
    · exact absurd zz16 (by decide)
    · refine r_iload_n dX13_table_19 rfl 3 rfl ?_
      refine r_iconst (v := nI 0) dX13_table_20 (by decide) ?_
      refine r_iconst (v := nI 2) dX13_table_21 (by decide) ?_
      refine r_fnS (M2 := m_X13_in) (As := [.int (nI (v)), .int (nI (0)), .int (nI (2))]) (rest := [.ref (m)]) (v := some (.int (nI (1)))) dX13_table_22 cc_X13_table_68 rfl rfl rfl (Nat.le_of_ble_eq_true rfl) (Fn.eq (f_in0 (n := 2) (by decide)) (congrArg (fun x => some (Value.int x)) (bI_t (vp_in_nI (by (first | omega | (have := smpN_le n v; omega))) (by decide)))) rfl) rfl ?_
      refine r_if_eqN (tgt := 32) dX13_table_25 (by decide) (by (first | omega | (have := smpN_le n v; omega))) (fun zz25 => ?_) (fun zz25 => ?_)
      · exact absurd zz25 (by decide)
      · refine r_iconst (v := nI 0) dX13_table_28 (by decide) ?_
        refine r_goto (tgt := 37) dX13_table_29 (by decide) ?_
        refine o_put (k := 6) hs dX13_table_37 fw_X13_table_54 rfl rfl rfl ?_
        refine r_aload_n dX13_table_40 rfl 0 rfl ?_
        refine o_get (k := 6) hs dX13_table_41 fr_X13_54 rfl ?_
        refine Wx.top up2_s ?_
        refine r_if_leN (tgt := 49) dX13_table_44 (by decide) (by (first | omega | (have := smpN_le n v; omega))) (fun zz44 => ?_) (fun zz44 => ?_)
        · refine r_iload_n dX13_table_49 rfl 2 rfl ?_
          refine r_iload_n dX13_table_50 rfl 3 rfl ?_
          refine r_fnS (M2 := m_X13_sample) (As := [.int (nI (n)), .int (nI (v))]) (rest := []) (v := some (.int (nI (smpN n v)))) dX13_table_51 cc_X13_table_134 rfl rfl rfl (Nat.le_of_ble_eq_true rfl) (f_sample (by (first | omega | (have := smpN_le n v; omega))) (by (first | omega | (have := smpN_le n v; omega)))) rfl ?_
          refine r_istore (lv' := [(5, .int (nI (smpN n v))), (0, .ref (m)), (1, .int (nI (p))), (2, .int (nI (n))), (3, .int (nI (v))), (4, .int (nI (0)))]) dX13_table_54 (by decide) rfl ?_
          refine r_iload dX13_table_56 5 rfl ?_
          refine r_if_eqN (tgt := 66) dX13_table_58 (by decide) (by (first | omega | (have := smpN_le n v; omega))) (fun zz58 => ?_) (fun zz58 => ?_)
          · refine r_iload dX13_table_66 0 rfl ?_
            refine r_aload_n dX13_table_68 rfl 1 rfl ?_
            refine m_ref (k := 0) (j := 1) hs hs.2.1.1 dX13_table_69 fr_X13_7 rfl ?_
            refine r_bipush (v := nI 22) dX13_table_72 (by decide) ?_
            refine r_bipush (v := nI 10) dX13_table_74 (by decide) ?_
            refine r_iload_n dX13_table_76 rfl 2 rfl ?_
            refine r_imulN dX13_table_77 ?_
            refine r_iaddN dX13_table_78 ?_
            refine g_iald (i := 22 + 10 * p) hs dX13_table_79 (by (first | omega | (have := smpN_le n v; omega))) ?_
            refine r_iload_n dX13_table_80 rfl 4 rfl ?_
            refine r_fnS (M2 := m_X13_allowed) (As := [.int (nI (smpN n v)), .int (nI (g (22 + 10 * p))), .int (nI (v))]) (rest := []) (v := some (.int (nI (alwN (smpN n v) (g (22 + 10 * p)) v)))) dX13_table_81 cc_X13_table_137 rfl rfl rfl (Nat.le_of_ble_eq_true rfl) (f_allowed (by (first | omega | (have := smpN_le n v; omega))) (by (first | omega | (have := smpN_le n v; omega))) (by (first | omega | (have := smpN_le n v; omega)))) rfl ?_
            exact r_iret (ty := .int) dX13_table_84 rfl rfl ⟨rfl, rfl⟩
          · exact absurd zz58 (by decide)
        · exact absurd zz44 (by decide)
set_option maxRecDepth 4000 in
theorem q_afterwards_1 {G : GI} {T : Hp} {m : Nat} {V : RVal} {g : Nat → Nat} {od : Nat → UInt64} (hs : RS T m)  {x : Int32} (hx : ¬ vp_in x 4) {y : Int32} {z : Int32} : Fn m_X13_afterwards G [.ref (m), .int (x), .int (y), .int (z)] (rput T m (sg V g) od) (some (.int (nI (0)))) (rput T m (sg (up2 V 0 (6) (nI 1)) (g)) od) := by
  refine Cn.of rfl (by decide) (Nat.le_of_ble_eq_true rfl) (fun hN hM => ?_)
  show Wx _ G _ 0 [(0, .ref (m)), (1, .int (x)), (2, .int (y)), (3, .int (z))] [] _
  refine r_aload_n dX13_afterwards_0 rfl 0 rfl ?_
  refine r_iload_n dX13_afterwards_1 rfl 1 rfl ?_
  refine r_fnS (M2 := m_X13_isProduct) (As := [.int (x)]) (rest := [.ref (m)]) (v := some (.int (nI (0)))) dX13_afterwards_2 cc_X13_afterwards_118 rfl rfl rfl (Nat.le_of_ble_eq_true rfl) (Fn.eq f_isProduct (congrArg (fun x => some (Value.int x)) (bI_f hx)) rfl) rfl ?_
  refine r_if_neN (tgt := 12) dX13_afterwards_5 (by decide) (by omega) (fun zz5 => ?_) (fun zz5 => ?_)
  · exact absurd zz5 (by decide)
  · refine r_iconst (v := nI 1) dX13_afterwards_8 (by decide) ?_
    refine r_goto (tgt := 61) dX13_afterwards_9 (by decide) ?_
    refine o_put (k := 6) hs dX13_afterwards_61 fw_X13_afterwards_54 rfl rfl rfl ?_
    refine r_aload_n dX13_afterwards_64 rfl 0 rfl ?_
    refine o_get (k := 6) hs dX13_afterwards_65 fr_X13_54 rfl ?_
    refine Wx.top up2_s ?_
    refine r_if_leN (tgt := 75) dX13_afterwards_68 (by decide) (by omega) (fun zz68 => ?_) (fun zz68 => ?_)
    · exact absurd zz68 (by decide)
    · refine r_iconst (v := nI 0) dX13_afterwards_71 (by decide) ?_
      refine r_goto (tgt := 88) dX13_afterwards_72 (by decide) ?_
      exact r_iret (ty := .int) dX13_afterwards_88 rfl rfl ⟨rfl, rfl⟩
set_option maxRecDepth 4000 in
theorem q_afterwards_2 {G : GI} {T : Hp} {m : Nat} {V : RVal} {g : Nat → Nat} {od : Nat → UInt64} (hs : RS T m)  {p : Nat} (hp : p < 4) {y : Int32} (hy : ¬ vp_in y 201) {z : Int32} : Fn m_X13_afterwards G [.ref (m), .int (nI (p)), .int (y), .int (z)] (rput T m (sg V g) od) (some (.int (nI (0)))) (rput T m (sg (up2 V 0 (6) (nI 2)) (g)) od) := by
  refine Cn.of rfl (by decide) (Nat.le_of_ble_eq_true rfl) (fun hN hM => ?_)
  show Wx _ G _ 0 [(0, .ref (m)), (1, .int (nI (p))), (2, .int (y)), (3, .int (z))] [] _
  refine r_aload_n dX13_afterwards_0 rfl 0 rfl ?_
  refine r_iload_n dX13_afterwards_1 rfl 1 rfl ?_
  refine r_fnS (M2 := m_X13_isProduct) (As := [.int (nI (p))]) (rest := [.ref (m)]) (v := some (.int (nI (1)))) dX13_afterwards_2 cc_X13_afterwards_118 rfl rfl rfl (Nat.le_of_ble_eq_true rfl) (Fn.eq f_isProduct (congrArg (fun x => some (Value.int x)) (bI_t (vp_in_nI (by omega) (by first | decide | omega)))) rfl) rfl ?_
  refine r_if_neN (tgt := 12) dX13_afterwards_5 (by decide) (by omega) (fun zz5 => ?_) (fun zz5 => ?_)
  · refine r_iload_n dX13_afterwards_12 rfl 2 rfl ?_
    refine r_iconst (v := nI 0) dX13_afterwards_13 (by decide) ?_
    refine r_sipush (v := nI 200) dX13_afterwards_14 (by decide) ?_
    refine r_fnS (M2 := m_X13_in) (As := [.int (y), .int (nI (0)), .int (nI (200))]) (rest := [.ref (m)]) (v := some (.int (nI (0)))) dX13_afterwards_17 cc_X13_afterwards_68 rfl rfl rfl (Nat.le_of_ble_eq_true rfl) (Fn.eq (f_in0 (n := 200) (by decide)) (congrArg (fun x => some (Value.int x)) (bI_f hy)) rfl) rfl ?_
    refine r_if_eqN (tgt := 34) dX13_afterwards_20 (by decide) (by omega) (fun zz20 => ?_) (fun zz20 => ?_)
    · refine r_iconst (v := nI 2) dX13_afterwards_34 (by decide) ?_
      refine r_goto (tgt := 61) dX13_afterwards_35 (by decide) ?_
      refine o_put (k := 6) hs dX13_afterwards_61 fw_X13_afterwards_54 rfl rfl rfl ?_
      refine r_aload_n dX13_afterwards_64 rfl 0 rfl ?_
      refine o_get (k := 6) hs dX13_afterwards_65 fr_X13_54 rfl ?_
      refine Wx.top up2_s ?_
      refine r_if_leN (tgt := 75) dX13_afterwards_68 (by decide) (by omega) (fun zz68 => ?_) (fun zz68 => ?_)
      · exact absurd zz68 (by decide)
      · refine r_iconst (v := nI 0) dX13_afterwards_71 (by decide) ?_
        refine r_goto (tgt := 88) dX13_afterwards_72 (by decide) ?_
        exact r_iret (ty := .int) dX13_afterwards_88 rfl rfl ⟨rfl, rfl⟩
    · exact absurd zz20 (by decide)
  · exact absurd zz5 (by decide)
set_option maxRecDepth 4000 in
theorem q_afterwards_3 {G : GI} {T : Hp} {m : Nat} {V : RVal} {g : Nat → Nat} {od : Nat → UInt64} (hs : RS T m)  {p : Nat} (hp : p < 4) {f : Nat} (hf : f ≤ 200) {z : Int32} (hz : ¬ vp_in z 201) : Fn m_X13_afterwards G [.ref (m), .int (nI (p)), .int (nI (f)), .int (z)] (rput T m (sg V g) od) (some (.int (nI (0)))) (rput T m (sg (up2 V 0 (6) (nI 2)) (g)) od) := by
  refine Cn.of rfl (by decide) (Nat.le_of_ble_eq_true rfl) (fun hN hM => ?_)
  show Wx _ G _ 0 [(0, .ref (m)), (1, .int (nI (p))), (2, .int (nI (f))), (3, .int (z))] [] _
  refine r_aload_n dX13_afterwards_0 rfl 0 rfl ?_
  refine r_iload_n dX13_afterwards_1 rfl 1 rfl ?_
  refine r_fnS (M2 := m_X13_isProduct) (As := [.int (nI (p))]) (rest := [.ref (m)]) (v := some (.int (nI (1)))) dX13_afterwards_2 cc_X13_afterwards_118 rfl rfl rfl (Nat.le_of_ble_eq_true rfl) (Fn.eq f_isProduct (congrArg (fun x => some (Value.int x)) (bI_t (vp_in_nI (by omega) (by first | decide | omega)))) rfl) rfl ?_
  refine r_if_neN (tgt := 12) dX13_afterwards_5 (by decide) (by omega) (fun zz5 => ?_) (fun zz5 => ?_)
  · refine r_iload_n dX13_afterwards_12 rfl 2 rfl ?_
    refine r_iconst (v := nI 0) dX13_afterwards_13 (by decide) ?_
    refine r_sipush (v := nI 200) dX13_afterwards_14 (by decide) ?_
    refine r_fnS (M2 := m_X13_in) (As := [.int (nI (f)), .int (nI (0)), .int (nI (200))]) (rest := [.ref (m)]) (v := some (.int (nI (1)))) dX13_afterwards_17 cc_X13_afterwards_68 rfl rfl rfl (Nat.le_of_ble_eq_true rfl) (Fn.eq (f_in0 (n := 200) (by decide)) (congrArg (fun x => some (Value.int x)) (bI_t (vp_in_nI (by omega) (by decide)))) rfl) rfl ?_
    refine r_if_eqN (tgt := 34) dX13_afterwards_20 (by decide) (by omega) (fun zz20 => ?_) (fun zz20 => ?_)
    · exact absurd zz20 (by decide)
    · refine r_iload_n dX13_afterwards_23 rfl 3 rfl ?_
      refine r_iconst (v := nI 0) dX13_afterwards_24 (by decide) ?_
      refine r_sipush (v := nI 200) dX13_afterwards_25 (by decide) ?_
      refine r_fnS (M2 := m_X13_in) (As := [.int (z), .int (nI (0)), .int (nI (200))]) (rest := [.ref (m)]) (v := some (.int (nI (0)))) dX13_afterwards_28 cc_X13_afterwards_68 rfl rfl rfl (Nat.le_of_ble_eq_true rfl) (Fn.eq (f_in0 (n := 200) (by decide)) (congrArg (fun x => some (Value.int x)) (bI_f hz)) rfl) rfl ?_
      refine r_if_neN (tgt := 38) dX13_afterwards_31 (by decide) (by omega) (fun zz31 => ?_) (fun zz31 => ?_)
      · exact absurd zz31 (by decide)
      · refine r_iconst (v := nI 2) dX13_afterwards_34 (by decide) ?_
        refine r_goto (tgt := 61) dX13_afterwards_35 (by decide) ?_
        refine o_put (k := 6) hs dX13_afterwards_61 fw_X13_afterwards_54 rfl rfl rfl ?_
        refine r_aload_n dX13_afterwards_64 rfl 0 rfl ?_
        refine o_get (k := 6) hs dX13_afterwards_65 fr_X13_54 rfl ?_
        refine Wx.top up2_s ?_
        refine r_if_leN (tgt := 75) dX13_afterwards_68 (by decide) (by omega) (fun zz68 => ?_) (fun zz68 => ?_)
        · exact absurd zz68 (by decide)
        · refine r_iconst (v := nI 0) dX13_afterwards_71 (by decide) ?_
          refine r_goto (tgt := 88) dX13_afterwards_72 (by decide) ?_
          exact r_iret (ty := .int) dX13_afterwards_88 rfl rfl ⟨rfl, rfl⟩
  · exact absurd zz5 (by decide)
set_option maxRecDepth 4000 in
theorem q_afterwards_4 {G : GI} {T : Hp} {m : Nat} {V : RVal} {g : Nat → Nat} {od : Nat → UInt64} (hs : RS T m)  {p : Nat} (hp : p < 4) {f a : Nat} (hf : f ≤ 200) (ha : a ≤ 200) (h3 : g (22 + 10 * p + 3) ≤ 3) (h4 : g (22 + 10 * p + 4) ≤ 15) (h5 : g (22 + 10 * p + 5) < 2147480000) (h6 : g (22 + 10 * p + 6) < 2147480000) (h7 : g (22 + 10 * p + 7) < 32) (he : g (22 + 10 * p + 3) = 3) : Fn m_X13_afterwards G [.ref (m), .int (nI (p)), .int (nI (f)), .int (nI (a))] (rput T m (sg V g) od) (some (.int (nI (0)))) (rput T m (sg (up2 V 0 (6) (nI 3)) (g)) od) := by
  refine Cn.of rfl (by decide) (Nat.le_of_ble_eq_true rfl) (fun hN hM => ?_)
  show Wx _ G _ 0 [(0, .ref (m)), (1, .int (nI (p))), (2, .int (nI (f))), (3, .int (nI (a)))] [] _
  refine r_aload_n dX13_afterwards_0 rfl 0 rfl ?_
  refine r_iload_n dX13_afterwards_1 rfl 1 rfl ?_
  refine r_fnS (M2 := m_X13_isProduct) (As := [.int (nI (p))]) (rest := [.ref (m)]) (v := some (.int (nI (1)))) dX13_afterwards_2 cc_X13_afterwards_118 rfl rfl rfl (Nat.le_of_ble_eq_true rfl) (Fn.eq f_isProduct (congrArg (fun x => some (Value.int x)) (bI_t (vp_in_nI (by omega) (by first | decide | omega)))) rfl) rfl ?_
  refine r_if_neN (tgt := 12) dX13_afterwards_5 (by decide) (by omega) (fun zz5 => ?_) (fun zz5 => ?_)
  · refine r_iload_n dX13_afterwards_12 rfl 2 rfl ?_
    refine r_iconst (v := nI 0) dX13_afterwards_13 (by decide) ?_
    refine r_sipush (v := nI 200) dX13_afterwards_14 (by decide) ?_
    refine r_fnS (M2 := m_X13_in) (As := [.int (nI (f)), .int (nI (0)), .int (nI (200))]) (rest := [.ref (m)]) (v := some (.int (nI (1)))) dX13_afterwards_17 cc_X13_afterwards_68 rfl rfl rfl (Nat.le_of_ble_eq_true rfl) (Fn.eq (f_in0 (n := 200) (by decide)) (congrArg (fun x => some (Value.int x)) (bI_t (vp_in_nI (by omega) (by decide)))) rfl) rfl ?_
    refine r_if_eqN (tgt := 34) dX13_afterwards_20 (by decide) (by omega) (fun zz20 => ?_) (fun zz20 => ?_)
    · exact absurd zz20 (by decide)
    · refine r_iload_n dX13_afterwards_23 rfl 3 rfl ?_
      refine r_iconst (v := nI 0) dX13_afterwards_24 (by decide) ?_
      refine r_sipush (v := nI 200) dX13_afterwards_25 (by decide) ?_
      refine r_fnS (M2 := m_X13_in) (As := [.int (nI (a)), .int (nI (0)), .int (nI (200))]) (rest := [.ref (m)]) (v := some (.int (nI (1)))) dX13_afterwards_28 cc_X13_afterwards_68 rfl rfl rfl (Nat.le_of_ble_eq_true rfl) (Fn.eq (f_in0 (n := 200) (by decide)) (congrArg (fun x => some (Value.int x)) (bI_t (vp_in_nI (by omega) (by decide)))) rfl) rfl ?_
      refine r_if_neN (tgt := 38) dX13_afterwards_31 (by decide) (by omega) (fun zz31 => ?_) (fun zz31 => ?_)
      · refine r_aload_n dX13_afterwards_38 rfl 0 rfl ?_
        refine m_ref (k := 0) (j := 1) hs hs.2.1.1 dX13_afterwards_39 fr_X13_7 rfl ?_
        refine r_bipush (v := nI 22) dX13_afterwards_42 (by decide) ?_
        refine r_bipush (v := nI 10) dX13_afterwards_44 (by decide) ?_
        refine r_iload_n dX13_afterwards_46 rfl 1 rfl ?_
        refine r_imulN dX13_afterwards_47 ?_
        refine r_iaddN dX13_afterwards_48 ?_
        refine r_iconst (v := nI 3) dX13_afterwards_49 (by decide) ?_
        refine r_iaddN dX13_afterwards_50 ?_
        refine g_iald (i := 22 + 10 * p + 3) hs dX13_afterwards_51 (by omega) ?_
        refine r_iconst (v := nI 3) dX13_afterwards_52 (by decide) ?_
        refine r_icmp_neN (tgt := 60) dX13_afterwards_53 (by decide) (by omega) (by omega) (fun h53 => ?_) (fun h53 => ?_)
        · exact absurd he h53
        · refine r_iconst (v := nI 3) dX13_afterwards_56 (by decide) ?_
          refine r_goto (tgt := 61) dX13_afterwards_57 (by decide) ?_
          refine o_put (k := 6) hs dX13_afterwards_61 fw_X13_afterwards_54 rfl rfl rfl ?_
          refine r_aload_n dX13_afterwards_64 rfl 0 rfl ?_
          refine o_get (k := 6) hs dX13_afterwards_65 fr_X13_54 rfl ?_
          refine Wx.top up2_s ?_
          refine r_if_leN (tgt := 75) dX13_afterwards_68 (by decide) (by omega) (fun zz68 => ?_) (fun zz68 => ?_)
          · exact absurd zz68 (by decide)
          · refine r_iconst (v := nI 0) dX13_afterwards_71 (by decide) ?_
            refine r_goto (tgt := 88) dX13_afterwards_72 (by decide) ?_
            exact r_iret (ty := .int) dX13_afterwards_88 rfl rfl ⟨rfl, rfl⟩
      · exact absurd zz31 (by decide)
  · exact absurd zz5 (by decide)
set_option maxRecDepth 4000 in
theorem q_afterwards_0 {G : GI} {T : Hp} {m : Nat} {V : RVal} {g : Nat → Nat} {od : Nat → UInt64} (hs : RS T m)  {p : Nat} (hp : p < 4) {f a : Nat} (hf : f ≤ 200) (ha : a ≤ 200) (h3 : g (22 + 10 * p + 3) ≤ 3) (h4 : g (22 + 10 * p + 4) ≤ 15) (h5 : g (22 + 10 * p + 5) < 2147480000) (h6 : g (22 + 10 * p + 6) < 2147480000) (h7 : g (22 + 10 * p + 7) < 32) (he : ¬ g (22 + 10 * p + 3) = 3) : Fn m_X13_afterwards G [.ref (m), .int (nI (p)), .int (nI (f)), .int (nI (a))] (rput T m (sg V g) od) (some (.int (nI (sevB g (22 + 10 * p) f a)))) (rput T m (sg (up2 V 0 (6) (nI 0)) (g)) od) := by
  refine Cn.of rfl (by decide) (Nat.le_of_ble_eq_true rfl) (fun hN hM => ?_)
  show Wx _ G _ 0 [(0, .ref (m)), (1, .int (nI (p))), (2, .int (nI (f))), (3, .int (nI (a)))] [] _
  refine r_aload_n dX13_afterwards_0 rfl 0 rfl ?_
  refine r_iload_n dX13_afterwards_1 rfl 1 rfl ?_
  refine r_fnS (M2 := m_X13_isProduct) (As := [.int (nI (p))]) (rest := [.ref (m)]) (v := some (.int (nI (1)))) dX13_afterwards_2 cc_X13_afterwards_118 rfl rfl rfl (Nat.le_of_ble_eq_true rfl) (Fn.eq f_isProduct (congrArg (fun x => some (Value.int x)) (bI_t (vp_in_nI (by omega) (by first | decide | omega)))) rfl) rfl ?_
  refine r_if_neN (tgt := 12) dX13_afterwards_5 (by decide) (by omega) (fun zz5 => ?_) (fun zz5 => ?_)
  · refine r_iload_n dX13_afterwards_12 rfl 2 rfl ?_
    refine r_iconst (v := nI 0) dX13_afterwards_13 (by decide) ?_
    refine r_sipush (v := nI 200) dX13_afterwards_14 (by decide) ?_
    refine r_fnS (M2 := m_X13_in) (As := [.int (nI (f)), .int (nI (0)), .int (nI (200))]) (rest := [.ref (m)]) (v := some (.int (nI (1)))) dX13_afterwards_17 cc_X13_afterwards_68 rfl rfl rfl (Nat.le_of_ble_eq_true rfl) (Fn.eq (f_in0 (n := 200) (by decide)) (congrArg (fun x => some (Value.int x)) (bI_t (vp_in_nI (by omega) (by decide)))) rfl) rfl ?_
    refine r_if_eqN (tgt := 34) dX13_afterwards_20 (by decide) (by omega) (fun zz20 => ?_) (fun zz20 => ?_)
    · exact absurd zz20 (by decide)
    · refine r_iload_n dX13_afterwards_23 rfl 3 rfl ?_
      refine r_iconst (v := nI 0) dX13_afterwards_24 (by decide) ?_
      refine r_sipush (v := nI 200) dX13_afterwards_25 (by decide) ?_
      refine r_fnS (M2 := m_X13_in) (As := [.int (nI (a)), .int (nI (0)), .int (nI (200))]) (rest := [.ref (m)]) (v := some (.int (nI (1)))) dX13_afterwards_28 cc_X13_afterwards_68 rfl rfl rfl (Nat.le_of_ble_eq_true rfl) (Fn.eq (f_in0 (n := 200) (by decide)) (congrArg (fun x => some (Value.int x)) (bI_t (vp_in_nI (by omega) (by decide)))) rfl) rfl ?_
      refine r_if_neN (tgt := 38) dX13_afterwards_31 (by decide) (by omega) (fun zz31 => ?_) (fun zz31 => ?_)
      · refine r_aload_n dX13_afterwards_38 rfl 0 rfl ?_
        refine m_ref (k := 0) (j := 1) hs hs.2.1.1 dX13_afterwards_39 fr_X13_7 rfl ?_
        refine r_bipush (v := nI 22) dX13_afterwards_42 (by decide) ?_
        refine r_bipush (v := nI 10) dX13_afterwards_44 (by decide) ?_
        refine r_iload_n dX13_afterwards_46 rfl 1 rfl ?_
        refine r_imulN dX13_afterwards_47 ?_
        refine r_iaddN dX13_afterwards_48 ?_
        refine r_iconst (v := nI 3) dX13_afterwards_49 (by decide) ?_
        refine r_iaddN dX13_afterwards_50 ?_
        refine g_iald (i := 22 + 10 * p + 3) hs dX13_afterwards_51 (by omega) ?_
        refine r_iconst (v := nI 3) dX13_afterwards_52 (by decide) ?_
        refine r_icmp_neN (tgt := 60) dX13_afterwards_53 (by decide) (by omega) (by omega) (fun h53 => ?_) (fun h53 => ?_)
        · refine r_iconst (v := nI 0) dX13_afterwards_60 (by decide) ?_
          refine o_put (k := 6) hs dX13_afterwards_61 fw_X13_afterwards_54 rfl rfl rfl ?_
          refine r_aload_n dX13_afterwards_64 rfl 0 rfl ?_
          refine o_get (k := 6) hs dX13_afterwards_65 fr_X13_54 rfl ?_
          refine Wx.top up2_s ?_
          refine r_if_leN (tgt := 75) dX13_afterwards_68 (by decide) (by omega) (fun zz68 => ?_) (fun zz68 => ?_)
          · refine r_aload_n dX13_afterwards_75 rfl 0 rfl ?_
            refine r_bipush (v := nI 22) dX13_afterwards_76 (by decide) ?_
            refine r_bipush (v := nI 10) dX13_afterwards_78 (by decide) ?_
            refine r_iload_n dX13_afterwards_80 rfl 1 rfl ?_
            refine r_imulN dX13_afterwards_81 ?_
            refine r_iaddN dX13_afterwards_82 ?_
            refine r_iload_n dX13_afterwards_83 rfl 2 rfl ?_
            refine r_iload_n dX13_afterwards_84 rfl 3 rfl ?_
            refine r_fnV (M2 := m_X13_severityBehind) (As := [.int (nI (22 + 10 * p)), .int (nI (f)), .int (nI (a))]) (rest := []) (v := some (.int (nI (sevB g (22 + 10 * p) f a)))) dX13_afterwards_85 cc_X13_afterwards_143 rfl rfl rfl (Nat.le_of_ble_eq_true rfl) hs.1 rfl rfl (by decide) (g_sevB hs (by omega) (by omega) (by omega) h3 h4 h5 h6 h7) rfl ?_
            exact r_iret (ty := .int) dX13_afterwards_88 rfl rfl ⟨rfl, rfl⟩
          · exact absurd zz68 (by decide)
        · exact absurd h53 he
      · exact absurd zz31 (by decide)
  · exact absurd zz5 (by decide)
set_option maxRecDepth 4000 in
theorem q_lot_1 {G : GI} {T : Hp} {m : Nat} {V : RVal} {g : Nat → Nat} {od : Nat → UInt64} (hs : RS T m)  (h24 : g 0 ≤ 24) {x y : Int32} (hx : ¬ vp_in x (g 0)) : Fn m_X13_lot G [.ref (m), .int (x), .int (y)] (rput T m (sg V g) od) (some (.int (nI (0)))) (rput T m (sg (up2 V 0 (6) (nI 1)) (g)) od) := by
  refine Cn.of rfl (by decide) (Nat.le_of_ble_eq_true rfl) (fun hN hM => ?_)
  show Wx _ G _ 0 [(0, .ref (m)), (1, .int (x)), (2, .int (y))] [] _
  refine r_aload_n dX13_lot_0 rfl 0 rfl ?_
  refine r_aload_n dX13_lot_1 rfl 0 rfl ?_
  refine r_iload_n dX13_lot_2 rfl 1 rfl ?_
  refine r_fnV (M2 := m_X13_isLot) (As := [.int (x)]) (rest := [.ref (m)]) (v := some (.int (nI (0)))) dX13_lot_3 cc_X13_lot_76 rfl rfl rfl (Nat.le_of_ble_eq_true rfl) hs.1 rfl rfl (by decide) (Fn.eq (g_isLot hs h24) (congrArg (fun x => some (Value.int x)) (bI_f hx)) rfl) rfl ?_
  refine r_if_eqN (tgt := 27) dX13_lot_6 (by decide) (by omega) (fun zz6 => ?_) (fun zz6 => ?_)
  · refine r_iconst (v := nI 1) dX13_lot_27 (by decide) ?_
    refine o_put (k := 6) hs dX13_lot_28 fw_X13_lot_54 rfl rfl rfl ?_
    refine r_aload_n dX13_lot_31 rfl 0 rfl ?_
    refine o_get (k := 6) hs dX13_lot_32 fr_X13_54 rfl ?_
    refine Wx.top up2_s ?_
    refine r_if_leN (tgt := 42) dX13_lot_35 (by decide) (by omega) (fun zz35 => ?_) (fun zz35 => ?_)
    · exact absurd zz35 (by decide)
    · refine r_iconst (v := nI 0) dX13_lot_38 (by decide) ?_
      refine r_goto (tgt := 52) dX13_lot_39 (by decide) ?_
      exact r_iret (ty := .int) dX13_lot_52 rfl rfl ⟨rfl, rfl⟩
  · exact absurd zz6 (by decide)
set_option maxRecDepth 4000 in
theorem q_lot_2 {G : GI} {T : Hp} {m : Nat} {V : RVal} {g : Nat → Nat} {od : Nat → UInt64} (hs : RS T m)  (h24 : g 0 ≤ 24) {l : Nat} (hl : l < g 0) {y : Int32} (hy : ¬ vp_in y 10) : Fn m_X13_lot G [.ref (m), .int (nI (l)), .int (y)] (rput T m (sg V g) od) (some (.int (nI (0)))) (rput T m (sg (up2 V 0 (6) (nI 2)) (g)) od) := by
  refine Cn.of rfl (by decide) (Nat.le_of_ble_eq_true rfl) (fun hN hM => ?_)
  show Wx _ G _ 0 [(0, .ref (m)), (1, .int (nI (l))), (2, .int (y))] [] _
  refine r_aload_n dX13_lot_0 rfl 0 rfl ?_
  refine r_aload_n dX13_lot_1 rfl 0 rfl ?_
  refine r_iload_n dX13_lot_2 rfl 1 rfl ?_
  refine r_fnV (M2 := m_X13_isLot) (As := [.int (nI (l))]) (rest := [.ref (m)]) (v := some (.int (nI (1)))) dX13_lot_3 cc_X13_lot_76 rfl rfl rfl (Nat.le_of_ble_eq_true rfl) hs.1 rfl rfl (by decide) (Fn.eq (g_isLot hs h24) (congrArg (fun x => some (Value.int x)) (bI_t (vp_in_nI (by omega) (by first | decide | omega)))) rfl) rfl ?_
  refine r_if_eqN (tgt := 27) dX13_lot_6 (by decide) (by omega) (fun zz6 => ?_) (fun zz6 => ?_)
  · exact absurd zz6 (by decide)
  · refine r_iload_n dX13_lot_9 rfl 2 rfl ?_
    refine r_iconst (v := nI 0) dX13_lot_10 (by decide) ?_
    refine r_bipush (v := nI 9) dX13_lot_11 (by decide) ?_
    refine r_fnS (M2 := m_X13_in) (As := [.int (y), .int (nI (0)), .int (nI (9))]) (rest := [.ref (m)]) (v := some (.int (nI (0)))) dX13_lot_13 cc_X13_lot_68 rfl rfl rfl (Nat.le_of_ble_eq_true rfl) (Fn.eq (f_in0 (n := 9) (by decide)) (congrArg (fun x => some (Value.int x)) (bI_f hy)) rfl) rfl ?_
    refine r_if_eqN (tgt := 23) dX13_lot_16 (by decide) (by omega) (fun zz16 => ?_) (fun zz16 => ?_)
    · refine r_iconst (v := nI 2) dX13_lot_23 (by decide) ?_
      refine r_goto (tgt := 28) dX13_lot_24 (by decide) ?_
      refine o_put (k := 6) hs dX13_lot_28 fw_X13_lot_54 rfl rfl rfl ?_
      refine r_aload_n dX13_lot_31 rfl 0 rfl ?_
      refine o_get (k := 6) hs dX13_lot_32 fr_X13_54 rfl ?_
      refine Wx.top up2_s ?_
      refine r_if_leN (tgt := 42) dX13_lot_35 (by decide) (by omega) (fun zz35 => ?_) (fun zz35 => ?_)
      · exact absurd zz35 (by decide)
      · refine r_iconst (v := nI 0) dX13_lot_38 (by decide) ?_
        refine r_goto (tgt := 52) dX13_lot_39 (by decide) ?_
        exact r_iret (ty := .int) dX13_lot_52 rfl rfl ⟨rfl, rfl⟩
    · exact absurd zz16 (by decide)
set_option maxRecDepth 4000 in
theorem q_lot_0 {G : GI} {T : Hp} {m : Nat} {V : RVal} {g : Nat → Nat} {od : Nat → UInt64} (hs : RS T m)  (h24 : g 0 ≤ 24) {l : Nat} (hl : l < g 0) {k : Nat} (hk : k < 10) : Fn m_X13_lot G [.ref (m), .int (nI (l)), .int (nI (k))] (rput T m (sg V g) od) (some (.int (nI (g (90 + 13 * l + k))))) (rput T m (sg (up2 V 0 (6) (nI 0)) (g)) od) := by
  refine Cn.of rfl (by decide) (Nat.le_of_ble_eq_true rfl) (fun hN hM => ?_)
  show Wx _ G _ 0 [(0, .ref (m)), (1, .int (nI (l))), (2, .int (nI (k)))] [] _
  refine r_aload_n dX13_lot_0 rfl 0 rfl ?_
  refine r_aload_n dX13_lot_1 rfl 0 rfl ?_
  refine r_iload_n dX13_lot_2 rfl 1 rfl ?_
  refine r_fnV (M2 := m_X13_isLot) (As := [.int (nI (l))]) (rest := [.ref (m)]) (v := some (.int (nI (1)))) dX13_lot_3 cc_X13_lot_76 rfl rfl rfl (Nat.le_of_ble_eq_true rfl) hs.1 rfl rfl (by decide) (Fn.eq (g_isLot hs h24) (congrArg (fun x => some (Value.int x)) (bI_t (vp_in_nI (by omega) (by first | decide | omega)))) rfl) rfl ?_
  refine r_if_eqN (tgt := 27) dX13_lot_6 (by decide) (by omega) (fun zz6 => ?_) (fun zz6 => ?_)
  · exact absurd zz6 (by decide)
  · refine r_iload_n dX13_lot_9 rfl 2 rfl ?_
    refine r_iconst (v := nI 0) dX13_lot_10 (by decide) ?_
    refine r_bipush (v := nI 9) dX13_lot_11 (by decide) ?_
    refine r_fnS (M2 := m_X13_in) (As := [.int (nI (k)), .int (nI (0)), .int (nI (9))]) (rest := [.ref (m)]) (v := some (.int (nI (1)))) dX13_lot_13 cc_X13_lot_68 rfl rfl rfl (Nat.le_of_ble_eq_true rfl) (Fn.eq (f_in0 (n := 9) (by decide)) (congrArg (fun x => some (Value.int x)) (bI_t (vp_in_nI (by omega) (by decide)))) rfl) rfl ?_
    refine r_if_eqN (tgt := 23) dX13_lot_16 (by decide) (by omega) (fun zz16 => ?_) (fun zz16 => ?_)
    · exact absurd zz16 (by decide)
    · refine r_iconst (v := nI 0) dX13_lot_19 (by decide) ?_
      refine r_goto (tgt := 28) dX13_lot_20 (by decide) ?_
      refine o_put (k := 6) hs dX13_lot_28 fw_X13_lot_54 rfl rfl rfl ?_
      refine r_aload_n dX13_lot_31 rfl 0 rfl ?_
      refine o_get (k := 6) hs dX13_lot_32 fr_X13_54 rfl ?_
      refine Wx.top up2_s ?_
      refine r_if_leN (tgt := 42) dX13_lot_35 (by decide) (by omega) (fun zz35 => ?_) (fun zz35 => ?_)
      · refine r_aload_n dX13_lot_42 rfl 0 rfl ?_
        refine m_ref (k := 0) (j := 1) hs hs.2.1.1 dX13_lot_43 fr_X13_7 rfl ?_
        refine r_iload_n dX13_lot_46 rfl 1 rfl ?_
        refine r_iload_n dX13_lot_47 rfl 2 rfl ?_
        refine r_fnS (M2 := m_X13_at) (As := [.int (nI (l)), .int (nI (k))]) (rest := [.ref (m + 1)]) (v := some (.int (nI (90 + 13 * l + k)))) dX13_lot_48 cc_X13_lot_72 rfl rfl rfl (Nat.le_of_ble_eq_true rfl) f_at rfl ?_
        refine g_iald (i := 90 + 13 * l + k) hs dX13_lot_51 (by omega) ?_
        exact r_iret (ty := .int) dX13_lot_52 rfl rfl ⟨rfl, rfl⟩
      · exact absurd zz35 (by decide)
set_option maxRecDepth 4000 in
theorem q_units_1 {G : GI} {T : Hp} {m : Nat} {V : RVal} {g : Nat → Nat} {od : Nat → UInt64} (hs : RS T m)  (h24 : g 0 ≤ 24) {x y : Int32} (hx : ¬ vp_in x (g 0)) : Fn m_X13_units G [.ref (m), .int (x), .int (y)] (rput T m (sg V g) od) (some (.int (nI (0)))) (rput T m (sg (up2 V 0 (6) (nI 1)) (g)) od) := by
  refine Cn.of rfl (by decide) (Nat.le_of_ble_eq_true rfl) (fun hN hM => ?_)
  show Wx _ G _ 0 [(0, .ref (m)), (1, .int (x)), (2, .int (y))] [] _
  refine r_aload_n dX13_units_0 rfl 0 rfl ?_
  refine r_aload_n dX13_units_1 rfl 0 rfl ?_
  refine r_iload_n dX13_units_2 rfl 1 rfl ?_
  refine r_fnV (M2 := m_X13_isLot) (As := [.int (x)]) (rest := [.ref (m)]) (v := some (.int (nI (0)))) dX13_units_3 cc_X13_units_76 rfl rfl rfl (Nat.le_of_ble_eq_true rfl) hs.1 rfl rfl (by decide) (Fn.eq (g_isLot hs h24) (congrArg (fun x => some (Value.int x)) (bI_f hx)) rfl) rfl ?_
  refine r_if_eqN (tgt := 26) dX13_units_6 (by decide) (by omega) (fun zz6 => ?_) (fun zz6 => ?_)
  · refine r_iconst (v := nI 1) dX13_units_26 (by decide) ?_
    refine o_put (k := 6) hs dX13_units_27 fw_X13_units_54 rfl rfl rfl ?_
    refine r_aload_n dX13_units_30 rfl 0 rfl ?_
    refine o_get (k := 6) hs dX13_units_31 fr_X13_54 rfl ?_
    refine Wx.top up2_s ?_
    refine r_if_leN (tgt := 41) dX13_units_34 (by decide) (by omega) (fun zz34 => ?_) (fun zz34 => ?_)
    · exact absurd zz34 (by decide)
    · refine r_iconst (v := nI 0) dX13_units_37 (by decide) ?_
      refine r_goto (tgt := 59) dX13_units_38 (by decide) ?_
      exact r_iret (ty := .int) dX13_units_59 rfl rfl ⟨rfl, rfl⟩
  · exact absurd zz6 (by decide)
set_option maxRecDepth 4000 in
theorem q_units_2 {G : GI} {T : Hp} {m : Nat} {V : RVal} {g : Nat → Nat} {od : Nat → UInt64} (hs : RS T m)  (h24 : g 0 ≤ 24) {l : Nat} (hl : l < g 0) {y : Int32} (hy : ¬ ((-1) ≤ y ∧ y ≤ nI 4)) : Fn m_X13_units G [.ref (m), .int (nI (l)), .int (y)] (rput T m (sg V g) od) (some (.int (nI (0)))) (rput T m (sg (up2 V 0 (6) (nI 2)) (g)) od) := by
  refine Cn.of rfl (by decide) (Nat.le_of_ble_eq_true rfl) (fun hN hM => ?_)
  show Wx _ G _ 0 [(0, .ref (m)), (1, .int (nI (l))), (2, .int (y))] [] _
  refine r_aload_n dX13_units_0 rfl 0 rfl ?_
  refine r_aload_n dX13_units_1 rfl 0 rfl ?_
  refine r_iload_n dX13_units_2 rfl 1 rfl ?_
  refine r_fnV (M2 := m_X13_isLot) (As := [.int (nI (l))]) (rest := [.ref (m)]) (v := some (.int (nI (1)))) dX13_units_3 cc_X13_units_76 rfl rfl rfl (Nat.le_of_ble_eq_true rfl) hs.1 rfl rfl (by decide) (Fn.eq (g_isLot hs h24) (congrArg (fun x => some (Value.int x)) (bI_t (vp_in_nI (by omega) (by first | decide | omega)))) rfl) rfl ?_
  refine r_if_eqN (tgt := 26) dX13_units_6 (by decide) (by omega) (fun zz6 => ?_) (fun zz6 => ?_)
  · exact absurd zz6 (by decide)
  · refine r_iload_n dX13_units_9 rfl 2 rfl ?_
    refine r_iconst (v := (-1)) dX13_units_10 (by decide) ?_
    refine r_iconst (v := nI 4) dX13_units_11 (by decide) ?_
    refine r_fnS (M2 := m_X13_in) (As := [.int (y), .int ((-1)), .int (nI (4))]) (rest := [.ref (m)]) (v := some (.int (nI (0)))) dX13_units_12 cc_X13_units_68 rfl rfl rfl (Nat.le_of_ble_eq_true rfl) (Fn.eq f_in (congrArg (fun x => some (Value.int x)) (bI_f hy)) rfl) rfl ?_
    refine r_if_eqN (tgt := 22) dX13_units_15 (by decide) (by omega) (fun zz15 => ?_) (fun zz15 => ?_)
    · refine r_iconst (v := nI 2) dX13_units_22 (by decide) ?_
      refine r_goto (tgt := 27) dX13_units_23 (by decide) ?_
      refine o_put (k := 6) hs dX13_units_27 fw_X13_units_54 rfl rfl rfl ?_
      refine r_aload_n dX13_units_30 rfl 0 rfl ?_
      refine o_get (k := 6) hs dX13_units_31 fr_X13_54 rfl ?_
      refine Wx.top up2_s ?_
      refine r_if_leN (tgt := 41) dX13_units_34 (by decide) (by omega) (fun zz34 => ?_) (fun zz34 => ?_)
      · exact absurd zz34 (by decide)
      · refine r_iconst (v := nI 0) dX13_units_37 (by decide) ?_
        refine r_goto (tgt := 59) dX13_units_38 (by decide) ?_
        exact r_iret (ty := .int) dX13_units_59 rfl rfl ⟨rfl, rfl⟩
    · exact absurd zz15 (by decide)
set_option maxRecDepth 4000 in
theorem q_units_a {G : GI} {T : Hp} {m : Nat} {V : RVal} {g : Nat → Nat} {od : Nat → UInt64} (hs : RS T m)  (h24 : g 0 ≤ 24) (hb : WB g) {l : Nat} (hl : l < g 0) (hz : g (90 + 13 * l + 1) ≤ 200) (hp : g (90 + 13 * l + 0) < 4) (h15 : g (22 + 10 * g (90 + 13 * l + 0) + 1) < 16) : Fn m_X13_units G [.ref (m), .int (nI (l)), .int ((-1))] (rput T m (sg V g) od) (some (.int (nI (badN g l)))) (rput T m (sg (up2 V 0 (6) (nI 0)) (g)) od) := by
  refine Cn.of rfl (by decide) (Nat.le_of_ble_eq_true rfl) (fun hN hM => ?_)
  show Wx _ G _ 0 [(0, .ref (m)), (1, .int (nI (l))), (2, .int ((-1)))] [] _
  refine r_aload_n dX13_units_0 rfl 0 rfl ?_
  refine r_aload_n dX13_units_1 rfl 0 rfl ?_
  refine r_iload_n dX13_units_2 rfl 1 rfl ?_
  refine r_fnV (M2 := m_X13_isLot) (As := [.int (nI (l))]) (rest := [.ref (m)]) (v := some (.int (nI (1)))) dX13_units_3 cc_X13_units_76 rfl rfl rfl (Nat.le_of_ble_eq_true rfl) hs.1 rfl rfl (by decide) (Fn.eq (g_isLot hs h24) (congrArg (fun x => some (Value.int x)) (bI_t (vp_in_nI (by omega) (by first | decide | omega)))) rfl) rfl ?_
  refine r_if_eqN (tgt := 26) dX13_units_6 (by decide) (by omega) (fun zz6 => ?_) (fun zz6 => ?_)
  · exact absurd zz6 (by decide)
  · refine r_iload_n dX13_units_9 rfl 2 rfl ?_
    refine r_iconst (v := (-1)) dX13_units_10 (by decide) ?_
    refine r_iconst (v := nI 4) dX13_units_11 (by decide) ?_
    refine r_fnS (M2 := m_X13_in) (As := [.int ((-1)), .int ((-1)), .int (nI (4))]) (rest := [.ref (m)]) (v := some (.int (nI (1)))) dX13_units_12 cc_X13_units_68 rfl rfl rfl (Nat.le_of_ble_eq_true rfl) (Fn.eq f_in (congrArg (fun x => some (Value.int x)) (bI_t (by decide))) rfl) rfl ?_
    refine r_if_eqN (tgt := 22) dX13_units_15 (by decide) (by omega) (fun zz15 => ?_) (fun zz15 => ?_)
    · exact absurd zz15 (by decide)
    · refine r_iconst (v := nI 0) dX13_units_18 (by decide) ?_
      refine r_goto (tgt := 27) dX13_units_19 (by decide) ?_
      refine o_put (k := 6) hs dX13_units_27 fw_X13_units_54 rfl rfl rfl ?_
      refine r_aload_n dX13_units_30 rfl 0 rfl ?_
      refine o_get (k := 6) hs dX13_units_31 fr_X13_54 rfl ?_
      refine Wx.top up2_s ?_
      refine r_if_leN (tgt := 41) dX13_units_34 (by decide) (by omega) (fun zz34 => ?_) (fun zz34 => ?_)
      · refine r_iload_n dX13_units_41 rfl 2 rfl ?_
        refine r_if_ge (tgt := 53) dX13_units_42 (by decide) (fun h42 => ?_) (fun h42 => ?_)
        · exact absurd h42 (by decide : ¬ (0 : Int32) ≤ -1)
        · refine r_aload_n dX13_units_45 rfl 0 rfl ?_
          refine r_iload_n dX13_units_46 rfl 1 rfl ?_
          refine r_fnV (M2 := m_X13_badHere) (As := [.int (nI (l))]) (rest := []) (v := some (.int (nI (badN g l)))) dX13_units_47 cc_X13_units_263 rfl rfl rfl (Nat.le_of_ble_eq_true rfl) hs.1 rfl rfl (by decide) (g_badHere hs hb (by omega) (by omega) hp h15) rfl ?_
          refine r_goto (tgt := 59) dX13_units_50 (by decide) ?_
          exact r_iret (ty := .int) dX13_units_59 rfl rfl ⟨rfl, rfl⟩
      · exact absurd zz34 (by decide)
set_option maxRecDepth 4000 in
theorem q_units_b {G : GI} {T : Hp} {m : Nat} {V : RVal} {g : Nat → Nat} {od : Nat → UInt64} (hs : RS T m)  (h24 : g 0 ≤ 24) (hb : WB g) {l : Nat} (hl : l < g 0) (hz : g (90 + 13 * l + 1) ≤ 200) {k : Nat} (hk : k < 5) : Fn m_X13_units G [.ref (m), .int (nI (l)), .int (nI (k))] (rput T m (sg V g) od) (some (.int (nI (inS g l k)))) (rput T m (sg (up2 V 0 (6) (nI 0)) (g)) od) := by
  refine Cn.of rfl (by decide) (Nat.le_of_ble_eq_true rfl) (fun hN hM => ?_)
  show Wx _ G _ 0 [(0, .ref (m)), (1, .int (nI (l))), (2, .int (nI (k)))] [] _
  refine r_aload_n dX13_units_0 rfl 0 rfl ?_
  refine r_aload_n dX13_units_1 rfl 0 rfl ?_
  refine r_iload_n dX13_units_2 rfl 1 rfl ?_
  refine r_fnV (M2 := m_X13_isLot) (As := [.int (nI (l))]) (rest := [.ref (m)]) (v := some (.int (nI (1)))) dX13_units_3 cc_X13_units_76 rfl rfl rfl (Nat.le_of_ble_eq_true rfl) hs.1 rfl rfl (by decide) (Fn.eq (g_isLot hs h24) (congrArg (fun x => some (Value.int x)) (bI_t (vp_in_nI (by omega) (by first | decide | omega)))) rfl) rfl ?_
  refine r_if_eqN (tgt := 26) dX13_units_6 (by decide) (by omega) (fun zz6 => ?_) (fun zz6 => ?_)
  · exact absurd zz6 (by decide)
  · refine r_iload_n dX13_units_9 rfl 2 rfl ?_
    refine r_iconst (v := (-1)) dX13_units_10 (by decide) ?_
    refine r_iconst (v := nI 4) dX13_units_11 (by decide) ?_
    refine r_fnS (M2 := m_X13_in) (As := [.int (nI (k)), .int ((-1)), .int (nI (4))]) (rest := [.ref (m)]) (v := some (.int (nI (1)))) dX13_units_12 cc_X13_units_68 rfl rfl rfl (Nat.le_of_ble_eq_true rfl) (Fn.eq f_in (congrArg (fun x => some (Value.int x)) (bI_t ⟨(Int32.le_trans (by decide : (-1) ≤ nI 0) (nI_le (Nat.zero_le _) (by omega))), nI_le (by omega) (by omega)⟩)) rfl) rfl ?_
    refine r_if_eqN (tgt := 22) dX13_units_15 (by decide) (by omega) (fun zz15 => ?_) (fun zz15 => ?_)
    · exact absurd zz15 (by decide)
    · refine r_iconst (v := nI 0) dX13_units_18 (by decide) ?_
      refine r_goto (tgt := 27) dX13_units_19 (by decide) ?_
      refine o_put (k := 6) hs dX13_units_27 fw_X13_units_54 rfl rfl rfl ?_
      refine r_aload_n dX13_units_30 rfl 0 rfl ?_
      refine o_get (k := 6) hs dX13_units_31 fr_X13_54 rfl ?_
      refine Wx.top up2_s ?_
      refine r_if_leN (tgt := 41) dX13_units_34 (by decide) (by omega) (fun zz34 => ?_) (fun zz34 => ?_)
      · refine r_iload_n dX13_units_41 rfl 2 rfl ?_
        refine r_if_geN (tgt := 53) dX13_units_42 (by decide) (by omega) ?_
        refine r_aload_n dX13_units_53 rfl 0 rfl ?_
        refine r_iload_n dX13_units_54 rfl 1 rfl ?_
        refine r_iload_n dX13_units_55 rfl 2 rfl ?_
        refine r_fnV (M2 := m_X13_inState) (As := [.int (nI (l)), .int (nI (k))]) (rest := []) (v := some (.int (nI (inS g l k)))) dX13_units_56 cc_X13_units_175 rfl rfl rfl (Nat.le_of_ble_eq_true rfl) hs.1 rfl rfl (by decide) (g_inState hs hb (by omega) (by omega) (by omega)) rfl ?_
        exact r_iret (ty := .int) dX13_units_59 rfl rfl ⟨rfl, rfl⟩
      · exact absurd zz34 (by decide)
set_option maxRecDepth 4000 in
theorem q_unit_1 {G : GI} {T : Hp} {m : Nat} {V : RVal} {g : Nat → Nat} {od : Nat → UInt64} (hs : RS T m)  (h24 : g 0 ≤ 24) {x y z : Int32} (hx : ¬ vp_in x (g 0)) : Fn m_X13_unit G [.ref (m), .int (x), .int (y), .int (z)] (rput T m (sg V g) od) (some (.int (nI (0)))) (rput T m (sg (up2 V 0 (6) (nI 1)) (g)) od) := by
  refine Cn.of rfl (by decide) (Nat.le_of_ble_eq_true rfl) (fun hN hM => ?_)
  show Wx _ G _ 0 [(0, .ref (m)), (1, .int (x)), (2, .int (y)), (3, .int (z))] [] _
  refine r_aload_n dX13_unit_0 rfl 0 rfl ?_
  refine r_aload_n dX13_unit_1 rfl 0 rfl ?_
  refine r_iload_n dX13_unit_2 rfl 1 rfl ?_
  refine r_iload_n dX13_unit_3 rfl 2 rfl ?_
  refine r_fnV (M2 := m_X13_isUnit) (As := [.int (x), .int (y)]) (rest := [.ref (m)]) (v := some (.int (nI (0)))) dX13_unit_4 cc_X13_unit_218 rfl rfl rfl (Nat.le_of_ble_eq_true rfl) hs.1 rfl rfl (by decide) (g_isUnit_0 hs h24 hx) rfl ?_
  refine r_if_eqN (tgt := 27) dX13_unit_7 (by decide) (by omega) (fun zz7 => ?_) (fun zz7 => ?_)
  · refine r_iconst (v := nI 1) dX13_unit_27 (by decide) ?_
    refine o_put (k := 6) hs dX13_unit_28 fw_X13_unit_54 rfl rfl rfl ?_
    refine r_aload_n dX13_unit_31 rfl 0 rfl ?_
    refine o_get (k := 6) hs dX13_unit_32 fr_X13_54 rfl ?_
    refine Wx.top up2_s ?_
    refine r_if_leN (tgt := 40) dX13_unit_35 (by decide) (by omega) (fun zz35 => ?_) (fun zz35 => ?_)
    · exact absurd zz35 (by decide)
    · refine r_iconst (v := nI 0) dX13_unit_38 (by decide) ?_
      exact r_iret (ty := .int) dX13_unit_39 rfl rfl ⟨rfl, rfl⟩
  · exact absurd zz7 (by decide)
set_option maxRecDepth 4000 in
theorem q_unit_2 {G : GI} {T : Hp} {m : Nat} {V : RVal} {g : Nat → Nat} {od : Nat → UInt64} (hs : RS T m)  (h24 : g 0 ≤ 24) {l : Nat} (hl : l < g 0) (hz : g (90 + 13 * l + 1) ≤ 200) {y z : Int32} (hy : ¬ vp_in y (g (90 + 13 * l + 1))) : Fn m_X13_unit G [.ref (m), .int (nI (l)), .int (y), .int (z)] (rput T m (sg V g) od) (some (.int (nI (0)))) (rput T m (sg (up2 V 0 (6) (nI 1)) (g)) od) := by
  refine Cn.of rfl (by decide) (Nat.le_of_ble_eq_true rfl) (fun hN hM => ?_)
  show Wx _ G _ 0 [(0, .ref (m)), (1, .int (nI (l))), (2, .int (y)), (3, .int (z))] [] _
  refine r_aload_n dX13_unit_0 rfl 0 rfl ?_
  refine r_aload_n dX13_unit_1 rfl 0 rfl ?_
  refine r_iload_n dX13_unit_2 rfl 1 rfl ?_
  refine r_iload_n dX13_unit_3 rfl 2 rfl ?_
  refine r_fnV (M2 := m_X13_isUnit) (As := [.int (nI (l)), .int (y)]) (rest := [.ref (m)]) (v := some (.int (nI (0)))) dX13_unit_4 cc_X13_unit_218 rfl rfl rfl (Nat.le_of_ble_eq_true rfl) hs.1 rfl rfl (by decide) (g_isUnit_1 hs h24 (by omega) (by omega) hy) rfl ?_
  refine r_if_eqN (tgt := 27) dX13_unit_7 (by decide) (by omega) (fun zz7 => ?_) (fun zz7 => ?_)
  · refine r_iconst (v := nI 1) dX13_unit_27 (by decide) ?_
    refine o_put (k := 6) hs dX13_unit_28 fw_X13_unit_54 rfl rfl rfl ?_
    refine r_aload_n dX13_unit_31 rfl 0 rfl ?_
    refine o_get (k := 6) hs dX13_unit_32 fr_X13_54 rfl ?_
    refine Wx.top up2_s ?_
    refine r_if_leN (tgt := 40) dX13_unit_35 (by decide) (by omega) (fun zz35 => ?_) (fun zz35 => ?_)
    · exact absurd zz35 (by decide)
    · refine r_iconst (v := nI 0) dX13_unit_38 (by decide) ?_
      exact r_iret (ty := .int) dX13_unit_39 rfl rfl ⟨rfl, rfl⟩
  · exact absurd zz7 (by decide)
set_option maxRecDepth 4000 in
theorem q_unit_3 {G : GI} {T : Hp} {m : Nat} {V : RVal} {g : Nat → Nat} {od : Nat → UInt64} (hs : RS T m)  (h24 : g 0 ≤ 24) (hb : WB g) {l : Nat} (hl : l < g 0) (hz : g (90 + 13 * l + 1) ≤ 200) {u : Nat} (hu : u < g (90 + 13 * l + 1)) {z : Int32} (hz : ¬ vp_in z 4) : Fn m_X13_unit G [.ref (m), .int (nI (l)), .int (nI (u)), .int (z)] (rput T m (sg V g) od) (some (.int (nI (0)))) (rput T m (sg (up2 V 0 (6) (nI 2)) (g)) od) := by
  refine Cn.of rfl (by decide) (Nat.le_of_ble_eq_true rfl) (fun hN hM => ?_)
  show Wx _ G _ 0 [(0, .ref (m)), (1, .int (nI (l))), (2, .int (nI (u))), (3, .int (z))] [] _
  refine r_aload_n dX13_unit_0 rfl 0 rfl ?_
  refine r_aload_n dX13_unit_1 rfl 0 rfl ?_
  refine r_iload_n dX13_unit_2 rfl 1 rfl ?_
  refine r_iload_n dX13_unit_3 rfl 2 rfl ?_
  refine r_fnV (M2 := m_X13_isUnit) (As := [.int (nI (l)), .int (nI (u))]) (rest := [.ref (m)]) (v := some (.int (nI (1)))) dX13_unit_4 cc_X13_unit_218 rfl rfl rfl (Nat.le_of_ble_eq_true rfl) hs.1 rfl rfl (by decide) (g_isUnit_2 hs h24 (by omega) (by omega) (by omega)) rfl ?_
  refine r_if_eqN (tgt := 27) dX13_unit_7 (by decide) (by omega) (fun zz7 => ?_) (fun zz7 => ?_)
  · exact absurd zz7 (by decide)
  · refine r_iload_n dX13_unit_10 rfl 3 rfl ?_
    refine r_iconst (v := nI 0) dX13_unit_11 (by decide) ?_
    refine r_iconst (v := nI 3) dX13_unit_12 (by decide) ?_
    refine r_fnS (M2 := m_X13_in) (As := [.int (z), .int (nI (0)), .int (nI (3))]) (rest := [.ref (m)]) (v := some (.int (nI (0)))) dX13_unit_13 cc_X13_unit_68 rfl rfl rfl (Nat.le_of_ble_eq_true rfl) (Fn.eq (f_in0 (n := 3) (by decide)) (congrArg (fun x => some (Value.int x)) (bI_f hz)) rfl) rfl ?_
    refine r_if_eqN (tgt := 23) dX13_unit_16 (by decide) (by omega) (fun zz16 => ?_) (fun zz16 => ?_)
    · refine r_iconst (v := nI 2) dX13_unit_23 (by decide) ?_
      refine r_goto (tgt := 28) dX13_unit_24 (by decide) ?_
      refine o_put (k := 6) hs dX13_unit_28 fw_X13_unit_54 rfl rfl rfl ?_
      refine r_aload_n dX13_unit_31 rfl 0 rfl ?_
      refine o_get (k := 6) hs dX13_unit_32 fr_X13_54 rfl ?_
      refine Wx.top up2_s ?_
      refine r_if_leN (tgt := 40) dX13_unit_35 (by decide) (by omega) (fun zz35 => ?_) (fun zz35 => ?_)
      · exact absurd zz35 (by decide)
      · refine r_iconst (v := nI 0) dX13_unit_38 (by decide) ?_
        exact r_iret (ty := .int) dX13_unit_39 rfl rfl ⟨rfl, rfl⟩
    · exact absurd zz16 (by decide)
set_option maxRecDepth 4000 in
theorem q_unit_a {G : GI} {T : Hp} {m : Nat} {V : RVal} {g : Nat → Nat} {od : Nat → UInt64} (hs : RS T m)  (h24 : g 0 ≤ 24) (hb : WB g) {l : Nat} (hl : l < g 0) (hz : g (90 + 13 * l + 1) ≤ 200) {u : Nat} (hu : u < g (90 + 13 * l + 1)) : Fn m_X13_unit G [.ref (m), .int (nI (l)), .int (nI (u)), .int (nI (0))] (rput T m (sg V g) od) (some (.int (nI (sW (g (402 + 2 * (200 * l + u))))))) (rput T m (sg (up2 V 0 (6) (nI 0)) (g)) od) := by
  refine Cn.of rfl (by decide) (Nat.le_of_ble_eq_true rfl) (fun hN hM => ?_)
  show Wx _ G _ 0 [(0, .ref (m)), (1, .int (nI (l))), (2, .int (nI (u))), (3, .int (nI (0)))] [] _
  refine r_aload_n dX13_unit_0 rfl 0 rfl ?_
  refine r_aload_n dX13_unit_1 rfl 0 rfl ?_
  refine r_iload_n dX13_unit_2 rfl 1 rfl ?_
  refine r_iload_n dX13_unit_3 rfl 2 rfl ?_
  refine r_fnV (M2 := m_X13_isUnit) (As := [.int (nI (l)), .int (nI (u))]) (rest := [.ref (m)]) (v := some (.int (nI (1)))) dX13_unit_4 cc_X13_unit_218 rfl rfl rfl (Nat.le_of_ble_eq_true rfl) hs.1 rfl rfl (by decide) (g_isUnit_2 hs h24 (by omega) (by omega) (by omega)) rfl ?_
  refine r_if_eqN (tgt := 27) dX13_unit_7 (by decide) (by omega) (fun zz7 => ?_) (fun zz7 => ?_)
  · exact absurd zz7 (by decide)
  · refine r_iload_n dX13_unit_10 rfl 3 rfl ?_
    refine r_iconst (v := nI 0) dX13_unit_11 (by decide) ?_
    refine r_iconst (v := nI 3) dX13_unit_12 (by decide) ?_
    refine r_fnS (M2 := m_X13_in) (As := [.int (nI (0)), .int (nI (0)), .int (nI (3))]) (rest := [.ref (m)]) (v := some (.int (nI (1)))) dX13_unit_13 cc_X13_unit_68 rfl rfl rfl (Nat.le_of_ble_eq_true rfl) (Fn.eq (f_in0 (n := 3) (by decide)) (congrArg (fun x => some (Value.int x)) (bI_t (vp_in_nI (by omega) (by decide)))) rfl) rfl ?_
    refine r_if_eqN (tgt := 23) dX13_unit_16 (by decide) (by omega) (fun zz16 => ?_) (fun zz16 => ?_)
    · exact absurd zz16 (by decide)
    · refine r_iconst (v := nI 0) dX13_unit_19 (by decide) ?_
      refine r_goto (tgt := 28) dX13_unit_20 (by decide) ?_
      refine o_put (k := 6) hs dX13_unit_28 fw_X13_unit_54 rfl rfl rfl ?_
      refine r_aload_n dX13_unit_31 rfl 0 rfl ?_
      refine o_get (k := 6) hs dX13_unit_32 fr_X13_54 rfl ?_
      refine Wx.top up2_s ?_
      refine r_if_leN (tgt := 40) dX13_unit_35 (by decide) (by omega) (fun zz35 => ?_) (fun zz35 => ?_)
      · refine r_iload_n dX13_unit_40 rfl 3 rfl ?_
        obtain h41 : 0 = 0 := by omega
        · refine Wx.topN h41 ?_
          refine r_tableIn (off := 27) (tgt := 68) dX13_unit_41 (by decide) (by decide) rfl (by decide) ?_
          refine r_aload_n dX13_unit_68 rfl 0 rfl ?_
          refine r_iload_n dX13_unit_69 rfl 1 rfl ?_
          refine r_iload_n dX13_unit_70 rfl 2 rfl ?_
          refine r_fnV (M2 := m_X13_state) (As := [.int (nI (l)), .int (nI (u))]) (rest := []) (v := some (.int (nI (sW (g (402 + 2 * (200 * l + u))))))) dX13_unit_71 cc_X13_unit_93 rfl rfl rfl (Nat.le_of_ble_eq_true rfl) hs.1 rfl rfl (by decide) (g_state hs hb (by omega) (by omega)) rfl ?_
          exact r_iret (ty := .int) dX13_unit_74 rfl rfl ⟨rfl, rfl⟩
      · exact absurd zz35 (by decide)
set_option maxRecDepth 4000 in
theorem q_unit_b {G : GI} {T : Hp} {m : Nat} {V : RVal} {g : Nat → Nat} {od : Nat → UInt64} (hs : RS T m)  (h24 : g 0 ≤ 24) (hb : WB g) {l : Nat} (hl : l < g 0) (hz : g (90 + 13 * l + 1) ≤ 200) {u : Nat} (hu : u < g (90 + 13 * l + 1)) : Fn m_X13_unit G [.ref (m), .int (nI (l)), .int (nI (u)), .int (nI (1))] (rput T m (sg V g) od) (some (.int (nI ((g (402 + 2 * (200 * l + u))) % 16)))) (rput T m (sg (up2 V 0 (6) (nI 0)) (g)) od) := by
  refine Cn.of rfl (by decide) (Nat.le_of_ble_eq_true rfl) (fun hN hM => ?_)
  show Wx _ G _ 0 [(0, .ref (m)), (1, .int (nI (l))), (2, .int (nI (u))), (3, .int (nI (1)))] [] _
  refine r_aload_n dX13_unit_0 rfl 0 rfl ?_
  refine r_aload_n dX13_unit_1 rfl 0 rfl ?_
  refine r_iload_n dX13_unit_2 rfl 1 rfl ?_
  refine r_iload_n dX13_unit_3 rfl 2 rfl ?_
  refine r_fnV (M2 := m_X13_isUnit) (As := [.int (nI (l)), .int (nI (u))]) (rest := [.ref (m)]) (v := some (.int (nI (1)))) dX13_unit_4 cc_X13_unit_218 rfl rfl rfl (Nat.le_of_ble_eq_true rfl) hs.1 rfl rfl (by decide) (g_isUnit_2 hs h24 (by omega) (by omega) (by omega)) rfl ?_
  refine r_if_eqN (tgt := 27) dX13_unit_7 (by decide) (by omega) (fun zz7 => ?_) (fun zz7 => ?_)
  · exact absurd zz7 (by decide)
  · refine r_iload_n dX13_unit_10 rfl 3 rfl ?_
    refine r_iconst (v := nI 0) dX13_unit_11 (by decide) ?_
    refine r_iconst (v := nI 3) dX13_unit_12 (by decide) ?_
    refine r_fnS (M2 := m_X13_in) (As := [.int (nI (1)), .int (nI (0)), .int (nI (3))]) (rest := [.ref (m)]) (v := some (.int (nI (1)))) dX13_unit_13 cc_X13_unit_68 rfl rfl rfl (Nat.le_of_ble_eq_true rfl) (Fn.eq (f_in0 (n := 3) (by decide)) (congrArg (fun x => some (Value.int x)) (bI_t (vp_in_nI (by omega) (by decide)))) rfl) rfl ?_
    refine r_if_eqN (tgt := 23) dX13_unit_16 (by decide) (by omega) (fun zz16 => ?_) (fun zz16 => ?_)
    · exact absurd zz16 (by decide)
    · refine r_iconst (v := nI 0) dX13_unit_19 (by decide) ?_
      refine r_goto (tgt := 28) dX13_unit_20 (by decide) ?_
      refine o_put (k := 6) hs dX13_unit_28 fw_X13_unit_54 rfl rfl rfl ?_
      refine r_aload_n dX13_unit_31 rfl 0 rfl ?_
      refine o_get (k := 6) hs dX13_unit_32 fr_X13_54 rfl ?_
      refine Wx.top up2_s ?_
      refine r_if_leN (tgt := 40) dX13_unit_35 (by decide) (by omega) (fun zz35 => ?_) (fun zz35 => ?_)
      · refine r_iload_n dX13_unit_40 rfl 3 rfl ?_
        obtain h41 : 1 = 1 := by omega
        · refine Wx.topN h41 ?_
          refine r_tableIn (off := 34) (tgt := 75) dX13_unit_41 (by decide) (by decide) rfl (by decide) ?_
          refine r_aload_n dX13_unit_75 rfl 0 rfl ?_
          refine r_iload_n dX13_unit_76 rfl 1 rfl ?_
          refine r_iload_n dX13_unit_77 rfl 2 rfl ?_
          refine r_fnV (M2 := m_X13_defects) (As := [.int (nI (l)), .int (nI (u))]) (rest := []) (v := some (.int (nI ((g (402 + 2 * (200 * l + u))) % 16)))) dX13_unit_78 cc_X13_unit_87 rfl rfl rfl (Nat.le_of_ble_eq_true rfl) hs.1 rfl rfl (by decide) (g_defects hs hb (by omega) (by omega)) rfl ?_
          exact r_iret (ty := .int) dX13_unit_81 rfl rfl ⟨rfl, rfl⟩
      · exact absurd zz35 (by decide)
set_option maxRecDepth 4000 in
theorem q_unit_c {G : GI} {T : Hp} {m : Nat} {V : RVal} {g : Nat → Nat} {od : Nat → UInt64} (hs : RS T m)  (h24 : g 0 ≤ 24) (hb : WB g) {l : Nat} (hl : l < g 0) (hz : g (90 + 13 * l + 1) ≤ 200) {u : Nat} (hu : u < g (90 + 13 * l + 1)) : Fn m_X13_unit G [.ref (m), .int (nI (l)), .int (nI (u)), .int (nI (2))] (rput T m (sg V g) od) (some (.int (nI (rW (g (402 + 2 * (200 * l + u))))))) (rput T m (sg (up2 V 0 (6) (nI 0)) (g)) od) := by
  refine Cn.of rfl (by decide) (Nat.le_of_ble_eq_true rfl) (fun hN hM => ?_)
  show Wx _ G _ 0 [(0, .ref (m)), (1, .int (nI (l))), (2, .int (nI (u))), (3, .int (nI (2)))] [] _
  refine r_aload_n dX13_unit_0 rfl 0 rfl ?_
  refine r_aload_n dX13_unit_1 rfl 0 rfl ?_
  refine r_iload_n dX13_unit_2 rfl 1 rfl ?_
  refine r_iload_n dX13_unit_3 rfl 2 rfl ?_
  refine r_fnV (M2 := m_X13_isUnit) (As := [.int (nI (l)), .int (nI (u))]) (rest := [.ref (m)]) (v := some (.int (nI (1)))) dX13_unit_4 cc_X13_unit_218 rfl rfl rfl (Nat.le_of_ble_eq_true rfl) hs.1 rfl rfl (by decide) (g_isUnit_2 hs h24 (by omega) (by omega) (by omega)) rfl ?_
  refine r_if_eqN (tgt := 27) dX13_unit_7 (by decide) (by omega) (fun zz7 => ?_) (fun zz7 => ?_)
  · exact absurd zz7 (by decide)
  · refine r_iload_n dX13_unit_10 rfl 3 rfl ?_
    refine r_iconst (v := nI 0) dX13_unit_11 (by decide) ?_
    refine r_iconst (v := nI 3) dX13_unit_12 (by decide) ?_
    refine r_fnS (M2 := m_X13_in) (As := [.int (nI (2)), .int (nI (0)), .int (nI (3))]) (rest := [.ref (m)]) (v := some (.int (nI (1)))) dX13_unit_13 cc_X13_unit_68 rfl rfl rfl (Nat.le_of_ble_eq_true rfl) (Fn.eq (f_in0 (n := 3) (by decide)) (congrArg (fun x => some (Value.int x)) (bI_t (vp_in_nI (by omega) (by decide)))) rfl) rfl ?_
    refine r_if_eqN (tgt := 23) dX13_unit_16 (by decide) (by omega) (fun zz16 => ?_) (fun zz16 => ?_)
    · exact absurd zz16 (by decide)
    · refine r_iconst (v := nI 0) dX13_unit_19 (by decide) ?_
      refine r_goto (tgt := 28) dX13_unit_20 (by decide) ?_
      refine o_put (k := 6) hs dX13_unit_28 fw_X13_unit_54 rfl rfl rfl ?_
      refine r_aload_n dX13_unit_31 rfl 0 rfl ?_
      refine o_get (k := 6) hs dX13_unit_32 fr_X13_54 rfl ?_
      refine Wx.top up2_s ?_
      refine r_if_leN (tgt := 40) dX13_unit_35 (by decide) (by omega) (fun zz35 => ?_) (fun zz35 => ?_)
      · refine r_iload_n dX13_unit_40 rfl 3 rfl ?_
        obtain h41 : 2 = 2 := by omega
        · refine Wx.topN h41 ?_
          refine r_tableIn (off := 41) (tgt := 82) dX13_unit_41 (by decide) (by decide) rfl (by decide) ?_
          refine r_aload_n dX13_unit_82 rfl 0 rfl ?_
          refine r_iload_n dX13_unit_83 rfl 1 rfl ?_
          refine r_iload_n dX13_unit_84 rfl 2 rfl ?_
          refine r_fnV (M2 := m_X13_repairs) (As := [.int (nI (l)), .int (nI (u))]) (rest := []) (v := some (.int (nI (rW (g (402 + 2 * (200 * l + u))))))) dX13_unit_85 cc_X13_unit_242 rfl rfl rfl (Nat.le_of_ble_eq_true rfl) hs.1 rfl rfl (by decide) (g_repairs hs hb (by omega) (by omega)) rfl ?_
          exact r_iret (ty := .int) dX13_unit_88 rfl rfl ⟨rfl, rfl⟩
      · exact absurd zz35 (by decide)
set_option maxRecDepth 4000 in
theorem q_unit_d {G : GI} {T : Hp} {m : Nat} {V : RVal} {g : Nat → Nat} {od : Nat → UInt64} (hs : RS T m)  (h24 : g 0 ≤ 24) (hb : WB g) {l : Nat} (hl : l < g 0) (hz : g (90 + 13 * l + 1) ≤ 200) {u : Nat} (hu : u < g (90 + 13 * l + 1)) (hp : g (90 + 13 * l + 0) < 4) (h15 : g (22 + 10 * g (90 + 13 * l + 0) + 1) < 16) : Fn m_X13_unit G [.ref (m), .int (nI (l)), .int (nI (u)), .int (nI (3))] (rput T m (sg V g) od) (some (.int (bI (badG g l u)))) (rput T m (sg (up2 V 0 (6) (nI 0)) (g)) od) := by
  refine Cn.of rfl (by decide) (Nat.le_of_ble_eq_true rfl) (fun hN hM => ?_)
  show Wx _ G _ 0 [(0, .ref (m)), (1, .int (nI (l))), (2, .int (nI (u))), (3, .int (nI (3)))] [] _
  refine r_aload_n dX13_unit_0 rfl 0 rfl ?_
  refine r_aload_n dX13_unit_1 rfl 0 rfl ?_
  refine r_iload_n dX13_unit_2 rfl 1 rfl ?_
  refine r_iload_n dX13_unit_3 rfl 2 rfl ?_
  refine r_fnV (M2 := m_X13_isUnit) (As := [.int (nI (l)), .int (nI (u))]) (rest := [.ref (m)]) (v := some (.int (nI (1)))) dX13_unit_4 cc_X13_unit_218 rfl rfl rfl (Nat.le_of_ble_eq_true rfl) hs.1 rfl rfl (by decide) (g_isUnit_2 hs h24 (by omega) (by omega) (by omega)) rfl ?_
  refine r_if_eqN (tgt := 27) dX13_unit_7 (by decide) (by omega) (fun zz7 => ?_) (fun zz7 => ?_)
  · exact absurd zz7 (by decide)
  · refine r_iload_n dX13_unit_10 rfl 3 rfl ?_
    refine r_iconst (v := nI 0) dX13_unit_11 (by decide) ?_
    refine r_iconst (v := nI 3) dX13_unit_12 (by decide) ?_
    refine r_fnS (M2 := m_X13_in) (As := [.int (nI (3)), .int (nI (0)), .int (nI (3))]) (rest := [.ref (m)]) (v := some (.int (nI (1)))) dX13_unit_13 cc_X13_unit_68 rfl rfl rfl (Nat.le_of_ble_eq_true rfl) (Fn.eq (f_in0 (n := 3) (by decide)) (congrArg (fun x => some (Value.int x)) (bI_t (vp_in_nI (by omega) (by decide)))) rfl) rfl ?_
    refine r_if_eqN (tgt := 23) dX13_unit_16 (by decide) (by omega) (fun zz16 => ?_) (fun zz16 => ?_)
    · exact absurd zz16 (by decide)
    · refine r_iconst (v := nI 0) dX13_unit_19 (by decide) ?_
      refine r_goto (tgt := 28) dX13_unit_20 (by decide) ?_
      refine o_put (k := 6) hs dX13_unit_28 fw_X13_unit_54 rfl rfl rfl ?_
      refine r_aload_n dX13_unit_31 rfl 0 rfl ?_
      refine o_get (k := 6) hs dX13_unit_32 fr_X13_54 rfl ?_
      refine Wx.top up2_s ?_
      refine r_if_leN (tgt := 40) dX13_unit_35 (by decide) (by omega) (fun zz35 => ?_) (fun zz35 => ?_)
      · refine r_iload_n dX13_unit_40 rfl 3 rfl ?_
        obtain h41 : 3 = 3 := by omega
        · refine Wx.topN h41 ?_
          refine r_tableOut (tgt := 89) dX13_unit_41 (by decide) (by decide) ?_
          refine r_aload_n dX13_unit_89 rfl 0 rfl ?_
          refine r_iload_n dX13_unit_90 rfl 1 rfl ?_
          refine r_iload_n dX13_unit_91 rfl 2 rfl ?_
          refine r_fnV (M2 := m_X13_isBad) (As := [.int (nI (l)), .int (nI (u))]) (rest := []) (v := some (.int (bI (badG g l u)))) dX13_unit_92 cc_X13_unit_96 rfl rfl rfl (Nat.le_of_ble_eq_true rfl) hs.1 rfl rfl (by decide) (g_isBad hs hb (by omega) (by omega) hp h15) rfl ?_
          refine r_if_eqB (tgt := 102) dX13_unit_95 (by decide) (fun h95 => ?_) (fun h95 => ?_)
          · refine r_iconst (v := nI 0) dX13_unit_102 (by decide) ?_
            exact r_iret (ty := .int) dX13_unit_103 rfl rfl ⟨congrArg (fun x => Sum.inl (some (Value.int x))) (bI_f h95).symm, rfl⟩
          · refine r_iconst (v := nI 1) dX13_unit_98 (by decide) ?_
            refine r_goto (tgt := 103) dX13_unit_99 (by decide) ?_
            exact r_iret (ty := .int) dX13_unit_103 rfl rfl ⟨congrArg (fun x => Sum.inl (some (Value.int x))) (bI_t h95).symm, rfl⟩
      · exact absurd zz35 (by decide)
set_option maxRecDepth 4000 in
theorem q_errorPosition {G : GI} {T : Hp} {m : Nat} {V : RVal} {g : Nat → Nat} {od : Nat → UInt64} (hs : RS T m)  : Fn m_X13_errorPosition G [.ref (m)] (rput T m (sg V g) od) (some (.int (V 0 (15)))) (rput T m (sg (up2 V 0 (6) (nI 0)) (g)) od) := by
  refine Cn.of rfl (by decide) (Nat.le_of_ble_eq_true rfl) (fun hN hM => ?_)
  show Wx _ G _ 0 [(0, .ref (m))] [] _
  refine r_aload_n dX13_errorPosition_0 rfl 0 rfl ?_
  refine r_iconst (v := nI 0) dX13_errorPosition_1 (by decide) ?_
  refine o_put (k := 6) hs dX13_errorPosition_2 fw_X13_errorPosition_54 rfl rfl rfl ?_
  refine r_aload_n dX13_errorPosition_5 rfl 0 rfl ?_
  refine o_get (k := 15) hs dX13_errorPosition_6 fr_X13_40 rfl ?_
  refine Wx.top (up2_n (by omega)) ?_
  exact r_iret (ty := .int) dX13_errorPosition_9 rfl rfl ⟨rfl, rfl⟩
set_option maxRecDepth 4000 in
theorem q_thrown {G : GI} {T : Hp} {m : Nat} {V : RVal} {g : Nat → Nat} {od : Nat → UInt64} (hs : RS T m)  : Fn m_X13_thrown G [.ref (m)] (rput T m (sg V g) od) (some (.int (V 0 (6)))) (rput T m (sg V (g)) od) := by
  refine Cn.of rfl (by decide) (Nat.le_of_ble_eq_true rfl) (fun hN hM => ?_)
  show Wx _ G _ 0 [(0, .ref (m))] [] _
  refine r_aload_n dX13_thrown_0 rfl 0 rfl ?_
  refine o_get (k := 6) hs dX13_thrown_1 fr_X13_54 rfl ?_
  exact r_iret (ty := .int) dX13_thrown_4 rfl rfl ⟨rfl, rfl⟩
