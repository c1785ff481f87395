set_option maxRecDepth 4000 in
theorem c_open_1 {G : GI} {T : Hp} {m : Nat} {V : RVal} {g : Nat → Nat} {od : Nat → UInt64} (hs : RS T m)  {x : Int32} (hx : ¬ vp_in x 4) {y : Int32} : Fn m_X13_open G [.ref (m), .int (x), .int (y)] (rput T m (sg V g) od) (some (.int (nI (0)))) (rput T m (sg (up2 V 0 (6) (nI 1)) (g)) od) := by
  refine Cn.of rfl (by decide) (Nat.le_of_ble_eq_true rfl) (fun hN hM => ?_)
  show Wx _ G _ 0 [(0, .ref (m)), (1, .int (x)), (2, .int (y))] [] _
  refine r_aload_n dX13_open_0 rfl 0 rfl ?_
  refine r_iload_n dX13_open_1 rfl 1 rfl ?_
  refine r_fnS (M2 := m_X13_isDrawer) (As := [.int (x)]) (rest := [.ref (m)]) (v := some (.int (nI (0)))) dX13_open_2 cc_X13_open_298 rfl rfl rfl (Nat.le_of_ble_eq_true rfl) (Fn.eq f_isDrawer (congrArg (fun x => some (Value.int x)) (bI_f hx)) rfl) rfl ?_
  refine r_if_eqN (tgt := 25) dX13_open_5 (by decide) (by omega) (fun zz5 => ?_) (fun zz5 => ?_)
  · refine r_iconst (v := nI 1) dX13_open_25 (by decide) ?_
    refine o_put (k := 6) hs dX13_open_26 fw_X13_open_54 rfl rfl rfl ?_
    refine r_aload_n dX13_open_29 rfl 0 rfl ?_
    refine o_get (k := 6) hs dX13_open_30 fr_X13_54 rfl ?_
    refine Wx.top up2_s ?_
    refine r_if_leN (tgt := 38) dX13_open_33 (by decide) (by omega) (fun zz33 => ?_) (fun zz33 => ?_)
    · exact absurd zz33 (by decide)
    · refine r_iconst (v := nI 0) dX13_open_36 (by decide) ?_
      exact r_iret (ty := .int) dX13_open_37 rfl rfl ⟨rfl, rfl⟩
  · exact absurd zz5 (by decide)
set_option maxRecDepth 4000 in
theorem c_open_2 {G : GI} {T : Hp} {m : Nat} {V : RVal} {g : Nat → Nat} {od : Nat → UInt64} (hs : RS T m)  {d : Nat} (hd : d < 4) {y : Int32} (hy : ¬ vp_in y 3) : Fn m_X13_open G [.ref (m), .int (nI (d)), .int (y)] (rput T m (sg V g) od) (some (.int (nI (0)))) (rput T m (sg (up2 V 0 (6) (nI 2)) (g)) od) := by
  refine Cn.of rfl (by decide) (Nat.le_of_ble_eq_true rfl) (fun hN hM => ?_)
  show Wx _ G _ 0 [(0, .ref (m)), (1, .int (nI (d))), (2, .int (y))] [] _
  refine r_aload_n dX13_open_0 rfl 0 rfl ?_
  refine r_iload_n dX13_open_1 rfl 1 rfl ?_
  refine r_fnS (M2 := m_X13_isDrawer) (As := [.int (nI (d))]) (rest := [.ref (m)]) (v := some (.int (nI (1)))) dX13_open_2 cc_X13_open_298 rfl rfl rfl (Nat.le_of_ble_eq_true rfl) (Fn.eq f_isDrawer (congrArg (fun x => some (Value.int x)) (bI_t (vp_in_nI (by omega) (by first | decide | omega)))) rfl) rfl ?_
  refine r_if_eqN (tgt := 25) dX13_open_5 (by decide) (by omega) (fun zz5 => ?_) (fun zz5 => ?_)
  · exact absurd zz5 (by decide)
  · refine r_iload_n dX13_open_8 rfl 2 rfl ?_
    refine r_iconst (v := nI 0) dX13_open_9 (by decide) ?_
    refine r_iconst (v := nI 2) dX13_open_10 (by decide) ?_
    refine r_fnS (M2 := m_X13_in) (As := [.int (y), .int (nI (0)), .int (nI (2))]) (rest := [.ref (m)]) (v := some (.int (nI (0)))) dX13_open_11 cc_X13_open_68 rfl rfl rfl (Nat.le_of_ble_eq_true rfl) (Fn.eq (f_in0 (n := 2) (by decide)) (congrArg (fun x => some (Value.int x)) (bI_f hy)) rfl) rfl ?_
    refine r_if_eqN (tgt := 21) dX13_open_14 (by decide) (by omega) (fun zz14 => ?_) (fun zz14 => ?_)
    · refine r_iconst (v := nI 2) dX13_open_21 (by decide) ?_
      refine r_goto (tgt := 26) dX13_open_22 (by decide) ?_
      refine o_put (k := 6) hs dX13_open_26 fw_X13_open_54 rfl rfl rfl ?_
      refine r_aload_n dX13_open_29 rfl 0 rfl ?_
      refine o_get (k := 6) hs dX13_open_30 fr_X13_54 rfl ?_
      refine Wx.top up2_s ?_
      refine r_if_leN (tgt := 38) dX13_open_33 (by decide) (by omega) (fun zz33 => ?_) (fun zz33 => ?_)
      · exact absurd zz33 (by decide)
      · refine r_iconst (v := nI 0) dX13_open_36 (by decide) ?_
        exact r_iret (ty := .int) dX13_open_37 rfl rfl ⟨rfl, rfl⟩
    · exact absurd zz14 (by decide)
set_option maxRecDepth 4000 in
theorem c_open_0 {G : GI} {T : Hp} {m : Nat} {V : RVal} {g : Nat → Nat} {od : Nat → UInt64} (hs : RS T m)  {d : Nat} (hd : d < 4) {k : Nat} (hk : k < 3) : Fn m_X13_open G [.ref (m), .int (nI (d)), .int (nI (k))] (rput T m (sg V g) od) (some (.int (V 8 (22 * d + 1)))) (rput T m (sg (up2 (up2 (up2 V 0 (6) (nI 0)) 8 (22 * d) (nI k)) 8 (22 * d + 1) (nI 0)) (g)) od) := by
  refine Cn.of rfl (by decide) (Nat.le_of_ble_eq_true rfl) (fun hN hM => ?_)
  show Wx _ G _ 0 [(0, .ref (m)), (1, .int (nI (d))), (2, .int (nI (k)))] [] _
  refine r_aload_n dX13_open_0 rfl 0 rfl ?_
  refine r_iload_n dX13_open_1 rfl 1 rfl ?_
  refine r_fnS (M2 := m_X13_isDrawer) (As := [.int (nI (d))]) (rest := [.ref (m)]) (v := some (.int (nI (1)))) dX13_open_2 cc_X13_open_298 rfl rfl rfl (Nat.le_of_ble_eq_true rfl) (Fn.eq f_isDrawer (congrArg (fun x => some (Value.int x)) (bI_t (vp_in_nI (by omega) (by first | decide | omega)))) rfl) rfl ?_
  refine r_if_eqN (tgt := 25) dX13_open_5 (by decide) (by omega) (fun zz5 => ?_) (fun zz5 => ?_)
  · exact absurd zz5 (by decide)
  · refine r_iload_n dX13_open_8 rfl 2 rfl ?_
    refine r_iconst (v := nI 0) dX13_open_9 (by decide) ?_
    refine r_iconst (v := nI 2) dX13_open_10 (by decide) ?_
    refine r_fnS (M2 := m_X13_in) (As := [.int (nI (k)), .int (nI (0)), .int (nI (2))]) (rest := [.ref (m)]) (v := some (.int (nI (1)))) dX13_open_11 cc_X13_open_68 rfl rfl rfl (Nat.le_of_ble_eq_true rfl) (Fn.eq (f_in0 (n := 2) (by decide)) (congrArg (fun x => some (Value.int x)) (bI_t (vp_in_nI (by omega) (by decide)))) rfl) rfl ?_
    refine r_if_eqN (tgt := 21) dX13_open_14 (by decide) (by omega) (fun zz14 => ?_) (fun zz14 => ?_)
    · exact absurd zz14 (by decide)
    · refine r_iconst (v := nI 0) dX13_open_17 (by decide) ?_
      refine r_goto (tgt := 26) dX13_open_18 (by decide) ?_
      refine o_put (k := 6) hs dX13_open_26 fw_X13_open_54 rfl rfl rfl ?_
      refine r_aload_n dX13_open_29 rfl 0 rfl ?_
      refine o_get (k := 6) hs dX13_open_30 fr_X13_54 rfl ?_
      refine Wx.top up2_s ?_
      refine r_if_leN (tgt := 38) dX13_open_33 (by decide) (by omega) (fun zz33 => ?_) (fun zz33 => ?_)
      · refine r_aload_n dX13_open_38 rfl 0 rfl ?_
        refine m_ref (k := 12) (j := 8) hs hs.2.1.2.2.2.2.2.2.2.1 dX13_open_39 fr_X13_34 rfl ?_
        refine r_bipush (v := nI 22) dX13_open_42 (by decide) ?_
        refine r_iload_n dX13_open_44 rfl 1 rfl ?_
        refine r_imulN dX13_open_45 ?_
        refine r_iconst (v := nI 1) dX13_open_46 (by decide) ?_
        refine r_iaddN dX13_open_47 ?_
        refine o_iald (j := 8) (n := 88) (i := 22 * d + 1) (by decide) hs rw8 dX13_open_48 (by omega) (by decide) ?_
        refine Wx.top (up2_n (by omega)) ?_
        refine r_istore_n (lv' := [(3, .int (V 8 (22 * d + 1))), (0, .ref (m)), (1, .int (nI (d))), (2, .int (nI (k)))]) dX13_open_49 rfl (by decide) rfl ?_
        refine r_aload_n dX13_open_50 rfl 1 rfl ?_
        refine m_ref (k := 12) (j := 8) hs hs.2.1.2.2.2.2.2.2.2.1 dX13_open_51 fr_X13_34 rfl ?_
        refine r_bipush (v := nI 22) dX13_open_54 (by decide) ?_
        refine r_iload_n dX13_open_56 rfl 2 rfl ?_
        refine r_imulN dX13_open_57 ?_
        refine r_iload_n dX13_open_58 rfl 3 rfl ?_
        refine o_iast (j := 8) (n := 88) (i := 22 * d) (by decide) hs rw8 dX13_open_59 (by omega) (by decide)  ?_
        refine r_aload_n dX13_open_60 rfl 1 rfl ?_
        refine m_ref (k := 12) (j := 8) hs hs.2.1.2.2.2.2.2.2.2.1 dX13_open_61 fr_X13_34 rfl ?_
        refine r_bipush (v := nI 22) dX13_open_64 (by decide) ?_
        refine r_iload_n dX13_open_66 rfl 2 rfl ?_
        refine r_imulN dX13_open_67 ?_
        refine r_iconst (v := nI 1) dX13_open_68 (by decide) ?_
        refine r_iaddN dX13_open_69 ?_
        refine r_iconst (v := nI 0) dX13_open_70 (by decide) ?_
        refine o_iast (j := 8) (n := 88) (i := 22 * d + 1) (by decide) hs rw8 dX13_open_71 (by omega) (by decide)  ?_
        refine r_iload_n dX13_open_72 rfl 0 rfl ?_
        exact r_iret (ty := .int) dX13_open_73 rfl rfl ⟨rfl, rfl⟩
      · exact absurd zz33 (by decide)
set_option maxRecDepth 4000 in
theorem q_specimen_1a {G : GI} {T : Hp} {m : Nat} {V : RVal} {g : Nat → Nat} {od : Nat → UInt64} (hs : RS T m)  {x : Int32} (hx : ¬ vp_in x 4) {y : Int32} {z : Int32} : Fn m_X13_specimen G [.ref (m), .int (x), .int (y), .int (z)] (rput T m (sg V g) od) (some (.int (nI (0)))) (rput T m (sg (up2 V 0 (6) (nI 1)) (g)) od) := by
  refine Cn.of rfl (by decide) (Nat.le_of_ble_eq_true rfl) (fun hN hM => ?_)
  show Wx _ G _ 0 [(0, .ref (m)), (1, .int (x)), (2, .int (y)), (3, .int (z))] [] _
  refine r_aload_n dX13_specimen_0 rfl 0 rfl ?_
  refine r_iload_n dX13_specimen_1 rfl 1 rfl ?_
  refine r_fnS (M2 := m_X13_isDrawer) (As := [.int (x)]) (rest := [.ref (m)]) (v := some (.int (nI (0)))) dX13_specimen_2 cc_X13_specimen_298 rfl rfl rfl (Nat.le_of_ble_eq_true rfl) (Fn.eq f_isDrawer (congrArg (fun x => some (Value.int x)) (bI_f hx)) rfl) rfl ?_
  refine r_if_eqN (tgt := 46) dX13_specimen_5 (by decide) (by omega) (fun zz5 => ?_) (fun zz5 => ?_)
  · refine r_iconst (v := nI 1) dX13_specimen_46 (by decide) ?_
    refine o_put (k := 6) hs dX13_specimen_47 fw_X13_specimen_54 rfl rfl rfl ?_
    refine r_aload_n dX13_specimen_50 rfl 0 rfl ?_
    refine o_get (k := 6) hs dX13_specimen_51 fr_X13_54 rfl ?_
    refine Wx.top up2_s ?_
    refine r_if_leN (tgt := 61) dX13_specimen_54 (by decide) (by omega) (fun zz54 => ?_) (fun zz54 => ?_)
    · exact absurd zz54 (by decide)
    · refine r_iconst (v := nI 0) dX13_specimen_57 (by decide) ?_
      refine r_goto (tgt := 78) dX13_specimen_58 (by decide) ?_
      exact r_iret (ty := .int) dX13_specimen_78 rfl rfl ⟨rfl, rfl⟩
  · exact absurd zz5 (by decide)
set_option maxRecDepth 4000 in
theorem q_specimen_1b {G : GI} {T : Hp} {m : Nat} {V : RVal} {g : Nat → Nat} {od : Nat → UInt64} (hs : RS T m)  {d : Nat} (hd : d < 4) {c : Nat} (hc : V 8 (22 * d + 1) = nI c) (hc5 : c ≤ 5) {y z : Int32} (hy : ¬ vp_in y c) : Fn m_X13_specimen G [.ref (m), .int (nI (d)), .int (y), .int (z)] (rput T m (sg V g) od) (some (.int (nI (0)))) (rput T m (sg (up2 V 0 (6) (nI 1)) (g)) od) := by
  refine Cn.of rfl (by decide) (Nat.le_of_ble_eq_true rfl) (fun hN hM => ?_)
  show Wx _ G _ 0 [(0, .ref (m)), (1, .int (nI (d))), (2, .int (y)), (3, .int (z))] [] _
  refine r_aload_n dX13_specimen_0 rfl 0 rfl ?_
  refine r_iload_n dX13_specimen_1 rfl 1 rfl ?_
  refine r_fnS (M2 := m_X13_isDrawer) (As := [.int (nI (d))]) (rest := [.ref (m)]) (v := some (.int (nI (1)))) dX13_specimen_2 cc_X13_specimen_298 rfl rfl rfl (Nat.le_of_ble_eq_true rfl) (Fn.eq f_isDrawer (congrArg (fun x => some (Value.int x)) (bI_t (vp_in_nI (by omega) (by first | decide | omega)))) rfl) rfl ?_
  refine r_if_eqN (tgt := 46) dX13_specimen_5 (by decide) (by omega) (fun zz5 => ?_) (fun zz5 => ?_)
  · exact absurd zz5 (by decide)
  · refine r_iload_n dX13_specimen_8 rfl 2 rfl ?_
    refine r_iconst (v := nI 0) dX13_specimen_9 (by decide) ?_
    refine r_aload_n dX13_specimen_10 rfl 0 rfl ?_
    refine m_ref (k := 12) (j := 8) hs hs.2.1.2.2.2.2.2.2.2.1 dX13_specimen_11 fr_X13_34 rfl ?_
    refine r_bipush (v := nI 22) dX13_specimen_14 (by decide) ?_
    refine r_iload_n dX13_specimen_16 rfl 1 rfl ?_
    refine r_imulN dX13_specimen_17 ?_
    refine r_iconst (v := nI 1) dX13_specimen_18 (by decide) ?_
    refine r_iaddN dX13_specimen_19 ?_
    refine o_iald (j := 8) (n := 88) (i := 22 * d + 1) (by decide) hs rw8 dX13_specimen_20 (by omega) (by decide) ?_
    refine Wx.top hc ?_
    refine r_iconst (v := nI 1) dX13_specimen_21 (by decide) ?_
    refine r_isub dX13_specimen_22 ?_
    refine r_fnS (M2 := m_X13_in) (As := [.int (y), .int (nI (0)), .int (nI (c) - nI 1)]) (rest := [.ref (m)]) (v := some (.int (nI (0)))) dX13_specimen_23 cc_X13_specimen_68 rfl rfl rfl (Nat.le_of_ble_eq_true rfl) (Fn.eq f_in (show some (Value.int (bI (nI 0 ≤ y ∧ y ≤ nI c - nI 1))) = some (Value.int (nI 0)) from congrArg (fun x => some (Value.int x)) ((bI_iff (inR_iff0 (by omega))).trans (bI_f hy))) rfl) rfl ?_
    refine r_if_eqN (tgt := 46) dX13_specimen_26 (by decide) (by omega) (fun zz26 => ?_) (fun zz26 => ?_)
    · refine r_iconst (v := nI 1) dX13_specimen_46 (by decide) ?_
      refine o_put (k := 6) hs dX13_specimen_47 fw_X13_specimen_54 rfl rfl rfl ?_
      refine r_aload_n dX13_specimen_50 rfl 0 rfl ?_
      refine o_get (k := 6) hs dX13_specimen_51 fr_X13_54 rfl ?_
      refine Wx.top up2_s ?_
      refine r_if_leN (tgt := 61) dX13_specimen_54 (by decide) (by omega) (fun zz54 => ?_) (fun zz54 => ?_)
      · exact absurd zz54 (by decide)
      · refine r_iconst (v := nI 0) dX13_specimen_57 (by decide) ?_
        refine r_goto (tgt := 78) dX13_specimen_58 (by decide) ?_
        exact r_iret (ty := .int) dX13_specimen_78 rfl rfl ⟨rfl, rfl⟩
    · exact absurd zz26 (by decide)
set_option maxRecDepth 4000 in
theorem q_specimen_2 {G : GI} {T : Hp} {m : Nat} {V : RVal} {g : Nat → Nat} {od : Nat → UInt64} (hs : RS T m)  {d : Nat} (hd : d < 4) {c : Nat} (hc : V 8 (22 * d + 1) = nI c) (hc5 : c ≤ 5) {i : Nat} (hi : i < c) {z : Int32} (hz : ¬ vp_in z 4) : Fn m_X13_specimen G [.ref (m), .int (nI (d)), .int (nI (i)), .int (z)] (rput T m (sg V g) od) (some (.int (nI (0)))) (rput T m (sg (up2 V 0 (6) (nI 2)) (g)) od) := by
  refine Cn.of rfl (by decide) (Nat.le_of_ble_eq_true rfl) (fun hN hM => ?_)
  show Wx _ G _ 0 [(0, .ref (m)), (1, .int (nI (d))), (2, .int (nI (i))), (3, .int (z))] [] _
  refine r_aload_n dX13_specimen_0 rfl 0 rfl ?_
  refine r_iload_n dX13_specimen_1 rfl 1 rfl ?_
  refine r_fnS (M2 := m_X13_isDrawer) (As := [.int (nI (d))]) (rest := [.ref (m)]) (v := some (.int (nI (1)))) dX13_specimen_2 cc_X13_specimen_298 rfl rfl rfl (Nat.le_of_ble_eq_true rfl) (Fn.eq f_isDrawer (congrArg (fun x => some (Value.int x)) (bI_t (vp_in_nI (by omega) (by first | decide | omega)))) rfl) rfl ?_
  refine r_if_eqN (tgt := 46) dX13_specimen_5 (by decide) (by omega) (fun zz5 => ?_) (fun zz5 => ?_)
  · exact absurd zz5 (by decide)
  · refine r_iload_n dX13_specimen_8 rfl 2 rfl ?_
    refine r_iconst (v := nI 0) dX13_specimen_9 (by decide) ?_
    refine r_aload_n dX13_specimen_10 rfl 0 rfl ?_
    refine m_ref (k := 12) (j := 8) hs hs.2.1.2.2.2.2.2.2.2.1 dX13_specimen_11 fr_X13_34 rfl ?_
    refine r_bipush (v := nI 22) dX13_specimen_14 (by decide) ?_
    refine r_iload_n dX13_specimen_16 rfl 1 rfl ?_
    refine r_imulN dX13_specimen_17 ?_
    refine r_iconst (v := nI 1) dX13_specimen_18 (by decide) ?_
    refine r_iaddN dX13_specimen_19 ?_
    refine o_iald (j := 8) (n := 88) (i := 22 * d + 1) (by decide) hs rw8 dX13_specimen_20 (by omega) (by decide) ?_
    refine Wx.top hc ?_
    refine r_iconst (v := nI 1) dX13_specimen_21 (by decide) ?_
    refine r_isub dX13_specimen_22 ?_
    refine r_fnS (M2 := m_X13_in) (As := [.int (nI (i)), .int (nI (0)), .int (nI (c) - nI 1)]) (rest := [.ref (m)]) (v := some (.int (nI (1)))) dX13_specimen_23 cc_X13_specimen_68 rfl rfl rfl (Nat.le_of_ble_eq_true rfl) (Fn.eq f_in (show some (Value.int (bI (nI 0 ≤ nI i ∧ nI i ≤ nI c - nI 1))) = some (Value.int (nI 1)) from congrArg (fun x => some (Value.int x)) ((bI_iff (inR_iff0 (by omega))).trans (bI_t (vp_in_nI hi (by omega))))) rfl) rfl ?_
    refine r_if_eqN (tgt := 46) dX13_specimen_26 (by decide) (by omega) (fun zz26 => ?_) (fun zz26 => ?_)
    · exact absurd zz26 (by decide)
    · refine r_iload_n dX13_specimen_29 rfl 3 rfl ?_
      refine r_iconst (v := nI 0) dX13_specimen_30 (by decide) ?_
      refine r_iconst (v := nI 3) dX13_specimen_31 (by decide) ?_
      refine r_fnS (M2 := m_X13_in) (As := [.int (z), .int (nI (0)), .int (nI (3))]) (rest := [.ref (m)]) (v := some (.int (nI (0)))) dX13_specimen_32 cc_X13_specimen_68 rfl rfl rfl (Nat.le_of_ble_eq_true rfl) (Fn.eq (f_in0 (n := 3) (by decide)) (congrArg (fun x => some (Value.int x)) (bI_f hz)) rfl) rfl ?_
      refine r_if_eqN (tgt := 42) dX13_specimen_35 (by decide) (by omega) (fun zz35 => ?_) (fun zz35 => ?_)
      · refine r_iconst (v := nI 2) dX13_specimen_42 (by decide) ?_
        refine r_goto (tgt := 47) dX13_specimen_43 (by decide) ?_
        refine o_put (k := 6) hs dX13_specimen_47 fw_X13_specimen_54 rfl rfl rfl ?_
        refine r_aload_n dX13_specimen_50 rfl 0 rfl ?_
        refine o_get (k := 6) hs dX13_specimen_51 fr_X13_54 rfl ?_
        refine Wx.top up2_s ?_
        refine r_if_leN (tgt := 61) dX13_specimen_54 (by decide) (by omega) (fun zz54 => ?_) (fun zz54 => ?_)
        · exact absurd zz54 (by decide)
        · refine r_iconst (v := nI 0) dX13_specimen_57 (by decide) ?_
          refine r_goto (tgt := 78) dX13_specimen_58 (by decide) ?_
          exact r_iret (ty := .int) dX13_specimen_78 rfl rfl ⟨rfl, rfl⟩
      · exact absurd zz35 (by decide)
set_option maxRecDepth 4000 in
theorem q_specimen_0 {G : GI} {T : Hp} {m : Nat} {V : RVal} {g : Nat → Nat} {od : Nat → UInt64} (hs : RS T m)  {d : Nat} (hd : d < 4) {c : Nat} (hc : V 8 (22 * d + 1) = nI c) (hc5 : c ≤ 5) {i : Nat} (hi : i < c) {k : Nat} (hk : k < 4) : Fn m_X13_specimen G [.ref (m), .int (nI (d)), .int (nI (i)), .int (nI (k))] (rput T m (sg V g) od) (some (.int (V 8 (22 * d + 2 + 4 * i + k)))) (rput T m (sg (up2 V 0 (6) (nI 0)) (g)) od) := by
  refine Cn.of rfl (by decide) (Nat.le_of_ble_eq_true rfl) (fun hN hM => ?_)
  show Wx _ G _ 0 [(0, .ref (m)), (1, .int (nI (d))), (2, .int (nI (i))), (3, .int (nI (k)))] [] _
  refine r_aload_n dX13_specimen_0 rfl 0 rfl ?_
  refine r_iload_n dX13_specimen_1 rfl 1 rfl ?_
  refine r_fnS (M2 := m_X13_isDrawer) (As := [.int (nI (d))]) (rest := [.ref (m)]) (v := some (.int (nI (1)))) dX13_specimen_2 cc_X13_specimen_298 rfl rfl rfl (Nat.le_of_ble_eq_true rfl) (Fn.eq f_isDrawer (congrArg (fun x => some (Value.int x)) (bI_t (vp_in_nI (by omega) (by first | decide | omega)))) rfl) rfl ?_
  refine r_if_eqN (tgt := 46) dX13_specimen_5 (by decide) (by omega) (fun zz5 => ?_) (fun zz5 => ?_)
  · exact absurd zz5 (by decide)
  · refine r_iload_n dX13_specimen_8 rfl 2 rfl ?_
    refine r_iconst (v := nI 0) dX13_specimen_9 (by decide) ?_
    refine r_aload_n dX13_specimen_10 rfl 0 rfl ?_
    refine m_ref (k := 12) (j := 8) hs hs.2.1.2.2.2.2.2.2.2.1 dX13_specimen_11 fr_X13_34 rfl ?_
    refine r_bipush (v := nI 22) dX13_specimen_14 (by decide) ?_
    refine r_iload_n dX13_specimen_16 rfl 1 rfl ?_
    refine r_imulN dX13_specimen_17 ?_
    refine r_iconst (v := nI 1) dX13_specimen_18 (by decide) ?_
    refine r_iaddN dX13_specimen_19 ?_
    refine o_iald (j := 8) (n := 88) (i := 22 * d + 1) (by decide) hs rw8 dX13_specimen_20 (by omega) (by decide) ?_
    refine Wx.top hc ?_
    refine r_iconst (v := nI 1) dX13_specimen_21 (by decide) ?_
    refine r_isub dX13_specimen_22 ?_
    refine r_fnS (M2 := m_X13_in) (As := [.int (nI (i)), .int (nI (0)), .int (nI (c) - nI 1)]) (rest := [.ref (m)]) (v := some (.int (nI (1)))) dX13_specimen_23 cc_X13_specimen_68 rfl rfl rfl (Nat.le_of_ble_eq_true rfl) (Fn.eq f_in (show some (Value.int (bI (nI 0 ≤ nI i ∧ nI i ≤ nI c - nI 1))) = some (Value.int (nI 1)) from congrArg (fun x => some (Value.int x)) ((bI_iff (inR_iff0 (by omega))).trans (bI_t (vp_in_nI hi (by omega))))) rfl) rfl ?_
    refine r_if_eqN (tgt := 46) dX13_specimen_26 (by decide) (by omega) (fun zz26 => ?_) (fun zz26 => ?_)
    · exact absurd zz26 (by decide)
    · refine r_iload_n dX13_specimen_29 rfl 3 rfl ?_
      refine r_iconst (v := nI 0) dX13_specimen_30 (by decide) ?_
      refine r_iconst (v := nI 3) dX13_specimen_31 (by decide) ?_
      refine r_fnS (M2 := m_X13_in) (As := [.int (nI (k)), .int (nI (0)), .int (nI (3))]) (rest := [.ref (m)]) (v := some (.int (nI (1)))) dX13_specimen_32 cc_X13_specimen_68 rfl rfl rfl (Nat.le_of_ble_eq_true rfl) (Fn.eq (f_in0 (n := 3) (by decide)) (congrArg (fun x => some (Value.int x)) (bI_t (vp_in_nI (by omega) (by decide)))) rfl) rfl ?_
      refine r_if_eqN (tgt := 42) dX13_specimen_35 (by decide) (by omega) (fun zz35 => ?_) (fun zz35 => ?_)
      · exact absurd zz35 (by decide)
      · refine r_iconst (v := nI 0) dX13_specimen_38 (by decide) ?_
        refine r_goto (tgt := 47) dX13_specimen_39 (by decide) ?_
        refine o_put (k := 6) hs dX13_specimen_47 fw_X13_specimen_54 rfl rfl rfl ?_
        refine r_aload_n dX13_specimen_50 rfl 0 rfl ?_
        refine o_get (k := 6) hs dX13_specimen_51 fr_X13_54 rfl ?_
        refine Wx.top up2_s ?_
        refine r_if_leN (tgt := 61) dX13_specimen_54 (by decide) (by omega) (fun zz54 => ?_) (fun zz54 => ?_)
        · refine r_aload_n dX13_specimen_61 rfl 0 rfl ?_
          refine m_ref (k := 12) (j := 8) hs hs.2.1.2.2.2.2.2.2.2.1 dX13_specimen_62 fr_X13_34 rfl ?_
          refine r_bipush (v := nI 22) dX13_specimen_65 (by decide) ?_
          refine r_iload_n dX13_specimen_67 rfl 1 rfl ?_
          refine r_imulN dX13_specimen_68 ?_
          refine r_iconst (v := nI 2) dX13_specimen_69 (by decide) ?_
          refine r_iaddN dX13_specimen_70 ?_
          refine r_iconst (v := nI 4) dX13_specimen_71 (by decide) ?_
          refine r_iload_n dX13_specimen_72 rfl 2 rfl ?_
          refine r_imulN dX13_specimen_73 ?_
          refine r_iaddN dX13_specimen_74 ?_
          refine r_iload_n dX13_specimen_75 rfl 3 rfl ?_
          refine r_iaddN dX13_specimen_76 ?_
          refine o_iald (j := 8) (n := 88) (i := 22 * d + 2 + 4 * i + k) (by decide) hs rw8 dX13_specimen_77 (by omega) (by decide) ?_
          refine Wx.top (up2_n (by omega)) ?_
          exact r_iret (ty := .int) dX13_specimen_78 rfl rfl ⟨rfl, rfl⟩
        · exact absurd zz54 (by decide)
def fitP (g : Nat → Nat) (k l u : Nat) : Prop := k = 0 ∨ (badG g l u ∧ (k = 1 ∨ rW (g (402 + 2 * (200 * l + u))) = 2))
set_option maxRecDepth 4000 in
theorem p_fits {G : GI} {T : Hp} {m : Nat} {V : RVal} {g : Nat → Nat} {od : Nat → UInt64} (hs : RS T m)  (hb : WB g) {k l u : Nat} (hk : k ≤ 2) (hl : l < 24) (hu : u < 200) (hp : g (90 + 13 * l + 0) < 4) (h15 : g (22 + 10 * g (90 + 13 * l + 0) + 1) < 16) : Fn m_X13_fits G [.ref (m), .int (nI (k)), .int (nI (l)), .int (nI (u))] (rput T m (sg V g) od) (some (.int (bI (fitP g k l u)))) (rput T m (sg V (g)) od) := by
  refine Cn.of rfl (by decide) (Nat.le_of_ble_eq_true rfl) (fun hN hM => ?_)
  show Wx _ G _ 0 [(0, .ref (m)), (1, .int (nI (k))), (2, .int (nI (l))), (3, .int (nI (u)))] [] _
  refine r_iload_n dX13_fits_0 rfl 1 rfl ?_
  refine r_if_eqN (tgt := 28) dX13_fits_1 (by decide) (by (first | omega | (have := rW_lt (g (402 + 2 * (200 * l + u))); omega))) (fun h1 => ?_) (fun h1 => ?_)
  · refine r_iconst (v := nI 1) dX13_fits_28 (by decide) ?_
    refine r_goto (tgt := 33) dX13_fits_29 (by decide) ?_
    exact r_iret (ty := .boolean) dX13_fits_33 rfl (by decide) ⟨congrArg (fun x => Sum.inl (some (Value.int x))) (bI_t (by unfold fitP; first | exact Or.inl (by assumption) | exact Or.inr ⟨by assumption, Or.inl (by assumption)⟩ | exact Or.inr ⟨by assumption, Or.inr (by assumption)⟩)).symm, rfl⟩
  · refine r_aload_n dX13_fits_4 rfl 0 rfl ?_
    refine r_iload_n dX13_fits_5 rfl 2 rfl ?_
    refine r_iload_n dX13_fits_6 rfl 3 rfl ?_
    refine r_fnV (M2 := m_X13_isBad) (As := [.int (nI (l)), .int (nI (u))]) (rest := []) (v := some (.int (bI (badG g l u)))) dX13_fits_7 cc_X13_fits_96 rfl rfl rfl (Nat.le_of_ble_eq_true rfl) hs.1 rfl rfl (by decide) (g_isBad hs hb (by (first | omega | (have := rW_lt (g (402 + 2 * (200 * l + u))); omega))) (by (first | omega | (have := rW_lt (g (402 + 2 * (200 * l + u))); omega))) hp h15) rfl ?_
    refine r_if_eqB (tgt := 32) dX13_fits_10 (by decide) (fun h10 => ?_) (fun h10 => ?_)
    · refine r_iconst (v := nI 0) dX13_fits_32 (by decide) ?_
      exact r_iret (ty := .boolean) dX13_fits_33 rfl (by decide) ⟨congrArg (fun x => Sum.inl (some (Value.int x))) (bI_f (by unfold fitP; intro q; rcases q with q | ⟨q, q | q⟩ <;> contradiction)).symm, rfl⟩
    · refine r_iload_n dX13_fits_13 rfl 1 rfl ?_
      refine r_iconst (v := nI 1) dX13_fits_14 (by decide) ?_
      refine r_icmp_eqN (tgt := 28) dX13_fits_15 (by decide) (by (first | omega | (have := rW_lt (g (402 + 2 * (200 * l + u))); omega))) (by (first | omega | (have := rW_lt (g (402 + 2 * (200 * l + u))); omega))) (fun h15 => ?_) (fun h15 => ?_)
      · refine r_iconst (v := nI 1) dX13_fits_28 (by decide) ?_
        refine r_goto (tgt := 33) dX13_fits_29 (by decide) ?_
        exact r_iret (ty := .boolean) dX13_fits_33 rfl (by decide) ⟨congrArg (fun x => Sum.inl (some (Value.int x))) (bI_t (by unfold fitP; first | exact Or.inl (by assumption) | exact Or.inr ⟨by assumption, Or.inl (by assumption)⟩ | exact Or.inr ⟨by assumption, Or.inr (by assumption)⟩)).symm, rfl⟩
      · refine r_aload_n dX13_fits_18 rfl 0 rfl ?_
        refine r_iload_n dX13_fits_19 rfl 2 rfl ?_
        refine r_iload_n dX13_fits_20 rfl 3 rfl ?_
        refine r_fnV (M2 := m_X13_repairs) (As := [.int (nI (l)), .int (nI (u))]) (rest := []) (v := some (.int (nI (rW (g (402 + 2 * (200 * l + u))))))) dX13_fits_21 cc_X13_fits_242 rfl rfl rfl (Nat.le_of_ble_eq_true rfl) hs.1 rfl rfl (by decide) (g_repairs hs hb (by (first | omega | (have := rW_lt (g (402 + 2 * (200 * l + u))); omega))) (by (first | omega | (have := rW_lt (g (402 + 2 * (200 * l + u))); omega)))) rfl ?_
        refine r_iconst (v := nI 2) dX13_fits_24 (by decide) ?_
        refine r_icmp_neN (tgt := 32) dX13_fits_25 (by decide) (by (first | omega | (have := rW_lt (g (402 + 2 * (200 * l + u))); omega))) (by (first | omega | (have := rW_lt (g (402 + 2 * (200 * l + u))); omega))) (fun h25 => ?_) (fun h25 => ?_)
        · refine r_iconst (v := nI 0) dX13_fits_32 (by decide) ?_
          exact r_iret (ty := .boolean) dX13_fits_33 rfl (by decide) ⟨congrArg (fun x => Sum.inl (some (Value.int x))) (bI_f (by unfold fitP; intro q; rcases q with q | ⟨q, q | q⟩ <;> contradiction)).symm, rfl⟩
        · refine r_iconst (v := nI 1) dX13_fits_28 (by decide) ?_
          refine r_goto (tgt := 33) dX13_fits_29 (by decide) ?_
          exact r_iret (ty := .boolean) dX13_fits_33 rfl (by decide) ⟨congrArg (fun x => Sum.inl (some (Value.int x))) (bI_t (by unfold fitP; first | exact Or.inl (by assumption) | exact Or.inr ⟨by assumption, Or.inl (by assumption)⟩ | exact Or.inr ⟨by assumption, Or.inr (by assumption)⟩)).symm, rfl⟩
set_option maxRecDepth 4000 in
theorem c_keep_1a {G : GI} {T : Hp} {m : Nat} {V : RVal} {g : Nat → Nat} {od : Nat → UInt64} (hs : RS T m)  {x : Int32} (hx : ¬ vp_in x 4) {y : Int32} {z : Int32} : Fn m_X13_keep G [.ref (m), .int (x), .int (y), .int (z)] (rput T m (sg V g) od) (some (.int (nI (0)))) (rput T m (sg (up2 V 0 (6) (nI 1)) (g)) od) := by
  refine Cn.of rfl (by decide) (Nat.le_of_ble_eq_true rfl) (fun hN hM => ?_)
  show Wx _ G _ 0 [(0, .ref (m)), (1, .int (x)), (2, .int (y)), (3, .int (z))] [] _
  refine r_aload_n dX13_keep_0 rfl 0 rfl ?_
  refine r_iload_n dX13_keep_1 rfl 1 rfl ?_
  refine r_fnS (M2 := m_X13_isDrawer) (As := [.int (x)]) (rest := [.ref (m)]) (v := some (.int (nI (0)))) dX13_keep_2 cc_X13_keep_298 rfl rfl rfl (Nat.le_of_ble_eq_true rfl) (Fn.eq f_isDrawer (congrArg (fun x => some (Value.int x)) (bI_f hx)) rfl) rfl ?_
  refine r_if_eqN (tgt := 17) dX13_keep_5 (by decide) (by omega) (fun zz5 => ?_) (fun zz5 => ?_)
  · refine r_iconst (v := nI 1) dX13_keep_17 (by decide) ?_
    refine r_goto (tgt := 63) dX13_keep_18 (by decide) ?_
    refine o_put (k := 6) hs dX13_keep_63 fw_X13_keep_54 rfl rfl rfl ?_
    refine r_aload_n dX13_keep_66 rfl 0 rfl ?_
    refine o_get (k := 6) hs dX13_keep_67 fr_X13_54 rfl ?_
    refine Wx.top up2_s ?_
    refine r_if_leN (tgt := 75) dX13_keep_70 (by decide) (by omega) (fun zz70 => ?_) (fun zz70 => ?_)
    · exact absurd zz70 (by decide)
    · refine r_iconst (v := nI 0) dX13_keep_73 (by decide) ?_
      exact r_iret (ty := .int) dX13_keep_74 rfl rfl ⟨rfl, rfl⟩
  · exact absurd zz5 (by decide)
set_option maxRecDepth 4000 in
theorem c_keep_1b {G : GI} {T : Hp} {m : Nat} {V : RVal} {g : Nat → Nat} {od : Nat → UInt64} (hs : RS T m)  {d : Nat} (hd : d < 4) (h24 : g 0 ≤ 24) {y z : Int32} (hy : ¬ vp_in y (g 0)) : Fn m_X13_keep G [.ref (m), .int (nI (d)), .int (y), .int (z)] (rput T m (sg V g) od) (some (.int (nI (0)))) (rput T m (sg (up2 V 0 (6) (nI 1)) (g)) od) := by
  refine Cn.of rfl (by decide) (Nat.le_of_ble_eq_true rfl) (fun hN hM => ?_)
  show Wx _ G _ 0 [(0, .ref (m)), (1, .int (nI (d))), (2, .int (y)), (3, .int (z))] [] _
  refine r_aload_n dX13_keep_0 rfl 0 rfl ?_
  refine r_iload_n dX13_keep_1 rfl 1 rfl ?_
  refine r_fnS (M2 := m_X13_isDrawer) (As := [.int (nI (d))]) (rest := [.ref (m)]) (v := some (.int (nI (1)))) dX13_keep_2 cc_X13_keep_298 rfl rfl rfl (Nat.le_of_ble_eq_true rfl) (Fn.eq f_isDrawer (congrArg (fun x => some (Value.int x)) (bI_t (vp_in_nI (by omega) (by first | decide | omega)))) rfl) rfl ?_
  refine r_if_eqN (tgt := 17) dX13_keep_5 (by decide) (by omega) (fun zz5 => ?_) (fun zz5 => ?_)
  · exact absurd zz5 (by decide)
  · refine r_aload_n dX13_keep_8 rfl 0 rfl ?_
    refine r_iload_n dX13_keep_9 rfl 2 rfl ?_
    refine r_iload_n dX13_keep_10 rfl 3 rfl ?_
    refine r_fnV (M2 := m_X13_isUnit) (As := [.int (y), .int (z)]) (rest := [.ref (m)]) (v := some (.int (nI (0)))) dX13_keep_11 cc_X13_keep_218 rfl rfl rfl (Nat.le_of_ble_eq_true rfl) hs.1 rfl rfl (by decide) (g_isUnit_0 hs h24 hy) rfl ?_
    refine r_if_neN (tgt := 21) dX13_keep_14 (by decide) (by omega) (fun zz14 => ?_) (fun zz14 => ?_)
    · exact absurd zz14 (by decide)
    · refine r_iconst (v := nI 1) dX13_keep_17 (by decide) ?_
      refine r_goto (tgt := 63) dX13_keep_18 (by decide) ?_
      refine o_put (k := 6) hs dX13_keep_63 fw_X13_keep_54 rfl rfl rfl ?_
      refine r_aload_n dX13_keep_66 rfl 0 rfl ?_
      refine o_get (k := 6) hs dX13_keep_67 fr_X13_54 rfl ?_
      refine Wx.top up2_s ?_
      refine r_if_leN (tgt := 75) dX13_keep_70 (by decide) (by omega) (fun zz70 => ?_) (fun zz70 => ?_)
      · exact absurd zz70 (by decide)
      · refine r_iconst (v := nI 0) dX13_keep_73 (by decide) ?_
        exact r_iret (ty := .int) dX13_keep_74 rfl rfl ⟨rfl, rfl⟩
set_option maxRecDepth 4000 in
theorem c_keep_1c {G : GI} {T : Hp} {m : Nat} {V : RVal} {g : Nat → Nat} {od : Nat → UInt64} (hs : RS T m)  {d : Nat} (hd : d < 4) (h24 : g 0 ≤ 24) {l : Nat} (hl : l < g 0) (hz : g (90 + 13 * l + 1) ≤ 200) {y : Int32} (hy : ¬ vp_in y (g (90 + 13 * l + 1))) : Fn m_X13_keep G [.ref (m), .int (nI (d)), .int (nI (l)), .int (y)] (rput T m (sg V g) od) (some (.int (nI (0)))) (rput T m (sg (up2 V 0 (6) (nI 1)) (g)) od) := by
  refine Cn.of rfl (by decide) (Nat.le_of_ble_eq_true rfl) (fun hN hM => ?_)
  show Wx _ G _ 0 [(0, .ref (m)), (1, .int (nI (d))), (2, .int (nI (l))), (3, .int (y))] [] _
  refine r_aload_n dX13_keep_0 rfl 0 rfl ?_
  refine r_iload_n dX13_keep_1 rfl 1 rfl ?_
  refine r_fnS (M2 := m_X13_isDrawer) (As := [.int (nI (d))]) (rest := [.ref (m)]) (v := some (.int (nI (1)))) dX13_keep_2 cc_X13_keep_298 rfl rfl rfl (Nat.le_of_ble_eq_true rfl) (Fn.eq f_isDrawer (congrArg (fun x => some (Value.int x)) (bI_t (vp_in_nI (by omega) (by first | decide | omega)))) rfl) rfl ?_
  refine r_if_eqN (tgt := 17) dX13_keep_5 (by decide) (by omega) (fun zz5 => ?_) (fun zz5 => ?_)
  · exact absurd zz5 (by decide)
  · refine r_aload_n dX13_keep_8 rfl 0 rfl ?_
    refine r_iload_n dX13_keep_9 rfl 2 rfl ?_
    refine r_iload_n dX13_keep_10 rfl 3 rfl ?_
    refine r_fnV (M2 := m_X13_isUnit) (As := [.int (nI (l)), .int (y)]) (rest := [.ref (m)]) (v := some (.int (nI (0)))) dX13_keep_11 cc_X13_keep_218 rfl rfl rfl (Nat.le_of_ble_eq_true rfl) hs.1 rfl rfl (by decide) (g_isUnit_1 hs h24 (by omega) (by omega) hy) rfl ?_
    refine r_if_neN (tgt := 21) dX13_keep_14 (by decide) (by omega) (fun zz14 => ?_) (fun zz14 => ?_)
    · exact absurd zz14 (by decide)
    · refine r_iconst (v := nI 1) dX13_keep_17 (by decide) ?_
      refine r_goto (tgt := 63) dX13_keep_18 (by decide) ?_
      refine o_put (k := 6) hs dX13_keep_63 fw_X13_keep_54 rfl rfl rfl ?_
      refine r_aload_n dX13_keep_66 rfl 0 rfl ?_
      refine o_get (k := 6) hs dX13_keep_67 fr_X13_54 rfl ?_
      refine Wx.top up2_s ?_
      refine r_if_leN (tgt := 75) dX13_keep_70 (by decide) (by omega) (fun zz70 => ?_) (fun zz70 => ?_)
      · exact absurd zz70 (by decide)
      · refine r_iconst (v := nI 0) dX13_keep_73 (by decide) ?_
        exact r_iret (ty := .int) dX13_keep_74 rfl rfl ⟨rfl, rfl⟩
set_option maxRecDepth 4000 in
theorem c_keep_2 {G : GI} {T : Hp} {m : Nat} {V : RVal} {g : Nat → Nat} {od : Nat → UInt64} (hs : RS T m)  (h24 : g 0 ≤ 24) (hb : WB g) {l u : Nat} (hl : l < g 0) (hz : g (90 + 13 * l + 1) ≤ 200) (hu : u < g (90 + 13 * l + 1)) (hp : g (90 + 13 * l + 0) < 4) (h15 : g (22 + 10 * g (90 + 13 * l + 0) + 1) < 16) {d : Nat} (hd : d < 4) {c : Nat} (hc : V 8 (22 * d + 1) = nI c) (hc5 : c ≤ 5) {k : Nat} (hkd : V 8 (22 * d) = nI k) (hk : k ≤ 2) (h : c = 5) : Fn m_X13_keep G [.ref (m), .int (nI (d)), .int (nI (l)), .int (nI (u))] (rput T m (sg V g) od) (some (.int (nI (0)))) (rput T m (sg (up2 V 0 (6) (nI 2)) (g)) od) := by
  refine Cn.of rfl (by decide) (Nat.le_of_ble_eq_true rfl) (fun hN hM => ?_)
  show Wx _ G _ 0 [(0, .ref (m)), (1, .int (nI (d))), (2, .int (nI (l))), (3, .int (nI (u)))] [] _
  refine r_aload_n dX13_keep_0 rfl 0 rfl ?_
  refine r_iload_n dX13_keep_1 rfl 1 rfl ?_
  refine r_fnS (M2 := m_X13_isDrawer) (As := [.int (nI (d))]) (rest := [.ref (m)]) (v := some (.int (nI (1)))) dX13_keep_2 cc_X13_keep_298 rfl rfl rfl (Nat.le_of_ble_eq_true rfl) (Fn.eq f_isDrawer (congrArg (fun x => some (Value.int x)) (bI_t (vp_in_nI (by omega) (by first | decide | omega)))) rfl) rfl ?_
  refine r_if_eqN (tgt := 17) dX13_keep_5 (by decide) (by omega) (fun zz5 => ?_) (fun zz5 => ?_)
  · exact absurd zz5 (by decide)
  · refine r_aload_n dX13_keep_8 rfl 0 rfl ?_
    refine r_iload_n dX13_keep_9 rfl 2 rfl ?_
    refine r_iload_n dX13_keep_10 rfl 3 rfl ?_
    refine r_fnV (M2 := m_X13_isUnit) (As := [.int (nI (l)), .int (nI (u))]) (rest := [.ref (m)]) (v := some (.int (nI (1)))) dX13_keep_11 cc_X13_keep_218 rfl rfl rfl (Nat.le_of_ble_eq_true rfl) hs.1 rfl rfl (by decide) (g_isUnit_2 hs h24 (by omega) (by omega) (by omega)) rfl ?_
    refine r_if_neN (tgt := 21) dX13_keep_14 (by decide) (by omega) (fun zz14 => ?_) (fun zz14 => ?_)
    · refine r_aload_n dX13_keep_21 rfl 0 rfl ?_
      refine m_ref (k := 12) (j := 8) hs hs.2.1.2.2.2.2.2.2.2.1 dX13_keep_22 fr_X13_34 rfl ?_
      refine r_bipush (v := nI 22) dX13_keep_25 (by decide) ?_
      refine r_iload_n dX13_keep_27 rfl 1 rfl ?_
      refine r_imulN dX13_keep_28 ?_
      refine r_iconst (v := nI 1) dX13_keep_29 (by decide) ?_
      refine r_iaddN dX13_keep_30 ?_
      refine o_iald (j := 8) (n := 88) (i := 22 * d + 1) (by decide) hs rw8 dX13_keep_31 (by omega) (by decide) ?_
      refine Wx.top hc ?_
      refine r_iconst (v := nI 5) dX13_keep_32 (by decide) ?_
      refine r_icmp_neN (tgt := 40) dX13_keep_33 (by decide) (by omega) (by omega) (fun h33 => ?_) (fun h33 => ?_)
      · exact absurd h h33
      · refine r_iconst (v := nI 2) dX13_keep_36 (by decide) ?_
        refine r_goto (tgt := 63) dX13_keep_37 (by decide) ?_
        refine o_put (k := 6) hs dX13_keep_63 fw_X13_keep_54 rfl rfl rfl ?_
        refine r_aload_n dX13_keep_66 rfl 0 rfl ?_
        refine o_get (k := 6) hs dX13_keep_67 fr_X13_54 rfl ?_
        refine Wx.top up2_s ?_
        refine r_if_leN (tgt := 75) dX13_keep_70 (by decide) (by omega) (fun zz70 => ?_) (fun zz70 => ?_)
        · exact absurd zz70 (by decide)
        · refine r_iconst (v := nI 0) dX13_keep_73 (by decide) ?_
          exact r_iret (ty := .int) dX13_keep_74 rfl rfl ⟨rfl, rfl⟩
    · exact absurd zz14 (by decide)
set_option maxRecDepth 4000 in
theorem c_keep_3 {G : GI} {T : Hp} {m : Nat} {V : RVal} {g : Nat → Nat} {od : Nat → UInt64} (hs : RS T m)  (h24 : g 0 ≤ 24) (hb : WB g) {l u : Nat} (hl : l < g 0) (hz : g (90 + 13 * l + 1) ≤ 200) (hu : u < g (90 + 13 * l + 1)) (hp : g (90 + 13 * l + 0) < 4) (h15 : g (22 + 10 * g (90 + 13 * l + 0) + 1) < 16) {d : Nat} (hd : d < 4) {c : Nat} (hc : V 8 (22 * d + 1) = nI c) (hc5 : c ≤ 5) {k : Nat} (hkd : V 8 (22 * d) = nI k) (hk : k ≤ 2) (h : ¬ c = 5) (hf : ¬ fitP g k l u) : Fn m_X13_keep G [.ref (m), .int (nI (d)), .int (nI (l)), .int (nI (u))] (rput T m (sg V g) od) (some (.int (nI (0)))) (rput T m (sg (up2 V 0 (6) (nI 3)) (g)) od) := by
  refine Cn.of rfl (by decide) (Nat.le_of_ble_eq_true rfl) (fun hN hM => ?_)
  show Wx _ G _ 0 [(0, .ref (m)), (1, .int (nI (d))), (2, .int (nI (l))), (3, .int (nI (u)))] [] _
  refine r_aload_n dX13_keep_0 rfl 0 rfl ?_
  refine r_iload_n dX13_keep_1 rfl 1 rfl ?_
  refine r_fnS (M2 := m_X13_isDrawer) (As := [.int (nI (d))]) (rest := [.ref (m)]) (v := some (.int (nI (1)))) dX13_keep_2 cc_X13_keep_298 rfl rfl rfl (Nat.le_of_ble_eq_true rfl) (Fn.eq f_isDrawer (congrArg (fun x => some (Value.int x)) (bI_t (vp_in_nI (by omega) (by first | decide | omega)))) rfl) rfl ?_
  refine r_if_eqN (tgt := 17) dX13_keep_5 (by decide) (by omega) (fun zz5 => ?_) (fun zz5 => ?_)
  · exact absurd zz5 (by decide)
  · refine r_aload_n dX13_keep_8 rfl 0 rfl ?_
    refine r_iload_n dX13_keep_9 rfl 2 rfl ?_
    refine r_iload_n dX13_keep_10 rfl 3 rfl ?_
    refine r_fnV (M2 := m_X13_isUnit) (As := [.int (nI (l)), .int (nI (u))]) (rest := [.ref (m)]) (v := some (.int (nI (1)))) dX13_keep_11 cc_X13_keep_218 rfl rfl rfl (Nat.le_of_ble_eq_true rfl) hs.1 rfl rfl (by decide) (g_isUnit_2 hs h24 (by omega) (by omega) (by omega)) rfl ?_
    refine r_if_neN (tgt := 21) dX13_keep_14 (by decide) (by omega) (fun zz14 => ?_) (fun zz14 => ?_)
    · refine r_aload_n dX13_keep_21 rfl 0 rfl ?_
      refine m_ref (k := 12) (j := 8) hs hs.2.1.2.2.2.2.2.2.2.1 dX13_keep_22 fr_X13_34 rfl ?_
      refine r_bipush (v := nI 22) dX13_keep_25 (by decide) ?_
      refine r_iload_n dX13_keep_27 rfl 1 rfl ?_
      refine r_imulN dX13_keep_28 ?_
      refine r_iconst (v := nI 1) dX13_keep_29 (by decide) ?_
      refine r_iaddN dX13_keep_30 ?_
      refine o_iald (j := 8) (n := 88) (i := 22 * d + 1) (by decide) hs rw8 dX13_keep_31 (by omega) (by decide) ?_
      refine Wx.top hc ?_
      refine r_iconst (v := nI 5) dX13_keep_32 (by decide) ?_
      refine r_icmp_neN (tgt := 40) dX13_keep_33 (by decide) (by omega) (by omega) (fun h33 => ?_) (fun h33 => ?_)
      · refine r_aload_n dX13_keep_40 rfl 0 rfl ?_
        refine r_aload_n dX13_keep_41 rfl 0 rfl ?_
        refine m_ref (k := 12) (j := 8) hs hs.2.1.2.2.2.2.2.2.2.1 dX13_keep_42 fr_X13_34 rfl ?_
        refine r_bipush (v := nI 22) dX13_keep_45 (by decide) ?_
        refine r_iload_n dX13_keep_47 rfl 1 rfl ?_
        refine r_imulN dX13_keep_48 ?_
        refine o_iald (j := 8) (n := 88) (i := 22 * d) (by decide) hs rw8 dX13_keep_49 (by omega) (by decide) ?_
        refine Wx.top hkd ?_
        refine r_iload_n dX13_keep_50 rfl 2 rfl ?_
        refine r_iload_n dX13_keep_51 rfl 3 rfl ?_
        refine r_fnV (M2 := m_X13_fits) (As := [.int (nI (k)), .int (nI (l)), .int (nI (u))]) (rest := [.ref (m)]) (v := some (.int (bI (fitP g k l u)))) dX13_keep_52 cc_X13_keep_301 rfl rfl rfl (Nat.le_of_ble_eq_true rfl) hs.1 rfl rfl (by decide) (p_fits hs hb hk (by omega) (by omega) hp h15) rfl ?_
        refine r_if_eqB (tgt := 62) dX13_keep_55 (by decide) (fun h55 => ?_) (fun h55 => ?_)
        · refine r_iconst (v := nI 3) dX13_keep_62 (by decide) ?_
          refine o_put (k := 6) hs dX13_keep_63 fw_X13_keep_54 rfl rfl rfl ?_
          refine r_aload_n dX13_keep_66 rfl 0 rfl ?_
          refine o_get (k := 6) hs dX13_keep_67 fr_X13_54 rfl ?_
          refine Wx.top up2_s ?_
          refine r_if_leN (tgt := 75) dX13_keep_70 (by decide) (by omega) (fun zz70 => ?_) (fun zz70 => ?_)
          · exact absurd zz70 (by decide)
          · refine r_iconst (v := nI 0) dX13_keep_73 (by decide) ?_
            exact r_iret (ty := .int) dX13_keep_74 rfl rfl ⟨rfl, rfl⟩
        · exact absurd h55 hf
      · exact absurd h33 h
    · exact absurd zz14 (by decide)
set_option maxRecDepth 4000 in
theorem c_keep_0 {G : GI} {T : Hp} {m : Nat} {V : RVal} {g : Nat → Nat} {od : Nat → UInt64} (hs : RS T m)  (h24 : g 0 ≤ 24) (hb : WB g) {l u : Nat} (hl : l < g 0) (hz : g (90 + 13 * l + 1) ≤ 200) (hu : u < g (90 + 13 * l + 1)) (hp : g (90 + 13 * l + 0) < 4) (h15 : g (22 + 10 * g (90 + 13 * l + 0) + 1) < 16) {d : Nat} (hd : d < 4) {c : Nat} (hc : V 8 (22 * d + 1) = nI c) (hc5 : c ≤ 5) {k : Nat} (hkd : V 8 (22 * d) = nI k) (hk : k ≤ 2) (h : ¬ c = 5) (hf : fitP g k l u) : Fn m_X13_keep G [.ref (m), .int (nI (d)), .int (nI (l)), .int (nI (u))] (rput T m (sg V g) od) (some (.int (nI (c + 1)))) (rput T m (sg (up2 (up2 (up2 (up2 (up2 (up2 V 0 (6) (nI 0)) 8 (22 * d + 2 + 4 * c) (nI l)) 8 (22 * d + 2 + 4 * c + 1) (nI u)) 8 (22 * d + 2 + 4 * c + 2) (nI ((g (402 + 2 * (200 * l + u))) % 16))) 8 (22 * d + 2 + 4 * c + 3) (nI (rW (g (402 + 2 * (200 * l + u)))))) 8 (22 * d + 1) (nI (c + 1))) (g)) od) := by
  refine Cn.of rfl (by decide) (Nat.le_of_ble_eq_true rfl) (fun hN hM => ?_)
  show Wx _ G _ 0 [(0, .ref (m)), (1, .int (nI (d))), (2, .int (nI (l))), (3, .int (nI (u)))] [] _
  refine r_aload_n dX13_keep_0 rfl 0 rfl ?_
  refine r_iload_n dX13_keep_1 rfl 1 rfl ?_
  refine r_fnS (M2 := m_X13_isDrawer) (As := [.int (nI (d))]) (rest := [.ref (m)]) (v := some (.int (nI (1)))) dX13_keep_2 cc_X13_keep_298 rfl rfl rfl (Nat.le_of_ble_eq_true rfl) (Fn.eq f_isDrawer (congrArg (fun x => some (Value.int x)) (bI_t (vp_in_nI (by omega) (by first | decide | omega)))) rfl) rfl ?_
  refine r_if_eqN (tgt := 17) dX13_keep_5 (by decide) (by omega) (fun zz5 => ?_) (fun zz5 => ?_)
  · exact absurd zz5 (by decide)
  · refine r_aload_n dX13_keep_8 rfl 0 rfl ?_
    refine r_iload_n dX13_keep_9 rfl 2 rfl ?_
    refine r_iload_n dX13_keep_10 rfl 3 rfl ?_
    refine r_fnV (M2 := m_X13_isUnit) (As := [.int (nI (l)), .int (nI (u))]) (rest := [.ref (m)]) (v := some (.int (nI (1)))) dX13_keep_11 cc_X13_keep_218 rfl rfl rfl (Nat.le_of_ble_eq_true rfl) hs.1 rfl rfl (by decide) (g_isUnit_2 hs h24 (by omega) (by omega) (by omega)) rfl ?_
    refine r_if_neN (tgt := 21) dX13_keep_14 (by decide) (by omega) (fun zz14 => ?_) (fun zz14 => ?_)
    · refine r_aload_n dX13_keep_21 rfl 0 rfl ?_
      refine m_ref (k := 12) (j := 8) hs hs.2.1.2.2.2.2.2.2.2.1 dX13_keep_22 fr_X13_34 rfl ?_
      refine r_bipush (v := nI 22) dX13_keep_25 (by decide) ?_
      refine r_iload_n dX13_keep_27 rfl 1 rfl ?_
      refine r_imulN dX13_keep_28 ?_
      refine r_iconst (v := nI 1) dX13_keep_29 (by decide) ?_
      refine r_iaddN dX13_keep_30 ?_
      refine o_iald (j := 8) (n := 88) (i := 22 * d + 1) (by decide) hs rw8 dX13_keep_31 (by omega) (by decide) ?_
      refine Wx.top hc ?_
      refine r_iconst (v := nI 5) dX13_keep_32 (by decide) ?_
      refine r_icmp_neN (tgt := 40) dX13_keep_33 (by decide) (by omega) (by omega) (fun h33 => ?_) (fun h33 => ?_)
      · refine r_aload_n dX13_keep_40 rfl 0 rfl ?_
        refine r_aload_n dX13_keep_41 rfl 0 rfl ?_
        refine m_ref (k := 12) (j := 8) hs hs.2.1.2.2.2.2.2.2.2.1 dX13_keep_42 fr_X13_34 rfl ?_
        refine r_bipush (v := nI 22) dX13_keep_45 (by decide) ?_
        refine r_iload_n dX13_keep_47 rfl 1 rfl ?_
        refine r_imulN dX13_keep_48 ?_
        refine o_iald (j := 8) (n := 88) (i := 22 * d) (by decide) hs rw8 dX13_keep_49 (by omega) (by decide) ?_
        refine Wx.top hkd ?_
        refine r_iload_n dX13_keep_50 rfl 2 rfl ?_
        refine r_iload_n dX13_keep_51 rfl 3 rfl ?_
        refine r_fnV (M2 := m_X13_fits) (As := [.int (nI (k)), .int (nI (l)), .int (nI (u))]) (rest := [.ref (m)]) (v := some (.int (bI (fitP g k l u)))) dX13_keep_52 cc_X13_keep_301 rfl rfl rfl (Nat.le_of_ble_eq_true rfl) hs.1 rfl rfl (by decide) (p_fits hs hb hk (by omega) (by omega) hp h15) rfl ?_
        refine r_if_eqB (tgt := 62) dX13_keep_55 (by decide) (fun h55 => ?_) (fun h55 => ?_)
        · exact absurd hf h55
        · refine r_iconst (v := nI 0) dX13_keep_58 (by decide) ?_
          refine r_goto (tgt := 63) dX13_keep_59 (by decide) ?_
          refine o_put (k := 6) hs dX13_keep_63 fw_X13_keep_54 rfl rfl rfl ?_
          refine r_aload_n dX13_keep_66 rfl 0 rfl ?_
          refine o_get (k := 6) hs dX13_keep_67 fr_X13_54 rfl ?_
          refine Wx.top up2_s ?_
          refine r_if_leN (tgt := 75) dX13_keep_70 (by decide) (by omega) (fun zz70 => ?_) (fun zz70 => ?_)
          · refine r_bipush (v := nI 22) dX13_keep_75 (by decide) ?_
            refine r_iload_n dX13_keep_77 rfl 1 rfl ?_
            refine r_imulN dX13_keep_78 ?_
            refine r_iconst (v := nI 2) dX13_keep_79 (by decide) ?_
            refine r_iaddN dX13_keep_80 ?_
            refine r_iconst (v := nI 4) dX13_keep_81 (by decide) ?_
            refine r_aload_n dX13_keep_82 rfl 0 rfl ?_
            refine m_ref (k := 12) (j := 8) hs hs.2.1.2.2.2.2.2.2.2.1 dX13_keep_83 fr_X13_34 rfl ?_
            refine r_bipush (v := nI 22) dX13_keep_86 (by decide) ?_
            refine r_iload_n dX13_keep_88 rfl 1 rfl ?_
            refine r_imulN dX13_keep_89 ?_
            refine r_iconst (v := nI 1) dX13_keep_90 (by decide) ?_
            refine r_iaddN dX13_keep_91 ?_
            refine o_iald (j := 8) (n := 88) (i := 22 * d + 1) (by decide) hs rw8 dX13_keep_92 (by omega) (by decide) ?_
            refine Wx.top (up2_n (by omega)) ?_
            refine Wx.top (show V 8 (22 * d + 1) = nI c by (repeat rw [up2_n (by omega)]); exact hc) ?_
            refine r_imulN dX13_keep_93 ?_
            refine r_iaddN dX13_keep_94 ?_
            refine r_istore (lv' := [(4, .int (nI (22 * d + 2 + 4 * c))), (0, .ref (m)), (1, .int (nI (d))), (2, .int (nI (l))), (3, .int (nI (u)))]) dX13_keep_95 (by decide) rfl ?_
            refine r_aload_n dX13_keep_97 rfl 1 rfl ?_
            refine m_ref (k := 12) (j := 8) hs hs.2.1.2.2.2.2.2.2.2.1 dX13_keep_98 fr_X13_34 rfl ?_
            refine r_iload dX13_keep_101 0 rfl ?_
            refine r_iload_n dX13_keep_103 rfl 3 rfl ?_
            refine o_iast (j := 8) (n := 88) (i := 22 * d + 2 + 4 * c) (by decide) hs rw8 dX13_keep_104 (by omega) (by decide)  ?_
            refine r_aload_n dX13_keep_105 rfl 1 rfl ?_
            refine m_ref (k := 12) (j := 8) hs hs.2.1.2.2.2.2.2.2.2.1 dX13_keep_106 fr_X13_34 rfl ?_
            refine r_iload dX13_keep_109 0 rfl ?_
            refine r_iconst (v := nI 1) dX13_keep_111 (by decide) ?_
            refine r_iaddN dX13_keep_112 ?_
            refine r_iload_n dX13_keep_113 rfl 4 rfl ?_
            refine o_iast (j := 8) (n := 88) (i := 22 * d + 2 + 4 * c + 1) (by decide) hs rw8 dX13_keep_114 (by omega) (by decide)  ?_
            refine r_aload_n dX13_keep_115 rfl 1 rfl ?_
            refine m_ref (k := 12) (j := 8) hs hs.2.1.2.2.2.2.2.2.2.1 dX13_keep_116 fr_X13_34 rfl ?_
            refine r_iload dX13_keep_119 0 rfl ?_
            refine r_iconst (v := nI 2) dX13_keep_121 (by decide) ?_
            refine r_iaddN dX13_keep_122 ?_
            refine r_aload_n dX13_keep_123 rfl 1 rfl ?_
            refine r_iload_n dX13_keep_124 rfl 3 rfl ?_
            refine r_iload_n dX13_keep_125 rfl 4 rfl ?_
            refine r_fnV (M2 := m_X13_defects) (As := [.int (nI (l)), .int (nI (u))]) (rest := [.int (nI (22 * d + 2 + 4 * c + 2)), .ref (m + 8)]) (v := some (.int (nI ((g (402 + 2 * (200 * l + u))) % 16)))) dX13_keep_126 cc_X13_keep_87 rfl rfl rfl (Nat.le_of_ble_eq_true rfl) hs.1 rfl rfl (by decide) (g_defects hs hb (by omega) (by omega)) rfl ?_
            refine o_iast (j := 8) (n := 88) (i := 22 * d + 2 + 4 * c + 2) (by decide) hs rw8 dX13_keep_129 (by omega) (by decide)  ?_
            refine r_aload_n dX13_keep_130 rfl 1 rfl ?_
            refine m_ref (k := 12) (j := 8) hs hs.2.1.2.2.2.2.2.2.2.1 dX13_keep_131 fr_X13_34 rfl ?_
            refine r_iload dX13_keep_134 0 rfl ?_
            refine r_iconst (v := nI 3) dX13_keep_136 (by decide) ?_
            refine r_iaddN dX13_keep_137 ?_
            refine r_aload_n dX13_keep_138 rfl 1 rfl ?_
            refine r_iload_n dX13_keep_139 rfl 3 rfl ?_
            refine r_iload_n dX13_keep_140 rfl 4 rfl ?_
            refine r_fnV (M2 := m_X13_repairs) (As := [.int (nI (l)), .int (nI (u))]) (rest := [.int (nI (22 * d + 2 + 4 * c + 3)), .ref (m + 8)]) (v := some (.int (nI (rW (g (402 + 2 * (200 * l + u))))))) dX13_keep_141 cc_X13_keep_242 rfl rfl rfl (Nat.le_of_ble_eq_true rfl) hs.1 rfl rfl (by decide) (g_repairs hs hb (by omega) (by omega)) rfl ?_
            refine o_iast (j := 8) (n := 88) (i := 22 * d + 2 + 4 * c + 3) (by decide) hs rw8 dX13_keep_144 (by omega) (by decide)  ?_
            refine r_aload_n dX13_keep_145 rfl 1 rfl ?_
            refine m_ref (k := 12) (j := 8) hs hs.2.1.2.2.2.2.2.2.2.1 dX13_keep_146 fr_X13_34 rfl ?_
            refine r_bipush (v := nI 22) dX13_keep_149 (by decide) ?_
            refine r_iload_n dX13_keep_151 rfl 2 rfl ?_
            refine r_imulN dX13_keep_152 ?_
            refine r_iconst (v := nI 1) dX13_keep_153 (by decide) ?_
            refine r_iaddN dX13_keep_154 ?_
            refine r_dup2 dX13_keep_155 rfl rfl ?_
            refine o_iald (j := 8) (n := 88) (i := 22 * d + 1) (by decide) hs rw8 dX13_keep_156 (by omega) (by decide) ?_
            refine Wx.top (show (up2 (up2 (up2 (up2 (up2 V 0 (6) (nI 0)) 8 (22 * d + 2 + 4 * c) (nI l)) 8 (22 * d + 2 + 4 * c + 1) (nI u)) 8 (22 * d + 2 + 4 * c + 2) (nI ((g (402 + 2 * (200 * l + u))) % 16))) 8 (22 * d + 2 + 4 * c + 3) (nI (rW (g (402 + 2 * (200 * l + u)))))) 8 (22 * d + 1) = nI c by (repeat rw [up2_n (by omega)]); exact hc) ?_
            refine r_iconst (v := nI 1) dX13_keep_157 (by decide) ?_
            refine r_iaddN dX13_keep_158 ?_
            refine o_iast (j := 8) (n := 88) (i := 22 * d + 1) (by decide) hs rw8 dX13_keep_159 (by omega) (by decide)  ?_
            refine r_aload_n dX13_keep_160 rfl 1 rfl ?_
            refine m_ref (k := 12) (j := 8) hs hs.2.1.2.2.2.2.2.2.2.1 dX13_keep_161 fr_X13_34 rfl ?_
            refine r_bipush (v := nI 22) dX13_keep_164 (by decide) ?_
            refine r_iload_n dX13_keep_166 rfl 2 rfl ?_
            refine r_imulN dX13_keep_167 ?_
            refine r_iconst (v := nI 1) dX13_keep_168 (by decide) ?_
            refine r_iaddN dX13_keep_169 ?_
            refine o_iald (j := 8) (n := 88) (i := 22 * d + 1) (by decide) hs rw8 dX13_keep_170 (by omega) (by decide) ?_
            refine Wx.top up2_s ?_
            exact r_iret (ty := .int) dX13_keep_171 rfl rfl ⟨rfl, rfl⟩
          · exact absurd zz70 (by decide)
      · exact absurd h33 h
    · exact absurd zz14 (by decide)
noncomputable def ahd (g : Nat → Nat) (i : Nat) : Nat := cnt (fun k => g (62 + i) < g (62 + k) ∨ (g (62 + k) = g (62 + i) ∧ k < i)) 28
set_option maxRecDepth 4000 in
theorem g_fails {G : GI} {T : Hp} {m : Nat} {V : RVal} {g : Nat → Nat} {od : Nat → UInt64} (hs : RS T m) {x : Int32} : Fn m_X13_fails G [.ref m, .int x] (rput T m (sg V g) od) (some (.int (nI 0))) (rput T m (sg (up2 V 0 6 x) g) od) := by
  refine Cn.of rfl (by decide) (Nat.le_of_ble_eq_true rfl) (fun hN hM => ?_)
  show Wx _ G _ 0 [(0, .ref (m)), (1, .int (x))] [] _
  refine r_aload_n dX13_fails_0 rfl 0 rfl ?_
  refine r_iload_n dX13_fails_1 rfl 1 rfl ?_
  refine o_put (k := 6) hs dX13_fails_2 fw_X13_fails_54 rfl rfl rfl ?_
  refine r_iconst (v := nI 0) dX13_fails_5 (by decide) ?_
  exact r_iret (ty := .int) dX13_fails_6 rfl rfl ⟨rfl, rfl⟩
set_option maxRecDepth 4000 in
theorem q_worst_0 {G : GI} {T : Hp} {m : Nat} {V : RVal} {g : Nat → Nat} {od : Nat → UInt64} (hs : RS T m)  (hbl : ∀ i, i < 28 → g (62 + i) < 2147480000) {x : Int32} {e : Nat} (he : e < 28) (hpos : 0 < g (62 + e)) (hr : nI (ahd g e) = x) (hno : ∀ i, i < e → ¬ (0 < g (62 + i) ∧ nI (ahd g i) = x)) : Fn m_X13_worst G [.ref (m), .int (x)] (rput T m (sg V g) od) (some (.int (nI (10 * (e / 4) + e % 4)))) (rput T m (sg (up2 V 0 6 (nI 0)) (g)) od) := by
  refine Cn.of rfl (by decide) (Nat.le_of_ble_eq_true rfl) (fun hN hM => ?_)
  show Wx _ G _ 0 [(0, .ref (m)), (1, .int (x))] [] _
  refine r_aload_n dX13_worst_0 rfl 0 rfl ?_
  refine r_iconst (v := nI 0) dX13_worst_1 (by decide) ?_
  refine o_put (k := 6) hs dX13_worst_2 fw_X13_worst_54 rfl rfl rfl ?_
  refine r_iconst (v := nI 0) dX13_worst_5 (by decide) ?_
  refine r_istore_n (lv' := [(2, .int (nI (0))), (0, .ref (m)), (1, .int (x))]) dX13_worst_6 rfl (by decide) rfl ?_
  refine Wx.sub [1, 2, 0] rfl ?_
  refine Wx.loop (fun u => rput T m (sg (up2 V 0 (6) (nI 0)) g) od) (fun u => [(0, .ref (m)), (1, .int (x)), (2, .int (nI (u)))]) (e) (0) (Nat.zero_le _) (fun u hge hle next => ?_)
  show Wx _ G (rput T m (sg (up2 V 0 (6) (nI 0)) g) od) 7 [(0, .ref (m)), (1, .int (x)), (2, .int (nI (u)))] [] _
  refine r_iload_n dX13_worst_7 rfl 2 rfl ?_
  refine r_bipush (v := nI 28) dX13_worst_8 (by decide) ?_
  refine r_icmp_geN (tgt := 123) dX13_worst_10 (by decide) (by (first | omega | (have := hbl u (by omega); omega) | (have := hbl u (by omega); have := hbl k (by omega); omega) | (have : ahd g u ≤ 28 := cnt_le _ _; omega))) (by (first | omega | (have := hbl u (by omega); omega) | (have := hbl u (by omega); have := hbl k (by omega); omega) | (have : ahd g u ≤ 28 := cnt_le _ _; omega))) (fun h10 => ?_) (fun h10 => ?_)
  · exact absurd h10 (by omega)
  · refine r_iconst (v := nI 0) dX13_worst_13 (by decide) ?_
    refine r_istore_n (lv' := [(3, .int (nI (0))), (0, .ref (m)), (1, .int (x)), (2, .int (nI (u)))]) dX13_worst_14 rfl (by decide) rfl ?_
    refine r_iconst (v := nI 0) dX13_worst_15 (by decide) ?_
    refine r_istore (lv' := [(4, .int (nI (0))), (3, .int (nI (0))), (0, .ref (m)), (1, .int (x)), (2, .int (nI (u)))]) dX13_worst_16 (by decide) rfl ?_
    refine Wx.sub [2, 3, 4, 1, 0] rfl ?_
    refine Wx.loop (fun k => rput T m (sg (up2 V 0 (6) (nI 0)) g) od) (fun k => [(0, .ref (m)), (1, .int (x)), (2, .int (nI (u))), (3, .int (nI (cnt (fun k => g (62 + u) < g (62 + k) ∨ (g (62 + k) = g (62 + u) ∧ k < u)) k))), (4, .int (nI (k)))]) (28) (0) (Nat.zero_le _) (fun k hge_1 hle_1 next_1 => ?_)
    show Wx _ G (rput T m (sg (up2 V 0 (6) (nI 0)) g) od) 18 [(0, .ref (m)), (1, .int (x)), (2, .int (nI (u))), (3, .int (nI (cnt (fun k => g (62 + u) < g (62 + k) ∨ (g (62 + k) = g (62 + u) ∧ k < u)) k))), (4, .int (nI (k)))] [] _
    refine r_iload dX13_worst_18 4 rfl ?_
    refine r_bipush (v := nI 28) dX13_worst_20 (by decide) ?_
    refine r_icmp_geN (tgt := 89) dX13_worst_22 (by decide) (by (first | omega | (have := hbl u (by omega); omega) | (have := hbl u (by omega); have := hbl k (by omega); omega) | (have : ahd g u ≤ 28 := cnt_le _ _; omega))) (by (first | omega | (have := hbl u (by omega); omega) | (have := hbl u (by omega); have := hbl k (by omega); omega) | (have : ahd g u ≤ 28 := cnt_le _ _; omega))) (fun h22 => ?_) (fun h22 => ?_)
    · obtain rfl : k = 28 := by omega
      refine r_aload_n dX13_worst_89 rfl 0 rfl ?_
      refine m_ref (k := 0) (j := 1) hs hs.2.1.1 dX13_worst_90 fr_X13_7 rfl ?_
      refine r_bipush (v := nI 62) dX13_worst_93 (by decide) ?_
      refine r_iload_n dX13_worst_95 rfl 2 rfl ?_
      refine r_iaddN dX13_worst_96 ?_
      refine g_iald (i := 62 + u) hs dX13_worst_97 (by (first | omega | (have := hbl u (by omega); omega))) ?_
      refine r_if_leN (tgt := 117) dX13_worst_98 (by decide) (by (first | omega | (have := hbl u (by omega); omega))) (fun h98 => ?_) (fun h98 => ?_)
      · refine r_iincN (k := 1) (lv' := [(2, .int (nI (u + 1))), (0, .ref (m)), (1, .int (x)), (3, .int (nI (ahd g u))), (4, .int (nI (28)))]) dX13_worst_117 (by decide) 2 rfl (by decide) rfl ?_
        refine r_goto (tgt := 7) dX13_worst_120 (by decide) ?_
        refine Wx.sub [1, 2, 0] rfl ?_
        exact next (by have hne : u ≠ e := fun q => (by subst q; first | omega | exact h98 hr); omega)
      · refine r_iload_n dX13_worst_101 rfl 3 rfl ?_
        refine r_iload_n dX13_worst_102 rfl 1 rfl ?_
        refine r_icmp_ne (tgt := 117) dX13_worst_103 (by decide) (fun h103 => ?_) (fun h103 => ?_)
        · refine r_iincN (k := 1) (lv' := [(2, .int (nI (u + 1))), (0, .ref (m)), (1, .int (x)), (3, .int (nI (ahd g u))), (4, .int (nI (28)))]) dX13_worst_117 (by decide) 2 rfl (by decide) rfl ?_
          refine r_goto (tgt := 7) dX13_worst_120 (by decide) ?_
          refine Wx.sub [1, 2, 0] rfl ?_
          exact next (by have hne : u ≠ e := fun q => (by subst q; first | omega | exact h103 hr); omega)
        · refine r_bipush (v := nI 10) dX13_worst_106 (by decide) ?_
          refine r_iload_n dX13_worst_108 rfl 2 rfl ?_
          refine r_iconst (v := nI 4) dX13_worst_109 (by decide) ?_
          refine r_idivN dX13_worst_110 (by (first | omega | (have := hbl u (by omega); omega))) (by (first | omega | (have := hbl u (by omega); omega))) (by (first | omega | (have := hbl u (by omega); omega))) ?_
          refine r_imulN dX13_worst_111 ?_
          refine r_iload_n dX13_worst_112 rfl 2 rfl ?_
          refine r_iconst (v := nI 4) dX13_worst_113 (by decide) ?_
          refine r_iremN dX13_worst_114 (by (first | omega | (have := hbl u (by omega); omega))) (by (first | omega | (have := hbl u (by omega); omega))) (by (first | omega | (have := hbl u (by omega); omega))) ?_
          refine r_iaddN dX13_worst_115 ?_
          obtain rfl : u = e := Nat.le_antisymm hle (Nat.le_of_not_lt fun q => hno u q ⟨by omega, h103⟩)
          exact r_iret (ty := .int) dX13_worst_116 rfl rfl ⟨rfl, rfl⟩
    · refine r_iload_n dX13_worst_25 rfl 3 rfl ?_
      refine r_aload_n dX13_worst_26 rfl 0 rfl ?_
      refine m_ref (k := 0) (j := 1) hs hs.2.1.1 dX13_worst_27 fr_X13_7 rfl ?_
      refine r_bipush (v := nI 62) dX13_worst_30 (by decide) ?_
      refine r_iload dX13_worst_32 4 rfl ?_
      refine r_iaddN dX13_worst_34 ?_
      refine g_iald (i := 62 + k) hs dX13_worst_35 (by (first | omega | (have := hbl u (by omega); have := hbl k (by omega); omega))) ?_
      refine r_aload_n dX13_worst_36 rfl 0 rfl ?_
      refine m_ref (k := 0) (j := 1) hs hs.2.1.1 dX13_worst_37 fr_X13_7 rfl ?_
      refine r_bipush (v := nI 62) dX13_worst_40 (by decide) ?_
      refine r_iload_n dX13_worst_42 rfl 2 rfl ?_
      refine r_iaddN dX13_worst_43 ?_
      refine g_iald (i := 62 + u) hs dX13_worst_44 (by (first | omega | (have := hbl u (by omega); have := hbl k (by omega); omega))) ?_
      refine r_icmp_gtN (tgt := 76) dX13_worst_45 (by decide) (by (first | omega | (have := hbl u (by omega); have := hbl k (by omega); omega))) (by (first | omega | (have := hbl u (by omega); have := hbl k (by omega); omega))) (fun h45 => ?_) (fun h45 => ?_)
      · refine r_iconst (v := nI 1) dX13_worst_76 (by decide) ?_
        refine r_goto (tgt := 81) dX13_worst_77 (by decide) ?_
        refine r_iaddN dX13_worst_81 ?_
        refine r_istore_n (lv' := [(3, .int (nI ((cnt (fun k => g (62 + u) < g (62 + k) ∨ (g (62 + k) = g (62 + u) ∧ k < u)) k) + 1))), (0, .ref (m)), (1, .int (x)), (2, .int (nI (u))), (4, .int (nI (k)))]) dX13_worst_82 rfl (by decide) rfl ?_
        refine r_iincN (k := 1) (lv' := [(4, .int (nI (k + 1))), (3, .int (nI ((cnt (fun k => g (62 + u) < g (62 + k) ∨ (g (62 + k) = g (62 + u) ∧ k < u)) k) + 1))), (0, .ref (m)), (1, .int (x)), (2, .int (nI (u)))]) dX13_worst_83 (by decide) 4 rfl (by decide) rfl ?_
        refine r_goto (tgt := 18) dX13_worst_86 (by decide) ?_
        refine Wx.sub [2, 3, 4, 1, 0] rfl ?_
        have n2 := next_1 (by omega)
        rw [cnt_t (p := (fun k => g (62 + u) < g (62 + k) ∨ (g (62 + k) = g (62 + u) ∧ k < u))) (Or.inl h45)] at n2
        exact n2
      · refine r_aload_n dX13_worst_48 rfl 0 rfl ?_
        refine m_ref (k := 0) (j := 1) hs hs.2.1.1 dX13_worst_49 fr_X13_7 rfl ?_
        refine r_bipush (v := nI 62) dX13_worst_52 (by decide) ?_
        refine r_iload dX13_worst_54 4 rfl ?_
        refine r_iaddN dX13_worst_56 ?_
        refine g_iald (i := 62 + k) hs dX13_worst_57 (by (first | omega | (have := hbl u (by omega); have := hbl k (by omega); omega))) ?_
        refine r_aload_n dX13_worst_58 rfl 0 rfl ?_
        refine m_ref (k := 0) (j := 1) hs hs.2.1.1 dX13_worst_59 fr_X13_7 rfl ?_
        refine r_bipush (v := nI 62) dX13_worst_62 (by decide) ?_
        refine r_iload_n dX13_worst_64 rfl 2 rfl ?_
        refine r_iaddN dX13_worst_65 ?_
        refine g_iald (i := 62 + u) hs dX13_worst_66 (by (first | omega | (have := hbl u (by omega); have := hbl k (by omega); omega))) ?_
        refine r_icmp_neN (tgt := 80) dX13_worst_67 (by decide) (by (first | omega | (have := hbl u (by omega); have := hbl k (by omega); omega))) (by (first | omega | (have := hbl u (by omega); have := hbl k (by omega); omega))) (fun h67 => ?_) (fun h67 => ?_)
        · refine r_iconst (v := nI 0) dX13_worst_80 (by decide) ?_
          refine r_iaddN dX13_worst_81 ?_
          refine r_istore_n (lv' := [(3, .int (nI ((cnt (fun k => g (62 + u) < g (62 + k) ∨ (g (62 + k) = g (62 + u) ∧ k < u)) k) + 0))), (0, .ref (m)), (1, .int (x)), (2, .int (nI (u))), (4, .int (nI (k)))]) dX13_worst_82 rfl (by decide) rfl ?_
          refine r_iincN (k := 1) (lv' := [(4, .int (nI (k + 1))), (3, .int (nI ((cnt (fun k => g (62 + u) < g (62 + k) ∨ (g (62 + k) = g (62 + u) ∧ k < u)) k) + 0))), (0, .ref (m)), (1, .int (x)), (2, .int (nI (u)))]) dX13_worst_83 (by decide) 4 rfl (by decide) rfl ?_
          refine r_goto (tgt := 18) dX13_worst_86 (by decide) ?_
          refine Wx.sub [2, 3, 4, 1, 0] rfl ?_
          have n2 := next_1 (by omega)
          rw [cnt_f (p := (fun k => g (62 + u) < g (62 + k) ∨ (g (62 + k) = g (62 + u) ∧ k < u))) (fun q => q.elim (fun q => absurd q (Nat.not_lt.mpr h45)) (fun q => h67 q.1))] at n2
          exact n2
        · refine r_iload dX13_worst_70 4 rfl ?_
          refine r_iload_n dX13_worst_72 rfl 2 rfl ?_
          refine r_icmp_geN (tgt := 80) dX13_worst_73 (by decide) (by (first | omega | (have := hbl u (by omega); have := hbl k (by omega); omega))) (by (first | omega | (have := hbl u (by omega); have := hbl k (by omega); omega))) (fun h73 => ?_) (fun h73 => ?_)
          · refine r_iconst (v := nI 0) dX13_worst_80 (by decide) ?_
            refine r_iaddN dX13_worst_81 ?_
            refine r_istore_n (lv' := [(3, .int (nI ((cnt (fun k => g (62 + u) < g (62 + k) ∨ (g (62 + k) = g (62 + u) ∧ k < u)) k) + 0))), (0, .ref (m)), (1, .int (x)), (2, .int (nI (u))), (4, .int (nI (k)))]) dX13_worst_82 rfl (by decide) rfl ?_
            refine r_iincN (k := 1) (lv' := [(4, .int (nI (k + 1))), (3, .int (nI ((cnt (fun k => g (62 + u) < g (62 + k) ∨ (g (62 + k) = g (62 + u) ∧ k < u)) k) + 0))), (0, .ref (m)), (1, .int (x)), (2, .int (nI (u)))]) dX13_worst_83 (by decide) 4 rfl (by decide) rfl ?_
            refine r_goto (tgt := 18) dX13_worst_86 (by decide) ?_
            refine Wx.sub [2, 3, 4, 1, 0] rfl ?_
            have n2 := next_1 (by omega)
            rw [cnt_f (p := (fun k => g (62 + u) < g (62 + k) ∨ (g (62 + k) = g (62 + u) ∧ k < u))) (fun q => q.elim (fun q => absurd q (Nat.not_lt.mpr h45)) (fun q => absurd q.2 (Nat.not_lt.mpr h73)))] at n2
            exact n2
          · refine r_iconst (v := nI 1) dX13_worst_76 (by decide) ?_
            refine r_goto (tgt := 81) dX13_worst_77 (by decide) ?_
            refine r_iaddN dX13_worst_81 ?_
            refine r_istore_n (lv' := [(3, .int (nI ((cnt (fun k => g (62 + u) < g (62 + k) ∨ (g (62 + k) = g (62 + u) ∧ k < u)) k) + 1))), (0, .ref (m)), (1, .int (x)), (2, .int (nI (u))), (4, .int (nI (k)))]) dX13_worst_82 rfl (by decide) rfl ?_
            refine r_iincN (k := 1) (lv' := [(4, .int (nI (k + 1))), (3, .int (nI ((cnt (fun k => g (62 + u) < g (62 + k) ∨ (g (62 + k) = g (62 + u) ∧ k < u)) k) + 1))), (0, .ref (m)), (1, .int (x)), (2, .int (nI (u)))]) dX13_worst_83 (by decide) 4 rfl (by decide) rfl ?_
            refine r_goto (tgt := 18) dX13_worst_86 (by decide) ?_
            refine Wx.sub [2, 3, 4, 1, 0] rfl ?_
            have n2 := next_1 (by omega)
            rw [cnt_t (p := (fun k => g (62 + u) < g (62 + k) ∨ (g (62 + k) = g (62 + u) ∧ k < u))) (Or.inr ⟨h67, h73⟩)] at n2
            exact n2
set_option maxRecDepth 4000 in
theorem q_worst_1 {G : GI} {T : Hp} {m : Nat} {V : RVal} {g : Nat → Nat} {od : Nat → UInt64} (hs : RS T m)  (hbl : ∀ i, i < 28 → g (62 + i) < 2147480000) {x : Int32} (hno : ∀ i, i < 28 → ¬ (0 < g (62 + i) ∧ nI (ahd g i) = x)) : Fn m_X13_worst G [.ref (m), .int (x)] (rput T m (sg V g) od) (some (.int (nI (0)))) (rput T m (sg (up2 (up2 V 0 6 (nI 0)) 0 6 (nI 1)) (g)) od) := by
  refine Cn.of rfl (by decide) (Nat.le_of_ble_eq_true rfl) (fun hN hM => ?_)
  show Wx _ G _ 0 [(0, .ref (m)), (1, .int (x))] [] _
  refine r_aload_n dX13_worst_0 rfl 0 rfl ?_
  refine r_iconst (v := nI 0) dX13_worst_1 (by decide) ?_
  refine o_put (k := 6) hs dX13_worst_2 fw_X13_worst_54 rfl rfl rfl ?_
  refine r_iconst (v := nI 0) dX13_worst_5 (by decide) ?_
  refine r_istore_n (lv' := [(2, .int (nI (0))), (0, .ref (m)), (1, .int (x))]) dX13_worst_6 rfl (by decide) rfl ?_
  refine Wx.sub [1, 2, 0] rfl ?_
  refine Wx.loop (fun u => rput T m (sg (up2 V 0 (6) (nI 0)) g) od) (fun u => [(0, .ref (m)), (1, .int (x)), (2, .int (nI (u)))]) (28) (0) (Nat.zero_le _) (fun u hge hle next => ?_)
  show Wx _ G (rput T m (sg (up2 V 0 (6) (nI 0)) g) od) 7 [(0, .ref (m)), (1, .int (x)), (2, .int (nI (u)))] [] _
  refine r_iload_n dX13_worst_7 rfl 2 rfl ?_
  refine r_bipush (v := nI 28) dX13_worst_8 (by decide) ?_
  refine r_icmp_geN (tgt := 123) dX13_worst_10 (by decide) (by (first | omega | (have := hbl u (by omega); omega) | (have := hbl u (by omega); have := hbl k (by omega); omega) | (have : ahd g u ≤ 28 := cnt_le _ _; omega))) (by (first | omega | (have := hbl u (by omega); omega) | (have := hbl u (by omega); have := hbl k (by omega); omega) | (have : ahd g u ≤ 28 := cnt_le _ _; omega))) (fun h10 => ?_) (fun h10 => ?_)
  · refine r_aload_n dX13_worst_123 rfl 0 rfl ?_
    refine r_iconst (v := nI 1) dX13_worst_124 (by decide) ?_
    refine r_fnV (M2 := m_X13_fails) (As := [.int (nI (1))]) (rest := []) (v := some (.int (nI (0)))) dX13_worst_125 cc_X13_worst_289 rfl rfl rfl (Nat.le_of_ble_eq_true rfl) hs.1 rfl rfl (by decide) (g_fails hs) rfl ?_
    exact r_iret (ty := .int) dX13_worst_128 rfl rfl ⟨rfl, rfl⟩
  · refine r_iconst (v := nI 0) dX13_worst_13 (by decide) ?_
    refine r_istore_n (lv' := [(3, .int (nI (0))), (0, .ref (m)), (1, .int (x)), (2, .int (nI (u)))]) dX13_worst_14 rfl (by decide) rfl ?_
    refine r_iconst (v := nI 0) dX13_worst_15 (by decide) ?_
    refine r_istore (lv' := [(4, .int (nI (0))), (3, .int (nI (0))), (0, .ref (m)), (1, .int (x)), (2, .int (nI (u)))]) dX13_worst_16 (by decide) rfl ?_
    refine Wx.sub [2, 3, 4, 1, 0] rfl ?_
    refine Wx.loop (fun k => rput T m (sg (up2 V 0 (6) (nI 0)) g) od) (fun k => [(0, .ref (m)), (1, .int (x)), (2, .int (nI (u))), (3, .int (nI (cnt (fun k => g (62 + u) < g (62 + k) ∨ (g (62 + k) = g (62 + u) ∧ k < u)) k))), (4, .int (nI (k)))]) (28) (0) (Nat.zero_le _) (fun k hge_1 hle_1 next_1 => ?_)
    show Wx _ G (rput T m (sg (up2 V 0 (6) (nI 0)) g) od) 18 [(0, .ref (m)), (1, .int (x)), (2, .int (nI (u))), (3, .int (nI (cnt (fun k => g (62 + u) < g (62 + k) ∨ (g (62 + k) = g (62 + u) ∧ k < u)) k))), (4, .int (nI (k)))] [] _
    refine r_iload dX13_worst_18 4 rfl ?_
    refine r_bipush (v := nI 28) dX13_worst_20 (by decide) ?_
    refine r_icmp_geN (tgt := 89) dX13_worst_22 (by decide) (by (first | omega | (have := hbl u (by omega); omega) | (have := hbl u (by omega); have := hbl k (by omega); omega) | (have : ahd g u ≤ 28 := cnt_le _ _; omega))) (by (first | omega | (have := hbl u (by omega); omega) | (have := hbl u (by omega); have := hbl k (by omega); omega) | (have : ahd g u ≤ 28 := cnt_le _ _; omega))) (fun h22 => ?_) (fun h22 => ?_)
    · obtain rfl : k = 28 := by omega
      refine r_aload_n dX13_worst_89 rfl 0 rfl ?_
      refine m_ref (k := 0) (j := 1) hs hs.2.1.1 dX13_worst_90 fr_X13_7 rfl ?_
      refine r_bipush (v := nI 62) dX13_worst_93 (by decide) ?_
      refine r_iload_n dX13_worst_95 rfl 2 rfl ?_
      refine r_iaddN dX13_worst_96 ?_
      refine g_iald (i := 62 + u) hs dX13_worst_97 (by (first | omega | (have := hbl u (by omega); omega))) ?_
      refine r_if_leN (tgt := 117) dX13_worst_98 (by decide) (by (first | omega | (have := hbl u (by omega); omega))) (fun h98 => ?_) (fun h98 => ?_)
      · refine r_iincN (k := 1) (lv' := [(2, .int (nI (u + 1))), (0, .ref (m)), (1, .int (x)), (3, .int (nI (ahd g u))), (4, .int (nI (28)))]) dX13_worst_117 (by decide) 2 rfl (by decide) rfl ?_
        refine r_goto (tgt := 7) dX13_worst_120 (by decide) ?_
        refine Wx.sub [1, 2, 0] rfl ?_
        exact next (by omega)
      · refine r_iload_n dX13_worst_101 rfl 3 rfl ?_
        refine r_iload_n dX13_worst_102 rfl 1 rfl ?_
        refine r_icmp_ne (tgt := 117) dX13_worst_103 (by decide) (fun h103 => ?_) (fun h103 => ?_)
        · refine r_iincN (k := 1) (lv' := [(2, .int (nI (u + 1))), (0, .ref (m)), (1, .int (x)), (3, .int (nI (ahd g u))), (4, .int (nI (28)))]) dX13_worst_117 (by decide) 2 rfl (by decide) rfl ?_
          refine r_goto (tgt := 7) dX13_worst_120 (by decide) ?_
          refine Wx.sub [1, 2, 0] rfl ?_
          exact next (by omega)
        · exact absurd ⟨by omega, h103⟩ (hno u (by omega))
    · refine r_iload_n dX13_worst_25 rfl 3 rfl ?_
      refine r_aload_n dX13_worst_26 rfl 0 rfl ?_
      refine m_ref (k := 0) (j := 1) hs hs.2.1.1 dX13_worst_27 fr_X13_7 rfl ?_
      refine r_bipush (v := nI 62) dX13_worst_30 (by decide) ?_
      refine r_iload dX13_worst_32 4 rfl ?_
      refine r_iaddN dX13_worst_34 ?_
      refine g_iald (i := 62 + k) hs dX13_worst_35 (by (first | omega | (have := hbl u (by omega); have := hbl k (by omega); omega))) ?_
      refine r_aload_n dX13_worst_36 rfl 0 rfl ?_
      refine m_ref (k := 0) (j := 1) hs hs.2.1.1 dX13_worst_37 fr_X13_7 rfl ?_
      refine r_bipush (v := nI 62) dX13_worst_40 (by decide) ?_
      refine r_iload_n dX13_worst_42 rfl 2 rfl ?_
      refine r_iaddN dX13_worst_43 ?_
      refine g_iald (i := 62 + u) hs dX13_worst_44 (by (first | omega | (have := hbl u (by omega); have := hbl k (by omega); omega))) ?_
      refine r_icmp_gtN (tgt := 76) dX13_worst_45 (by decide) (by (first | omega | (have := hbl u (by omega); have := hbl k (by omega); omega))) (by (first | omega | (have := hbl u (by omega); have := hbl k (by omega); omega))) (fun h45 => ?_) (fun h45 => ?_)
      · refine r_iconst (v := nI 1) dX13_worst_76 (by decide) ?_
        refine r_goto (tgt := 81) dX13_worst_77 (by decide) ?_
        refine r_iaddN dX13_worst_81 ?_
        refine r_istore_n (lv' := [(3, .int (nI ((cnt (fun k => g (62 + u) < g (62 + k) ∨ (g (62 + k) = g (62 + u) ∧ k < u)) k) + 1))), (0, .ref (m)), (1, .int (x)), (2, .int (nI (u))), (4, .int (nI (k)))]) dX13_worst_82 rfl (by decide) rfl ?_
        refine r_iincN (k := 1) (lv' := [(4, .int (nI (k + 1))), (3, .int (nI ((cnt (fun k => g (62 + u) < g (62 + k) ∨ (g (62 + k) = g (62 + u) ∧ k < u)) k) + 1))), (0, .ref (m)), (1, .int (x)), (2, .int (nI (u)))]) dX13_worst_83 (by decide) 4 rfl (by decide) rfl ?_
        refine r_goto (tgt := 18) dX13_worst_86 (by decide) ?_
        refine Wx.sub [2, 3, 4, 1, 0] rfl ?_
        have n2 := next_1 (by omega)
        rw [cnt_t (p := (fun k => g (62 + u) < g (62 + k) ∨ (g (62 + k) = g (62 + u) ∧ k < u))) (Or.inl h45)] at n2
        exact n2
      · refine r_aload_n dX13_worst_48 rfl 0 rfl ?_
        refine m_ref (k := 0) (j := 1) hs hs.2.1.1 dX13_worst_49 fr_X13_7 rfl ?_
        refine r_bipush (v := nI 62) dX13_worst_52 (by decide) ?_
        refine r_iload dX13_worst_54 4 rfl ?_
        refine r_iaddN dX13_worst_56 ?_
        refine g_iald (i := 62 + k) hs dX13_worst_57 (by (first | omega | (have := hbl u (by omega); have := hbl k (by omega); omega))) ?_
        refine r_aload_n dX13_worst_58 rfl 0 rfl ?_
        refine m_ref (k := 0) (j := 1) hs hs.2.1.1 dX13_worst_59 fr_X13_7 rfl ?_
        refine r_bipush (v := nI 62) dX13_worst_62 (by decide) ?_
        refine r_iload_n dX13_worst_64 rfl 2 rfl ?_
        refine r_iaddN dX13_worst_65 ?_
        refine g_iald (i := 62 + u) hs dX13_worst_66 (by (first | omega | (have := hbl u (by omega); have := hbl k (by omega); omega))) ?_
        refine r_icmp_neN (tgt := 80) dX13_worst_67 (by decide) (by (first | omega | (have := hbl u (by omega); have := hbl k (by omega); omega))) (by (first | omega | (have := hbl u (by omega); have := hbl k (by omega); omega))) (fun h67 => ?_) (fun h67 => ?_)
        · refine r_iconst (v := nI 0) dX13_worst_80 (by decide) ?_
          refine r_iaddN dX13_worst_81 ?_
          refine r_istore_n (lv' := [(3, .int (nI ((cnt (fun k => g (62 + u) < g (62 + k) ∨ (g (62 + k) = g (62 + u) ∧ k < u)) k) + 0))), (0, .ref (m)), (1, .int (x)), (2, .int (nI (u))), (4, .int (nI (k)))]) dX13_worst_82 rfl (by decide) rfl ?_
          refine r_iincN (k := 1) (lv' := [(4, .int (nI (k + 1))), (3, .int (nI ((cnt (fun k => g (62 + u) < g (62 + k) ∨ (g (62 + k) = g (62 + u) ∧ k < u)) k) + 0))), (0, .ref (m)), (1, .int (x)), (2, .int (nI (u)))]) dX13_worst_83 (by decide) 4 rfl (by decide) rfl ?_
          refine r_goto (tgt := 18) dX13_worst_86 (by decide) ?_
          refine Wx.sub [2, 3, 4, 1, 0] rfl ?_
          have n2 := next_1 (by omega)
          rw [cnt_f (p := (fun k => g (62 + u) < g (62 + k) ∨ (g (62 + k) = g (62 + u) ∧ k < u))) (fun q => q.elim (fun q => absurd q (Nat.not_lt.mpr h45)) (fun q => h67 q.1))] at n2
          exact n2
        · refine r_iload dX13_worst_70 4 rfl ?_
          refine r_iload_n dX13_worst_72 rfl 2 rfl ?_
          refine r_icmp_geN (tgt := 80) dX13_worst_73 (by decide) (by (first | omega | (have := hbl u (by omega); have := hbl k (by omega); omega))) (by (first | omega | (have := hbl u (by omega); have := hbl k (by omega); omega))) (fun h73 => ?_) (fun h73 => ?_)
          · refine r_iconst (v := nI 0) dX13_worst_80 (by decide) ?_
            refine r_iaddN dX13_worst_81 ?_
            refine r_istore_n (lv' := [(3, .int (nI ((cnt (fun k => g (62 + u) < g (62 + k) ∨ (g (62 + k) = g (62 + u) ∧ k < u)) k) + 0))), (0, .ref (m)), (1, .int (x)), (2, .int (nI (u))), (4, .int (nI (k)))]) dX13_worst_82 rfl (by decide) rfl ?_
            refine r_iincN (k := 1) (lv' := [(4, .int (nI (k + 1))), (3, .int (nI ((cnt (fun k => g (62 + u) < g (62 + k) ∨ (g (62 + k) = g (62 + u) ∧ k < u)) k) + 0))), (0, .ref (m)), (1, .int (x)), (2, .int (nI (u)))]) dX13_worst_83 (by decide) 4 rfl (by decide) rfl ?_
            refine r_goto (tgt := 18) dX13_worst_86 (by decide) ?_
            refine Wx.sub [2, 3, 4, 1, 0] rfl ?_
            have n2 := next_1 (by omega)
            rw [cnt_f (p := (fun k => g (62 + u) < g (62 + k) ∨ (g (62 + k) = g (62 + u) ∧ k < u))) (fun q => q.elim (fun q => absurd q (Nat.not_lt.mpr h45)) (fun q => absurd q.2 (Nat.not_lt.mpr h73)))] at n2
            exact n2
          · refine r_iconst (v := nI 1) dX13_worst_76 (by decide) ?_
            refine r_goto (tgt := 81) dX13_worst_77 (by decide) ?_
            refine r_iaddN dX13_worst_81 ?_
            refine r_istore_n (lv' := [(3, .int (nI ((cnt (fun k => g (62 + u) < g (62 + k) ∨ (g (62 + k) = g (62 + u) ∧ k < u)) k) + 1))), (0, .ref (m)), (1, .int (x)), (2, .int (nI (u))), (4, .int (nI (k)))]) dX13_worst_82 rfl (by decide) rfl ?_
            refine r_iincN (k := 1) (lv' := [(4, .int (nI (k + 1))), (3, .int (nI ((cnt (fun k => g (62 + u) < g (62 + k) ∨ (g (62 + k) = g (62 + u) ∧ k < u)) k) + 1))), (0, .ref (m)), (1, .int (x)), (2, .int (nI (u)))]) dX13_worst_83 (by decide) 4 rfl (by decide) rfl ?_
            refine r_goto (tgt := 18) dX13_worst_86 (by decide) ?_
            refine Wx.sub [2, 3, 4, 1, 0] rfl ?_
            have n2 := next_1 (by omega)
            rw [cnt_t (p := (fun k => g (62 + u) < g (62 + k) ∨ (g (62 + k) = g (62 + u) ∧ k < u))) (Or.inr ⟨h67, h73⟩)] at n2
            exact n2
