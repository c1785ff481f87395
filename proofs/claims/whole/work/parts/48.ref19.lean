set_option maxRecDepth 4000 in
theorem j_isNaND {G : GI} {S : Hp} {b : UInt64} (hb : FP.dcmp b b = some .eq) : Fn m_Jxe99ae_isNaN_b9ae7 G [.double (b)] S (some (.int (nI 0))) S := by
  refine Cn.of rfl (by decide) (Nat.le_of_ble_eq_true rfl) (fun hN hM => ?_)
  show Wx _ G _ 0 [(0, .double (b))] [] _
  refine r_dload_n dJxe99ae_isNaN_b9ae7_0 rfl 0 rfl ?_
  refine r_dload_n dJxe99ae_isNaN_b9ae7_1 rfl 0 rfl ?_
  refine r_dcmp dJxe99ae_isNaN_b9ae7_2 ?_
  refine Wx.top (show Op.cmpValue _ _ = nI 0 by rw [hb]; rfl) ?_
  refine r_if_eqN (tgt := 10) dJxe99ae_isNaN_b9ae7_3 (by decide) (by omega) (fun zz3 => ?_) (fun zz3 => ?_)
  · refine r_iconst (v := nI 0) dJxe99ae_isNaN_b9ae7_10 (by decide) ?_
    exact r_iret (ty := .boolean) dJxe99ae_isNaN_b9ae7_11 rfl (by decide) ⟨rfl, rfl⟩
  · exact absurd zz3 (by decide)
set_option maxRecDepth 4000 in
theorem j_isNaNF {G : GI} {S : Hp} {b : UInt32} (hb : FP.fcmp b b = some .eq) : Fn m_Jxf58ca_isNaN_12338 G [.float (b)] S (some (.int (nI 0))) S := by
  refine Cn.ofF rfl (by decide +kernel) (Nat.le_of_ble_eq_true rfl) (fun hN hM => ?_)
  show Wx _ G _ 0 [(0, .float (b))] [] _
  refine r_fload_n dJxf58ca_isNaN_12338_0 rfl 0 rfl ?_
  refine r_fload_n dJxf58ca_isNaN_12338_1 rfl 0 rfl ?_
  refine r_fcmp dJxf58ca_isNaN_12338_2 ?_
  refine Wx.top (show Op.cmpValue _ _ = nI 0 by rw [hb]; rfl) ?_
  refine r_if_eqN (tgt := 10) dJxf58ca_isNaN_12338_3 (by decide) (by omega) (fun zz3 => ?_) (fun zz3 => ?_)
  · refine r_iconst (v := nI 0) dJxf58ca_isNaN_12338_10 (by decide) ?_
    exact r_iret (ty := .boolean) dJxf58ca_isNaN_12338_11 rfl (by decide) ⟨rfl, rfl⟩
  · exact absurd zz3 (by decide)
set_option maxRecDepth 4000 in
theorem j_bitsD {G : GI} {S : Hp} {b : UInt64} (hb : FP.dcmp b b = some .eq) : Fn m_Jxe99ae_doubleToLongBits_ccdee G [.double (b)] S (some (.long (b.toInt64))) S := by
  refine Cn.of rfl (by decide) (Nat.le_of_ble_eq_true rfl) (fun hN hM => ?_)
  show Wx _ G _ 0 [(0, .double (b))] [] _
  refine r_dload_n dJxe99ae_doubleToLongBits_ccdee_0 rfl 0 rfl ?_
  refine r_fnS (M2 := m_Jxe99ae_isNaN_b9ae7) (As := [.double (b)]) (rest := []) (v := some (.int (nI (0)))) dJxe99ae_doubleToLongBits_ccdee_1 cc_Jxe99ae_doubleToLongBits_ccdee_122 rfl rfl rfl (Nat.le_of_ble_eq_true rfl) (j_isNaND hb) rfl ?_
  refine r_if_neN (tgt := 12) dJxe99ae_doubleToLongBits_ccdee_4 (by decide) (by omega) (fun zz4 => ?_) (fun zz4 => ?_)
  · exact absurd zz4 (by decide)
  · refine r_dload_n dJxe99ae_doubleToLongBits_ccdee_7 rfl 0 rfl ?_
    refine r_d2raw (st := []) dJxe99ae_doubleToLongBits_ccdee_8 (sg9 105 rfl rfl) (sg9 107 rfl rfl) (sg9 106 rfl rfl) (sg1 29 rfl rfl) (Nat.zero_le _) (by decide) ?_
    exact r_lret dJxe99ae_doubleToLongBits_ccdee_11 rfl ⟨rfl, rfl⟩
set_option maxRecDepth 4000 in
theorem j_bitsF {G : GI} {S : Hp} {b : UInt32} (hb : FP.fcmp b b = some .eq) : Fn m_Jxf58ca_floatToIntBits_5c35a G [.float (b)] S (some (.int (b.toInt32))) S := by
  refine Cn.ofF rfl (by decide +kernel) (Nat.le_of_ble_eq_true rfl) (fun hN hM => ?_)
  show Wx _ G _ 0 [(0, .float (b))] [] _
  refine r_fload_n dJxf58ca_floatToIntBits_5c35a_0 rfl 0 rfl ?_
  refine r_fnS (M2 := m_Jxf58ca_isNaN_12338) (As := [.float (b)]) (rest := []) (v := some (.int (nI (0)))) dJxf58ca_floatToIntBits_5c35a_1 cc_Jxf58ca_floatToIntBits_5c35a_59 rfl rfl rfl (Nat.le_of_ble_eq_true rfl) (j_isNaNF hb) rfl ?_
  refine r_if_neN (tgt := 12) dJxf58ca_floatToIntBits_5c35a_4 (by decide) (by omega) (fun zz4 => ?_) (fun zz4 => ?_)
  · exact absurd zz4 (by decide)
  · refine r_fload_n dJxf58ca_floatToIntBits_5c35a_7 rfl 0 rfl ?_
    refine r_f2raw (st := []) dJxf58ca_floatToIntBits_5c35a_8 (sg9 159 rfl rfl) (sg9 161 rfl rfl) (sg9 160 rfl rfl) (sg1 31 rfl rfl) (Nat.zero_le _) (by decide) ?_
    exact r_iret (ty := .int) dJxf58ca_floatToIntBits_5c35a_11 rfl rfl ⟨rfl, rfl⟩
set_option maxRecDepth 4000 in
theorem q_foundShare_1 {G : GI} {T : Hp} {m : Nat} {V : RVal} {g : Nat → Nat} {od : Nat → UInt64} (hs : RS T m)  {x : Int32} (hx : ¬ vp_in x 4) : Fn m_X13_foundShare G [.ref (m), .int (x)] (rput T m (sg V g) od) (some (.long (0))) (rput T m (sg (up2 V 0 (6) (nI 1)) (g)) od) := by
  refine Cn.of rfl (by decide) (Nat.le_of_ble_eq_true rfl) (fun hN hM => ?_)
  show Wx _ G _ 0 [(0, .ref (m)), (1, .int (x))] [] _
  refine r_aload_n dX13_foundShare_0 rfl 0 rfl ?_
  refine r_iload_n dX13_foundShare_1 rfl 1 rfl ?_
  refine r_fnS (M2 := m_X13_isProduct) (As := [.int (x)]) (rest := [.ref (m)]) (v := some (.int (nI (0)))) dX13_foundShare_2 cc_X13_foundShare_118 rfl rfl rfl (Nat.le_of_ble_eq_true rfl) (Fn.eq f_isProduct (congrArg (fun x => some (Value.int x)) (bI_f hx)) rfl) rfl ?_
  refine r_if_eqN (tgt := 34) dX13_foundShare_5 (by decide) (by omega) (fun zz5 => ?_) (fun zz5 => ?_)
  · refine r_iconst (v := nI 1) dX13_foundShare_34 (by decide) ?_
    refine o_put (k := 6) hs dX13_foundShare_35 fw_X13_foundShare_54 rfl rfl rfl ?_
    refine r_aload_n dX13_foundShare_38 rfl 0 rfl ?_
    refine o_get (k := 6) hs dX13_foundShare_39 fr_X13_54 rfl ?_
    refine Wx.top up2_s ?_
    refine r_if_leN (tgt := 49) dX13_foundShare_42 (by decide) (by omega) (fun zz42 => ?_) (fun zz42 => ?_)
    · exact absurd zz42 (by decide)
    · refine r_lconst (v := 0) dX13_foundShare_45 (by decide) ?_
      refine r_goto (tgt := 85) dX13_foundShare_46 (by decide) ?_
      exact r_lret dX13_foundShare_85 rfl ⟨rfl, rfl⟩
  · exact absurd zz5 (by decide)
set_option maxRecDepth 4000 in
theorem q_foundShare_2 {G : GI} {T : Hp} {m : Nat} {V : RVal} {g : Nat → Nat} {od : Nat → UInt64} (hs : RS T m)  {p : Nat} (hp : p < 4) (h8 : g (22 + 10 * p + 8) < 2147480000) (h : g (22 + 10 * p + 8) = 0) : Fn m_X13_foundShare G [.ref (m), .int (nI (p))] (rput T m (sg V g) od) (some (.long (0))) (rput T m (sg (up2 V 0 (6) (nI 2)) (g)) od) := by
  refine Cn.of rfl (by decide) (Nat.le_of_ble_eq_true rfl) (fun hN hM => ?_)
  show Wx _ G _ 0 [(0, .ref (m)), (1, .int (nI (p)))] [] _
  refine r_aload_n dX13_foundShare_0 rfl 0 rfl ?_
  refine r_iload_n dX13_foundShare_1 rfl 1 rfl ?_
  refine r_fnS (M2 := m_X13_isProduct) (As := [.int (nI (p))]) (rest := [.ref (m)]) (v := some (.int (nI (1)))) dX13_foundShare_2 cc_X13_foundShare_118 rfl rfl rfl (Nat.le_of_ble_eq_true rfl) (Fn.eq f_isProduct (congrArg (fun x => some (Value.int x)) (bI_t (vp_in_nI (by omega) (by first | decide | omega)))) rfl) rfl ?_
  refine r_if_eqN (tgt := 34) dX13_foundShare_5 (by decide) (by omega) (fun zz5 => ?_) (fun zz5 => ?_)
  · exact absurd zz5 (by decide)
  · refine r_aload_n dX13_foundShare_8 rfl 0 rfl ?_
    refine m_ref (k := 0) (j := 1) hs hs.2.1.1 dX13_foundShare_9 fr_X13_7 rfl ?_
    refine r_bipush (v := nI 22) dX13_foundShare_12 (by decide) ?_
    refine r_bipush (v := nI 10) dX13_foundShare_14 (by decide) ?_
    refine r_iload_n dX13_foundShare_16 rfl 1 rfl ?_
    refine r_imulN dX13_foundShare_17 ?_
    refine r_iaddN dX13_foundShare_18 ?_
    refine r_bipush (v := nI 8) dX13_foundShare_19 (by decide) ?_
    refine r_iaddN dX13_foundShare_21 ?_
    refine g_iald (i := 22 + 10 * p + 8) hs dX13_foundShare_22 (by omega) ?_
    refine r_if_neN (tgt := 30) dX13_foundShare_23 (by decide) (by omega) (fun h23 => ?_) (fun h23 => ?_)
    · exact absurd h h23
    · refine r_iconst (v := nI 2) dX13_foundShare_26 (by decide) ?_
      refine r_goto (tgt := 35) dX13_foundShare_27 (by decide) ?_
      refine o_put (k := 6) hs dX13_foundShare_35 fw_X13_foundShare_54 rfl rfl rfl ?_
      refine r_aload_n dX13_foundShare_38 rfl 0 rfl ?_
      refine o_get (k := 6) hs dX13_foundShare_39 fr_X13_54 rfl ?_
      refine Wx.top up2_s ?_
      refine r_if_leN (tgt := 49) dX13_foundShare_42 (by decide) (by omega) (fun zz42 => ?_) (fun zz42 => ?_)
      · exact absurd zz42 (by decide)
      · refine r_lconst (v := 0) dX13_foundShare_45 (by decide) ?_
        refine r_goto (tgt := 85) dX13_foundShare_46 (by decide) ?_
        exact r_lret dX13_foundShare_85 rfl ⟨rfl, rfl⟩
set_option maxRecDepth 4000 in
theorem q_foundShare_0 {G : GI} {T : Hp} {m : Nat} {V : RVal} {g : Nat → Nat} {od : Nat → UInt64} (hs : RS T m)  {p : Nat} (hp : p < 4) (h8 : g (22 + 10 * p + 8) < 2147480000) (h : ¬ g (22 + 10 * p + 8) = 0) (hnan : vf_n64 (FP.ddiv (FP.i2d (nI (g (22 + 10 * p + 9)))) (FP.i2d (nI (g (22 + 10 * p + 8)))))) (hnn : FP.dcmp (FP.ddiv (FP.i2d (nI (g (22 + 10 * p + 9)))) (FP.i2d (nI (g (22 + 10 * p + 8))))) (FP.ddiv (FP.i2d (nI (g (22 + 10 * p + 9)))) (FP.i2d (nI (g (22 + 10 * p + 8))))) = some .eq) : Fn m_X13_foundShare G [.ref (m), .int (nI (p))] (rput T m (sg V g) od) (some (.long ((FP.ddiv (FP.i2d (nI (g (22 + 10 * p + 9)))) (FP.i2d (nI (g (22 + 10 * p + 8))))).toInt64))) (rput T m (sg (up2 V 0 (6) (nI 0)) (g)) od) := by
  refine Cn.of rfl (by decide) (Nat.le_of_ble_eq_true rfl) (fun hN hM => ?_)
  show Wx _ G _ 0 [(0, .ref (m)), (1, .int (nI (p)))] [] _
  refine r_aload_n dX13_foundShare_0 rfl 0 rfl ?_
  refine r_iload_n dX13_foundShare_1 rfl 1 rfl ?_
  refine r_fnS (M2 := m_X13_isProduct) (As := [.int (nI (p))]) (rest := [.ref (m)]) (v := some (.int (nI (1)))) dX13_foundShare_2 cc_X13_foundShare_118 rfl rfl rfl (Nat.le_of_ble_eq_true rfl) (Fn.eq f_isProduct (congrArg (fun x => some (Value.int x)) (bI_t (vp_in_nI (by omega) (by first | decide | omega)))) rfl) rfl ?_
  refine r_if_eqN (tgt := 34) dX13_foundShare_5 (by decide) (by omega) (fun zz5 => ?_) (fun zz5 => ?_)
  · exact absurd zz5 (by decide)
  · refine r_aload_n dX13_foundShare_8 rfl 0 rfl ?_
    refine m_ref (k := 0) (j := 1) hs hs.2.1.1 dX13_foundShare_9 fr_X13_7 rfl ?_
    refine r_bipush (v := nI 22) dX13_foundShare_12 (by decide) ?_
    refine r_bipush (v := nI 10) dX13_foundShare_14 (by decide) ?_
    refine r_iload_n dX13_foundShare_16 rfl 1 rfl ?_
    refine r_imulN dX13_foundShare_17 ?_
    refine r_iaddN dX13_foundShare_18 ?_
    refine r_bipush (v := nI 8) dX13_foundShare_19 (by decide) ?_
    refine r_iaddN dX13_foundShare_21 ?_
    refine g_iald (i := 22 + 10 * p + 8) hs dX13_foundShare_22 (by omega) ?_
    refine r_if_neN (tgt := 30) dX13_foundShare_23 (by decide) (by omega) (fun h23 => ?_) (fun h23 => ?_)
    · refine r_iconst (v := nI 0) dX13_foundShare_30 (by decide) ?_
      refine r_goto (tgt := 35) dX13_foundShare_31 (by decide) ?_
      refine o_put (k := 6) hs dX13_foundShare_35 fw_X13_foundShare_54 rfl rfl rfl ?_
      refine r_aload_n dX13_foundShare_38 rfl 0 rfl ?_
      refine o_get (k := 6) hs dX13_foundShare_39 fr_X13_54 rfl ?_
      refine Wx.top up2_s ?_
      refine r_if_leN (tgt := 49) dX13_foundShare_42 (by decide) (by omega) (fun zz42 => ?_) (fun zz42 => ?_)
      · refine r_aload_n dX13_foundShare_49 rfl 0 rfl ?_
        refine m_ref (k := 0) (j := 1) hs hs.2.1.1 dX13_foundShare_50 fr_X13_7 rfl ?_
        refine r_bipush (v := nI 22) dX13_foundShare_53 (by decide) ?_
        refine r_bipush (v := nI 10) dX13_foundShare_55 (by decide) ?_
        refine r_iload_n dX13_foundShare_57 rfl 1 rfl ?_
        refine r_imulN dX13_foundShare_58 ?_
        refine r_iaddN dX13_foundShare_59 ?_
        refine r_bipush (v := nI 9) dX13_foundShare_60 (by decide) ?_
        refine r_iaddN dX13_foundShare_62 ?_
        refine g_iald (i := 22 + 10 * p + 9) hs dX13_foundShare_63 (by omega) ?_
        refine r_i2d dX13_foundShare_64 ?_
        refine r_aload_n dX13_foundShare_65 rfl 0 rfl ?_
        refine m_ref (k := 0) (j := 1) hs hs.2.1.1 dX13_foundShare_66 fr_X13_7 rfl ?_
        refine r_bipush (v := nI 22) dX13_foundShare_69 (by decide) ?_
        refine r_bipush (v := nI 10) dX13_foundShare_71 (by decide) ?_
        refine r_iload_n dX13_foundShare_73 rfl 1 rfl ?_
        refine r_imulN dX13_foundShare_74 ?_
        refine r_iaddN dX13_foundShare_75 ?_
        refine r_bipush (v := nI 8) dX13_foundShare_76 (by decide) ?_
        refine r_iaddN dX13_foundShare_78 ?_
        refine g_iald (i := 22 + 10 * p + 8) hs dX13_foundShare_79 (by omega) ?_
        refine r_i2d dX13_foundShare_80 ?_
        refine r_ddiv dX13_foundShare_81 hnan ?_
        refine r_fnS (M2 := m_Jxe99ae_doubleToLongBits_ccdee) (As := [.double (FP.ddiv (FP.i2d (nI (g (22 + 10 * p + 9)))) (FP.i2d (nI (g (22 + 10 * p + 8)))))]) (rest := []) (v := some (.long ((FP.ddiv (FP.i2d (nI (g (22 + 10 * p + 9)))) (FP.i2d (nI (g (22 + 10 * p + 8))))).toInt64))) dX13_foundShare_82 cc_X13_foundShare_273 rfl rfl rfl (Nat.le_of_ble_eq_true rfl) (j_bitsD hnn) rfl ?_
        exact r_lret dX13_foundShare_85 rfl ⟨rfl, rfl⟩
      · exact absurd zz42 (by decide)
    · exact absurd h23 h
