/-! THE REFERENCE: no such count -/
set_option maxRecDepth 4000 in
theorem q_count_x {G : GI} {T : Hp} {m : Nat} {V : RVal} {g : Nat → Nat} {od : Nat → UInt64} (hs : RS T m)  {y : Int32} (h7 : ¬ vp_in y 7) (h14 : ¬ (nI 10 ≤ y ∧ y ≤ nI 14)) : Fn m_X13_count G [.ref (m), .int (y)] (rput T m (sg V g) od) (some (.int (nI (0)))) (rput T m (sg (up2 (up2 V 0 (6) (nI 0)) 0 (6) (nI 1)) (g)) od) := by
  refine Cn.of rfl (by decide) (Nat.le_of_ble_eq_true rfl) (fun hN hM => ?_)
  show Wx _ G _ 0 [(0, .ref (m)), (1, .int (y))] [] _
  have hout := sw_out (n := 6) (by decide) h7
  refine r_aload_n dX13_count_0 rfl 0 rfl ?_
  refine r_iconst (v := nI 0) dX13_count_1 (by decide) ?_
  refine o_put (k := 6) hs dX13_count_2 fw_X13_count_54 rfl rfl rfl ?_
  refine r_iload_n dX13_count_5 rfl 1 rfl ?_
  refine r_tableOut (tgt := 92) dX13_count_6 hout (by decide) ?_
  refine r_iload_n dX13_count_92 rfl 1 rfl ?_
  refine r_bipush (v := nI 10) dX13_count_93 (by decide) ?_
  refine r_bipush (v := nI 14) dX13_count_95 (by decide) ?_
  refine r_fnS (M2 := m_X13_in) (As := [.int (y), .int (nI (10)), .int (nI (14))]) (rest := []) (v := some (.int (nI (0)))) dX13_count_97 cc_X13_count_68 rfl rfl rfl (Nat.le_of_ble_eq_true rfl) (Fn.eq f_in (show some (Value.int (bI (nI 10 ≤ y ∧ y ≤ nI 14))) = some (Value.int (nI 0)) from congrArg (fun x => some (Value.int x)) (bI_f h14)) rfl) rfl ?_
  refine r_if_eqN (tgt := 114) dX13_count_100 (by decide) (by omega) (fun zz100 => ?_) (fun zz100 => ?_)
  · refine r_aload_n dX13_count_114 rfl 0 rfl ?_
    refine r_iconst (v := nI 1) dX13_count_115 (by decide) ?_
    refine r_fnV (M2 := m_X13_fails) (As := [.int (nI (1))]) (rest := []) (v := some (.int (nI (0)))) dX13_count_116 cc_X13_count_289 rfl rfl rfl (Nat.le_of_ble_eq_true rfl) hs.1 rfl rfl (by decide) (g_fails hs) rfl ?_
    exact r_iret (ty := .int) dX13_count_119 rfl rfl ⟨rfl, rfl⟩
  · exact absurd zz100 (by decide)
