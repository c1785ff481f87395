/-! THE REFERENCE MADE: its rows -/
set_option maxRecDepth 4000 in
set_option maxHeartbeats 400000 in
theorem wi_model1 {G : GI} {S : Hp} {b : Nat} {Q : OV → Hp → Prop} {n1 n4 n5 n6 n7 n8 n9 n10 : Nat} (q1 : n1 = 10002) (q4 : n4 = 80016) (q5 : n5 = 200) (q6 : n6 = 34) (q7 : n7 = 4800) (q8 : n8 = 88) (q9 : n9 = 60) (q10 : n10 = 160) (hb2 : zT S b = 15) (hF : FS S) (g1 : zX S + 10 ≤ gN G) (g2 : zU S + 115364 ≤ gM G) (kk : Wx m_X13_init G (uP (nA (uI (uP (nA (uP (nA (uP (nA (uP (nA (uP (nA (uP (nA (uP (nA (uP (nA (uP (nA S 101 n1) 448 b (some (zX S))) 101 n1) 449 b (some (zX S + 1))) 101 n1) 450 b (some (zX S + 2))) 101 n4) 452 b (some (zX S + 3))) 106 n5) 457 b (some (zX S + 4))) 103 n6) 458 b (some (zX S + 5))) 106 n7) 459 b (some (zX S + 6))) 101 n8) 460 b (some (zX S + 7))) 101 n9) 461 b (some (zX S + 8))) 463 b ((-1))) 101 n10) 464 b (some (zX S + 9))) 95 [(0, .ref (b))] [] Q) : Wx m_X13_init G S 0 [(0, .ref (b))] [] Q := by
  refine r_aload_n dX13_init_0 rfl 0 rfl ?_
  have hbx : b < zX S := jFS_lt hF (by rw [hb2]; decide)
  refine r_objInit dX13_init_1 (sg7 185 rfl rfl) (sg1 45 rfl rfl) (sg1 46 rfl rfl) (by decide) (by decide) ?_
  refine r_aload_n dX13_init_4 rfl 0 rfl ?_
  refine r_sipush (v := nI 10002) dX13_init_5 (by decide) ?_
  refine Wx.top (x := nI 10002) (y := nI n1) (congrArg nI q1.symm) ?_
  refine r_new_int (N := n1) dX13_init_8 (sg1 78 rfl rfl) (nI_nn (by omega)) (nI_clamp (by omega)) (by omega) (show zX S + 0 + 1 ≤ gN G by omega) (show zU S + n1 ≤ gM G by omega) ?_
  refine r_putP (ci := 14) (k := 0) (x := some (zX S)) dX13_init_10 fw_X13_init_7 ((up1_n (show b ≠ zX S + 0 by omega)).trans hb2) rfl rfl ?_
  refine r_aload_n dX13_init_13 rfl 0 rfl ?_
  refine r_sipush (v := nI 10002) dX13_init_14 (by decide) ?_
  refine Wx.top (x := nI 10002) (y := nI n1) (congrArg nI q1.symm) ?_
  refine r_new_int (N := n1) dX13_init_17 (sg1 78 rfl rfl) (nI_nn (by omega)) (nI_clamp (by omega)) (by omega) (show zX S + 1 + 1 ≤ gN G by omega) (show zU S + n1 + n1 ≤ gM G by omega) ?_
  refine r_putP (ci := 14) (k := 1) (x := some (zX S + 1)) dX13_init_19 fw_X13_init_13 ((up1_n (show b ≠ zX S + 1 by omega)).trans ((up1_n (show b ≠ zX S + 0 by omega)).trans hb2)) rfl rfl ?_
  refine r_aload_n dX13_init_22 rfl 0 rfl ?_
  refine r_sipush (v := nI 10002) dX13_init_23 (by decide) ?_
  refine Wx.top (x := nI 10002) (y := nI n1) (congrArg nI q1.symm) ?_
  refine r_new_int (N := n1) dX13_init_26 (sg1 78 rfl rfl) (nI_nn (by omega)) (nI_clamp (by omega)) (by omega) (show zX S + 2 + 1 ≤ gN G by omega) (show zU S + n1 + n1 + n1 ≤ gM G by omega) ?_
  refine r_putP (ci := 14) (k := 2) (x := some (zX S + 2)) dX13_init_28 fw_X13_init_16 ((up1_n (show b ≠ zX S + 2 by omega)).trans ((up1_n (show b ≠ zX S + 1 by omega)).trans ((up1_n (show b ≠ zX S + 0 by omega)).trans hb2))) rfl rfl ?_
  refine r_aload_n dX13_init_31 rfl 0 rfl ?_
  refine r_ldc (v := 80016) (sg7 186 rfl rfl) dX13_init_32 ?_
  refine Wx.top (y := nI 80016) (by decide) ?_
  refine Wx.top (x := nI 80016) (y := nI n4) (congrArg nI q4.symm) ?_
  refine r_new_int (N := n4) dX13_init_34 (sg1 78 rfl rfl) (nI_nn (by omega)) (nI_clamp (by omega)) (by omega) (show zX S + 3 + 1 ≤ gN G by omega) (show zU S + n1 + n1 + n1 + n4 ≤ gM G by omega) ?_
  refine r_putP (ci := 14) (k := 4) (x := some (zX S + 3)) dX13_init_36 fw_X13_init_20 ((up1_n (show b ≠ zX S + 3 by omega)).trans ((up1_n (show b ≠ zX S + 2 by omega)).trans ((up1_n (show b ≠ zX S + 1 by omega)).trans ((up1_n (show b ≠ zX S + 0 by omega)).trans hb2)))) rfl rfl ?_
  refine r_aload_n dX13_init_39 rfl 0 rfl ?_
  refine r_sipush (v := nI 200) dX13_init_40 (by decide) ?_
  refine Wx.top (x := nI 200) (y := nI n5) (congrArg nI q5.symm) ?_
  refine r_new_boolean (N := n5) dX13_init_43 (sg2 10 rfl rfl) (nI_nn (by omega)) (nI_clamp (by omega)) (by omega) (show zX S + 4 + 1 ≤ gN G by omega) (show zU S + n1 + n1 + n1 + n4 + n5 ≤ gM G by omega) ?_
  refine r_putP (ci := 14) (k := 9) (x := some (zX S + 4)) dX13_init_45 fw_X13_init_23 ((up1_n (show b ≠ zX S + 4 by omega)).trans ((up1_n (show b ≠ zX S + 3 by omega)).trans ((up1_n (show b ≠ zX S + 2 by omega)).trans ((up1_n (show b ≠ zX S + 1 by omega)).trans ((up1_n (show b ≠ zX S + 0 by omega)).trans hb2))))) rfl rfl ?_
  refine r_aload_n dX13_init_48 rfl 0 rfl ?_
  refine r_bipush (v := nI 34) dX13_init_49 (by decide) ?_
  refine Wx.top (x := nI 34) (y := nI n6) (congrArg nI q6.symm) ?_
  refine r_new_double (N := n6) dX13_init_51 (sg2 21 rfl rfl) (nI_nn (by omega)) (nI_clamp (by omega)) (by omega) (show zX S + 5 + 1 ≤ gN G by omega) (show zU S + n1 + n1 + n1 + n4 + n5 + n6 ≤ gM G by omega) ?_
  refine r_putP (ci := 14) (k := 10) (x := some (zX S + 5)) dX13_init_53 fw_X13_init_27 ((up1_n (show b ≠ zX S + 5 by omega)).trans ((up1_n (show b ≠ zX S + 4 by omega)).trans ((up1_n (show b ≠ zX S + 3 by omega)).trans ((up1_n (show b ≠ zX S + 2 by omega)).trans ((up1_n (show b ≠ zX S + 1 by omega)).trans ((up1_n (show b ≠ zX S + 0 by omega)).trans hb2)))))) rfl rfl ?_
  refine r_aload_n dX13_init_56 rfl 0 rfl ?_
  refine r_sipush (v := nI 4800) dX13_init_57 (by decide) ?_
  refine Wx.top (x := nI 4800) (y := nI n7) (congrArg nI q7.symm) ?_
  refine r_new_boolean (N := n7) dX13_init_60 (sg2 10 rfl rfl) (nI_nn (by omega)) (nI_clamp (by omega)) (by omega) (show zX S + 6 + 1 ≤ gN G by omega) (show zU S + n1 + n1 + n1 + n4 + n5 + n6 + n7 ≤ gM G by omega) ?_
  refine r_putP (ci := 14) (k := 11) (x := some (zX S + 6)) dX13_init_62 fw_X13_init_31 ((up1_n (show b ≠ zX S + 6 by omega)).trans ((up1_n (show b ≠ zX S + 5 by omega)).trans ((up1_n (show b ≠ zX S + 4 by omega)).trans ((up1_n (show b ≠ zX S + 3 by omega)).trans ((up1_n (show b ≠ zX S + 2 by omega)).trans ((up1_n (show b ≠ zX S + 1 by omega)).trans ((up1_n (show b ≠ zX S + 0 by omega)).trans hb2))))))) rfl rfl ?_
  refine r_aload_n dX13_init_65 rfl 0 rfl ?_
  refine r_bipush (v := nI 88) dX13_init_66 (by decide) ?_
  refine Wx.top (x := nI 88) (y := nI n8) (congrArg nI q8.symm) ?_
  refine r_new_int (N := n8) dX13_init_68 (sg1 78 rfl rfl) (nI_nn (by omega)) (nI_clamp (by omega)) (by omega) (show zX S + 7 + 1 ≤ gN G by omega) (show zU S + n1 + n1 + n1 + n4 + n5 + n6 + n7 + n8 ≤ gM G by omega) ?_
  refine r_putP (ci := 14) (k := 12) (x := some (zX S + 7)) dX13_init_70 fw_X13_init_34 ((up1_n (show b ≠ zX S + 7 by omega)).trans ((up1_n (show b ≠ zX S + 6 by omega)).trans ((up1_n (show b ≠ zX S + 5 by omega)).trans ((up1_n (show b ≠ zX S + 4 by omega)).trans ((up1_n (show b ≠ zX S + 3 by omega)).trans ((up1_n (show b ≠ zX S + 2 by omega)).trans ((up1_n (show b ≠ zX S + 1 by omega)).trans ((up1_n (show b ≠ zX S + 0 by omega)).trans hb2)))))))) rfl rfl ?_
  refine r_aload_n dX13_init_73 rfl 0 rfl ?_
  refine r_bipush (v := nI 60) dX13_init_74 (by decide) ?_
  refine Wx.top (x := nI 60) (y := nI n9) (congrArg nI q9.symm) ?_
  refine r_new_int (N := n9) dX13_init_76 (sg1 78 rfl rfl) (nI_nn (by omega)) (nI_clamp (by omega)) (by omega) (show zX S + 8 + 1 ≤ gN G by omega) (show zU S + n1 + n1 + n1 + n4 + n5 + n6 + n7 + n8 + n9 ≤ gM G by omega) ?_
  refine r_putP (ci := 14) (k := 13) (x := some (zX S + 8)) dX13_init_78 fw_X13_init_37 ((up1_n (show b ≠ zX S + 8 by omega)).trans ((up1_n (show b ≠ zX S + 7 by omega)).trans ((up1_n (show b ≠ zX S + 6 by omega)).trans ((up1_n (show b ≠ zX S + 5 by omega)).trans ((up1_n (show b ≠ zX S + 4 by omega)).trans ((up1_n (show b ≠ zX S + 3 by omega)).trans ((up1_n (show b ≠ zX S + 2 by omega)).trans ((up1_n (show b ≠ zX S + 1 by omega)).trans ((up1_n (show b ≠ zX S + 0 by omega)).trans hb2))))))))) rfl rfl ?_
  refine r_aload_n dX13_init_81 rfl 0 rfl ?_
  refine r_iconst (v := (-1)) dX13_init_82 (by decide) ?_
  refine r_putI (ci := 14) (k := 15) dX13_init_83 fw_X13_init_40 ((up1_n (show b ≠ zX S + 8 by omega)).trans ((up1_n (show b ≠ zX S + 7 by omega)).trans ((up1_n (show b ≠ zX S + 6 by omega)).trans ((up1_n (show b ≠ zX S + 5 by omega)).trans ((up1_n (show b ≠ zX S + 4 by omega)).trans ((up1_n (show b ≠ zX S + 3 by omega)).trans ((up1_n (show b ≠ zX S + 2 by omega)).trans ((up1_n (show b ≠ zX S + 1 by omega)).trans ((up1_n (show b ≠ zX S + 0 by omega)).trans hb2))))))))) rfl rfl rfl ?_
  refine r_aload_n dX13_init_86 rfl 0 rfl ?_
  refine r_sipush (v := nI 160) dX13_init_87 (by decide) ?_
  refine Wx.top (x := nI 160) (y := nI n10) (congrArg nI q10.symm) ?_
  refine r_new_int (N := n10) dX13_init_90 (sg1 78 rfl rfl) (nI_nn (by omega)) (nI_clamp (by omega)) (by omega) (show zX S + 9 + 1 ≤ gN G by omega) (show zU S + n1 + n1 + n1 + n4 + n5 + n6 + n7 + n8 + n9 + n10 ≤ gM G by omega) ?_
  refine r_putP (ci := 14) (k := 16) (x := some (zX S + 9)) dX13_init_92 fw_X13_init_44 ((up1_n (show b ≠ zX S + 9 by omega)).trans ((up1_n (show b ≠ zX S + 8 by omega)).trans ((up1_n (show b ≠ zX S + 7 by omega)).trans ((up1_n (show b ≠ zX S + 6 by omega)).trans ((up1_n (show b ≠ zX S + 5 by omega)).trans ((up1_n (show b ≠ zX S + 4 by omega)).trans ((up1_n (show b ≠ zX S + 3 by omega)).trans ((up1_n (show b ≠ zX S + 2 by omega)).trans ((up1_n (show b ≠ zX S + 1 by omega)).trans ((up1_n (show b ≠ zX S + 0 by omega)).trans hb2)))))))))) rfl rfl ?_
  exact kk
