/-! THE LESSER OBJECTS MADE -/
set_option maxRecDepth 4000 in
set_option maxHeartbeats 400000 in
theorem k_recallInit {G : GI} {S : Hp} {b : Nat} (hb2 : zT S b = 12) (hF : FS S) (g1 : zX S + 1 ≤ gN G) (g2 : zU S + 4800 ≤ gM G) : Fn m_X9_init G [.ref b] S none (uP (nA S 106 4800) 352 b (some (zX S))) := by
  refine Cn.of rfl (by decide) (Nat.le_of_ble_eq_true rfl) (fun hN hM => ?_)
  show Wx _ G _ 0 [(0, .ref (b))] [] _
  refine r_aload_n dX9_init_0 rfl 0 rfl ?_
  have hbx : b < zX S := jFS_lt hF (by rw [hb2]; decide)
  refine r_objInit dX9_init_1 (sg2 1 rfl rfl) (sg1 45 rfl rfl) (sg1 46 rfl rfl) (by decide) (by decide) ?_
  refine r_aload_n dX9_init_4 rfl 0 rfl ?_
  refine r_sipush (v := nI 4800) dX9_init_5 (by decide) ?_
  refine r_new_boolean (N := 4800) dX9_init_8 (sg2 10 rfl rfl) (nI_nn (by decide)) (nI_clamp (by decide)) (by decide) (show zX S + 0 + 1 ≤ gN G by omega) (show zU S + 0 + 4800 ≤ gM G by omega) ?_
  refine r_putP (ci := 11) (k := 0) (x := some (zX S)) dX9_init_10 fw_X9_init_9 ((up1_n (show b ≠ zX S + 0 by omega)).trans hb2) rfl rfl ?_
  exact r_vret dX9_init_13 rfl ⟨rfl, rfl⟩
set_option maxRecDepth 4000 in
set_option maxHeartbeats 400000 in
theorem k_chanceInit {G : GI} {S : Hp} {b : Nat} (hb2 : zT S b = 5) (hF : FS S) (g1 : zX S + 1 ≤ gN G) (g2 : zU S + 33 ≤ gM G) : Fn m_X2_init G [.ref b] S none (uP (nA S 103 33) 128 b (some (zX S))) := by
  refine Cn.of rfl (by decide) (Nat.le_of_ble_eq_true rfl) (fun hN hM => ?_)
  show Wx _ G _ 0 [(0, .ref (b))] [] _
  refine r_aload_n dX2_init_0 rfl 0 rfl ?_
  have hbx : b < zX S := jFS_lt hF (by rw [hb2]; decide)
  refine r_objInit dX2_init_1 (sg2 16 rfl rfl) (sg1 45 rfl rfl) (sg1 46 rfl rfl) (by decide) (by decide) ?_
  refine r_aload_n dX2_init_4 rfl 0 rfl ?_
  refine r_bipush (v := nI 33) dX2_init_5 (by decide) ?_
  refine r_new_double (N := 33) dX2_init_7 (sg2 21 rfl rfl) (nI_nn (by decide)) (nI_clamp (by decide)) (by decide) (show zX S + 0 + 1 ≤ gN G by omega) (show zU S + 0 + 33 ≤ gM G by omega) ?_
  refine r_putP (ci := 4) (k := 0) (x := some (zX S)) dX2_init_9 fw_X2_init_7 ((up1_n (show b ≠ zX S + 0 by omega)).trans hb2) rfl rfl ?_
  exact r_vret dX2_init_12 rfl ⟨rfl, rfl⟩
set_option maxRecDepth 4000 in
set_option maxHeartbeats 400000 in
theorem k_commandsInit {G : GI} {S : Hp} {b : Nat} (hb2 : zT S b = 6) (hF : FS S) (g1 : zX S + 2 ≤ gN G) (g2 : zU S + 66 ≤ gM G) : Fn m_X3_init G [.ref b] S none (uP (nA (uI (uP (nA S 105 60) 160 b (some (zX S))) 163 b ((-1))) 101 6) 166 b (some (zX S + 1))) := by
  refine Cn.of rfl (by decide) (Nat.le_of_ble_eq_true rfl) (fun hN hM => ?_)
  show Wx _ G _ 0 [(0, .ref (b))] [] _
  refine r_aload_n dX3_init_0 rfl 0 rfl ?_
  have hbx : b < zX S := jFS_lt hF (by rw [hb2]; decide)
  refine r_objInit dX3_init_1 (sg1 163 rfl rfl) (sg1 45 rfl rfl) (sg1 46 rfl rfl) (by decide) (by decide) ?_
  refine r_aload_n dX3_init_4 rfl 0 rfl ?_
  refine r_bipush (v := nI 60) dX3_init_5 (by decide) ?_
  refine r_new_char (N := 60) dX3_init_7 (sg1 191 rfl rfl) (nI_nn (by decide)) (nI_clamp (by decide)) (by decide) (show zX S + 0 + 1 ≤ gN G by omega) (show zU S + 0 + 60 ≤ gM G by omega) ?_
  refine r_putP (ci := 5) (k := 0) (x := some (zX S)) dX3_init_9 fw_X3_init_9 ((up1_n (show b ≠ zX S + 0 by omega)).trans hb2) rfl rfl ?_
  refine r_aload_n dX3_init_12 rfl 0 rfl ?_
  refine r_iconst (v := (-1)) dX3_init_13 (by decide) ?_
  refine r_putI (ci := 5) (k := 3) dX3_init_14 fw_X3_init_13 ((up1_n (show b ≠ zX S + 0 by omega)).trans hb2) rfl rfl rfl ?_
  refine r_aload_n dX3_init_17 rfl 0 rfl ?_
  refine r_bipush (v := nI 6) dX3_init_18 (by decide) ?_
  refine r_new_int (N := 6) dX3_init_20 (sg1 78 rfl rfl) (nI_nn (by decide)) (nI_clamp (by decide)) (by decide) (show zX S + 1 + 1 ≤ gN G by omega) (show zU S + 60 + 6 ≤ gM G by omega) ?_
  refine r_putP (ci := 5) (k := 6) (x := some (zX S + 1)) dX3_init_22 fw_X3_init_17 ((up1_n (show b ≠ zX S + 1 by omega)).trans ((up1_n (show b ≠ zX S + 0 by omega)).trans hb2)) rfl rfl ?_
  exact r_vret dX3_init_25 rfl ⟨rfl, rfl⟩
set_option maxRecDepth 4000 in
set_option maxHeartbeats 400000 in
theorem k_drawerInit {G : GI} {S : Hp} {b : Nat} (hb2 : zT S b = 7) (hF : FS S) (g1 : zX S + 4 ≤ gN G) (g2 : zU S + 20 ≤ gM G) : Fn m_X4_init G [.ref b] S none (uP (nA (uP (nA (uP (nA (uP (nA (uI S 192 b (nI 0)) 101 5) 194 b (some (zX S))) 101 5) 195 b (some (zX S + 1))) 101 5) 196 b (some (zX S + 2))) 101 5) 197 b (some (zX S + 3))) := by
  refine Cn.of rfl (by decide) (Nat.le_of_ble_eq_true rfl) (fun hN hM => ?_)
  show Wx _ G _ 0 [(0, .ref (b))] [] _
  refine r_aload_n dX4_init_0 rfl 0 rfl ?_
  have hbx : b < zX S := jFS_lt hF (by rw [hb2]; decide)
  refine r_objInit dX4_init_1 (sg2 28 rfl rfl) (sg1 45 rfl rfl) (sg1 46 rfl rfl) (by decide) (by decide) ?_
  refine r_aload_n dX4_init_4 rfl 0 rfl ?_
  refine r_iconst (v := nI 0) dX4_init_5 (by decide) ?_
  refine r_putI (ci := 6) (k := 0) dX4_init_6 fw_X4_init_9 hb2 rfl rfl rfl ?_
  refine r_aload_n dX4_init_9 rfl 0 rfl ?_
  refine r_iconst (v := nI 5) dX4_init_10 (by decide) ?_
  refine r_new_int (N := 5) dX4_init_11 (sg1 78 rfl rfl) (nI_nn (by decide)) (nI_clamp (by decide)) (by decide) (show zX S + 0 + 1 ≤ gN G by omega) (show zU S + 0 + 5 ≤ gM G by omega) ?_
  refine r_putP (ci := 6) (k := 2) (x := some (zX S)) dX4_init_13 fw_X4_init_13 ((up1_n (show b ≠ zX S + 0 by omega)).trans hb2) rfl rfl ?_
  refine r_aload_n dX4_init_16 rfl 0 rfl ?_
  refine r_iconst (v := nI 5) dX4_init_17 (by decide) ?_
  refine r_new_int (N := 5) dX4_init_18 (sg1 78 rfl rfl) (nI_nn (by decide)) (nI_clamp (by decide)) (by decide) (show zX S + 1 + 1 ≤ gN G by omega) (show zU S + 5 + 5 ≤ gM G by omega) ?_
  refine r_putP (ci := 6) (k := 3) (x := some (zX S + 1)) dX4_init_20 fw_X4_init_17 ((up1_n (show b ≠ zX S + 1 by omega)).trans ((up1_n (show b ≠ zX S + 0 by omega)).trans hb2)) rfl rfl ?_
  refine r_aload_n dX4_init_23 rfl 0 rfl ?_
  refine r_iconst (v := nI 5) dX4_init_24 (by decide) ?_
  refine r_new_int (N := 5) dX4_init_25 (sg1 78 rfl rfl) (nI_nn (by decide)) (nI_clamp (by decide)) (by decide) (show zX S + 2 + 1 ≤ gN G by omega) (show zU S + 10 + 5 ≤ gM G by omega) ?_
  refine r_putP (ci := 6) (k := 4) (x := some (zX S + 2)) dX4_init_27 fw_X4_init_20 ((up1_n (show b ≠ zX S + 2 by omega)).trans ((up1_n (show b ≠ zX S + 1 by omega)).trans ((up1_n (show b ≠ zX S + 0 by omega)).trans hb2))) rfl rfl ?_
  refine r_aload_n dX4_init_30 rfl 0 rfl ?_
  refine r_iconst (v := nI 5) dX4_init_31 (by decide) ?_
  refine r_new_int (N := 5) dX4_init_32 (sg1 78 rfl rfl) (nI_nn (by decide)) (nI_clamp (by decide)) (by decide) (show zX S + 3 + 1 ≤ gN G by omega) (show zU S + 15 + 5 ≤ gM G by omega) ?_
  refine r_putP (ci := 6) (k := 5) (x := some (zX S + 3)) dX4_init_34 fw_X4_init_23 ((up1_n (show b ≠ zX S + 3 by omega)).trans ((up1_n (show b ≠ zX S + 2 by omega)).trans ((up1_n (show b ≠ zX S + 1 by omega)).trans ((up1_n (show b ≠ zX S + 0 by omega)).trans hb2)))) rfl rfl ?_
  exact r_vret dX4_init_37 rfl ⟨rfl, rfl⟩
