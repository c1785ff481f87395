/-! A StringBuilder MADE -/
set_option maxRecDepth 4000 in
set_option maxHeartbeats 400000 in
theorem j_sb5 {G : GI} {S : Hp} {b : Nat} (hb2 : zT S b = 2) (hF : FS S) (g1 : zX S + 1 ≤ gN G) (g2 : zU S + 16 ≤ gM G) : Fn m_J5_init_d00df G [.ref (b), .int (nI (16))] S none (uI (uP (nA S 104 16) 32 b (some (zX S))) 33 b (nI 0)) := by
  refine Cn.of rfl (by decide) (Nat.le_of_ble_eq_true rfl) (fun hN hM => ?_)
  show Wx _ G _ 0 [(0, .ref (b)), (1, .int (nI (16)))] [] _
  refine r_aload_n dJ5_init_d00df_0 rfl 0 rfl ?_
  refine r_objInit dJ5_init_d00df_1 (sg1 206 rfl rfl) (sg1 45 rfl rfl) (sg1 46 rfl rfl) (by decide) (by decide) ?_
  refine r_gets (C := "java/lang/String") (n := "COMPACT_STRINGS") (d := "Z") (v := .int 1) (fun U h => h.2.2.2.2.1) dJ5_init_d00df_4 (sg1 207 rfl rfl) ?_
  refine Wx.top (y := nI 1) (by decide) ?_
  refine r_if_eqN (tgt := 25) dJ5_init_d00df_7 (by decide) (by omega) (fun zz7 => ?_) (fun zz7 => ?_)
  · exact absurd zz7 (by decide)
  · refine r_aload_n dJ5_init_d00df_10 rfl 0 rfl ?_
    refine r_iload_n dJ5_init_d00df_11 rfl 1 rfl ?_
    have hbx : b ≠ zX S := by have := jFS_lt hF (show zT S b ≠ 0 by rw [hb2]; decide); omega
    refine r_new_byte (N := 16) dJ5_init_d00df_12 (sg1 230 rfl rfl) (nI_nn (by decide)) (nI_clamp (by decide)) (by decide) g1 g2 ?_
    refine r_putP (ci := 1) (k := 0) (x := some (zX S)) dJ5_init_d00df_14 fw_J5_init_d00df_15 (show up1 (zT S) (zX S) 104 b = 2 from (up1_n hbx).trans hb2) rfl rfl ?_
    refine r_aload_n dJ5_init_d00df_17 rfl 0 rfl ?_
    refine r_iconst (v := nI 0) dJ5_init_d00df_18 (by decide) ?_
    refine r_putI (ci := 1) (k := 1) dJ5_init_d00df_19 fw_J5_init_d00df_22 (show up1 (zT S) (zX S) 104 b = 2 from (up1_n hbx).trans hb2) rfl (by decide) (by decide) ?_
    refine r_goto (tgt := 38) dJ5_init_d00df_22 (by decide) ?_
    exact r_vret dJ5_init_d00df_38 rfl ⟨rfl, rfl⟩
set_option maxRecDepth 4000 in
set_option maxHeartbeats 400000 in
theorem j_sbNew {G : GI} {S : Hp} {b : Nat} (hb2 : zT S b = 2) (hF : FS S) (g1 : zX S + 1 ≤ gN G) (g2 : zU S + 16 ≤ gM G) : Fn m_J4_init_da8c8 G [.ref (b)] S none (uI (uP (nA S 104 16) 32 b (some (zX S))) 33 b (nI 0)) := by
  refine Cn.of rfl (by decide) (Nat.le_of_ble_eq_true rfl) (fun hN hM => ?_)
  show Wx _ G _ 0 [(0, .ref (b))] [] _
  refine r_aload_n dJ4_init_da8c8_0 rfl 0 rfl ?_
  refine r_bipush (v := nI 16) dJ4_init_da8c8_1 (by decide) ?_
  refine r_fnI (M2 := m_J5_init_d00df) (As := [.int (nI (16))]) (rest := []) (v := none) dJ4_init_da8c8_3 cc_J4_init_da8c8_1 rfl rfl rfl (Nat.le_of_ble_eq_true rfl) (j_sb5 hb2 hF g1 g2) rfl ?_
  exact r_vret dJ4_init_da8c8_6 rfl ⟨rfl, rfl⟩
