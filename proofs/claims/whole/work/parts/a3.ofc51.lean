/-! THE REPORT MADE; what LotInspector makes -/
theorem fn_sb : fN RX10 9 1 4 := ⟨_, _, _, ck_1, (sg1 198 rfl rfl), (sg1 199 rfl rfl), (sg1 8 rfl rfl), by decide⟩
theorem fn_xoffice : fN RX12 7 9 9 := ⟨_, _, _, ck_9, (sg1 47 rfl rfl), (sg1 48 rfl rfl), (sg1 2 rfl rfl), by decide⟩
theorem fn_xdrawer : fN RX12 26 6 6 := ⟨_, _, _, ck_6, (sg1 156 rfl rfl), (sg2 24 rfl rfl), (sg1 13 rfl rfl), by decide⟩
theorem fn_xcommands : fN RX12 32 5 7 := ⟨_, _, _, ck_5, (sg1 158 rfl rfl), (sg1 159 rfl rfl), (sg1 5 rfl rfl), by decide⟩
theorem fn_xreport : fN RX12 39 12 1 := ⟨_, _, _, ck_12, (sg1 192 rfl rfl), (sg1 193 rfl rfl), (sg1 6 rfl rfl), by decide⟩
theorem fn_xrecall : fN RX12 46 11 2 := ⟨_, _, _, ck_11, (sg1 236 rfl rfl), (sg1 237 rfl rfl), (sg1 11 rfl rfl), by decide⟩
theorem fn_xchance : fN RX12 53 4 1 := ⟨_, _, _, ck_4, (sg2 11 rfl rfl), (sg2 12 rfl rfl), (sg1 12 rfl rfl), by decide⟩
theorem fn_xtrial : fN RX12 60 10 9 := ⟨_, _, _, ck_10, (sg2 22 rfl rfl), (sg1 79 rfl rfl), (sg1 4 rfl rfl), by decide⟩
set_option maxRecDepth 4000 in
set_option maxHeartbeats 400000 in
theorem k_reportInit {G : GI} {S : Hp} {b : Nat} (hb2 : zT S b = 13) (hF : FS S) (g1 : zX S + 2 ≤ gN G) (g2 : zU S + 20 ≤ gM G) : Fn m_X10_init G [.ref (b)] S none (uP (uI (uP (nA (nO S 2 4) 104 16) 32 (zX S) (some (zX S + 1))) 33 (zX S) (nI 0)) 384 b (some (zX S))) := by
  refine Cn.of rfl (by decide) (Nat.le_of_ble_eq_true rfl) (fun hN hM => ?_)
  show Wx _ G _ 0 [(0, .ref (b))] [] _
  refine r_aload_n dX10_init_0 rfl 0 rfl ?_
  refine r_objInit dX10_init_1 (sg1 197 rfl rfl) (sg1 45 rfl rfl) (sg1 46 rfl rfl) (by decide) (by decide) ?_
  refine r_aload_n dX10_init_4 rfl 0 rfl ?_
  have hbx : b < zX S := jFS_lt hF (by rw [hb2]; decide)
  have hF2 : FS (nO S 2 4) := fun a ha => (up1_n (show a ≠ zX S from Nat.ne_of_gt ha)).trans (hF a (Nat.le_of_succ_le ha))
  refine r_new (ci := 1) dX10_init_5 fn_sb (by omega) (by omega) ?_
  refine r_dup dX10_init_8 rfl ?_
  refine r_fnI (M2 := m_J4_init_da8c8) (As := []) (rest := [.ref (zX S), .ref (b)]) (v := none) dX10_init_9 cc_X10_init_11 rfl rfl rfl (Nat.le_of_ble_eq_true rfl) (j_sbNew (S := nO S 2 4) (b := zX S) up1_s hF2 (show zX S + 1 + 1 ≤ gN G by omega) (show zU S + 4 + 16 ≤ gM G by omega)) rfl ?_
  refine r_putP (ci := 12) (k := 0) (x := some (zX S)) dX10_init_12 fw_X10_init_12 (show up1 (up1 (zT S) (zX S) 2) (zX S + 1) 104 b = 13 from (up1_n (show b ≠ zX S + 1 by omega)).trans ((up1_n (show b ≠ zX S by omega)).trans hb2)) rfl rfl ?_
  exact r_vret dX10_init_15 rfl ⟨rfl, rfl⟩
