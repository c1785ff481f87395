theorem rw1 : rowI 1 10002 := Or.inl ⟨rfl, rfl⟩
theorem rw2 : rowI 2 10002 := Or.inr (Or.inl ⟨rfl, rfl⟩)
theorem rw3 : rowI 3 10002 := Or.inr (Or.inr (Or.inl ⟨rfl, rfl⟩))
theorem rw4 : rowI 4 80016 := Or.inr (Or.inr (Or.inr (Or.inl ⟨rfl, rfl⟩)))
theorem rw8 : rowI 8 88 := Or.inr (Or.inr (Or.inr (Or.inr (Or.inl ⟨rfl, rfl⟩))))
theorem rw9 : rowI 9 60 := Or.inr (Or.inr (Or.inr (Or.inr (Or.inr (Or.inl ⟨rfl, rfl⟩)))))
theorem rw10 : rowI 10 160 := Or.inr (Or.inr (Or.inr (Or.inr (Or.inr (Or.inr (⟨rfl, rfl⟩))))))
theorem rw5 : rowZ 5 200 := Or.inl ⟨rfl, rfl⟩
theorem rw7 : rowZ 7 4800 := Or.inr ⟨rfl, rfl⟩
set_option maxRecDepth 4000 in
theorem f_at {G : GI} {S : Hp} {l w : Nat} : Fn m_X13_at G [.int (nI l), .int (nI w)] S (some (.int (nI (90 + 13 * l + w)))) S := by
  refine Cn.of rfl (by decide) (Nat.le_of_ble_eq_true rfl) (fun hN hM => ?_)
  show Wx _ G _ 0 [(0, .int (nI (l))), (1, .int (nI (w)))] [] _
  refine r_bipush (v := nI 90) dX13_at_0 (by decide) ?_
  refine r_bipush (v := nI 13) dX13_at_2 (by decide) ?_
  refine r_iload_n dX13_at_4 rfl 0 rfl ?_
  refine r_imulN dX13_at_5 ?_
  refine r_iaddN dX13_at_6 ?_
  refine r_iload_n dX13_at_7 rfl 1 rfl ?_
  refine r_iaddN dX13_at_8 ?_
  exact r_iret (ty := .int) dX13_at_9 rfl rfl ⟨rfl, rfl⟩
set_option maxRecDepth 4000 in
theorem f_spot {G : GI} {S : Hp} {l u : Nat} : Fn m_X13_spot G [.int (nI l), .int (nI u)] S (some (.int (nI (402 + 2 * (200 * l + u))))) S := by
  refine Cn.of rfl (by decide) (Nat.le_of_ble_eq_true rfl) (fun hN hM => ?_)
  show Wx _ G _ 0 [(0, .int (nI (l))), (1, .int (nI (u)))] [] _
  refine r_sipush (v := nI 402) dX13_spot_0 (by decide) ?_
  refine r_iconst (v := nI 2) dX13_spot_3 (by decide) ?_
  refine r_sipush (v := nI 200) dX13_spot_4 (by decide) ?_
  refine r_iload_n dX13_spot_7 rfl 0 rfl ?_
  refine r_imulN dX13_spot_8 ?_
  refine r_iload_n dX13_spot_9 rfl 1 rfl ?_
  refine r_iaddN dX13_spot_10 ?_
  refine r_imulN dX13_spot_11 ?_
  refine r_iaddN dX13_spot_12 ?_
  exact r_iret (ty := .int) dX13_spot_13 rfl rfl ⟨rfl, rfl⟩
set_option maxRecDepth 4000 in
theorem f_size {G : GI} {T : Hp} {m : Nat} {V : RVal} {od : Nat → UInt64} (hs : RS T m) {l : Nat} (hl : l < 24) : Fn m_X13_size G [.ref m, .int (nI l)] (rput T m V od) (some (.int (V 1 (90 + 13 * l + 1)))) (rput T m V od) := by
  refine Cn.of rfl (by decide) (Nat.le_of_ble_eq_true rfl) (fun hN hM => ?_)
  show Wx _ G _ 0 [(0, .ref (m)), (1, .int (nI (l)))] [] _
  refine r_aload_n dX13_size_0 rfl 0 rfl ?_
  refine m_ref (k := 0) (j := 1) hs hs.2.1.1 dX13_size_1 fr_X13_7 rfl ?_
  refine r_iload_n dX13_size_4 rfl 1 rfl ?_
  refine r_iconst (v := nI 1) dX13_size_5 (by decide) ?_
  refine r_fnS (M2 := m_X13_at) (As := [.int (nI (l)), .int (nI (1))]) (rest := [.ref (m + 1)]) (v := some (.int (nI (90 + 13 * l + 1)))) dX13_size_6 cc_X13_size_72 rfl rfl rfl (Nat.le_of_ble_eq_true rfl) f_at rfl ?_
  refine m_iald (j := 1) (n := 10002) (i := 90 + 13 * l + 1) hs rw1 dX13_size_9 (by omega) (by decide) ?_
  exact r_iret (ty := .int) dX13_size_10 rfl rfl ⟨rfl, rfl⟩
