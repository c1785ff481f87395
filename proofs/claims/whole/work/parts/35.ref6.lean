set_option maxRecDepth 4000 in
theorem g_machineNow {G : GI} {T : Hp} {m : Nat} {V : RVal} {g : Nat → Nat} {od : Nat → UInt64} (hs : RS T m)  {a y z : Nat} (ha : a < 6) : Fn m_X13_machineNow G [.ref (m), .int (nI (a)), .int (nI (y)), .int (nI (z))] (rput T m (sg V g) od) (some (.int (nI (10 * (g (4 + 3 * a)) + (g (4 + 3 * a + 1)))))) (rput T m (sg V ((up1 (up1 g (4 + 3 * a) (y)) (4 + 3 * a + 1) (z)))) od) := by
  refine Cn.of rfl (by decide) (Nat.le_of_ble_eq_true rfl) (fun hN hM => ?_)
  show Wx _ G _ 0 [(0, .ref (m)), (1, .int (nI (a))), (2, .int (nI (y))), (3, .int (nI (z)))] [] _
  refine r_iconst (v := nI 4) dX13_machineNow_0 (by decide) ?_
  refine r_iconst (v := nI 3) dX13_machineNow_1 (by decide) ?_
  refine r_iload_n dX13_machineNow_2 rfl 1 rfl ?_
  refine r_imulN dX13_machineNow_3 ?_
  refine r_iaddN dX13_machineNow_4 ?_
  refine r_istore (lv' := [(4, .int (nI (4 + 3 * a))), (0, .ref (m)), (1, .int (nI (a))), (2, .int (nI (y))), (3, .int (nI (z)))]) dX13_machineNow_5 (by decide) rfl ?_
  refine r_bipush (v := nI 10) dX13_machineNow_7 (by decide) ?_
  refine r_aload_n dX13_machineNow_9 rfl 1 rfl ?_
  refine m_ref (k := 0) (j := 1) hs hs.2.1.1 dX13_machineNow_10 fr_X13_7 rfl ?_
  refine r_iload dX13_machineNow_13 0 rfl ?_
  refine g_iald (i := 4 + 3 * a) hs dX13_machineNow_15 (by omega) ?_
  refine r_imulN dX13_machineNow_16 ?_
  refine r_aload_n dX13_machineNow_17 rfl 1 rfl ?_
  refine m_ref (k := 0) (j := 1) hs hs.2.1.1 dX13_machineNow_18 fr_X13_7 rfl ?_
  refine r_iload dX13_machineNow_21 0 rfl ?_
  refine r_iconst (v := nI 1) dX13_machineNow_23 (by decide) ?_
  refine r_iaddN dX13_machineNow_24 ?_
  refine g_iald (i := 4 + 3 * a + 1) hs dX13_machineNow_25 (by omega) ?_
  refine r_iaddN dX13_machineNow_26 ?_
  refine r_istore (lv' := [(5, .int (nI (10 * (g (4 + 3 * a)) + (g (4 + 3 * a + 1))))), (4, .int (nI (4 + 3 * a))), (0, .ref (m)), (1, .int (nI (a))), (2, .int (nI (y))), (3, .int (nI (z)))]) dX13_machineNow_27 (by decide) rfl ?_
  refine r_aload_n dX13_machineNow_29 rfl 2 rfl ?_
  refine m_ref (k := 0) (j := 1) hs hs.2.1.1 dX13_machineNow_30 fr_X13_7 rfl ?_
  refine r_iload dX13_machineNow_33 1 rfl ?_
  refine r_iload_n dX13_machineNow_35 rfl 4 rfl ?_
  refine g_iast (i := 4 + 3 * a) (x := y) hs dX13_machineNow_36 (by omega) ?_
  refine r_aload_n dX13_machineNow_37 rfl 2 rfl ?_
  refine m_ref (k := 0) (j := 1) hs hs.2.1.1 dX13_machineNow_38 fr_X13_7 rfl ?_
  refine r_iload dX13_machineNow_41 1 rfl ?_
  refine r_iconst (v := nI 1) dX13_machineNow_43 (by decide) ?_
  refine r_iaddN dX13_machineNow_44 ?_
  refine r_iload_n dX13_machineNow_45 rfl 5 rfl ?_
  refine g_iast (i := 4 + 3 * a + 1) (x := z) hs dX13_machineNow_46 (by omega) ?_
  refine r_iload dX13_machineNow_47 0 rfl ?_
  exact r_iret (ty := .int) dX13_machineNow_49 rfl rfl ⟨rfl, rfl⟩
set_option maxRecDepth 4000 in
theorem g_productNow {G : GI} {T : Hp} {m : Nat} {V : RVal} {g : Nat → Nat} {od : Nat → UInt64} (hs : RS T m)  {a x y z : Nat} (ha : a < 4) : Fn m_X13_productNow G [.ref (m), .int (nI (a)), .int (nI (x)), .int (nI (y)), .int (nI (z))] (rput T m (sg V g) od) (some (.int (nI (g (22 + 10 * a))))) (rput T m (sg V ((up1 (up1 (up1 g (22 + 10 * a) (x)) (22 + 10 * a + 1) (y)) (22 + 10 * a + 2) (z)))) od) := by
  refine Cn.of rfl (by decide) (Nat.le_of_ble_eq_true rfl) (fun hN hM => ?_)
  show Wx _ G _ 0 [(0, .ref (m)), (1, .int (nI (a))), (2, .int (nI (x))), (3, .int (nI (y))), (4, .int (nI (z)))] [] _
  refine r_aload_n dX13_productNow_0 rfl 0 rfl ?_
  refine m_ref (k := 0) (j := 1) hs hs.2.1.1 dX13_productNow_1 fr_X13_7 rfl ?_
  refine r_bipush (v := nI 22) dX13_productNow_4 (by decide) ?_
  refine r_bipush (v := nI 10) dX13_productNow_6 (by decide) ?_
  refine r_iload_n dX13_productNow_8 rfl 1 rfl ?_
  refine r_imulN dX13_productNow_9 ?_
  refine r_iaddN dX13_productNow_10 ?_
  refine g_iald (i := 22 + 10 * a) hs dX13_productNow_11 (by omega) ?_
  refine r_istore (lv' := [(5, .int (nI (g (22 + 10 * a)))), (0, .ref (m)), (1, .int (nI (a))), (2, .int (nI (x))), (3, .int (nI (y))), (4, .int (nI (z)))]) dX13_productNow_12 (by decide) rfl ?_
  refine r_aload_n dX13_productNow_14 rfl 1 rfl ?_
  refine m_ref (k := 0) (j := 1) hs hs.2.1.1 dX13_productNow_15 fr_X13_7 rfl ?_
  refine r_bipush (v := nI 22) dX13_productNow_18 (by decide) ?_
  refine r_bipush (v := nI 10) dX13_productNow_20 (by decide) ?_
  refine r_iload_n dX13_productNow_22 rfl 2 rfl ?_
  refine r_imulN dX13_productNow_23 ?_
  refine r_iaddN dX13_productNow_24 ?_
  refine r_iload_n dX13_productNow_25 rfl 3 rfl ?_
  refine g_iast (i := 22 + 10 * a) (x := x) hs dX13_productNow_26 (by omega) ?_
  refine r_aload_n dX13_productNow_27 rfl 1 rfl ?_
  refine m_ref (k := 0) (j := 1) hs hs.2.1.1 dX13_productNow_28 fr_X13_7 rfl ?_
  refine r_bipush (v := nI 22) dX13_productNow_31 (by decide) ?_
  refine r_bipush (v := nI 10) dX13_productNow_33 (by decide) ?_
  refine r_iload_n dX13_productNow_35 rfl 2 rfl ?_
  refine r_imulN dX13_productNow_36 ?_
  refine r_iaddN dX13_productNow_37 ?_
  refine r_iconst (v := nI 1) dX13_productNow_38 (by decide) ?_
  refine r_iaddN dX13_productNow_39 ?_
  refine r_iload_n dX13_productNow_40 rfl 4 rfl ?_
  refine g_iast (i := 22 + 10 * a + 1) (x := y) hs dX13_productNow_41 (by omega) ?_
  refine r_aload_n dX13_productNow_42 rfl 1 rfl ?_
  refine m_ref (k := 0) (j := 1) hs hs.2.1.1 dX13_productNow_43 fr_X13_7 rfl ?_
  refine r_bipush (v := nI 22) dX13_productNow_46 (by decide) ?_
  refine r_bipush (v := nI 10) dX13_productNow_48 (by decide) ?_
  refine r_iload_n dX13_productNow_50 rfl 2 rfl ?_
  refine r_imulN dX13_productNow_51 ?_
  refine r_iaddN dX13_productNow_52 ?_
  refine r_iconst (v := nI 2) dX13_productNow_53 (by decide) ?_
  refine r_iaddN dX13_productNow_54 ?_
  refine r_iload dX13_productNow_55 5 rfl ?_
  refine g_iast (i := 22 + 10 * a + 2) (x := z) hs dX13_productNow_57 (by omega) ?_
  refine r_iload dX13_productNow_58 0 rfl ?_
  exact r_iret (ty := .int) dX13_productNow_60 rfl rfl ⟨rfl, rfl⟩
set_option maxRecDepth 4000 in
theorem g_seedNow {G : GI} {T : Hp} {m : Nat} {V : RVal} {g : Nat → Nat} {od : Nat → UInt64} (hs : RS T m)  {x : Nat} : Fn m_X13_seedNow G [.ref (m), .int (nI (x))] (rput T m (sg V g) od) (some (.int (nI (g (3))))) (rput T m (sg V ((up1 g (3) (x)))) od) := by
  refine Cn.of rfl (by decide) (Nat.le_of_ble_eq_true rfl) (fun hN hM => ?_)
  show Wx _ G _ 0 [(0, .ref (m)), (1, .int (nI (x)))] [] _
  refine r_aload_n dX13_seedNow_0 rfl 0 rfl ?_
  refine m_ref (k := 0) (j := 1) hs hs.2.1.1 dX13_seedNow_1 fr_X13_7 rfl ?_
  refine r_iconst (v := nI 3) dX13_seedNow_4 (by decide) ?_
  refine g_iald (i := 3) hs dX13_seedNow_5 (by omega) ?_
  refine r_istore_n (lv' := [(2, .int (nI (g (3)))), (0, .ref (m)), (1, .int (nI (x)))]) dX13_seedNow_6 rfl (by decide) rfl ?_
  refine r_aload_n dX13_seedNow_7 rfl 1 rfl ?_
  refine m_ref (k := 0) (j := 1) hs hs.2.1.1 dX13_seedNow_8 fr_X13_7 rfl ?_
  refine r_iconst (v := nI 3) dX13_seedNow_11 (by decide) ?_
  refine r_iload_n dX13_seedNow_12 rfl 2 rfl ?_
  refine g_iast (i := 3) (x := x) hs dX13_seedNow_13 (by omega) ?_
  refine r_iload_n dX13_seedNow_14 rfl 0 rfl ?_
  exact r_iret (ty := .int) dX13_seedNow_15 rfl rfl ⟨rfl, rfl⟩
def hdrG (g : Nat → Nat) (l : Nat) : Nat → Nat := (up1 (up1 (up1 (up1 (up1 (up1 (up1 (up1 (up1 (up1 (up1 (up1 (up1 g (90 + 13 * l + 0) (0)) (90 + 13 * l + 1) (0)) (90 + 13 * l + 2) (0)) (90 + 13 * l + 3) (0)) (90 + 13 * l + 4) (4294967295)) (90 + 13 * l + 5) (4294967295)) (90 + 13 * l + 6) (4294967295)) (90 + 13 * l + 7) (4294967295)) (90 + 13 * l + 8) (0)) (90 + 13 * l + 9) (0)) (90 + 13 * l + 10) (0)) (90 + 13 * l + 11) (0)) (90 + 13 * l + 12) (0))
def clrG (g : Nat → Nat) (l n : Nat) : Nat → Nat := fun i => if 402 + 2 * (200 * l) ≤ i ∧ i < 402 + 2 * (200 * l + n) then 0 else g i
theorem clr_0 {g : Nat → Nat} {l : Nat} : clrG g l 0 = g := by
  funext i; unfold clrG; rw [if_neg (by omega)]
theorem clr_s {g : Nat → Nat} {l u : Nat} : up1 (up1 (clrG g l u) (402 + 2 * (200 * l + u)) 0) (402 + 2 * (200 * l + u) + 1) 0 = clrG g l (u + 1) := by
  funext i
  unfold up1 clrG
  by_cases h1 : i = 402 + 2 * (200 * l + u) + 1
  · rw [if_pos h1, if_pos (by omega)]
  · rw [if_neg h1]
    by_cases h2 : i = 402 + 2 * (200 * l + u)
    · rw [if_pos h2, if_pos (by omega)]
    · rw [if_neg h2]
      by_cases h3 : 402 + 2 * (200 * l) ≤ i ∧ i < 402 + 2 * (200 * l + u)
      · rw [if_pos h3, if_pos (by omega)]
      · rw [if_neg h3, if_neg (by omega)]
def begH (g : Nat → Nat) (a p n k : Nat) : Nat → Nat := up1 (up1 (up1 (up1 (hdrG (up1 g 0 (g 0 + 1)) (g 0)) (90 + 13 * g 0 + 0) p) (90 + 13 * g 0 + 1) n) (90 + 13 * g 0 + 8) k) (90 + 13 * g 0 + 9) a
def begG (g : Nat → Nat) (a p n k : Nat) : Nat → Nat := clrG (begH g a p n k) (g 0) n
set_option maxRecDepth 4000 in
theorem g_begins {G : GI} {T : Hp} {m : Nat} {V : RVal} {g : Nat → Nat} {od : Nat → UInt64} (hs : RS T m)  {a p n k : Nat} (h0 : g 0 < 24) (hn : n ≤ 200) : Fn m_X13_begins G [.ref (m), .int (nI (a)), .int (nI (p)), .int (nI (n)), .int (nI (k))] (rput T m (sg V g) od) (some (.int (nI (g 0)))) (rput T m (sg V (begG g a p n k)) od) := by
  refine Cn.of rfl (by decide) (Nat.le_of_ble_eq_true rfl) (fun hN hM => ?_)
  show Wx _ G _ 0 [(0, .ref (m)), (1, .int (nI (a))), (2, .int (nI (p))), (3, .int (nI (n))), (4, .int (nI (k)))] [] _
  refine r_aload_n dX13_begins_0 rfl 0 rfl ?_
  refine m_ref (k := 0) (j := 1) hs hs.2.1.1 dX13_begins_1 fr_X13_7 rfl ?_
  refine r_iconst (v := nI 0) dX13_begins_4 (by decide) ?_
  refine g_iald (i := 0) hs dX13_begins_5 (by omega) ?_
  refine r_istore (lv' := [(5, .int (nI (g (0)))), (0, .ref (m)), (1, .int (nI (a))), (2, .int (nI (p))), (3, .int (nI (n))), (4, .int (nI (k)))]) dX13_begins_6 (by decide) rfl ?_
  refine r_aload_n dX13_begins_8 rfl 1 rfl ?_
  refine m_ref (k := 0) (j := 1) hs hs.2.1.1 dX13_begins_9 fr_X13_7 rfl ?_
  refine r_iconst (v := nI 0) dX13_begins_12 (by decide) ?_
  refine r_dup2 dX13_begins_13 rfl rfl ?_
  refine g_iald (i := 0) hs dX13_begins_14 (by omega) ?_
  refine r_iconst (v := nI 1) dX13_begins_15 (by decide) ?_
  refine r_iaddN dX13_begins_16 ?_
  refine g_iast (i := 0) (x := g (0) + 1) hs dX13_begins_17 (by omega) ?_
  refine r_iconst (v := nI 0) dX13_begins_18 (by decide) ?_
  refine r_istore (lv' := [(6, .int (nI (0))), (5, .int (nI (g (0)))), (0, .ref (m)), (1, .int (nI (a))), (2, .int (nI (p))), (3, .int (nI (n))), (4, .int (nI (k)))]) dX13_begins_19 (by decide) rfl ?_
  refine r_iload dX13_begins_21 0 rfl ?_
  refine r_bipush (v := nI 13) dX13_begins_23 (by decide) ?_
  refine r_icmp_geN (tgt := 64) dX13_begins_25 (by decide) (by omega) (by omega) (fun zz25 => ?_) (fun zz25 => ?_)
  · exact absurd zz25 (by decide)
  · refine r_aload_n dX13_begins_28 rfl 2 rfl ?_
    refine m_ref (k := 0) (j := 1) hs hs.2.1.1 dX13_begins_29 fr_X13_7 rfl ?_
    refine r_iload dX13_begins_32 1 rfl ?_
    refine r_iload dX13_begins_34 0 rfl ?_
    refine r_fnS (M2 := m_X13_at) (As := [.int (nI (g (0))), .int (nI (0))]) (rest := [.ref (m + 1)]) (v := some (.int (nI (90 + 13 * (g (0)) + 0)))) dX13_begins_36 cc_X13_begins_72 rfl rfl rfl (Nat.le_of_ble_eq_true rfl) f_at rfl ?_
    refine r_iload dX13_begins_39 0 rfl ?_
    refine r_iconst (v := nI 4) dX13_begins_41 (by decide) ?_
    refine r_icmp_ltN (tgt := 56) dX13_begins_42 (by decide) (by omega) (by omega) (fun zz42 => ?_) (fun zz42 => ?_)
    · refine r_iconst (v := nI 0) dX13_begins_56 (by decide) ?_
      refine g_iast (i := 90 + 13 * (g (0)) + 0) (x := 0) hs dX13_begins_57 (by omega) ?_
      refine r_iincN (k := 1) (lv' := [(6, .int (nI (1))), (5, .int (nI (g (0)))), (0, .ref (m)), (1, .int (nI (a))), (2, .int (nI (p))), (3, .int (nI (n))), (4, .int (nI (k)))]) dX13_begins_58 (by decide) 0 rfl (by decide) rfl ?_
      refine r_goto (tgt := 21) dX13_begins_61 (by decide) ?_
      refine r_iload dX13_begins_21 0 rfl ?_
      refine r_bipush (v := nI 13) dX13_begins_23 (by decide) ?_
      refine r_icmp_geN (tgt := 64) dX13_begins_25 (by decide) (by omega) (by omega) (fun zz25_1 => ?_) (fun zz25_1 => ?_)
      · exact absurd zz25_1 (by decide)
      · refine r_aload_n dX13_begins_28 rfl 2 rfl ?_
        refine m_ref (k := 0) (j := 1) hs hs.2.1.1 dX13_begins_29 fr_X13_7 rfl ?_
        refine r_iload dX13_begins_32 1 rfl ?_
        refine r_iload dX13_begins_34 0 rfl ?_
        refine r_fnS (M2 := m_X13_at) (As := [.int (nI (g (0))), .int (nI (1))]) (rest := [.ref (m + 1)]) (v := some (.int (nI (90 + 13 * (g (0)) + 1)))) dX13_begins_36 cc_X13_begins_72 rfl rfl rfl (Nat.le_of_ble_eq_true rfl) f_at rfl ?_
        refine r_iload dX13_begins_39 0 rfl ?_
        refine r_iconst (v := nI 4) dX13_begins_41 (by decide) ?_
        refine r_icmp_ltN (tgt := 56) dX13_begins_42 (by decide) (by omega) (by omega) (fun zz42_1 => ?_) (fun zz42_1 => ?_)
        · refine r_iconst (v := nI 0) dX13_begins_56 (by decide) ?_
          refine g_iast (i := 90 + 13 * (g (0)) + 1) (x := 0) hs dX13_begins_57 (by omega) ?_
          refine r_iincN (k := 1) (lv' := [(6, .int (nI (2))), (5, .int (nI (g (0)))), (0, .ref (m)), (1, .int (nI (a))), (2, .int (nI (p))), (3, .int (nI (n))), (4, .int (nI (k)))]) dX13_begins_58 (by decide) 0 rfl (by decide) rfl ?_
          refine r_goto (tgt := 21) dX13_begins_61 (by decide) ?_
          refine r_iload dX13_begins_21 0 rfl ?_
          refine r_bipush (v := nI 13) dX13_begins_23 (by decide) ?_
          refine r_icmp_geN (tgt := 64) dX13_begins_25 (by decide) (by omega) (by omega) (fun zz25_2 => ?_) (fun zz25_2 => ?_)
          · exact absurd zz25_2 (by decide)
          · refine r_aload_n dX13_begins_28 rfl 2 rfl ?_
            refine m_ref (k := 0) (j := 1) hs hs.2.1.1 dX13_begins_29 fr_X13_7 rfl ?_
            refine r_iload dX13_begins_32 1 rfl ?_
            refine r_iload dX13_begins_34 0 rfl ?_
            refine r_fnS (M2 := m_X13_at) (As := [.int (nI (g (0))), .int (nI (2))]) (rest := [.ref (m + 1)]) (v := some (.int (nI (90 + 13 * (g (0)) + 2)))) dX13_begins_36 cc_X13_begins_72 rfl rfl rfl (Nat.le_of_ble_eq_true rfl) f_at rfl ?_
            refine r_iload dX13_begins_39 0 rfl ?_
            refine r_iconst (v := nI 4) dX13_begins_41 (by decide) ?_
            refine r_icmp_ltN (tgt := 56) dX13_begins_42 (by decide) (by omega) (by omega) (fun zz42_2 => ?_) (fun zz42_2 => ?_)
            · refine r_iconst (v := nI 0) dX13_begins_56 (by decide) ?_
              refine g_iast (i := 90 + 13 * (g (0)) + 2) (x := 0) hs dX13_begins_57 (by omega) ?_
              refine r_iincN (k := 1) (lv' := [(6, .int (nI (3))), (5, .int (nI (g (0)))), (0, .ref (m)), (1, .int (nI (a))), (2, .int (nI (p))), (3, .int (nI (n))), (4, .int (nI (k)))]) dX13_begins_58 (by decide) 0 rfl (by decide) rfl ?_
              refine r_goto (tgt := 21) dX13_begins_61 (by decide) ?_
              refine r_iload dX13_begins_21 0 rfl ?_
              refine r_bipush (v := nI 13) dX13_begins_23 (by decide) ?_
              refine r_icmp_geN (tgt := 64) dX13_begins_25 (by decide) (by omega) (by omega) (fun zz25_3 => ?_) (fun zz25_3 => ?_)
              · exact absurd zz25_3 (by decide)
              · refine r_aload_n dX13_begins_28 rfl 2 rfl ?_
                refine m_ref (k := 0) (j := 1) hs hs.2.1.1 dX13_begins_29 fr_X13_7 rfl ?_
                refine r_iload dX13_begins_32 1 rfl ?_
                refine r_iload dX13_begins_34 0 rfl ?_
                refine r_fnS (M2 := m_X13_at) (As := [.int (nI (g (0))), .int (nI (3))]) (rest := [.ref (m + 1)]) (v := some (.int (nI (90 + 13 * (g (0)) + 3)))) dX13_begins_36 cc_X13_begins_72 rfl rfl rfl (Nat.le_of_ble_eq_true rfl) f_at rfl ?_
                refine r_iload dX13_begins_39 0 rfl ?_
                refine r_iconst (v := nI 4) dX13_begins_41 (by decide) ?_
                refine r_icmp_ltN (tgt := 56) dX13_begins_42 (by decide) (by omega) (by omega) (fun zz42_3 => ?_) (fun zz42_3 => ?_)
                · refine r_iconst (v := nI 0) dX13_begins_56 (by decide) ?_
                  refine g_iast (i := 90 + 13 * (g (0)) + 3) (x := 0) hs dX13_begins_57 (by omega) ?_
                  refine r_iincN (k := 1) (lv' := [(6, .int (nI (4))), (5, .int (nI (g (0)))), (0, .ref (m)), (1, .int (nI (a))), (2, .int (nI (p))), (3, .int (nI (n))), (4, .int (nI (k)))]) dX13_begins_58 (by decide) 0 rfl (by decide) rfl ?_
                  refine r_goto (tgt := 21) dX13_begins_61 (by decide) ?_
                  refine r_iload dX13_begins_21 0 rfl ?_
                  refine r_bipush (v := nI 13) dX13_begins_23 (by decide) ?_
                  refine r_icmp_geN (tgt := 64) dX13_begins_25 (by decide) (by omega) (by omega) (fun zz25_4 => ?_) (fun zz25_4 => ?_)
                  · exact absurd zz25_4 (by decide)
                  · refine r_aload_n dX13_begins_28 rfl 2 rfl ?_
                    refine m_ref (k := 0) (j := 1) hs hs.2.1.1 dX13_begins_29 fr_X13_7 rfl ?_
                    refine r_iload dX13_begins_32 1 rfl ?_
                    refine r_iload dX13_begins_34 0 rfl ?_
                    refine r_fnS (M2 := m_X13_at) (As := [.int (nI (g (0))), .int (nI (4))]) (rest := [.ref (m + 1)]) (v := some (.int (nI (90 + 13 * (g (0)) + 4)))) dX13_begins_36 cc_X13_begins_72 rfl rfl rfl (Nat.le_of_ble_eq_true rfl) f_at rfl ?_
                    refine r_iload dX13_begins_39 0 rfl ?_
                    refine r_iconst (v := nI 4) dX13_begins_41 (by decide) ?_
                    refine r_icmp_ltN (tgt := 56) dX13_begins_42 (by decide) (by omega) (by omega) (fun zz42_4 => ?_) (fun zz42_4 => ?_)
                    · exact absurd zz42_4 (by decide)
                    · refine r_iload dX13_begins_45 0 rfl ?_
                      refine r_bipush (v := nI 8) dX13_begins_47 (by decide) ?_
                      refine r_icmp_geN (tgt := 56) dX13_begins_49 (by decide) (by omega) (by omega) (fun zz49 => ?_) (fun zz49 => ?_)
                      · exact absurd zz49 (by decide)
                      · refine r_iconst (v := nI 4294967295) dX13_begins_52 (by decide) ?_
                        refine r_goto (tgt := 57) dX13_begins_53 (by decide) ?_
                        refine g_iast (i := 90 + 13 * (g (0)) + 4) (x := 4294967295) hs dX13_begins_57 (by omega) ?_
                        refine r_iincN (k := 1) (lv' := [(6, .int (nI (5))), (5, .int (nI (g (0)))), (0, .ref (m)), (1, .int (nI (a))), (2, .int (nI (p))), (3, .int (nI (n))), (4, .int (nI (k)))]) dX13_begins_58 (by decide) 0 rfl (by decide) rfl ?_
                        refine r_goto (tgt := 21) dX13_begins_61 (by decide) ?_
                        refine r_iload dX13_begins_21 0 rfl ?_
                        refine r_bipush (v := nI 13) dX13_begins_23 (by decide) ?_
                        refine r_icmp_geN (tgt := 64) dX13_begins_25 (by decide) (by omega) (by omega) (fun zz25_5 => ?_) (fun zz25_5 => ?_)
                        · exact absurd zz25_5 (by decide)
                        · refine r_aload_n dX13_begins_28 rfl 2 rfl ?_
                          refine m_ref (k := 0) (j := 1) hs hs.2.1.1 dX13_begins_29 fr_X13_7 rfl ?_
                          refine r_iload dX13_begins_32 1 rfl ?_
                          refine r_iload dX13_begins_34 0 rfl ?_
                          refine r_fnS (M2 := m_X13_at) (As := [.int (nI (g (0))), .int (nI (5))]) (rest := [.ref (m + 1)]) (v := some (.int (nI (90 + 13 * (g (0)) + 5)))) dX13_begins_36 cc_X13_begins_72 rfl rfl rfl (Nat.le_of_ble_eq_true rfl) f_at rfl ?_
                          refine r_iload dX13_begins_39 0 rfl ?_
                          refine r_iconst (v := nI 4) dX13_begins_41 (by decide) ?_
                          refine r_icmp_ltN (tgt := 56) dX13_begins_42 (by decide) (by omega) (by omega) (fun zz42_5 => ?_) (fun zz42_5 => ?_)
                          · exact absurd zz42_5 (by decide)
                          · refine r_iload dX13_begins_45 0 rfl ?_
                            refine r_bipush (v := nI 8) dX13_begins_47 (by decide) ?_
                            refine r_icmp_geN (tgt := 56) dX13_begins_49 (by decide) (by omega) (by omega) (fun zz49_1 => ?_) (fun zz49_1 => ?_)
                            · exact absurd zz49_1 (by decide)
                            · refine r_iconst (v := nI 4294967295) dX13_begins_52 (by decide) ?_
                              refine r_goto (tgt := 57) dX13_begins_53 (by decide) ?_
                              refine g_iast (i := 90 + 13 * (g (0)) + 5) (x := 4294967295) hs dX13_begins_57 (by omega) ?_
                              refine r_iincN (k := 1) (lv' := [(6, .int (nI (6))), (5, .int (nI (g (0)))), (0, .ref (m)), (1, .int (nI (a))), (2, .int (nI (p))), (3, .int (nI (n))), (4, .int (nI (k)))]) dX13_begins_58 (by decide) 0 rfl (by decide) rfl ?_
                              refine r_goto (tgt := 21) dX13_begins_61 (by decide) ?_
                              refine r_iload dX13_begins_21 0 rfl ?_
                              refine r_bipush (v := nI 13) dX13_begins_23 (by decide) ?_
                              refine r_icmp_geN (tgt := 64) dX13_begins_25 (by decide) (by omega) (by omega) (fun zz25_6 => ?_) (fun zz25_6 => ?_)
                              · exact absurd zz25_6 (by decide)
                              · refine r_aload_n dX13_begins_28 rfl 2 rfl ?_
                                refine m_ref (k := 0) (j := 1) hs hs.2.1.1 dX13_begins_29 fr_X13_7 rfl ?_
                                refine r_iload dX13_begins_32 1 rfl ?_
                                refine r_iload dX13_begins_34 0 rfl ?_
                                refine r_fnS (M2 := m_X13_at) (As := [.int (nI (g (0))), .int (nI (6))]) (rest := [.ref (m + 1)]) (v := some (.int (nI (90 + 13 * (g (0)) + 6)))) dX13_begins_36 cc_X13_begins_72 rfl rfl rfl (Nat.le_of_ble_eq_true rfl) f_at rfl ?_
                                refine r_iload dX13_begins_39 0 rfl ?_
                                refine r_iconst (v := nI 4) dX13_begins_41 (by decide) ?_
                                refine r_icmp_ltN (tgt := 56) dX13_begins_42 (by decide) (by omega) (by omega) (fun zz42_6 => ?_) (fun zz42_6 => ?_)
                                · exact absurd zz42_6 (by decide)
                                · refine r_iload dX13_begins_45 0 rfl ?_
                                  refine r_bipush (v := nI 8) dX13_begins_47 (by decide) ?_
                                  refine r_icmp_geN (tgt := 56) dX13_begins_49 (by decide) (by omega) (by omega) (fun zz49_2 => ?_) (fun zz49_2 => ?_)
                                  · exact absurd zz49_2 (by decide)
                                  · refine r_iconst (v := nI 4294967295) dX13_begins_52 (by decide) ?_
                                    refine r_goto (tgt := 57) dX13_begins_53 (by decide) ?_
                                    refine g_iast (i := 90 + 13 * (g (0)) + 6) (x := 4294967295) hs dX13_begins_57 (by omega) ?_
                                    refine r_iincN (k := 1) (lv' := [(6, .int (nI (7))), (5, .int (nI (g (0)))), (0, .ref (m)), (1, .int (nI (a))), (2, .int (nI (p))), (3, .int (nI (n))), (4, .int (nI (k)))]) dX13_begins_58 (by decide) 0 rfl (by decide) rfl ?_
                                    refine r_goto (tgt := 21) dX13_begins_61 (by decide) ?_
                                    refine r_iload dX13_begins_21 0 rfl ?_
                                    refine r_bipush (v := nI 13) dX13_begins_23 (by decide) ?_
                                    refine r_icmp_geN (tgt := 64) dX13_begins_25 (by decide) (by omega) (by omega) (fun zz25_7 => ?_) (fun zz25_7 => ?_)
                                    · exact absurd zz25_7 (by decide)
                                    · refine r_aload_n dX13_begins_28 rfl 2 rfl ?_
                                      refine m_ref (k := 0) (j := 1) hs hs.2.1.1 dX13_begins_29 fr_X13_7 rfl ?_
                                      refine r_iload dX13_begins_32 1 rfl ?_
                                      refine r_iload dX13_begins_34 0 rfl ?_
                                      refine r_fnS (M2 := m_X13_at) (As := [.int (nI (g (0))), .int (nI (7))]) (rest := [.ref (m + 1)]) (v := some (.int (nI (90 + 13 * (g (0)) + 7)))) dX13_begins_36 cc_X13_begins_72 rfl rfl rfl (Nat.le_of_ble_eq_true rfl) f_at rfl ?_
                                      refine r_iload dX13_begins_39 0 rfl ?_
                                      refine r_iconst (v := nI 4) dX13_begins_41 (by decide) ?_
                                      refine r_icmp_ltN (tgt := 56) dX13_begins_42 (by decide) (by omega) (by omega) (fun zz42_7 => ?_) (fun zz42_7 => ?_)
                                      · exact absurd zz42_7 (by decide)
                                      · refine r_iload dX13_begins_45 0 rfl ?_
                                        refine r_bipush (v := nI 8) dX13_begins_47 (by decide) ?_
                                        refine r_icmp_geN (tgt := 56) dX13_begins_49 (by decide) (by omega) (by omega) (fun zz49_3 => ?_) (fun zz49_3 => ?_)
                                        · exact absurd zz49_3 (by decide)
                                        · refine r_iconst (v := nI 4294967295) dX13_begins_52 (by decide) ?_
                                          refine r_goto (tgt := 57) dX13_begins_53 (by decide) ?_
                                          refine g_iast (i := 90 + 13 * (g (0)) + 7) (x := 4294967295) hs dX13_begins_57 (by omega) ?_
                                          refine r_iincN (k := 1) (lv' := [(6, .int (nI (8))), (5, .int (nI (g (0)))), (0, .ref (m)), (1, .int (nI (a))), (2, .int (nI (p))), (3, .int (nI (n))), (4, .int (nI (k)))]) dX13_begins_58 (by decide) 0 rfl (by decide) rfl ?_
                                          refine r_goto (tgt := 21) dX13_begins_61 (by decide) ?_
                                          refine r_iload dX13_begins_21 0 rfl ?_
                                          refine r_bipush (v := nI 13) dX13_begins_23 (by decide) ?_
                                          refine r_icmp_geN (tgt := 64) dX13_begins_25 (by decide) (by omega) (by omega) (fun zz25_8 => ?_) (fun zz25_8 => ?_)
                                          · exact absurd zz25_8 (by decide)
                                          · refine r_aload_n dX13_begins_28 rfl 2 rfl ?_
                                            refine m_ref (k := 0) (j := 1) hs hs.2.1.1 dX13_begins_29 fr_X13_7 rfl ?_
                                            refine r_iload dX13_begins_32 1 rfl ?_
                                            refine r_iload dX13_begins_34 0 rfl ?_
                                            refine r_fnS (M2 := m_X13_at) (As := [.int (nI (g (0))), .int (nI (8))]) (rest := [.ref (m + 1)]) (v := some (.int (nI (90 + 13 * (g (0)) + 8)))) dX13_begins_36 cc_X13_begins_72 rfl rfl rfl (Nat.le_of_ble_eq_true rfl) f_at rfl ?_
                                            refine r_iload dX13_begins_39 0 rfl ?_
                                            refine r_iconst (v := nI 4) dX13_begins_41 (by decide) ?_
                                            refine r_icmp_ltN (tgt := 56) dX13_begins_42 (by decide) (by omega) (by omega) (fun zz42_8 => ?_) (fun zz42_8 => ?_)
                                            · exact absurd zz42_8 (by decide)
                                            · refine r_iload dX13_begins_45 0 rfl ?_
                                              refine r_bipush (v := nI 8) dX13_begins_47 (by decide) ?_
                                              refine r_icmp_geN (tgt := 56) dX13_begins_49 (by decide) (by omega) (by omega) (fun zz49_4 => ?_) (fun zz49_4 => ?_)
                                              · refine r_iconst (v := nI 0) dX13_begins_56 (by decide) ?_
                                                refine g_iast (i := 90 + 13 * (g (0)) + 8) (x := 0) hs dX13_begins_57 (by omega) ?_
                                                refine r_iincN (k := 1) (lv' := [(6, .int (nI (9))), (5, .int (nI (g (0)))), (0, .ref (m)), (1, .int (nI (a))), (2, .int (nI (p))), (3, .int (nI (n))), (4, .int (nI (k)))]) dX13_begins_58 (by decide) 0 rfl (by decide) rfl ?_
                                                refine r_goto (tgt := 21) dX13_begins_61 (by decide) ?_
                                                refine r_iload dX13_begins_21 0 rfl ?_
                                                refine r_bipush (v := nI 13) dX13_begins_23 (by decide) ?_
                                                refine r_icmp_geN (tgt := 64) dX13_begins_25 (by decide) (by omega) (by omega) (fun zz25_9 => ?_) (fun zz25_9 => ?_)
                                                · exact absurd zz25_9 (by decide)
                                                · refine r_aload_n dX13_begins_28 rfl 2 rfl ?_
                                                  refine m_ref (k := 0) (j := 1) hs hs.2.1.1 dX13_begins_29 fr_X13_7 rfl ?_
                                                  refine r_iload dX13_begins_32 1 rfl ?_
                                                  refine r_iload dX13_begins_34 0 rfl ?_
                                                  refine r_fnS (M2 := m_X13_at) (As := [.int (nI (g (0))), .int (nI (9))]) (rest := [.ref (m + 1)]) (v := some (.int (nI (90 + 13 * (g (0)) + 9)))) dX13_begins_36 cc_X13_begins_72 rfl rfl rfl (Nat.le_of_ble_eq_true rfl) f_at rfl ?_
                                                  refine r_iload dX13_begins_39 0 rfl ?_
                                                  refine r_iconst (v := nI 4) dX13_begins_41 (by decide) ?_
                                                  refine r_icmp_ltN (tgt := 56) dX13_begins_42 (by decide) (by omega) (by omega) (fun zz42_9 => ?_) (fun zz42_9 => ?_)
                                                  · exact absurd zz42_9 (by decide)
                                                  · refine r_iload dX13_begins_45 0 rfl ?_
                                                    refine r_bipush (v := nI 8) dX13_begins_47 (by decide) ?_
                                                    refine r_icmp_geN (tgt := 56) dX13_begins_49 (by decide) (by omega) (by omega) (fun zz49_5 => ?_) (fun zz49_5 => ?_)
                                                    · refine r_iconst (v := nI 0) dX13_begins_56 (by decide) ?_
                                                      refine g_iast (i := 90 + 13 * (g (0)) + 9) (x := 0) hs dX13_begins_57 (by omega) ?_
                                                      refine r_iincN (k := 1) (lv' := [(6, .int (nI (10))), (5, .int (nI (g (0)))), (0, .ref (m)), (1, .int (nI (a))), (2, .int (nI (p))), (3, .int (nI (n))), (4, .int (nI (k)))]) dX13_begins_58 (by decide) 0 rfl (by decide) rfl ?_
                                                      refine r_goto (tgt := 21) dX13_begins_61 (by decide) ?_
                                                      refine r_iload dX13_begins_21 0 rfl ?_
                                                      refine r_bipush (v := nI 13) dX13_begins_23 (by decide) ?_
                                                      refine r_icmp_geN (tgt := 64) dX13_begins_25 (by decide) (by omega) (by omega) (fun zz25_10 => ?_) (fun zz25_10 => ?_)
                                                      · exact absurd zz25_10 (by decide)
                                                      · refine r_aload_n dX13_begins_28 rfl 2 rfl ?_
                                                        refine m_ref (k := 0) (j := 1) hs hs.2.1.1 dX13_begins_29 fr_X13_7 rfl ?_
                                                        refine r_iload dX13_begins_32 1 rfl ?_
                                                        refine r_iload dX13_begins_34 0 rfl ?_
                                                        refine r_fnS (M2 := m_X13_at) (As := [.int (nI (g (0))), .int (nI (10))]) (rest := [.ref (m + 1)]) (v := some (.int (nI (90 + 13 * (g (0)) + 10)))) dX13_begins_36 cc_X13_begins_72 rfl rfl rfl (Nat.le_of_ble_eq_true rfl) f_at rfl ?_
                                                        refine r_iload dX13_begins_39 0 rfl ?_
                                                        refine r_iconst (v := nI 4) dX13_begins_41 (by decide) ?_
                                                        refine r_icmp_ltN (tgt := 56) dX13_begins_42 (by decide) (by omega) (by omega) (fun zz42_10 => ?_) (fun zz42_10 => ?_)
                                                        · exact absurd zz42_10 (by decide)
                                                        · refine r_iload dX13_begins_45 0 rfl ?_
                                                          refine r_bipush (v := nI 8) dX13_begins_47 (by decide) ?_
                                                          refine r_icmp_geN (tgt := 56) dX13_begins_49 (by decide) (by omega) (by omega) (fun zz49_6 => ?_) (fun zz49_6 => ?_)
                                                          · refine r_iconst (v := nI 0) dX13_begins_56 (by decide) ?_
                                                            refine g_iast (i := 90 + 13 * (g (0)) + 10) (x := 0) hs dX13_begins_57 (by omega) ?_
                                                            refine r_iincN (k := 1) (lv' := [(6, .int (nI (11))), (5, .int (nI (g (0)))), (0, .ref (m)), (1, .int (nI (a))), (2, .int (nI (p))), (3, .int (nI (n))), (4, .int (nI (k)))]) dX13_begins_58 (by decide) 0 rfl (by decide) rfl ?_
                                                            refine r_goto (tgt := 21) dX13_begins_61 (by decide) ?_
                                                            refine r_iload dX13_begins_21 0 rfl ?_
                                                            refine r_bipush (v := nI 13) dX13_begins_23 (by decide) ?_
                                                            refine r_icmp_geN (tgt := 64) dX13_begins_25 (by decide) (by omega) (by omega) (fun zz25_11 => ?_) (fun zz25_11 => ?_)
                                                            · exact absurd zz25_11 (by decide)
                                                            · refine r_aload_n dX13_begins_28 rfl 2 rfl ?_
                                                              refine m_ref (k := 0) (j := 1) hs hs.2.1.1 dX13_begins_29 fr_X13_7 rfl ?_
                                                              refine r_iload dX13_begins_32 1 rfl ?_
                                                              refine r_iload dX13_begins_34 0 rfl ?_
                                                              refine r_fnS (M2 := m_X13_at) (As := [.int (nI (g (0))), .int (nI (11))]) (rest := [.ref (m + 1)]) (v := some (.int (nI (90 + 13 * (g (0)) + 11)))) dX13_begins_36 cc_X13_begins_72 rfl rfl rfl (Nat.le_of_ble_eq_true rfl) f_at rfl ?_
                                                              refine r_iload dX13_begins_39 0 rfl ?_
                                                              refine r_iconst (v := nI 4) dX13_begins_41 (by decide) ?_
                                                              refine r_icmp_ltN (tgt := 56) dX13_begins_42 (by decide) (by omega) (by omega) (fun zz42_11 => ?_) (fun zz42_11 => ?_)
                                                              · exact absurd zz42_11 (by decide)
                                                              · refine r_iload dX13_begins_45 0 rfl ?_
                                                                refine r_bipush (v := nI 8) dX13_begins_47 (by decide) ?_
                                                                refine r_icmp_geN (tgt := 56) dX13_begins_49 (by decide) (by omega) (by omega) (fun zz49_7 => ?_) (fun zz49_7 => ?_)
                                                                · refine r_iconst (v := nI 0) dX13_begins_56 (by decide) ?_
                                                                  refine g_iast (i := 90 + 13 * (g (0)) + 11) (x := 0) hs dX13_begins_57 (by omega) ?_
                                                                  refine r_iincN (k := 1) (lv' := [(6, .int (nI (12))), (5, .int (nI (g (0)))), (0, .ref (m)), (1, .int (nI (a))), (2, .int (nI (p))), (3, .int (nI (n))), (4, .int (nI (k)))]) dX13_begins_58 (by decide) 0 rfl (by decide) rfl ?_
                                                                  refine r_goto (tgt := 21) dX13_begins_61 (by decide) ?_
                                                                  refine r_iload dX13_begins_21 0 rfl ?_
                                                                  refine r_bipush (v := nI 13) dX13_begins_23 (by decide) ?_
                                                                  refine r_icmp_geN (tgt := 64) dX13_begins_25 (by decide) (by omega) (by omega) (fun zz25_12 => ?_) (fun zz25_12 => ?_)
                                                                  · exact absurd zz25_12 (by decide)
                                                                  · refine r_aload_n dX13_begins_28 rfl 2 rfl ?_
                                                                    refine m_ref (k := 0) (j := 1) hs hs.2.1.1 dX13_begins_29 fr_X13_7 rfl ?_
                                                                    refine r_iload dX13_begins_32 1 rfl ?_
                                                                    refine r_iload dX13_begins_34 0 rfl ?_
                                                                    refine r_fnS (M2 := m_X13_at) (As := [.int (nI (g (0))), .int (nI (12))]) (rest := [.ref (m + 1)]) (v := some (.int (nI (90 + 13 * (g (0)) + 12)))) dX13_begins_36 cc_X13_begins_72 rfl rfl rfl (Nat.le_of_ble_eq_true rfl) f_at rfl ?_
                                                                    refine r_iload dX13_begins_39 0 rfl ?_
                                                                    refine r_iconst (v := nI 4) dX13_begins_41 (by decide) ?_
                                                                    refine r_icmp_ltN (tgt := 56) dX13_begins_42 (by decide) (by omega) (by omega) (fun zz42_12 => ?_) (fun zz42_12 => ?_)
                                                                    · exact absurd zz42_12 (by decide)
                                                                    · refine r_iload dX13_begins_45 0 rfl ?_
                                                                      refine r_bipush (v := nI 8) dX13_begins_47 (by decide) ?_
                                                                      refine r_icmp_geN (tgt := 56) dX13_begins_49 (by decide) (by omega) (by omega) (fun zz49_8 => ?_) (fun zz49_8 => ?_)
                                                                      · refine r_iconst (v := nI 0) dX13_begins_56 (by decide) ?_
                                                                        refine g_iast (i := 90 + 13 * (g (0)) + 12) (x := 0) hs dX13_begins_57 (by omega) ?_
                                                                        refine r_iincN (k := 1) (lv' := [(6, .int (nI (13))), (5, .int (nI (g (0)))), (0, .ref (m)), (1, .int (nI (a))), (2, .int (nI (p))), (3, .int (nI (n))), (4, .int (nI (k)))]) dX13_begins_58 (by decide) 0 rfl (by decide) rfl ?_
                                                                        refine r_goto (tgt := 21) dX13_begins_61 (by decide) ?_
                                                                        refine r_iload dX13_begins_21 0 rfl ?_
                                                                        refine r_bipush (v := nI 13) dX13_begins_23 (by decide) ?_
                                                                        refine r_icmp_geN (tgt := 64) dX13_begins_25 (by decide) (by omega) (by omega) (fun zz25_13 => ?_) (fun zz25_13 => ?_)
                                                                        · refine r_aload_n dX13_begins_64 rfl 2 rfl ?_
                                                                          refine m_ref (k := 0) (j := 1) hs hs.2.1.1 dX13_begins_65 fr_X13_7 rfl ?_
                                                                          refine r_iload dX13_begins_68 1 rfl ?_
                                                                          refine r_iconst (v := nI 0) dX13_begins_70 (by decide) ?_
                                                                          refine r_fnS (M2 := m_X13_at) (As := [.int (nI (g (0))), .int (nI (0))]) (rest := [.ref (m + 1)]) (v := some (.int (nI (90 + 13 * (g (0)) + 0)))) dX13_begins_71 cc_X13_begins_72 rfl rfl rfl (Nat.le_of_ble_eq_true rfl) f_at rfl ?_
                                                                          refine r_iload_n dX13_begins_74 rfl 4 rfl ?_
                                                                          refine g_iast (i := 90 + 13 * (g (0)) + 0) (x := p) hs dX13_begins_75 (by omega) ?_
                                                                          refine r_aload_n dX13_begins_76 rfl 2 rfl ?_
                                                                          refine m_ref (k := 0) (j := 1) hs hs.2.1.1 dX13_begins_77 fr_X13_7 rfl ?_
                                                                          refine r_iload dX13_begins_80 1 rfl ?_
                                                                          refine r_iconst (v := nI 1) dX13_begins_82 (by decide) ?_
                                                                          refine r_fnS (M2 := m_X13_at) (As := [.int (nI (g (0))), .int (nI (1))]) (rest := [.ref (m + 1)]) (v := some (.int (nI (90 + 13 * (g (0)) + 1)))) dX13_begins_83 cc_X13_begins_72 rfl rfl rfl (Nat.le_of_ble_eq_true rfl) f_at rfl ?_
                                                                          refine r_iload_n dX13_begins_86 rfl 5 rfl ?_
                                                                          refine g_iast (i := 90 + 13 * (g (0)) + 1) (x := n) hs dX13_begins_87 (by omega) ?_
                                                                          refine r_aload_n dX13_begins_88 rfl 2 rfl ?_
                                                                          refine m_ref (k := 0) (j := 1) hs hs.2.1.1 dX13_begins_89 fr_X13_7 rfl ?_
                                                                          refine r_iload dX13_begins_92 1 rfl ?_
                                                                          refine r_bipush (v := nI 8) dX13_begins_94 (by decide) ?_
                                                                          refine r_fnS (M2 := m_X13_at) (As := [.int (nI (g (0))), .int (nI (8))]) (rest := [.ref (m + 1)]) (v := some (.int (nI (90 + 13 * (g (0)) + 8)))) dX13_begins_96 cc_X13_begins_72 rfl rfl rfl (Nat.le_of_ble_eq_true rfl) f_at rfl ?_
                                                                          refine r_iload dX13_begins_99 6 rfl ?_
                                                                          refine g_iast (i := 90 + 13 * (g (0)) + 8) (x := k) hs dX13_begins_101 (by omega) ?_
                                                                          refine r_aload_n dX13_begins_102 rfl 2 rfl ?_
                                                                          refine m_ref (k := 0) (j := 1) hs hs.2.1.1 dX13_begins_103 fr_X13_7 rfl ?_
                                                                          refine r_iload dX13_begins_106 1 rfl ?_
                                                                          refine r_bipush (v := nI 9) dX13_begins_108 (by decide) ?_
                                                                          refine r_fnS (M2 := m_X13_at) (As := [.int (nI (g (0))), .int (nI (9))]) (rest := [.ref (m + 1)]) (v := some (.int (nI (90 + 13 * (g (0)) + 9)))) dX13_begins_110 cc_X13_begins_72 rfl rfl rfl (Nat.le_of_ble_eq_true rfl) f_at rfl ?_
                                                                          refine r_iload_n dX13_begins_113 rfl 3 rfl ?_
                                                                          refine g_iast (i := 90 + 13 * (g (0)) + 9) (x := a) hs dX13_begins_114 (by omega) ?_
                                                                          refine r_iconst (v := nI 0) dX13_begins_115 (by decide) ?_
                                                                          refine r_istore (lv' := [(6, .int (nI (0))), (5, .int (nI (g (0)))), (0, .ref (m)), (1, .int (nI (a))), (2, .int (nI (p))), (3, .int (nI (n))), (4, .int (nI (k)))]) dX13_begins_116 (by decide) rfl ?_
                                                                          refine Wx.st' (S' := rput T m (sg V (clrG (begH g a p n k) (g 0) 0)) od) (by rw [clr_0]; rfl) ?_
                                                                          refine Wx.sub [2, 3, 4, 5, 6, 1, 0] rfl ?_
                                                                          refine Wx.loop (fun u => rput T m (sg V (clrG (begH g a p n k) (g 0) u)) od) (fun u => [(0, .ref (m)), (1, .int (nI (a))), (2, .int (nI (p))), (3, .int (nI (n))), (4, .int (nI (k))), (5, .int (nI (g 0))), (6, .int (nI (u)))]) (n) (0) (Nat.zero_le _) (fun u hge hle next => ?_)
                                                                          show Wx _ G (rput T m (sg V (clrG (begH g a p n k) (g 0) u)) od) 118 [(0, .ref (m)), (1, .int (nI (a))), (2, .int (nI (p))), (3, .int (nI (n))), (4, .int (nI (k))), (5, .int (nI (g 0))), (6, .int (nI (u)))] [] _
                                                                          refine r_iload dX13_begins_118 6 rfl ?_
                                                                          refine r_iload_n dX13_begins_120 rfl 3 rfl ?_
                                                                          refine r_icmp_geN (tgt := 158) dX13_begins_121 (by decide) (by omega) (by omega) (fun h121 => ?_) (fun h121 => ?_)
                                                                          · refine r_iload dX13_begins_158 5 rfl ?_
                                                                            obtain rfl : u = n := by omega
                                                                            exact r_iret (ty := .int) dX13_begins_160 rfl rfl ⟨rfl, rfl⟩
                                                                          · refine r_aload_n dX13_begins_124 rfl 0 rfl ?_
                                                                            refine m_ref (k := 0) (j := 1) hs hs.2.1.1 dX13_begins_125 fr_X13_7 rfl ?_
                                                                            refine r_iload dX13_begins_128 5 rfl ?_
                                                                            refine r_iload dX13_begins_130 6 rfl ?_
                                                                            refine r_fnS (M2 := m_X13_spot) (As := [.int (nI (g 0)), .int (nI (u))]) (rest := [.ref (m + 1)]) (v := some (.int (nI (402 + 2 * (200 * (g 0) + u))))) dX13_begins_132 cc_X13_begins_84 rfl rfl rfl (Nat.le_of_ble_eq_true rfl) f_spot rfl ?_
                                                                            refine r_iconst (v := nI 0) dX13_begins_135 (by decide) ?_
                                                                            refine g_iast (i := 402 + 2 * (200 * (g 0) + u)) (x := 0) hs dX13_begins_136 (by omega) ?_
                                                                            refine r_aload_n dX13_begins_137 rfl 0 rfl ?_
                                                                            refine m_ref (k := 0) (j := 1) hs hs.2.1.1 dX13_begins_138 fr_X13_7 rfl ?_
                                                                            refine r_iload dX13_begins_141 5 rfl ?_
                                                                            refine r_iload dX13_begins_143 6 rfl ?_
                                                                            refine r_fnS (M2 := m_X13_spot) (As := [.int (nI (g 0)), .int (nI (u))]) (rest := [.ref (m + 1)]) (v := some (.int (nI (402 + 2 * (200 * (g 0) + u))))) dX13_begins_145 cc_X13_begins_84 rfl rfl rfl (Nat.le_of_ble_eq_true rfl) f_spot rfl ?_
                                                                            refine r_iconst (v := nI 1) dX13_begins_148 (by decide) ?_
                                                                            refine r_iaddN dX13_begins_149 ?_
                                                                            refine r_iconst (v := nI 0) dX13_begins_150 (by decide) ?_
                                                                            refine g_iast (i := 402 + 2 * (200 * (g 0) + u) + 1) (x := 0) hs dX13_begins_151 (by omega) ?_
                                                                            refine r_iincN (k := 1) (lv' := [(6, .int (nI (u + 1))), (0, .ref (m)), (1, .int (nI (a))), (2, .int (nI (p))), (3, .int (nI (n))), (4, .int (nI (k))), (5, .int (nI (g 0)))]) dX13_begins_152 (by decide) 6 rfl (by decide) rfl ?_
                                                                            refine r_goto (tgt := 118) dX13_begins_155 (by decide) ?_
                                                                            refine Wx.sub [1, 2, 3, 4, 5, 6, 0] rfl ?_
                                                                            have n2 := next (by omega)
                                                                            rw [← clr_s] at n2
                                                                            exact n2
                                                                        · exact absurd zz25_13 (by decide)
                                                                      · exact absurd zz49_8 (by decide)
                                                                · exact absurd zz49_7 (by decide)
                                                          · exact absurd zz49_6 (by decide)
                                                    · exact absurd zz49_5 (by decide)
                                              · exact absurd zz49_4 (by decide)
                · exact absurd zz42_3 (by decide)
            · exact absurd zz42_2 (by decide)
        · exact absurd zz42_1 (by decide)
    · exact absurd zz42 (by decide)
theorem cauG_lo {g : Nat → Nat} {l u k y i : Nat} (h : i < 402) : cauG g l u k y i = g i := by
  unfold cauG
  split
  · exact up1_n (by omega)
  · rfl
theorem wrkG_lo {g : Nat → Nat} {a l u i : Nat} (h : i < 402) (hi : i ≠ 4 + 3 * a + 2) : wrkG g a l u i = g i := by
  unfold wrkG
  split
  · exact up1_n hi
  · split
    · rw [cauG_lo h]; exact up1_n hi
    · exact up1_n hi
theorem wrkG_c {g : Nat → Nat} {a l u : Nat} (ha : a < 6) : wrkG g a l u (4 + 3 * a + 2) = g (4 + 3 * a + 2) + 1 := by
  unfold wrkG
  split
  · exact up1_s
  · split
    · rw [cauG_lo (by omega)]; exact up1_s
    · exact up1_s
theorem WB.wrk {g : Nat → Nat} {a l u : Nat} (ha : a < 6) (h2 : g (4 + 3 * a + 1) < 4) (hb : WB g) : WB (wrkG g a l u) := by
  unfold wrkG
  split
  · exact WB.lo (by omega) hb
  · split
    · exact WB.cau h2 (by decide) (WB.lo (by omega) hb)
    · exact WB.lo (by omega) hb
def wrkI (g : Nat → Nat) (a l : Nat) : Nat → Nat → Nat
  | 0 => g
  | u + 1 => wrkG (wrkI g a l u) a l u
theorem wrkI_lo {g : Nat → Nat} {a l i : Nat} (h : i < 402) (hi : i ≠ 4 + 3 * a + 2) : ∀ u, wrkI g a l u i = g i
  | 0 => rfl
  | u + 1 => (wrkG_lo h hi).trans (wrkI_lo h hi u)
theorem wrkI_c {g : Nat → Nat} {a l : Nat} (ha : a < 6) : ∀ u, wrkI g a l u (4 + 3 * a + 2) = g (4 + 3 * a + 2) + u
  | 0 => rfl
  | u + 1 => (wrkG_c ha).trans (by rw [wrkI_c ha u]; omega)
theorem WB.wrkI {g : Nat → Nat} {a l : Nat} (ha : a < 6) (h2 : g (4 + 3 * a + 1) < 4) (hb : WB g) : ∀ u, WB (wrkI g a l u)
  | 0 => hb
  | u + 1 => WB.wrk ha (by rw [wrkI_lo (by omega) (by omega)]; exact h2) (WB.wrkI ha h2 hb u)
theorem begH_hi {g : Nat → Nat} {a p n k i : Nat} (h0 : g 0 < 24) (hi : 402 ≤ i) : begH g a p n k i = g i := by
  unfold begH hdrG
  repeat rw [up1_n (by omega)]
theorem begG_hi {g : Nat → Nat} {a p n k i : Nat} (h0 : g 0 < 24) (hi : 402 ≤ i) (hx : i < 402 + 2 * (200 * g 0) ∨ 402 + 2 * (200 * g 0 + n) ≤ i) : begG g a p n k i = g i := by
  unfold begG clrG
  rw [if_neg (by omega)]
  exact begH_hi h0 hi
theorem begG_lo {g : Nat → Nat} {a p n k i : Nat} (h1 : 1 ≤ i) (hi : i < 90 + 13 * g 0) : begG g a p n k i = g i := by
  unfold begG clrG
  rw [if_neg (by omega)]
  unfold begH hdrG
  repeat rw [up1_n (by omega)]
theorem begG_0 {g : Nat → Nat} {a p n k : Nat} : begG g a p n k 0 = g 0 + 1 := by
  unfold begG clrG
  rw [if_neg (by omega)]
  unfold begH hdrG
  repeat rw [up1_n (by omega)]
  exact up1_s
theorem begG_1 {g : Nat → Nat} {a p n k : Nat} (h0 : g 0 < 24) : begG g a p n k (90 + 13 * g 0 + 1) = n := by
  unfold begG clrG
  rw [if_neg (by omega)]
  unfold begH
  rw [up1_n (by omega), up1_n (by omega)]
  exact up1_s
theorem WB.beg {g : Nat → Nat} {a p n k : Nat} (h0 : g 0 < 24) (hb : WB g) : WB (begG g a p n k) := fun i hi => by
  unfold begG clrG
  split
  · decide
  · rw [begH_hi h0 hi]; exact hb i hi
set_option maxRecDepth 4000 in
theorem g_rawNow {G : GI} {T : Hp} {m : Nat} {V : RVal} {g : Nat → Nat} {od : Nat → UInt64} (hs : RS T m)  (hb : WB g) {a p n : Nat} (h0 : g 0 < 24) (hn : n ≤ 200) (ha : a < 6) (h1 : g (4 + 3 * a) ≤ 50) (h2 : g (4 + 3 * a + 1) < 4) (h3 : g (4 + 3 * a + 2) < 2147470000) : Fn m_X13_rawNow G [.ref (m), .int (nI (a)), .int (nI (p)), .int (nI (n))] (rput T m (sg V g) od) (some (.int (nI (g 0)))) (rput T m (sg V (wrkI (begG g a p n 0) a (g 0) n)) od) := by
  refine Cn.of rfl (by decide) (Nat.le_of_ble_eq_true rfl) (fun hN hM => ?_)
  show Wx _ G _ 0 [(0, .ref (m)), (1, .int (nI (a))), (2, .int (nI (p))), (3, .int (nI (n)))] [] _
  refine r_aload_n dX13_rawNow_0 rfl 0 rfl ?_
  refine r_iload_n dX13_rawNow_1 rfl 1 rfl ?_
  refine r_iload_n dX13_rawNow_2 rfl 2 rfl ?_
  refine r_iload_n dX13_rawNow_3 rfl 3 rfl ?_
  refine r_iconst (v := nI 0) dX13_rawNow_4 (by decide) ?_
  refine r_fnV (M2 := m_X13_begins) (As := [.int (nI (a)), .int (nI (p)), .int (nI (n)), .int (nI (0))]) (rest := []) (v := some (.int (nI (g 0)))) dX13_rawNow_5 cc_X13_rawNow_162 rfl rfl rfl (Nat.le_of_ble_eq_true rfl) hs.1 rfl rfl (by decide) (g_begins hs h0 (by omega)) rfl ?_
  refine r_istore (lv' := [(4, .int (nI (g 0))), (0, .ref (m)), (1, .int (nI (a))), (2, .int (nI (p))), (3, .int (nI (n)))]) dX13_rawNow_8 (by decide) rfl ?_
  refine r_iconst (v := nI 0) dX13_rawNow_10 (by decide) ?_
  refine r_istore (lv' := [(5, .int (nI (0))), (4, .int (nI (g 0))), (0, .ref (m)), (1, .int (nI (a))), (2, .int (nI (p))), (3, .int (nI (n)))]) dX13_rawNow_11 (by decide) rfl ?_
  refine Wx.sub [2, 3, 4, 5, 1, 0] rfl ?_
  refine Wx.loop (fun u => rput T m (sg V (wrkI (begG g a p n 0) a (g 0) u)) od) (fun u => [(0, .ref (m)), (1, .int (nI (a))), (2, .int (nI (p))), (3, .int (nI (n))), (4, .int (nI (g 0))), (5, .int (nI (u)))]) (n) (0) (Nat.zero_le _) (fun u hge hle next => ?_)
  show Wx _ G (rput T m (sg V (wrkI (begG g a p n 0) a (g 0) u)) od) 13 [(0, .ref (m)), (1, .int (nI (a))), (2, .int (nI (p))), (3, .int (nI (n))), (4, .int (nI (g 0))), (5, .int (nI (u)))] [] _
  refine r_iload dX13_rawNow_13 5 rfl ?_
  refine r_iload_n dX13_rawNow_15 rfl 3 rfl ?_
  refine r_icmp_geN (tgt := 34) dX13_rawNow_16 (by decide) (by omega) (by omega) (fun h16 => ?_) (fun h16 => ?_)
  · refine r_iload dX13_rawNow_34 4 rfl ?_
    obtain rfl : u = n := by omega
    exact r_iret (ty := .int) dX13_rawNow_36 rfl rfl ⟨rfl, rfl⟩
  · refine r_aload_n dX13_rawNow_19 rfl 0 rfl ?_
    refine r_iload_n dX13_rawNow_20 rfl 1 rfl ?_
    refine r_iload dX13_rawNow_21 4 rfl ?_
    refine r_iload dX13_rawNow_23 5 rfl ?_
    refine r_fnV (M2 := m_X13_works) (As := [.int (nI (a)), .int (nI (g 0)), .int (nI (u))]) (rest := []) (v := none) dX13_rawNow_25 cc_X13_rawNow_165 rfl rfl rfl (Nat.le_of_ble_eq_true rfl) hs.1 rfl rfl (by decide) (g_works hs (WB.wrkI ha (by rw [begG_lo (by omega) (by omega)]; exact h2) (WB.beg h0 hb) u) (by omega) (by omega) (by omega) (by rw [wrkI_lo (by omega) (by omega), begG_lo (by omega) (by omega)]; exact h1) (by rw [wrkI_lo (by omega) (by omega), begG_lo (by omega) (by omega)]; exact h2) (by rw [wrkI_c ha, begG_lo (by omega) (by omega)]; omega)) rfl ?_
    refine r_iincN (k := 1) (lv' := [(5, .int (nI (u + 1))), (0, .ref (m)), (1, .int (nI (a))), (2, .int (nI (p))), (3, .int (nI (n))), (4, .int (nI (g 0)))]) dX13_rawNow_28 (by decide) 5 rfl (by decide) rfl ?_
    refine r_goto (tgt := 13) dX13_rawNow_31 (by decide) ?_
    refine Wx.sub [1, 2, 3, 4, 5, 0] rfl ?_
    exact next (by omega)
set_option maxRecDepth 4000 in
theorem g_nextHere {G : GI} {T : Hp} {m : Nat} {V : RVal} {g : Nat → Nat} {od : Nat → UInt64} (hs : RS T m)  (hb : WB g) {l f e : Nat} (hl : l < 24) (hfe : f ≤ e) (he : e < 200) (h0e : sW (g (402 + 2 * (200 * l + e))) = 0) (hne : ∀ v, f ≤ v → v < e → ¬ sW (g (402 + 2 * (200 * l + v))) = 0) : Fn m_X13_nextHere G [.ref (m), .int (nI (l)), .int (nI (f))] (rput T m (sg V g) od) (some (.int (nI (e)))) (rput T m (sg V g) od) := by
  refine Cn.of rfl (by decide) (Nat.le_of_ble_eq_true rfl) (fun hN hM => ?_)
  show Wx _ G _ 0 [(0, .ref (m)), (1, .int (nI (l))), (2, .int (nI (f)))] [] _
  refine r_iload_n dX13_nextHere_0 rfl 2 rfl ?_
  refine r_istore_n (lv' := [(3, .int (nI (f))), (0, .ref (m)), (1, .int (nI (l))), (2, .int (nI (f)))]) dX13_nextHere_1 rfl (by decide) rfl ?_
  refine Wx.sub [1, 2, 3, 0] rfl ?_
  refine Wx.loop (fun u => (rput T m (sg V g) od)) (fun u => [(0, .ref (m)), (1, .int (nI (l))), (2, .int (nI (f))), (3, .int (nI (u)))]) (e) (f) hfe (fun u hge hle next => ?_)
  show Wx _ G ((rput T m (sg V g) od)) 2 [(0, .ref (m)), (1, .int (nI (l))), (2, .int (nI (f))), (3, .int (nI (u)))] [] _
  refine r_aload_n dX13_nextHere_2 rfl 0 rfl ?_
  refine r_iload_n dX13_nextHere_3 rfl 1 rfl ?_
  refine r_iload_n dX13_nextHere_4 rfl 3 rfl ?_
  refine r_fnV (M2 := m_X13_state) (As := [.int (nI (l)), .int (nI (u))]) (rest := []) (v := some (.int (nI (sW (g (402 + 2 * (200 * l + u))))))) dX13_nextHere_5 cc_X13_nextHere_93 rfl rfl rfl (Nat.le_of_ble_eq_true rfl) hs.1 rfl rfl (by decide) (g_state hs hb (by (first | omega | (have := sW_lt (g (402 + 2 * (200 * l + u))); omega))) (by (first | omega | (have := sW_lt (g (402 + 2 * (200 * l + u))); omega)))) rfl ?_
  refine r_if_eqN (tgt := 17) dX13_nextHere_8 (by decide) (by (first | omega | (have := sW_lt (g (402 + 2 * (200 * l + u))); omega))) (fun h8 => ?_) (fun h8 => ?_)
  · refine r_iload_n dX13_nextHere_17 rfl 3 rfl ?_
    obtain rfl : u = e := Nat.le_antisymm hle (Nat.le_of_not_lt fun q => hne u hge q h8)
    exact r_iret (ty := .int) dX13_nextHere_18 rfl rfl ⟨rfl, rfl⟩
  · refine r_iincN (k := 1) (lv' := [(3, .int (nI (u + 1))), (0, .ref (m)), (1, .int (nI (l))), (2, .int (nI (f)))]) dX13_nextHere_11 (by decide) 3 rfl (by decide) rfl ?_
    refine r_goto (tgt := 2) dX13_nextHere_14 (by decide) ?_
    refine Wx.sub [1, 2, 3, 0] rfl ?_
    exact next (by have : u ≠ e := fun q => h8 (by rw [q]; exact h0e); omega)
def frE (e : Nat → Nat) : Nat → Nat
  | 0 => 0
  | u + 1 => e u + 1
def takS (g1 : Nat → Nat) (l k t u e : Nat) : Nat → Nat := up1 (up1 g1 (402 + 2 * (200 * l + u) + 1) (g1 (402 + 2 * (200 * l + u) + 1) ||| e * 2 ^ (8 * k))) (402 + 2 * (200 * l + u)) (g1 (402 + 2 * (200 * l + u)) ||| g1 (402 + 2 * (200 * t + e)) % 16)
def takI (g : Nat → Nat) (l k t : Nat) (e : Nat → Nat) : Nat → Nat → Nat
  | 0 => up1 g (90 + 13 * l + (10 + k)) t
  | u + 1 => takS (becG (takI g l k t e u) t (e u) 3) l k t u (e u)
/-- e counts the units of t that are here -/
def HereE (g : Nat → Nat) (t n : Nat) (e : Nat → Nat) : Prop := ∀ u, u < n → frE e u ≤ e u ∧ e u < 200 ∧ sW (g (402 + 2 * (200 * t + e u))) = 0 ∧ ∀ v, frE e u ≤ v → v < e u → ¬ sW (g (402 + 2 * (200 * t + v))) = 0
theorem takS_hi {g1 : Nat → Nat} {l k t u e i : Nat} (h : i ≠ 402 + 2 * (200 * l + u)) (h2 : i ≠ 402 + 2 * (200 * l + u) + 1) : takS g1 l k t u e i = g1 i := by
  unfold takS
  rw [up1_n h, up1_n h2]
theorem becG_n {g : Nat → Nat} {l u st i : Nat} (h : i ≠ 402 + 2 * (200 * l + u)) : becG g l u st i = g i := up1_n h
theorem takI_hd {g : Nat → Nat} {l k t i : Nat} {e : Nat → Nat} (h : i < 402) (h2 : i ≠ 90 + 13 * l + (10 + k)) : ∀ u, takI g l k t e u i = g i
  | 0 => up1_n h2
  | u + 1 => by
    show takS _ l k t u (e u) i = _
    rw [takS_hi (by omega) (by omega), becG_n (by omega)]
    exact takI_hd h h2 u
theorem takI_part {g : Nat → Nat} {l k t n : Nat} {e : Nat → Nat} (hl : l < 24) (hk : k < 3) (ht : t < 24) (hlt : l ≠ t) (hn : n ≤ 200) (he : HereE g t n e) : ∀ u, u ≤ n → ∀ v, frE e u ≤ v → v < 200 → takI g l k t e u (402 + 2 * (200 * t + v)) = g (402 + 2 * (200 * t + v))
  | 0, _, v, _, _ => up1_n (by omega)
  | u + 1, hu, v, hv, hv2 => by
    have hq : e u + 1 ≤ v := hv
    have h1 := (he u (by omega)).1
    show takS _ l k t u (e u) _ = _
    rw [takS_hi (by omega) (by omega), becG_n (by omega)]
    exact takI_part hl hk ht hlt hn he u (by omega) v (by omega) hv2
theorem WB.tak {g : Nat → Nat} {l k t n : Nat} {e : Nat → Nat} (hl : l < 24) (hk : k < 3) (he : HereE g t n e) (hb : WB g) : ∀ u, u ≤ n → WB (takI g l k t e u)
  | 0, _ => WB.lo (by omega) hb
  | u + 1, hu => by
    have h1 := WB.bec (l := t) (u := e u) (st := 3) (by decide) (WB.tak hl hk he hb u (by omega))
    have h2 := (he u (by omega)).2.1
    have h3 : 2 ^ (8 * k) ≤ 2 ^ 16 := Nat.pow_le_pow_right (by decide) (by omega)
    have h4 : e u * 2 ^ (8 * k) ≤ 199 * 2 ^ 16 := Nat.mul_le_mul (by omega) h3
    have h5 := h1 (402 + 2 * (200 * t + e u)) (by omega)
    exact WB.hi (Nat.or_lt_two_pow (n := 24) (h1 _ (by omega)) (by omega)) (WB.hi (Nat.or_lt_two_pow (n := 24) (h1 _ (by omega)) (by omega)) h1)
set_option maxRecDepth 4000 in
theorem g_takes {G : GI} {T : Hp} {m : Nat} {V : RVal} {g : Nat → Nat} {od : Nat → UInt64} (hs : RS T m)  (hb : WB g) {l k t : Nat} {e : Nat → Nat} (hl : l < 24) (hk : k < 3) (ht : t < 24) (hlt : l ≠ t) (hn : g (90 + 13 * l + 1) ≤ 200) (he : HereE g t (g (90 + 13 * l + 1)) e) : Fn m_X13_takes G [.ref (m), .int (nI (l)), .int (nI (k)), .int (nI (t))] (rput T m (sg V g) od) none (rput T m (sg V (takI g l k t e (g (90 + 13 * l + 1)))) od) := by
  refine Cn.of rfl (by decide) (Nat.le_of_ble_eq_true rfl) (fun hN hM => ?_)
  show Wx _ G _ 0 [(0, .ref (m)), (1, .int (nI (l))), (2, .int (nI (k))), (3, .int (nI (t)))] [] _
  refine r_aload_n dX13_takes_0 rfl 0 rfl ?_
  refine m_ref (k := 0) (j := 1) hs hs.2.1.1 dX13_takes_1 fr_X13_7 rfl ?_
  refine r_iload_n dX13_takes_4 rfl 1 rfl ?_
  refine r_bipush (v := nI 10) dX13_takes_5 (by decide) ?_
  refine r_iload_n dX13_takes_7 rfl 2 rfl ?_
  refine r_iaddN dX13_takes_8 ?_
  refine r_fnS (M2 := m_X13_at) (As := [.int (nI (l)), .int (nI (10 + k))]) (rest := [.ref (m + 1)]) (v := some (.int (nI (90 + 13 * l + (10 + k))))) dX13_takes_9 cc_X13_takes_72 rfl rfl rfl (Nat.le_of_ble_eq_true rfl) f_at rfl ?_
  refine r_iload_n dX13_takes_12 rfl 3 rfl ?_
  refine g_iast (i := 90 + 13 * l + (10 + k)) (x := t) hs dX13_takes_13 (by omega) ?_
  refine r_iconst (v := nI 0) dX13_takes_14 (by decide) ?_
  refine r_istore (lv' := [(4, .int (nI (0))), (0, .ref (m)), (1, .int (nI (l))), (2, .int (nI (k))), (3, .int (nI (t)))]) dX13_takes_15 (by decide) rfl ?_
  refine r_iconst (v := nI 0) dX13_takes_17 (by decide) ?_
  refine r_istore (lv' := [(5, .int (nI (0))), (4, .int (nI (0))), (0, .ref (m)), (1, .int (nI (l))), (2, .int (nI (k))), (3, .int (nI (t)))]) dX13_takes_18 (by decide) rfl ?_
  refine Wx.st' (S' := rput T m (sg V (takI g l k t e 0)) od) rfl ?_
  refine Wx.sub [2, 3, 4, 5, 1, 0] rfl ?_
  refine Wx.loop (fun u => rput T m (sg V (takI g l k t e u)) od) (fun u => [(0, .ref (m)), (1, .int (nI (l))), (2, .int (nI (k))), (3, .int (nI (t))), (4, .int (nI (frE e u))), (5, .int (nI (u)))]) (g (90 + 13 * l + 1)) (0) (Nat.zero_le _) (fun u hge hle next => ?_)
  show Wx _ G (rput T m (sg V (takI g l k t e u)) od) 20 [(0, .ref (m)), (1, .int (nI (l))), (2, .int (nI (k))), (3, .int (nI (t))), (4, .int (nI (frE e u))), (5, .int (nI (u)))] [] _
  have hwb := WB.tak hl hk he hb u hle
  refine r_iload dX13_takes_20 5 rfl ?_
  refine r_aload_n dX13_takes_22 rfl 0 rfl ?_
  refine r_iload_n dX13_takes_23 rfl 1 rfl ?_
  refine r_fnV (M2 := m_X13_size) (As := [.int (nI (l))]) (rest := [.int (nI (u))]) (v := some (.int (nI ((takI g l k t e u) (90 + 13 * l + 1))))) dX13_takes_24 cc_X13_takes_80 rfl rfl rfl (Nat.le_of_ble_eq_true rfl) hs.1 rfl rfl (by decide) (g_size hs (by omega)) rfl ?_
  refine Wx.topN (takI_hd (by omega) (by omega) u) ?_
  refine r_icmp_geN (tgt := 103) dX13_takes_27 (by decide) (by omega) (by omega) (fun h27 => ?_) (fun h27 => ?_)
  · obtain rfl : u = g (90 + 13 * l + 1) := by omega
    exact r_vret dX13_takes_103 rfl ⟨rfl, rfl⟩
  · obtain ⟨he1, he2, he3, he4⟩ := he u (by omega)
    have hpt := takI_part hl hk ht hlt hn he u (by omega)
    have hw1 := WB.bec (l := t) (u := e u) (st := 3) (by decide) hwb
    have hx1 := hw1 (402 + 2 * (200 * l + u)) (by omega)
    have hx2 := hw1 (402 + 2 * (200 * l + u) + 1) (by omega)
    have hx3 := hw1 (402 + 2 * (200 * t + e u)) (by omega)
    have hx4 : 2 ^ (8 * k) ≤ 2 ^ 16 := Nat.pow_le_pow_right (by decide) (by omega)
    have hx5 : e u * 2 ^ (8 * k) ≤ 199 * 2 ^ 16 := Nat.mul_le_mul (by omega) hx4
    have hx6 : (becG (takI g l k t e u) t (e u) 3) (402 + 2 * (200 * l + u) + 1) ||| e u * 2 ^ (8 * k) < 16777216 := Nat.or_lt_two_pow (n := 24) hx2 (by omega)
    refine r_aload_n dX13_takes_30 rfl 0 rfl ?_
    refine r_iload_n dX13_takes_31 rfl 3 rfl ?_
    refine r_iload dX13_takes_32 4 rfl ?_
    refine r_fnV (M2 := m_X13_nextHere) (As := [.int (nI (t)), .int (nI (frE e u))]) (rest := []) (v := some (.int (nI (e u)))) dX13_takes_34 cc_X13_takes_184 rfl rfl rfl (Nat.le_of_ble_eq_true rfl) hs.1 rfl rfl (by decide) (g_nextHere hs hwb (by omega) he1 he2 (by rw [hpt _ he1 he2]; exact he3) (fun v q1 q2 => by rw [hpt v q1 (by omega)]; exact he4 v q1 q2)) rfl ?_
    refine r_istore (lv' := [(6, .int (nI (e u))), (0, .ref (m)), (1, .int (nI (l))), (2, .int (nI (k))), (3, .int (nI (t))), (4, .int (nI (frE e u))), (5, .int (nI (u)))]) dX13_takes_37 (by decide) rfl ?_
    refine r_aload_n dX13_takes_39 rfl 1 rfl ?_
    refine r_iload_n dX13_takes_40 rfl 4 rfl ?_
    refine r_iload dX13_takes_41 0 rfl ?_
    refine r_iconst (v := nI 3) dX13_takes_43 (by decide) ?_
    refine r_fnV (M2 := m_X13_becomes) (As := [.int (nI (t)), .int (nI (e u)), .int (nI (3))]) (rest := []) (v := none) dX13_takes_44 cc_X13_takes_187 rfl rfl rfl (Nat.le_of_ble_eq_true rfl) hs.1 rfl rfl (by decide) (g_becomes hs hwb (by omega) (by omega) (by omega)) rfl ?_
    refine r_aload_n dX13_takes_47 rfl 1 rfl ?_
    refine m_ref (k := 0) (j := 1) hs hs.2.1.1 dX13_takes_48 fr_X13_7 rfl ?_
    refine r_iload_n dX13_takes_51 rfl 2 rfl ?_
    refine r_iload dX13_takes_52 6 rfl ?_
    refine r_fnS (M2 := m_X13_spot) (As := [.int (nI (l)), .int (nI (u))]) (rest := [.ref (m + 1)]) (v := some (.int (nI (402 + 2 * (200 * l + u))))) dX13_takes_54 cc_X13_takes_84 rfl rfl rfl (Nat.le_of_ble_eq_true rfl) f_spot rfl ?_
    refine r_iconst (v := nI 1) dX13_takes_57 (by decide) ?_
    refine r_iaddN dX13_takes_58 ?_
    refine r_dup2 dX13_takes_59 rfl rfl ?_
    refine g_iald (i := 402 + 2 * (200 * l + u) + 1) hs dX13_takes_60 (by omega) ?_
    refine r_iload dX13_takes_61 0 rfl ?_
    refine r_bipush (v := nI 8) dX13_takes_63 (by decide) ?_
    refine r_iload_n dX13_takes_65 rfl 3 rfl ?_
    refine r_imulN dX13_takes_66 ?_
    refine r_ishlN dX13_takes_67 (by omega) (by omega) ?_
    refine r_iorN dX13_takes_68 (by omega) (by omega) ?_
    refine g_iast (i := 402 + 2 * (200 * l + u) + 1) (x := ((becG (takI g l k t e u) t (e u) 3) (402 + 2 * (200 * l + u) + 1)) ||| ((e u) * 2 ^ (8 * k))) hs dX13_takes_69 (by omega) ?_
    refine r_aload_n dX13_takes_70 rfl 1 rfl ?_
    refine m_ref (k := 0) (j := 1) hs hs.2.1.1 dX13_takes_71 fr_X13_7 rfl ?_
    refine r_iload_n dX13_takes_74 rfl 2 rfl ?_
    refine r_iload dX13_takes_75 6 rfl ?_
    refine r_fnS (M2 := m_X13_spot) (As := [.int (nI (l)), .int (nI (u))]) (rest := [.ref (m + 1)]) (v := some (.int (nI (402 + 2 * (200 * l + u))))) dX13_takes_77 cc_X13_takes_84 rfl rfl rfl (Nat.le_of_ble_eq_true rfl) f_spot rfl ?_
    refine r_dup2 dX13_takes_80 rfl rfl ?_
    refine g_iald (i := 402 + 2 * (200 * l + u)) hs dX13_takes_81 (by omega) ?_
    refine Wx.topN (up1_n (by omega)) ?_
    refine r_aload_n dX13_takes_82 rfl 1 rfl ?_
    refine r_iload_n dX13_takes_83 rfl 4 rfl ?_
    refine r_iload dX13_takes_84 0 rfl ?_
    refine r_fnV (M2 := m_X13_defects) (As := [.int (nI (t)), .int (nI (e u))]) (rest := [.int (nI ((becG (takI g l k t e u) t (e u) 3) (402 + 2 * (200 * l + u)))), .int (nI (402 + 2 * (200 * l + u))), .ref (m + 1)]) (v := some (.int (nI (((up1 (becG (takI g l k t e u) t (e u) 3) (402 + 2 * (200 * l + u) + 1) (((becG (takI g l k t e u) t (e u) 3) (402 + 2 * (200 * l + u) + 1)) ||| ((e u) * 2 ^ (8 * k)))) (402 + 2 * (200 * t + (e u)))) % 16)))) dX13_takes_86 cc_X13_takes_87 rfl rfl rfl (Nat.le_of_ble_eq_true rfl) hs.1 rfl rfl (by decide) (g_defects hs (WB.hi (by omega) (WB.bec (by omega) hwb)) (by omega) (by omega)) rfl ?_
    refine Wx.topN (congrArg (fun x => x % 16) (up1_n (by omega))) ?_
    refine r_iorN dX13_takes_89 (by omega) (by omega) ?_
    refine g_iast (i := 402 + 2 * (200 * l + u)) (x := ((becG (takI g l k t e u) t (e u) 3) (402 + 2 * (200 * l + u))) ||| (((becG (takI g l k t e u) t (e u) 3) (402 + 2 * (200 * t + (e u)))) % 16)) hs dX13_takes_90 (by omega) ?_
    refine r_iload dX13_takes_91 0 rfl ?_
    refine r_iconst (v := nI 1) dX13_takes_93 (by decide) ?_
    refine r_iaddN dX13_takes_94 ?_
    refine r_istore (lv' := [(4, .int (nI (e u + 1))), (6, .int (nI (e u))), (0, .ref (m)), (1, .int (nI (l))), (2, .int (nI (k))), (3, .int (nI (t))), (5, .int (nI (u)))]) dX13_takes_95 (by decide) rfl ?_
    refine r_iincN (k := 1) (lv' := [(5, .int (nI (u + 1))), (4, .int (nI (e u + 1))), (6, .int (nI (e u))), (0, .ref (m)), (1, .int (nI (l))), (2, .int (nI (k))), (3, .int (nI (t)))]) dX13_takes_97 (by decide) 6 rfl (by decide) rfl ?_
    refine r_goto (tgt := 20) dX13_takes_100 (by decide) ?_
    refine Wx.sub [3, 4, 5, 6, 1, 0] rfl ?_
    exact next (by omega)
theorem fgtG_n {g : Nat → Nat} {e s i : Nat} (h : i < e + 3 ∨ e + 7 < i) : fgtG g e s i = g i := by
  unfold fgtG
  repeat rw [up1_n (by omega)]
theorem losG_n {g : Nat → Nat} {l u ks i : Nat} (h : i ≠ 402 + 2 * (200 * l + u)) : losG g l u ks i = g i := up1_n h
noncomputable def relN (g : Nat → Nat) (p : Nat) : Nat := cnt (fun l => g (90 + 13 * l + 0) = p ∧ g (90 + 13 * l + 2) = 0) (g 0)
set_option maxRecDepth 4000 in
theorem g_releaseNow {G : GI} {T : Hp} {m : Nat} {V : RVal} {g : Nat → Nat} {od : Nat → UInt64} (hs : RS T m)  {p : Nat} (hp : p < 4) (h24 : g 0 ≤ 24) (hP : ∀ l, l < g 0 → g (90 + 13 * l + 0) < 4 ∧ g (90 + 13 * l + 2) < 4) : Fn m_X13_releaseNow G [.ref (m), .int (nI (p))] (rput T m (sg V g) od) (some (.int (nI (relN g p)))) (rput T m (sg V (fgtG g (22 + 10 * p) 1)) od) := by
  refine Cn.of rfl (by decide) (Nat.le_of_ble_eq_true rfl) (fun hN hM => ?_)
  show Wx _ G _ 0 [(0, .ref (m)), (1, .int (nI (p)))] [] _
  refine r_aload_n dX13_releaseNow_0 rfl 0 rfl ?_
  refine r_bipush (v := nI 22) dX13_releaseNow_1 (by decide) ?_
  refine r_bipush (v := nI 10) dX13_releaseNow_3 (by decide) ?_
  refine r_iload_n dX13_releaseNow_5 rfl 1 rfl ?_
  refine r_imulN dX13_releaseNow_6 ?_
  refine r_iaddN dX13_releaseNow_7 ?_
  refine r_iconst (v := nI 1) dX13_releaseNow_8 (by decide) ?_
  refine r_fnV (M2 := m_X13_forgets) (As := [.int (nI (22 + 10 * p)), .int (nI (1))]) (rest := []) (v := none) dX13_releaseNow_9 cc_X13_releaseNow_146 rfl rfl rfl (Nat.le_of_ble_eq_true rfl) hs.1 rfl rfl (by decide) (g_forgets hs (by (first | omega | (have := hP u (by omega); omega)))) rfl ?_
  refine r_iconst (v := nI 0) dX13_releaseNow_12 (by decide) ?_
  refine r_istore_n (lv' := [(2, .int (nI (0))), (0, .ref (m)), (1, .int (nI (p)))]) dX13_releaseNow_13 rfl (by decide) rfl ?_
  refine r_iconst (v := nI 0) dX13_releaseNow_14 (by decide) ?_
  refine r_istore_n (lv' := [(3, .int (nI (0))), (2, .int (nI (0))), (0, .ref (m)), (1, .int (nI (p)))]) dX13_releaseNow_15 rfl (by decide) rfl ?_
  refine Wx.sub [2, 3, 1, 0] rfl ?_
  refine Wx.loop (fun u => rput T m (sg V (fgtG g (22 + 10 * p) 1)) od) (fun u => [(0, .ref (m)), (1, .int (nI (p))), (2, .int (nI (cnt (fun l => g (90 + 13 * l + 0) = p ∧ g (90 + 13 * l + 2) = 0) u))), (3, .int (nI (u)))]) (g 0) (0) (Nat.zero_le _) (fun u hge hle next => ?_)
  show Wx _ G (rput T m (sg V (fgtG g (22 + 10 * p) 1)) od) 16 [(0, .ref (m)), (1, .int (nI (p))), (2, .int (nI (cnt (fun l => g (90 + 13 * l + 0) = p ∧ g (90 + 13 * l + 2) = 0) u))), (3, .int (nI (u)))] [] _
  refine r_iload_n dX13_releaseNow_16 rfl 3 rfl ?_
  refine r_aload_n dX13_releaseNow_17 rfl 0 rfl ?_
  refine m_ref (k := 0) (j := 1) hs hs.2.1.1 dX13_releaseNow_18 fr_X13_7 rfl ?_
  refine r_iconst (v := nI 0) dX13_releaseNow_21 (by decide) ?_
  refine g_iald (i := 0) hs dX13_releaseNow_22 (by (first | omega | (have := hP u (by omega); omega))) ?_
  refine Wx.topN (fgtG_n (by (first | omega | (have := hP u (by omega); omega)))) ?_
  refine r_icmp_geN (tgt := 67) dX13_releaseNow_23 (by decide) (by (first | omega | (have := hP u (by omega); omega))) (by (first | omega | (have := hP u (by omega); omega))) (fun h23 => ?_) (fun h23 => ?_)
  · refine r_iload_n dX13_releaseNow_67 rfl 2 rfl ?_
    obtain rfl : u = g 0 := by omega
    exact r_iret (ty := .int) dX13_releaseNow_68 rfl rfl ⟨rfl, rfl⟩
  · refine r_iload_n dX13_releaseNow_26 rfl 2 rfl ?_
    refine r_aload_n dX13_releaseNow_27 rfl 0 rfl ?_
    refine m_ref (k := 0) (j := 1) hs hs.2.1.1 dX13_releaseNow_28 fr_X13_7 rfl ?_
    refine r_iload_n dX13_releaseNow_31 rfl 3 rfl ?_
    refine r_iconst (v := nI 0) dX13_releaseNow_32 (by decide) ?_
    refine r_fnS (M2 := m_X13_at) (As := [.int (nI (u)), .int (nI (0))]) (rest := [.ref (m + 1), .int (nI (cnt (fun l => g (90 + 13 * l + 0) = p ∧ g (90 + 13 * l + 2) = 0) u))]) (v := some (.int (nI (90 + 13 * u + 0)))) dX13_releaseNow_33 cc_X13_releaseNow_72 rfl rfl rfl (Nat.le_of_ble_eq_true rfl) f_at rfl ?_
    refine g_iald (i := 90 + 13 * u + 0) hs dX13_releaseNow_36 (by (first | omega | (have := hP u (by omega); omega))) ?_
    refine Wx.topN (fgtG_n (by (first | omega | (have := hP u (by omega); omega)))) ?_
    refine r_iload_n dX13_releaseNow_37 rfl 1 rfl ?_
    refine r_icmp_neN (tgt := 58) dX13_releaseNow_38 (by decide) (by (first | omega | (have := hP u (by omega); omega))) (by (first | omega | (have := hP u (by omega); omega))) (fun h38 => ?_) (fun h38 => ?_)
    · refine r_iconst (v := nI 0) dX13_releaseNow_58 (by decide) ?_
      refine r_iaddN dX13_releaseNow_59 ?_
      refine r_istore_n (lv' := [(2, .int (nI (cnt (fun l => g (90 + 13 * l + 0) = p ∧ g (90 + 13 * l + 2) = 0) u + 0))), (0, .ref (m)), (1, .int (nI (p))), (3, .int (nI (u)))]) dX13_releaseNow_60 rfl (by decide) rfl ?_
      refine r_iincN (k := 1) (lv' := [(3, .int (nI (u + 1))), (2, .int (nI (cnt (fun l => g (90 + 13 * l + 0) = p ∧ g (90 + 13 * l + 2) = 0) u + 0))), (0, .ref (m)), (1, .int (nI (p)))]) dX13_releaseNow_61 (by decide) 3 rfl (by decide) rfl ?_
      refine r_goto (tgt := 16) dX13_releaseNow_64 (by decide) ?_
      refine Wx.sub [2, 3, 1, 0] rfl ?_
      have n2 := next (by omega)
      first | exact n2 | (rw [cnt_t (p := fun l => g (90 + 13 * l + 0) = p ∧ g (90 + 13 * l + 2) = 0) (by first | assumption | exact ⟨by assumption, by assumption⟩)] at n2; exact n2) | (rw [cnt_f (p := fun l => g (90 + 13 * l + 0) = p ∧ g (90 + 13 * l + 2) = 0) (by first | assumption | (intro q; exact absurd q.1 (by assumption)) | (intro q; exact absurd q.2 (by assumption)))] at n2; exact n2)
    · refine r_aload_n dX13_releaseNow_41 rfl 0 rfl ?_
      refine m_ref (k := 0) (j := 1) hs hs.2.1.1 dX13_releaseNow_42 fr_X13_7 rfl ?_
      refine r_iload_n dX13_releaseNow_45 rfl 3 rfl ?_
      refine r_iconst (v := nI 2) dX13_releaseNow_46 (by decide) ?_
      refine r_fnS (M2 := m_X13_at) (As := [.int (nI (u)), .int (nI (2))]) (rest := [.ref (m + 1), .int (nI (cnt (fun l => g (90 + 13 * l + 0) = p ∧ g (90 + 13 * l + 2) = 0) u))]) (v := some (.int (nI (90 + 13 * u + 2)))) dX13_releaseNow_47 cc_X13_releaseNow_72 rfl rfl rfl (Nat.le_of_ble_eq_true rfl) f_at rfl ?_
      refine g_iald (i := 90 + 13 * u + 2) hs dX13_releaseNow_50 (by (first | omega | (have := hP u (by omega); omega))) ?_
      refine Wx.topN (fgtG_n (by (first | omega | (have := hP u (by omega); omega)))) ?_
      refine r_if_neN (tgt := 58) dX13_releaseNow_51 (by decide) (by (first | omega | (have := hP u (by omega); omega))) (fun h51 => ?_) (fun h51 => ?_)
      · refine r_iconst (v := nI 0) dX13_releaseNow_58 (by decide) ?_
        refine r_iaddN dX13_releaseNow_59 ?_
        refine r_istore_n (lv' := [(2, .int (nI (cnt (fun l => g (90 + 13 * l + 0) = p ∧ g (90 + 13 * l + 2) = 0) u + 0))), (0, .ref (m)), (1, .int (nI (p))), (3, .int (nI (u)))]) dX13_releaseNow_60 rfl (by decide) rfl ?_
        refine r_iincN (k := 1) (lv' := [(3, .int (nI (u + 1))), (2, .int (nI (cnt (fun l => g (90 + 13 * l + 0) = p ∧ g (90 + 13 * l + 2) = 0) u + 0))), (0, .ref (m)), (1, .int (nI (p)))]) dX13_releaseNow_61 (by decide) 3 rfl (by decide) rfl ?_
        refine r_goto (tgt := 16) dX13_releaseNow_64 (by decide) ?_
        refine Wx.sub [2, 3, 1, 0] rfl ?_
        have n2 := next (by omega)
        first | exact n2 | (rw [cnt_t (p := fun l => g (90 + 13 * l + 0) = p ∧ g (90 + 13 * l + 2) = 0) (by first | assumption | exact ⟨by assumption, by assumption⟩)] at n2; exact n2) | (rw [cnt_f (p := fun l => g (90 + 13 * l + 0) = p ∧ g (90 + 13 * l + 2) = 0) (by first | assumption | (intro q; exact absurd q.1 (by assumption)) | (intro q; exact absurd q.2 (by assumption)))] at n2; exact n2)
      · refine r_iconst (v := nI 1) dX13_releaseNow_54 (by decide) ?_
        refine r_goto (tgt := 59) dX13_releaseNow_55 (by decide) ?_
        refine r_iaddN dX13_releaseNow_59 ?_
        refine r_istore_n (lv' := [(2, .int (nI (cnt (fun l => g (90 + 13 * l + 0) = p ∧ g (90 + 13 * l + 2) = 0) u + 1))), (0, .ref (m)), (1, .int (nI (p))), (3, .int (nI (u)))]) dX13_releaseNow_60 rfl (by decide) rfl ?_
        refine r_iincN (k := 1) (lv' := [(3, .int (nI (u + 1))), (2, .int (nI (cnt (fun l => g (90 + 13 * l + 0) = p ∧ g (90 + 13 * l + 2) = 0) u + 1))), (0, .ref (m)), (1, .int (nI (p)))]) dX13_releaseNow_61 (by decide) 3 rfl (by decide) rfl ?_
        refine r_goto (tgt := 16) dX13_releaseNow_64 (by decide) ?_
        refine Wx.sub [2, 3, 1, 0] rfl ?_
        have n2 := next (by omega)
        first | exact n2 | (rw [cnt_t (p := fun l => g (90 + 13 * l + 0) = p ∧ g (90 + 13 * l + 2) = 0) (by first | assumption | exact ⟨by assumption, by assumption⟩)] at n2; exact n2) | (rw [cnt_f (p := fun l => g (90 + 13 * l + 0) = p ∧ g (90 + 13 * l + 2) = 0) (by first | assumption | (intro q; exact absurd q.1 (by assumption)) | (intro q; exact absurd q.2 (by assumption)))] at n2; exact n2)
theorem g_takesN {G : GI} {T : Hp} {m : Nat} {V : RVal} {g : Nat → Nat} {od : Nat → UInt64} (hs : RS T m) (hb : WB g) {l k t n : Nat} {e : Nat → Nat} (hl : l < 24) (hk : k < 3) (ht : t < 24) (hlt : l ≠ t) (hz : g (90 + 13 * l + 1) = n) (hn : n ≤ 200) (he : HereE g t n e) : Fn m_X13_takes G [.ref (m), .int (nI (l)), .int (nI (k)), .int (nI (t))] (rput T m (sg V g) od) none (rput T m (sg V (takI g l k t e n)) od) := by
  subst hz
  exact g_takes hs hb hl hk ht hlt hn he
theorem takI_oth {g : Nat → Nat} {l k t i : Nat} {e : Nat → Nat} {n : Nat} (he : HereE g t n e) (hl : i < 402 + 2 * (200 * l) ∨ 402 + 2 * (200 * l + n) ≤ i) (ht : i < 402 + 2 * (200 * t) ∨ 402 + 2 * (200 * t + 200) ≤ i) (hi : i ≠ 90 + 13 * l + (10 + k)) : ∀ u, u ≤ n → takI g l k t e u i = g i
  | 0, _ => up1_n hi
  | u + 1, hu => by
    have := (he u (by omega)).2.1
    show takS _ l k t u (e u) i = _
    rw [takS_hi (by omega) (by omega), becG_n (by omega)]
    exact takI_oth he hl ht hi u (by omega)
theorem HereE.congr {g g' : Nat → Nat} {t n : Nat} {e : Nat → Nat} (h : ∀ v, v < 200 → g' (402 + 2 * (200 * t + v)) = g (402 + 2 * (200 * t + v))) (he : HereE g t n e) : HereE g' t n e := fun u hu => by
  obtain ⟨h1, h2, h3, h4⟩ := he u hu
  exact ⟨h1, h2, by rw [h _ h2]; exact h3, fun v q1 q2 => by rw [h v (by omega)]; exact h4 v q1 q2⟩
set_option maxRecDepth 4000 in
theorem g_makeNow1 {G : GI} {T : Hp} {m : Nat} {V : RVal} {g : Nat → Nat} {od : Nat → UInt64} (hs : RS T m)  (hb : WB g) {a p n : Nat} (h0 : g 0 < 24) (hn : n ≤ 200) (ha : a < 6) (h1 : g (4 + 3 * a) ≤ 50) (h2 : g (4 + 3 * a + 1) < 4) (h3 : g (4 + 3 * a + 2) < 2147470000) {t0 : Nat} {e0 : Nat → Nat} (q0 : t0 < g 0) (he0 : HereE g t0 n e0) : Fn m_X13_makeNow G [.ref (m), .int (nI (a)), .int (nI (p)), .int (nI (n)), .int (nI (t0)), .int ((-1)), .int ((-1))] (rput T m (sg V g) od) (some (.int (nI (g 0)))) (rput T m (sg V (wrkI (takI (begG g a p n 1) (g 0) 0 t0 e0 n) a (g 0) n)) od) := by
  refine Cn.of rfl (by decide) (Nat.le_of_ble_eq_true rfl) (fun hN hM => ?_)
  show Wx _ G _ 0 [(0, .ref (m)), (1, .int (nI (a))), (2, .int (nI (p))), (3, .int (nI (n))), (4, .int (nI (t0))), (5, .int ((-1))), (6, .int ((-1)))] [] _
  have z0 : (begG g a p n 1) (90 + 13 * g 0 + 1) = n := begG_1 h0
  have b0 := WB.beg (a := a) (p := p) (n := n) (k := 1) h0 hb
  have f0 : HereE (begG g a p n 1) t0 n e0 := HereE.congr (fun v hv => begG_hi h0 (by omega) (by omega)) he0
  have z1 : (takI (begG g a p n 1) (g 0) 0 t0 e0 n) (90 + 13 * g 0 + 1) = n := (takI_hd (by omega) (by omega) n).trans z0
  have b1 := WB.tak (l := g 0) (k := 0) h0 (by decide) f0 b0 n (Nat.le_refl n)
  have m1 : (takI (begG g a p n 1) (g 0) 0 t0 e0 n) (4 + 3 * a) ≤ 50 := by rw [show (takI (begG g a p n 1) (g 0) 0 t0 e0 n) (4 + 3 * a) = g (4 + 3 * a) from (takI_hd (by omega) (by omega) n).trans (begG_lo (by omega) (by omega))]; exact h1
  have m2 : (takI (begG g a p n 1) (g 0) 0 t0 e0 n) (4 + 3 * a + 1) < 4 := by rw [show (takI (begG g a p n 1) (g 0) 0 t0 e0 n) (4 + 3 * a + 1) = g (4 + 3 * a + 1) from (takI_hd (by omega) (by omega) n).trans (begG_lo (by omega) (by omega))]; exact h2
  have m3 : (takI (begG g a p n 1) (g 0) 0 t0 e0 n) (4 + 3 * a + 2) < 2147470000 := by rw [show (takI (begG g a p n 1) (g 0) 0 t0 e0 n) (4 + 3 * a + 2) = g (4 + 3 * a + 2) from (takI_hd (by omega) (by omega) n).trans (begG_lo (by omega) (by omega))]; exact h3
  refine r_aload_n dX13_makeNow_0 rfl 0 rfl ?_
  refine r_iload_n dX13_makeNow_1 rfl 1 rfl ?_
  refine r_iload_n dX13_makeNow_2 rfl 2 rfl ?_
  refine r_iload_n dX13_makeNow_3 rfl 3 rfl ?_
  refine r_iload dX13_makeNow_4 6 rfl ?_
  refine r_if_lt (tgt := 13) dX13_makeNow_6 (by decide) (fun h6 => ?_) (fun h6 => ?_)
  · refine r_iload dX13_makeNow_13 5 rfl ?_
    refine r_if_lt (tgt := 22) dX13_makeNow_15 (by decide) (fun h15 => ?_) (fun h15 => ?_)
    · refine r_iconst (v := nI 1) dX13_makeNow_22 (by decide) ?_
      refine r_fnV (M2 := m_X13_begins) (As := [.int (nI (a)), .int (nI (p)), .int (nI (n)), .int (nI (1))]) (rest := []) (v := some (.int (nI (g 0)))) dX13_makeNow_23 cc_X13_makeNow_162 rfl rfl rfl (Nat.le_of_ble_eq_true rfl) hs.1 rfl rfl (by decide) (g_begins hs h0 (by omega)) rfl ?_
      refine r_istore (lv' := [(7, .int (nI (g 0))), (0, .ref (m)), (1, .int (nI (a))), (2, .int (nI (p))), (3, .int (nI (n))), (4, .int (nI (t0))), (5, .int ((-1))), (6, .int ((-1)))]) dX13_makeNow_26 (by decide) rfl ?_
      refine r_aload_n dX13_makeNow_28 rfl 1 rfl ?_
      refine r_iload dX13_makeNow_29 0 rfl ?_
      refine r_iconst (v := nI 0) dX13_makeNow_31 (by decide) ?_
      refine r_iload dX13_makeNow_32 5 rfl ?_
      refine r_fnV (M2 := m_X13_takes) (As := [.int (nI (g 0)), .int (nI (0)), .int (nI (t0))]) (rest := []) (v := none) dX13_makeNow_34 cc_X13_makeNow_190 rfl rfl rfl (Nat.le_of_ble_eq_true rfl) hs.1 rfl rfl (by decide) (g_takesN hs b0 h0 (by decide) (by omega) (by omega) z0 hn f0) rfl ?_
      refine r_iload dX13_makeNow_37 6 rfl ?_
      refine r_if_lt (tgt := 51) dX13_makeNow_39 (by decide) (fun h39 => ?_) (fun h39 => ?_)
      · refine r_iload dX13_makeNow_51 7 rfl ?_
        refine r_if_lt (tgt := 65) dX13_makeNow_53 (by decide) (fun h53 => ?_) (fun h53 => ?_)
        · refine r_iconst (v := nI 0) dX13_makeNow_65 (by decide) ?_
          refine r_istore (lv' := [(8, .int (nI (0))), (7, .int (nI (g 0))), (0, .ref (m)), (1, .int (nI (a))), (2, .int (nI (p))), (3, .int (nI (n))), (4, .int (nI (t0))), (5, .int ((-1))), (6, .int ((-1)))]) dX13_makeNow_66 (by decide) rfl ?_
          refine Wx.sub [2, 3, 4, 5, 6, 7, 8, 1, 0] rfl ?_
          refine Wx.loop (fun u => rput T m (sg V (wrkI (takI (begG g a p n 1) (g 0) 0 t0 e0 n) a (g 0) u)) od) (fun u => [(0, .ref (m)), (1, .int (nI (a))), (2, .int (nI (p))), (3, .int (nI (n))), (4, .int (nI (t0))), (5, .int ((-1))), (6, .int ((-1))), (7, .int (nI (g 0))), (8, .int (nI (u)))]) (n) (0) (Nat.zero_le _) (fun u hge hle next => ?_)
          show Wx _ G (rput T m (sg V (wrkI (takI (begG g a p n 1) (g 0) 0 t0 e0 n) a (g 0) u)) od) 68 [(0, .ref (m)), (1, .int (nI (a))), (2, .int (nI (p))), (3, .int (nI (n))), (4, .int (nI (t0))), (5, .int ((-1))), (6, .int ((-1))), (7, .int (nI (g 0))), (8, .int (nI (u)))] [] _
          refine r_iload dX13_makeNow_68 8 rfl ?_
          refine r_iload_n dX13_makeNow_70 rfl 3 rfl ?_
          refine r_icmp_geN (tgt := 89) dX13_makeNow_71 (by decide) (by omega) (by omega) (fun h71 => ?_) (fun h71 => ?_)
          · refine r_iload dX13_makeNow_89 7 rfl ?_
            obtain rfl : u = n := by omega
            exact r_iret (ty := .int) dX13_makeNow_91 rfl rfl ⟨rfl, rfl⟩
          · refine r_aload_n dX13_makeNow_74 rfl 0 rfl ?_
            refine r_iload_n dX13_makeNow_75 rfl 1 rfl ?_
            refine r_iload dX13_makeNow_76 7 rfl ?_
            refine r_iload dX13_makeNow_78 8 rfl ?_
            refine r_fnV (M2 := m_X13_works) (As := [.int (nI (a)), .int (nI (g 0)), .int (nI (u))]) (rest := []) (v := none) dX13_makeNow_80 cc_X13_makeNow_165 rfl rfl rfl (Nat.le_of_ble_eq_true rfl) hs.1 rfl rfl (by decide) (g_works hs (WB.wrkI ha m2 b1 u) (by omega) (by omega) (by omega) (by rw [wrkI_lo (by omega) (by omega)]; exact m1) (by rw [wrkI_lo (by omega) (by omega)]; exact m2) (by rw [wrkI_c ha]; omega)) rfl ?_
            refine r_iincN (k := 1) (lv' := [(8, .int (nI (u + 1))), (0, .ref (m)), (1, .int (nI (a))), (2, .int (nI (p))), (3, .int (nI (n))), (4, .int (nI (t0))), (5, .int ((-1))), (6, .int ((-1))), (7, .int (nI (g 0)))]) dX13_makeNow_83 (by decide) 8 rfl (by decide) rfl ?_
            refine r_goto (tgt := 68) dX13_makeNow_86 (by decide) ?_
            refine Wx.sub [1, 2, 3, 4, 5, 6, 7, 8, 0] rfl ?_
            exact next (by omega)
        · exact absurd (by decide : (-1 : Int32) < 0) h53
      · exact absurd (by decide : (-1 : Int32) < 0) h39
    · exact absurd (by decide : (-1 : Int32) < 0) h15
  · exact absurd (by decide : (-1 : Int32) < 0) h6
set_option maxRecDepth 4000 in
theorem g_makeNow2 {G : GI} {T : Hp} {m : Nat} {V : RVal} {g : Nat → Nat} {od : Nat → UInt64} (hs : RS T m)  (hb : WB g) {a p n : Nat} (h0 : g 0 < 24) (hn : n ≤ 200) (ha : a < 6) (h1 : g (4 + 3 * a) ≤ 50) (h2 : g (4 + 3 * a + 1) < 4) (h3 : g (4 + 3 * a + 2) < 2147470000) {t0 : Nat} {e0 : Nat → Nat} (q0 : t0 < g 0) (he0 : HereE g t0 n e0) {t1 : Nat} {e1 : Nat → Nat} (q1 : t1 < g 0) (he1 : HereE g t1 n e1) (n01 : t0 ≠ t1) : Fn m_X13_makeNow G [.ref (m), .int (nI (a)), .int (nI (p)), .int (nI (n)), .int (nI (t0)), .int (nI (t1)), .int ((-1))] (rput T m (sg V g) od) (some (.int (nI (g 0)))) (rput T m (sg V (wrkI (takI (takI (begG g a p n 2) (g 0) 0 t0 e0 n) (g 0) 1 t1 e1 n) a (g 0) n)) od) := by
  refine Cn.of rfl (by decide) (Nat.le_of_ble_eq_true rfl) (fun hN hM => ?_)
  show Wx _ G _ 0 [(0, .ref (m)), (1, .int (nI (a))), (2, .int (nI (p))), (3, .int (nI (n))), (4, .int (nI (t0))), (5, .int (nI (t1))), (6, .int ((-1)))] [] _
  have z0 : (begG g a p n 2) (90 + 13 * g 0 + 1) = n := begG_1 h0
  have b0 := WB.beg (a := a) (p := p) (n := n) (k := 2) h0 hb
  have f0 : HereE (begG g a p n 2) t0 n e0 := HereE.congr (fun v hv => begG_hi h0 (by omega) (by omega)) he0
  have z1 : (takI (begG g a p n 2) (g 0) 0 t0 e0 n) (90 + 13 * g 0 + 1) = n := (takI_hd (by omega) (by omega) n).trans z0
  have b1 := WB.tak (l := g 0) (k := 0) h0 (by decide) f0 b0 n (Nat.le_refl n)
  have f1 : HereE (takI (begG g a p n 2) (g 0) 0 t0 e0 n) t1 n e1 := HereE.congr (fun v hv => (takI_oth f0 (by omega) (by omega) (by omega) n (Nat.le_refl n)).trans (begG_hi h0 (by omega) (by omega))) he1
  have z2 : (takI (takI (begG g a p n 2) (g 0) 0 t0 e0 n) (g 0) 1 t1 e1 n) (90 + 13 * g 0 + 1) = n := (takI_hd (by omega) (by omega) n).trans z1
  have b2 := WB.tak (l := g 0) (k := 1) h0 (by decide) f1 b1 n (Nat.le_refl n)
  have m1 : (takI (takI (begG g a p n 2) (g 0) 0 t0 e0 n) (g 0) 1 t1 e1 n) (4 + 3 * a) ≤ 50 := by rw [show (takI (takI (begG g a p n 2) (g 0) 0 t0 e0 n) (g 0) 1 t1 e1 n) (4 + 3 * a) = g (4 + 3 * a) from (takI_hd (by omega) (by omega) n).trans ((takI_hd (by omega) (by omega) n).trans (begG_lo (by omega) (by omega)))]; exact h1
  have m2 : (takI (takI (begG g a p n 2) (g 0) 0 t0 e0 n) (g 0) 1 t1 e1 n) (4 + 3 * a + 1) < 4 := by rw [show (takI (takI (begG g a p n 2) (g 0) 0 t0 e0 n) (g 0) 1 t1 e1 n) (4 + 3 * a + 1) = g (4 + 3 * a + 1) from (takI_hd (by omega) (by omega) n).trans ((takI_hd (by omega) (by omega) n).trans (begG_lo (by omega) (by omega)))]; exact h2
  have m3 : (takI (takI (begG g a p n 2) (g 0) 0 t0 e0 n) (g 0) 1 t1 e1 n) (4 + 3 * a + 2) < 2147470000 := by rw [show (takI (takI (begG g a p n 2) (g 0) 0 t0 e0 n) (g 0) 1 t1 e1 n) (4 + 3 * a + 2) = g (4 + 3 * a + 2) from (takI_hd (by omega) (by omega) n).trans ((takI_hd (by omega) (by omega) n).trans (begG_lo (by omega) (by omega)))]; exact h3
  refine r_aload_n dX13_makeNow_0 rfl 0 rfl ?_
  refine r_iload_n dX13_makeNow_1 rfl 1 rfl ?_
  refine r_iload_n dX13_makeNow_2 rfl 2 rfl ?_
  refine r_iload_n dX13_makeNow_3 rfl 3 rfl ?_
  refine r_iload dX13_makeNow_4 6 rfl ?_
  refine r_if_lt (tgt := 13) dX13_makeNow_6 (by decide) (fun h6 => ?_) (fun h6 => ?_)
  · refine r_iload dX13_makeNow_13 5 rfl ?_
    refine r_if_ltN (tgt := 22) dX13_makeNow_15 (by decide) (by omega) ?_
    refine r_iconst (v := nI 2) dX13_makeNow_18 (by decide) ?_
    refine r_goto (tgt := 23) dX13_makeNow_19 (by decide) ?_
    refine r_fnV (M2 := m_X13_begins) (As := [.int (nI (a)), .int (nI (p)), .int (nI (n)), .int (nI (2))]) (rest := []) (v := some (.int (nI (g 0)))) dX13_makeNow_23 cc_X13_makeNow_162 rfl rfl rfl (Nat.le_of_ble_eq_true rfl) hs.1 rfl rfl (by decide) (g_begins hs h0 (by omega)) rfl ?_
    refine r_istore (lv' := [(7, .int (nI (g 0))), (0, .ref (m)), (1, .int (nI (a))), (2, .int (nI (p))), (3, .int (nI (n))), (4, .int (nI (t0))), (5, .int (nI (t1))), (6, .int ((-1)))]) dX13_makeNow_26 (by decide) rfl ?_
    refine r_aload_n dX13_makeNow_28 rfl 1 rfl ?_
    refine r_iload dX13_makeNow_29 0 rfl ?_
    refine r_iconst (v := nI 0) dX13_makeNow_31 (by decide) ?_
    refine r_iload dX13_makeNow_32 5 rfl ?_
    refine r_fnV (M2 := m_X13_takes) (As := [.int (nI (g 0)), .int (nI (0)), .int (nI (t0))]) (rest := []) (v := none) dX13_makeNow_34 cc_X13_makeNow_190 rfl rfl rfl (Nat.le_of_ble_eq_true rfl) hs.1 rfl rfl (by decide) (g_takesN hs b0 h0 (by decide) (by omega) (by omega) z0 hn f0) rfl ?_
    refine r_iload dX13_makeNow_37 6 rfl ?_
    refine r_if_ltN (tgt := 51) dX13_makeNow_39 (by decide) (by omega) ?_
    refine r_aload_n dX13_makeNow_42 rfl 1 rfl ?_
    refine r_iload dX13_makeNow_43 0 rfl ?_
    refine r_iconst (v := nI 1) dX13_makeNow_45 (by decide) ?_
    refine r_iload dX13_makeNow_46 6 rfl ?_
    refine r_fnV (M2 := m_X13_takes) (As := [.int (nI (g 0)), .int (nI (1)), .int (nI (t1))]) (rest := []) (v := none) dX13_makeNow_48 cc_X13_makeNow_190 rfl rfl rfl (Nat.le_of_ble_eq_true rfl) hs.1 rfl rfl (by decide) (g_takesN hs b1 h0 (by decide) (by omega) (by omega) z1 hn f1) rfl ?_
    refine r_iload dX13_makeNow_51 7 rfl ?_
    refine r_if_lt (tgt := 65) dX13_makeNow_53 (by decide) (fun h53 => ?_) (fun h53 => ?_)
    · refine r_iconst (v := nI 0) dX13_makeNow_65 (by decide) ?_
      refine r_istore (lv' := [(8, .int (nI (0))), (7, .int (nI (g 0))), (0, .ref (m)), (1, .int (nI (a))), (2, .int (nI (p))), (3, .int (nI (n))), (4, .int (nI (t0))), (5, .int (nI (t1))), (6, .int ((-1)))]) dX13_makeNow_66 (by decide) rfl ?_
      refine Wx.sub [2, 3, 4, 5, 6, 7, 8, 1, 0] rfl ?_
      refine Wx.loop (fun u => rput T m (sg V (wrkI (takI (takI (begG g a p n 2) (g 0) 0 t0 e0 n) (g 0) 1 t1 e1 n) a (g 0) u)) od) (fun u => [(0, .ref (m)), (1, .int (nI (a))), (2, .int (nI (p))), (3, .int (nI (n))), (4, .int (nI (t0))), (5, .int (nI (t1))), (6, .int ((-1))), (7, .int (nI (g 0))), (8, .int (nI (u)))]) (n) (0) (Nat.zero_le _) (fun u hge hle next => ?_)
      show Wx _ G (rput T m (sg V (wrkI (takI (takI (begG g a p n 2) (g 0) 0 t0 e0 n) (g 0) 1 t1 e1 n) a (g 0) u)) od) 68 [(0, .ref (m)), (1, .int (nI (a))), (2, .int (nI (p))), (3, .int (nI (n))), (4, .int (nI (t0))), (5, .int (nI (t1))), (6, .int ((-1))), (7, .int (nI (g 0))), (8, .int (nI (u)))] [] _
      refine r_iload dX13_makeNow_68 8 rfl ?_
      refine r_iload_n dX13_makeNow_70 rfl 3 rfl ?_
      refine r_icmp_geN (tgt := 89) dX13_makeNow_71 (by decide) (by omega) (by omega) (fun h71 => ?_) (fun h71 => ?_)
      · refine r_iload dX13_makeNow_89 7 rfl ?_
        obtain rfl : u = n := by omega
        exact r_iret (ty := .int) dX13_makeNow_91 rfl rfl ⟨rfl, rfl⟩
      · refine r_aload_n dX13_makeNow_74 rfl 0 rfl ?_
        refine r_iload_n dX13_makeNow_75 rfl 1 rfl ?_
        refine r_iload dX13_makeNow_76 7 rfl ?_
        refine r_iload dX13_makeNow_78 8 rfl ?_
        refine r_fnV (M2 := m_X13_works) (As := [.int (nI (a)), .int (nI (g 0)), .int (nI (u))]) (rest := []) (v := none) dX13_makeNow_80 cc_X13_makeNow_165 rfl rfl rfl (Nat.le_of_ble_eq_true rfl) hs.1 rfl rfl (by decide) (g_works hs (WB.wrkI ha m2 b2 u) (by omega) (by omega) (by omega) (by rw [wrkI_lo (by omega) (by omega)]; exact m1) (by rw [wrkI_lo (by omega) (by omega)]; exact m2) (by rw [wrkI_c ha]; omega)) rfl ?_
        refine r_iincN (k := 1) (lv' := [(8, .int (nI (u + 1))), (0, .ref (m)), (1, .int (nI (a))), (2, .int (nI (p))), (3, .int (nI (n))), (4, .int (nI (t0))), (5, .int (nI (t1))), (6, .int ((-1))), (7, .int (nI (g 0)))]) dX13_makeNow_83 (by decide) 8 rfl (by decide) rfl ?_
        refine r_goto (tgt := 68) dX13_makeNow_86 (by decide) ?_
        refine Wx.sub [1, 2, 3, 4, 5, 6, 7, 8, 0] rfl ?_
        exact next (by omega)
    · exact absurd (by decide : (-1 : Int32) < 0) h53
  · exact absurd (by decide : (-1 : Int32) < 0) h6
set_option maxRecDepth 4000 in
theorem g_makeNow3 {G : GI} {T : Hp} {m : Nat} {V : RVal} {g : Nat → Nat} {od : Nat → UInt64} (hs : RS T m)  (hb : WB g) {a p n : Nat} (h0 : g 0 < 24) (hn : n ≤ 200) (ha : a < 6) (h1 : g (4 + 3 * a) ≤ 50) (h2 : g (4 + 3 * a + 1) < 4) (h3 : g (4 + 3 * a + 2) < 2147470000) {t0 : Nat} {e0 : Nat → Nat} (q0 : t0 < g 0) (he0 : HereE g t0 n e0) {t1 : Nat} {e1 : Nat → Nat} (q1 : t1 < g 0) (he1 : HereE g t1 n e1) {t2 : Nat} {e2 : Nat → Nat} (q2 : t2 < g 0) (he2 : HereE g t2 n e2) (n01 : t0 ≠ t1) (n02 : t0 ≠ t2) (n12 : t1 ≠ t2) : Fn m_X13_makeNow G [.ref (m), .int (nI (a)), .int (nI (p)), .int (nI (n)), .int (nI (t0)), .int (nI (t1)), .int (nI (t2))] (rput T m (sg V g) od) (some (.int (nI (g 0)))) (rput T m (sg V (wrkI (takI (takI (takI (begG g a p n 3) (g 0) 0 t0 e0 n) (g 0) 1 t1 e1 n) (g 0) 2 t2 e2 n) a (g 0) n)) od) := by
  refine Cn.of rfl (by decide) (Nat.le_of_ble_eq_true rfl) (fun hN hM => ?_)
  show Wx _ G _ 0 [(0, .ref (m)), (1, .int (nI (a))), (2, .int (nI (p))), (3, .int (nI (n))), (4, .int (nI (t0))), (5, .int (nI (t1))), (6, .int (nI (t2)))] [] _
  have z0 : (begG g a p n 3) (90 + 13 * g 0 + 1) = n := begG_1 h0
  have b0 := WB.beg (a := a) (p := p) (n := n) (k := 3) h0 hb
  have f0 : HereE (begG g a p n 3) t0 n e0 := HereE.congr (fun v hv => begG_hi h0 (by omega) (by omega)) he0
  have z1 : (takI (begG g a p n 3) (g 0) 0 t0 e0 n) (90 + 13 * g 0 + 1) = n := (takI_hd (by omega) (by omega) n).trans z0
  have b1 := WB.tak (l := g 0) (k := 0) h0 (by decide) f0 b0 n (Nat.le_refl n)
  have f1 : HereE (takI (begG g a p n 3) (g 0) 0 t0 e0 n) t1 n e1 := HereE.congr (fun v hv => (takI_oth f0 (by omega) (by omega) (by omega) n (Nat.le_refl n)).trans (begG_hi h0 (by omega) (by omega))) he1
  have z2 : (takI (takI (begG g a p n 3) (g 0) 0 t0 e0 n) (g 0) 1 t1 e1 n) (90 + 13 * g 0 + 1) = n := (takI_hd (by omega) (by omega) n).trans z1
  have b2 := WB.tak (l := g 0) (k := 1) h0 (by decide) f1 b1 n (Nat.le_refl n)
  have f2 : HereE (takI (takI (begG g a p n 3) (g 0) 0 t0 e0 n) (g 0) 1 t1 e1 n) t2 n e2 := HereE.congr (fun v hv => (takI_oth f1 (by omega) (by omega) (by omega) n (Nat.le_refl n)).trans ((takI_oth f0 (by omega) (by omega) (by omega) n (Nat.le_refl n)).trans (begG_hi h0 (by omega) (by omega)))) he2
  have z3 : (takI (takI (takI (begG g a p n 3) (g 0) 0 t0 e0 n) (g 0) 1 t1 e1 n) (g 0) 2 t2 e2 n) (90 + 13 * g 0 + 1) = n := (takI_hd (by omega) (by omega) n).trans z2
  have b3 := WB.tak (l := g 0) (k := 2) h0 (by decide) f2 b2 n (Nat.le_refl n)
  have m1 : (takI (takI (takI (begG g a p n 3) (g 0) 0 t0 e0 n) (g 0) 1 t1 e1 n) (g 0) 2 t2 e2 n) (4 + 3 * a) ≤ 50 := by rw [show (takI (takI (takI (begG g a p n 3) (g 0) 0 t0 e0 n) (g 0) 1 t1 e1 n) (g 0) 2 t2 e2 n) (4 + 3 * a) = g (4 + 3 * a) from (takI_hd (by omega) (by omega) n).trans ((takI_hd (by omega) (by omega) n).trans ((takI_hd (by omega) (by omega) n).trans (begG_lo (by omega) (by omega))))]; exact h1
  have m2 : (takI (takI (takI (begG g a p n 3) (g 0) 0 t0 e0 n) (g 0) 1 t1 e1 n) (g 0) 2 t2 e2 n) (4 + 3 * a + 1) < 4 := by rw [show (takI (takI (takI (begG g a p n 3) (g 0) 0 t0 e0 n) (g 0) 1 t1 e1 n) (g 0) 2 t2 e2 n) (4 + 3 * a + 1) = g (4 + 3 * a + 1) from (takI_hd (by omega) (by omega) n).trans ((takI_hd (by omega) (by omega) n).trans ((takI_hd (by omega) (by omega) n).trans (begG_lo (by omega) (by omega))))]; exact h2
  have m3 : (takI (takI (takI (begG g a p n 3) (g 0) 0 t0 e0 n) (g 0) 1 t1 e1 n) (g 0) 2 t2 e2 n) (4 + 3 * a + 2) < 2147470000 := by rw [show (takI (takI (takI (begG g a p n 3) (g 0) 0 t0 e0 n) (g 0) 1 t1 e1 n) (g 0) 2 t2 e2 n) (4 + 3 * a + 2) = g (4 + 3 * a + 2) from (takI_hd (by omega) (by omega) n).trans ((takI_hd (by omega) (by omega) n).trans ((takI_hd (by omega) (by omega) n).trans (begG_lo (by omega) (by omega))))]; exact h3
  refine r_aload_n dX13_makeNow_0 rfl 0 rfl ?_
  refine r_iload_n dX13_makeNow_1 rfl 1 rfl ?_
  refine r_iload_n dX13_makeNow_2 rfl 2 rfl ?_
  refine r_iload_n dX13_makeNow_3 rfl 3 rfl ?_
  refine r_iload dX13_makeNow_4 6 rfl ?_
  refine r_if_ltN (tgt := 13) dX13_makeNow_6 (by decide) (by omega) ?_
  refine r_iconst (v := nI 3) dX13_makeNow_9 (by decide) ?_
  refine r_goto (tgt := 23) dX13_makeNow_10 (by decide) ?_
  refine r_fnV (M2 := m_X13_begins) (As := [.int (nI (a)), .int (nI (p)), .int (nI (n)), .int (nI (3))]) (rest := []) (v := some (.int (nI (g 0)))) dX13_makeNow_23 cc_X13_makeNow_162 rfl rfl rfl (Nat.le_of_ble_eq_true rfl) hs.1 rfl rfl (by decide) (g_begins hs h0 (by omega)) rfl ?_
  refine r_istore (lv' := [(7, .int (nI (g 0))), (0, .ref (m)), (1, .int (nI (a))), (2, .int (nI (p))), (3, .int (nI (n))), (4, .int (nI (t0))), (5, .int (nI (t1))), (6, .int (nI (t2)))]) dX13_makeNow_26 (by decide) rfl ?_
  refine r_aload_n dX13_makeNow_28 rfl 1 rfl ?_
  refine r_iload dX13_makeNow_29 0 rfl ?_
  refine r_iconst (v := nI 0) dX13_makeNow_31 (by decide) ?_
  refine r_iload dX13_makeNow_32 5 rfl ?_
  refine r_fnV (M2 := m_X13_takes) (As := [.int (nI (g 0)), .int (nI (0)), .int (nI (t0))]) (rest := []) (v := none) dX13_makeNow_34 cc_X13_makeNow_190 rfl rfl rfl (Nat.le_of_ble_eq_true rfl) hs.1 rfl rfl (by decide) (g_takesN hs b0 h0 (by decide) (by omega) (by omega) z0 hn f0) rfl ?_
  refine r_iload dX13_makeNow_37 6 rfl ?_
  refine r_if_ltN (tgt := 51) dX13_makeNow_39 (by decide) (by omega) ?_
  refine r_aload_n dX13_makeNow_42 rfl 1 rfl ?_
  refine r_iload dX13_makeNow_43 0 rfl ?_
  refine r_iconst (v := nI 1) dX13_makeNow_45 (by decide) ?_
  refine r_iload dX13_makeNow_46 6 rfl ?_
  refine r_fnV (M2 := m_X13_takes) (As := [.int (nI (g 0)), .int (nI (1)), .int (nI (t1))]) (rest := []) (v := none) dX13_makeNow_48 cc_X13_makeNow_190 rfl rfl rfl (Nat.le_of_ble_eq_true rfl) hs.1 rfl rfl (by decide) (g_takesN hs b1 h0 (by decide) (by omega) (by omega) z1 hn f1) rfl ?_
  refine r_iload dX13_makeNow_51 7 rfl ?_
  refine r_if_ltN (tgt := 65) dX13_makeNow_53 (by decide) (by omega) ?_
  refine r_aload_n dX13_makeNow_56 rfl 1 rfl ?_
  refine r_iload dX13_makeNow_57 0 rfl ?_
  refine r_iconst (v := nI 2) dX13_makeNow_59 (by decide) ?_
  refine r_iload dX13_makeNow_60 7 rfl ?_
  refine r_fnV (M2 := m_X13_takes) (As := [.int (nI (g 0)), .int (nI (2)), .int (nI (t2))]) (rest := []) (v := none) dX13_makeNow_62 cc_X13_makeNow_190 rfl rfl rfl (Nat.le_of_ble_eq_true rfl) hs.1 rfl rfl (by decide) (g_takesN hs b2 h0 (by decide) (by omega) (by omega) z2 hn f2) rfl ?_
  refine r_iconst (v := nI 0) dX13_makeNow_65 (by decide) ?_
  refine r_istore (lv' := [(8, .int (nI (0))), (7, .int (nI (g 0))), (0, .ref (m)), (1, .int (nI (a))), (2, .int (nI (p))), (3, .int (nI (n))), (4, .int (nI (t0))), (5, .int (nI (t1))), (6, .int (nI (t2)))]) dX13_makeNow_66 (by decide) rfl ?_
  refine Wx.sub [2, 3, 4, 5, 6, 7, 8, 1, 0] rfl ?_
  refine Wx.loop (fun u => rput T m (sg V (wrkI (takI (takI (takI (begG g a p n 3) (g 0) 0 t0 e0 n) (g 0) 1 t1 e1 n) (g 0) 2 t2 e2 n) a (g 0) u)) od) (fun u => [(0, .ref (m)), (1, .int (nI (a))), (2, .int (nI (p))), (3, .int (nI (n))), (4, .int (nI (t0))), (5, .int (nI (t1))), (6, .int (nI (t2))), (7, .int (nI (g 0))), (8, .int (nI (u)))]) (n) (0) (Nat.zero_le _) (fun u hge hle next => ?_)
  show Wx _ G (rput T m (sg V (wrkI (takI (takI (takI (begG g a p n 3) (g 0) 0 t0 e0 n) (g 0) 1 t1 e1 n) (g 0) 2 t2 e2 n) a (g 0) u)) od) 68 [(0, .ref (m)), (1, .int (nI (a))), (2, .int (nI (p))), (3, .int (nI (n))), (4, .int (nI (t0))), (5, .int (nI (t1))), (6, .int (nI (t2))), (7, .int (nI (g 0))), (8, .int (nI (u)))] [] _
  refine r_iload dX13_makeNow_68 8 rfl ?_
  refine r_iload_n dX13_makeNow_70 rfl 3 rfl ?_
  refine r_icmp_geN (tgt := 89) dX13_makeNow_71 (by decide) (by omega) (by omega) (fun h71 => ?_) (fun h71 => ?_)
  · refine r_iload dX13_makeNow_89 7 rfl ?_
    obtain rfl : u = n := by omega
    exact r_iret (ty := .int) dX13_makeNow_91 rfl rfl ⟨rfl, rfl⟩
  · refine r_aload_n dX13_makeNow_74 rfl 0 rfl ?_
    refine r_iload_n dX13_makeNow_75 rfl 1 rfl ?_
    refine r_iload dX13_makeNow_76 7 rfl ?_
    refine r_iload dX13_makeNow_78 8 rfl ?_
    refine r_fnV (M2 := m_X13_works) (As := [.int (nI (a)), .int (nI (g 0)), .int (nI (u))]) (rest := []) (v := none) dX13_makeNow_80 cc_X13_makeNow_165 rfl rfl rfl (Nat.le_of_ble_eq_true rfl) hs.1 rfl rfl (by decide) (g_works hs (WB.wrkI ha m2 b3 u) (by omega) (by omega) (by omega) (by rw [wrkI_lo (by omega) (by omega)]; exact m1) (by rw [wrkI_lo (by omega) (by omega)]; exact m2) (by rw [wrkI_c ha]; omega)) rfl ?_
    refine r_iincN (k := 1) (lv' := [(8, .int (nI (u + 1))), (0, .ref (m)), (1, .int (nI (a))), (2, .int (nI (p))), (3, .int (nI (n))), (4, .int (nI (t0))), (5, .int (nI (t1))), (6, .int (nI (t2))), (7, .int (nI (g 0)))]) dX13_makeNow_83 (by decide) 8 rfl (by decide) rfl ?_
    refine r_goto (tgt := 68) dX13_makeNow_86 (by decide) ?_
    refine Wx.sub [1, 2, 3, 4, 5, 6, 7, 8, 0] rfl ?_
    exact next (by omega)
