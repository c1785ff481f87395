set_option maxRecDepth 4000 in
theorem g_machineNow {G : GI} {T : Hp} {m : Nat} {V : RVal} {g : Nat → Nat} {od : Nat → UInt64} (hs : RS T m)  {a y z : Nat} (ha : a < 6) : Fn m_X13_machineNow G [.ref (m), .int (nI (a)), .int (nI (y)), .int (nI (z))] (rput T m (sg V g) od) (some (.int (nI (10 * (g (4 + 3 * a)) + (g (4 + 3 * a + 1)))))) (rput T m (sg V ((up1 (up1 g (4 + 3 * a) (y)) (4 + 3 * a + 1) (z)))) od) := by
  refine Cn.of rfl (by decide) (Nat.le_of_ble_eq_true rfl) (fun hN hM => ?_)
  show Wx _ G _ 0 [(0, .ref (m)), (1, .int (nI (a))), (2, .int (nI (y))), (3, .int (nI (z)))] [] _
  refine r_iconst (v := nI 4) dX13_machineNow_0 (by decide) ?_
  refine r_iconst (v := nI 3) dX13_machineNow_1 (by decide) ?_
  refine r_iload_n dX13_machineNow_2 rfl 1 rfl ?_
  refine r_imulN dX13_machineNow_3 ?_
  refine r_iaddN dX13_machineNow_4 ?_
  refine r_istore (lv' := [(4, .int (nI (4 + 3 * a))), (0, .ref (m)), (1, .int (nI (a))), (2, .int (nI (y))), (3, .int (nI (z)))]) dX13_machineNow_5 (by decide) rfl ?_
  refine r_bipush (v := nI 10) dX13_machineNow_7 (by decide) ?_
  refine r_aload_n dX13_machineNow_9 rfl 1 rfl ?_
  refine m_ref (k := 0) (j := 1) hs hs.2.1.1 dX13_machineNow_10 fr_X13_7 rfl ?_
  refine r_iload dX13_machineNow_13 0 rfl ?_
  refine g_iald (i := 4 + 3 * a) hs dX13_machineNow_15 (by omega) ?_
  refine r_imulN dX13_machineNow_16 ?_
  refine r_aload_n dX13_machineNow_17 rfl 1 rfl ?_
  refine m_ref (k := 0) (j := 1) hs hs.2.1.1 dX13_machineNow_18 fr_X13_7 rfl ?_
  refine r_iload dX13_machineNow_21 0 rfl ?_
  refine r_iconst (v := nI 1) dX13_machineNow_23 (by decide) ?_
  refine r_iaddN dX13_machineNow_24 ?_
  refine g_iald (i := 4 + 3 * a + 1) hs dX13_machineNow_25 (by omega) ?_
  refine r_iaddN dX13_machineNow_26 ?_
  refine r_istore (lv' := [(5, .int (nI (10 * (g (4 + 3 * a)) + (g (4 + 3 * a + 1))))), (4, .int (nI (4 + 3 * a))), (0, .ref (m)), (1, .int (nI (a))), (2, .int (nI (y))), (3, .int (nI (z)))]) dX13_machineNow_27 (by decide) rfl ?_
  refine r_aload_n dX13_machineNow_29 rfl 2 rfl ?_
  refine m_ref (k := 0) (j := 1) hs hs.2.1.1 dX13_machineNow_30 fr_X13_7 rfl ?_
  refine r_iload dX13_machineNow_33 1 rfl ?_
  refine r_iload_n dX13_machineNow_35 rfl 4 rfl ?_
  refine g_iast (i := 4 + 3 * a) (x := y) hs dX13_machineNow_36 (by omega) ?_
  refine r_aload_n dX13_machineNow_37 rfl 2 rfl ?_
  refine m_ref (k := 0) (j := 1) hs hs.2.1.1 dX13_machineNow_38 fr_X13_7 rfl ?_
  refine r_iload dX13_machineNow_41 1 rfl ?_
  refine r_iconst (v := nI 1) dX13_machineNow_43 (by decide) ?_
  refine r_iaddN dX13_machineNow_44 ?_
  refine r_iload_n dX13_machineNow_45 rfl 5 rfl ?_
  refine g_iast (i := 4 + 3 * a + 1) (x := z) hs dX13_machineNow_46 (by omega) ?_
  refine r_iload dX13_machineNow_47 0 rfl ?_
  exact r_iret (ty := .int) dX13_machineNow_49 rfl rfl ⟨rfl, rfl⟩
set_option maxRecDepth 4000 in
theorem g_productNow {G : GI} {T : Hp} {m : Nat} {V : RVal} {g : Nat → Nat} {od : Nat → UInt64} (hs : RS T m)  {a x y z : Nat} (ha : a < 4) : Fn m_X13_productNow G [.ref (m), .int (nI (a)), .int (nI (x)), .int (nI (y)), .int (nI (z))] (rput T m (sg V g) od) (some (.int (nI (g (22 + 10 * a))))) (rput T m (sg V ((up1 (up1 (up1 g (22 + 10 * a) (x)) (22 + 10 * a + 1) (y)) (22 + 10 * a + 2) (z)))) od) := by
  refine Cn.of rfl (by decide) (Nat.le_of_ble_eq_true rfl) (fun hN hM => ?_)
  show Wx _ G _ 0 [(0, .ref (m)), (1, .int (nI (a))), (2, .int (nI (x))), (3, .int (nI (y))), (4, .int (nI (z)))] [] _
  refine r_aload_n dX13_productNow_0 rfl 0 rfl ?_
  refine m_ref (k := 0) (j := 1) hs hs.2.1.1 dX13_productNow_1 fr_X13_7 rfl ?_
  refine r_bipush (v := nI 22) dX13_productNow_4 (by decide) ?_
  refine r_bipush (v := nI 10) dX13_productNow_6 (by decide) ?_
  refine r_iload_n dX13_productNow_8 rfl 1 rfl ?_
  refine r_imulN dX13_productNow_9 ?_
  refine r_iaddN dX13_productNow_10 ?_
  refine g_iald (i := 22 + 10 * a) hs dX13_productNow_11 (by omega) ?_
  refine r_istore (lv' := [(5, .int (nI (g (22 + 10 * a)))), (0, .ref (m)), (1, .int (nI (a))), (2, .int (nI (x))), (3, .int (nI (y))), (4, .int (nI (z)))]) dX13_productNow_12 (by decide) rfl ?_
  refine r_aload_n dX13_productNow_14 rfl 1 rfl ?_
  refine m_ref (k := 0) (j := 1) hs hs.2.1.1 dX13_productNow_15 fr_X13_7 rfl ?_
  refine r_bipush (v := nI 22) dX13_productNow_18 (by decide) ?_
  refine r_bipush (v := nI 10) dX13_productNow_20 (by decide) ?_
  refine r_iload_n dX13_productNow_22 rfl 2 rfl ?_
  refine r_imulN dX13_productNow_23 ?_
  refine r_iaddN dX13_productNow_24 ?_
  refine r_iload_n dX13_productNow_25 rfl 3 rfl ?_
  refine g_iast (i := 22 + 10 * a) (x := x) hs dX13_productNow_26 (by omega) ?_
  refine r_aload_n dX13_productNow_27 rfl 1 rfl ?_
  refine m_ref (k := 0) (j := 1) hs hs.2.1.1 dX13_productNow_28 fr_X13_7 rfl ?_
  refine r_bipush (v := nI 22) dX13_productNow_31 (by decide) ?_
  refine r_bipush (v := nI 10) dX13_productNow_33 (by decide) ?_
  refine r_iload_n dX13_productNow_35 rfl 2 rfl ?_
  refine r_imulN dX13_productNow_36 ?_
  refine r_iaddN dX13_productNow_37 ?_
  refine r_iconst (v := nI 1) dX13_productNow_38 (by decide) ?_
  refine r_iaddN dX13_productNow_39 ?_
  refine r_iload_n dX13_productNow_40 rfl 4 rfl ?_
  refine g_iast (i := 22 + 10 * a + 1) (x := y) hs dX13_productNow_41 (by omega) ?_
  refine r_aload_n dX13_productNow_42 rfl 1 rfl ?_
  refine m_ref (k := 0) (j := 1) hs hs.2.1.1 dX13_productNow_43 fr_X13_7 rfl ?_
  refine r_bipush (v := nI 22) dX13_productNow_46 (by decide) ?_
  refine r_bipush (v := nI 10) dX13_productNow_48 (by decide) ?_
  refine r_iload_n dX13_productNow_50 rfl 2 rfl ?_
  refine r_imulN dX13_productNow_51 ?_
  refine r_iaddN dX13_productNow_52 ?_
  refine r_iconst (v := nI 2) dX13_productNow_53 (by decide) ?_
  refine r_iaddN dX13_productNow_54 ?_
  refine r_iload dX13_productNow_55 5 rfl ?_
  refine g_iast (i := 22 + 10 * a + 2) (x := z) hs dX13_productNow_57 (by omega) ?_
  refine r_iload dX13_productNow_58 0 rfl ?_
  exact r_iret (ty := .int) dX13_productNow_60 rfl rfl ⟨rfl, rfl⟩
set_option maxRecDepth 4000 in
theorem g_seedNow {G : GI} {T : Hp} {m : Nat} {V : RVal} {g : Nat → Nat} {od : Nat → UInt64} (hs : RS T m)  {x : Nat} : Fn m_X13_seedNow G [.ref (m), .int (nI (x))] (rput T m (sg V g) od) (some (.int (nI (g (3))))) (rput T m (sg V ((up1 g (3) (x)))) od) := by
  refine Cn.of rfl (by decide) (Nat.le_of_ble_eq_true rfl) (fun hN hM => ?_)
  show Wx _ G _ 0 [(0, .ref (m)), (1, .int (nI (x)))] [] _
  refine r_aload_n dX13_seedNow_0 rfl 0 rfl ?_
  refine m_ref (k := 0) (j := 1) hs hs.2.1.1 dX13_seedNow_1 fr_X13_7 rfl ?_
  refine r_iconst (v := nI 3) dX13_seedNow_4 (by decide) ?_
  refine g_iald (i := 3) hs dX13_seedNow_5 (by omega) ?_
  refine r_istore_n (lv' := [(2, .int (nI (g (3)))), (0, .ref (m)), (1, .int (nI (x)))]) dX13_seedNow_6 rfl (by decide) rfl ?_
  refine r_aload_n dX13_seedNow_7 rfl 1 rfl ?_
  refine m_ref (k := 0) (j := 1) hs hs.2.1.1 dX13_seedNow_8 fr_X13_7 rfl ?_
  refine r_iconst (v := nI 3) dX13_seedNow_11 (by decide) ?_
  refine r_iload_n dX13_seedNow_12 rfl 2 rfl ?_
  refine g_iast (i := 3) (x := x) hs dX13_seedNow_13 (by omega) ?_
  refine r_iload_n dX13_seedNow_14 rfl 0 rfl ?_
  exact r_iret (ty := .int) dX13_seedNow_15 rfl rfl ⟨rfl, rfl⟩
def hdrG (g : Nat → Nat) (l : Nat) : Nat → Nat := (up1 (up1 (up1 (up1 (up1 (up1 (up1 (up1 (up1 (up1 (up1 (up1 (up1 g (90 + 13 * l + 0) (0)) (90 + 13 * l + 1) (0)) (90 + 13 * l + 2) (0)) (90 + 13 * l + 3) (0)) (90 + 13 * l + 4) (4294967295)) (90 + 13 * l + 5) (4294967295)) (90 + 13 * l + 6) (4294967295)) (90 + 13 * l + 7) (4294967295)) (90 + 13 * l + 8) (0)) (90 + 13 * l + 9) (0)) (90 + 13 * l + 10) (0)) (90 + 13 * l + 11) (0)) (90 + 13 * l + 12) (0))
def clrG (g : Nat → Nat) (l n : Nat) : Nat → Nat := fun i => if 402 + 2 * (200 * l) ≤ i ∧ i < 402 + 2 * (200 * l + n) then 0 else g i
theorem clr_0 {g : Nat → Nat} {l : Nat} : clrG g l 0 = g := by
  funext i; unfold clrG; rw [if_neg (by omega)]
theorem clr_s {g : Nat → Nat} {l u : Nat} : up1 (up1 (clrG g l u) (402 + 2 * (200 * l + u)) 0) (402 + 2 * (200 * l + u) + 1) 0 = clrG g l (u + 1) := by
  funext i
  unfold up1 clrG
  by_cases h1 : i = 402 + 2 * (200 * l + u) + 1
  · rw [if_pos h1, if_pos (by omega)]
  · rw [if_neg h1]
    by_cases h2 : i = 402 + 2 * (200 * l + u)
    · rw [if_pos h2, if_pos (by omega)]
    · rw [if_neg h2]
      by_cases h3 : 402 + 2 * (200 * l) ≤ i ∧ i < 402 + 2 * (200 * l + u)
      · rw [if_pos h3, if_pos (by omega)]
      · rw [if_neg h3, if_neg (by omega)]
def begH (g : Nat → Nat) (a p n k : Nat) : Nat → Nat := up1 (up1 (up1 (up1 (hdrG (up1 g 0 (g 0 + 1)) (g 0)) (90 + 13 * g 0 + 0) p) (90 + 13 * g 0 + 1) n) (90 + 13 * g 0 + 8) k) (90 + 13 * g 0 + 9) a
def begG (g : Nat → Nat) (a p n k : Nat) : Nat → Nat := clrG (begH g a p n k) (g 0) n
set_option maxRecDepth 4000 in
theorem g_begins {G : GI} {T : Hp} {m : Nat} {V : RVal} {g : Nat → Nat} {od : Nat → UInt64} (hs : RS T m)  {a p n k : Nat} (h0 : g 0 < 24) (hn : n ≤ 200) : Fn m_X13_begins G [.ref (m), .int (nI (a)), .int (nI (p)), .int (nI (n)), .int (nI (k))] (rput T m (sg V g) od) (some (.int (nI (g 0)))) (rput T m (sg V (begG g a p n k)) od) := by
  refine Cn.of rfl (by decide) (Nat.le_of_ble_eq_true rfl) (fun hN hM => ?_)
  show Wx _ G _ 0 [(0, .ref (m)), (1, .int (nI (a))), (2, .int (nI (p))), (3, .int (nI (n))), (4, .int (nI (k)))] [] _
  refine r_aload_n dX13_begins_0 rfl 0 rfl ?_
  refine m_ref (k := 0) (j := 1) hs hs.2.1.1 dX13_begins_1 fr_X13_7 rfl ?_
  refine r_iconst (v := nI 0) dX13_begins_4 (by decide) ?_
  refine g_iald (i := 0) hs dX13_begins_5 (by omega) ?_
  refine r_istore (lv' := [(5, .int (nI (g (0)))), (0, .ref (m)), (1, .int (nI (a))), (2, .int (nI (p))), (3, .int (nI (n))), (4, .int (nI (k)))]) dX13_begins_6 (by decide) rfl ?_
  refine r_aload_n dX13_begins_8 rfl 1 rfl ?_
  refine m_ref (k := 0) (j := 1) hs hs.2.1.1 dX13_begins_9 fr_X13_7 rfl ?_
  refine r_iconst (v := nI 0) dX13_begins_12 (by decide) ?_
  refine r_dup2 dX13_begins_13 rfl rfl ?_
  refine g_iald (i := 0) hs dX13_begins_14 (by omega) ?_
  refine r_iconst (v := nI 1) dX13_begins_15 (by decide) ?_
  refine r_iaddN dX13_begins_16 ?_
  refine g_iast (i := 0) (x := g (0) + 1) hs dX13_begins_17 (by omega) ?_
  refine r_iconst (v := nI 0) dX13_begins_18 (by decide) ?_
  refine r_istore (lv' := [(6, .int (nI (0))), (5, .int (nI (g (0)))), (0, .ref (m)), (1, .int (nI (a))), (2, .int (nI (p))), (3, .int (nI (n))), (4, .int (nI (k)))]) dX13_begins_19 (by decide) rfl ?_
  refine r_iload dX13_begins_21 0 rfl ?_
  refine r_bipush (v := nI 13) dX13_begins_23 (by decide) ?_
  refine r_icmp_geN (tgt := 64) dX13_begins_25 (by decide) (by omega) (by omega) (fun h25 => ?_) (fun h25 => ?_)
  · exact absurd h25 (by decide)
  · refine r_aload_n dX13_begins_28 rfl 2 rfl ?_
    refine m_ref (k := 0) (j := 1) hs hs.2.1.1 dX13_begins_29 fr_X13_7 rfl ?_
    refine r_iload dX13_begins_32 1 rfl ?_
    refine r_iload dX13_begins_34 0 rfl ?_
    refine r_fnS (M2 := m_X13_at) (As := [.int (nI (g (0))), .int (nI (0))]) (rest := [.ref (m + 1)]) (v := some (.int (nI (90 + 13 * (g (0)) + 0)))) dX13_begins_36 cc_X13_begins_72 rfl rfl rfl (Nat.le_of_ble_eq_true rfl) f_at rfl ?_
    refine r_iload dX13_begins_39 0 rfl ?_
    refine r_iconst (v := nI 4) dX13_begins_41 (by decide) ?_
    refine r_icmp_ltN (tgt := 56) dX13_begins_42 (by decide) (by omega) (by omega) (fun h42 => ?_) (fun h42 => ?_)
    · refine r_iconst (v := nI 0) dX13_begins_56 (by decide) ?_
      refine g_iast (i := 90 + 13 * (g (0)) + 0) (x := 0) hs dX13_begins_57 (by omega) ?_
      refine r_iincN (k := 1) (lv' := [(6, .int (nI (1))), (5, .int (nI (g (0)))), (0, .ref (m)), (1, .int (nI (a))), (2, .int (nI (p))), (3, .int (nI (n))), (4, .int (nI (k)))]) dX13_begins_58 (by decide) 0 rfl (by decide) rfl ?_
      refine r_goto (tgt := 21) dX13_begins_61 (by decide) ?_
      refine r_iload dX13_begins_21 0 rfl ?_
      refine r_bipush (v := nI 13) dX13_begins_23 (by decide) ?_
      refine r_icmp_geN (tgt := 64) dX13_begins_25 (by decide) (by omega) (by omega) (fun h25_1 => ?_) (fun h25_1 => ?_)
      · exact absurd h25_1 (by decide)
      · refine r_aload_n dX13_begins_28 rfl 2 rfl ?_
        refine m_ref (k := 0) (j := 1) hs hs.2.1.1 dX13_begins_29 fr_X13_7 rfl ?_
        refine r_iload dX13_begins_32 1 rfl ?_
        refine r_iload dX13_begins_34 0 rfl ?_
        refine r_fnS (M2 := m_X13_at) (As := [.int (nI (g (0))), .int (nI (1))]) (rest := [.ref (m + 1)]) (v := some (.int (nI (90 + 13 * (g (0)) + 1)))) dX13_begins_36 cc_X13_begins_72 rfl rfl rfl (Nat.le_of_ble_eq_true rfl) f_at rfl ?_
        refine r_iload dX13_begins_39 0 rfl ?_
        refine r_iconst (v := nI 4) dX13_begins_41 (by decide) ?_
        refine r_icmp_ltN (tgt := 56) dX13_begins_42 (by decide) (by omega) (by omega) (fun h42_1 => ?_) (fun h42_1 => ?_)
        · refine r_iconst (v := nI 0) dX13_begins_56 (by decide) ?_
          refine g_iast (i := 90 + 13 * (g (0)) + 1) (x := 0) hs dX13_begins_57 (by omega) ?_
          refine r_iincN (k := 1) (lv' := [(6, .int (nI (2))), (5, .int (nI (g (0)))), (0, .ref (m)), (1, .int (nI (a))), (2, .int (nI (p))), (3, .int (nI (n))), (4, .int (nI (k)))]) dX13_begins_58 (by decide) 0 rfl (by decide) rfl ?_
          refine r_goto (tgt := 21) dX13_begins_61 (by decide) ?_
          refine r_iload dX13_begins_21 0 rfl ?_
          refine r_bipush (v := nI 13) dX13_begins_23 (by decide) ?_
          refine r_icmp_geN (tgt := 64) dX13_begins_25 (by decide) (by omega) (by omega) (fun h25_2 => ?_) (fun h25_2 => ?_)
          · exact absurd h25_2 (by decide)
          · refine r_aload_n dX13_begins_28 rfl 2 rfl ?_
            refine m_ref (k := 0) (j := 1) hs hs.2.1.1 dX13_begins_29 fr_X13_7 rfl ?_
            refine r_iload dX13_begins_32 1 rfl ?_
            refine r_iload dX13_begins_34 0 rfl ?_
            refine r_fnS (M2 := m_X13_at) (As := [.int (nI (g (0))), .int (nI (2))]) (rest := [.ref (m + 1)]) (v := some (.int (nI (90 + 13 * (g (0)) + 2)))) dX13_begins_36 cc_X13_begins_72 rfl rfl rfl (Nat.le_of_ble_eq_true rfl) f_at rfl ?_
            refine r_iload dX13_begins_39 0 rfl ?_
            refine r_iconst (v := nI 4) dX13_begins_41 (by decide) ?_
            refine r_icmp_ltN (tgt := 56) dX13_begins_42 (by decide) (by omega) (by omega) (fun h42_2 => ?_) (fun h42_2 => ?_)
            · refine r_iconst (v := nI 0) dX13_begins_56 (by decide) ?_
              refine g_iast (i := 90 + 13 * (g (0)) + 2) (x := 0) hs dX13_begins_57 (by omega) ?_
              refine r_iincN (k := 1) (lv' := [(6, .int (nI (3))), (5, .int (nI (g (0)))), (0, .ref (m)), (1, .int (nI (a))), (2, .int (nI (p))), (3, .int (nI (n))), (4, .int (nI (k)))]) dX13_begins_58 (by decide) 0 rfl (by decide) rfl ?_
              refine r_goto (tgt := 21) dX13_begins_61 (by decide) ?_
              refine r_iload dX13_begins_21 0 rfl ?_
              refine r_bipush (v := nI 13) dX13_begins_23 (by decide) ?_
              refine r_icmp_geN (tgt := 64) dX13_begins_25 (by decide) (by omega) (by omega) (fun h25_3 => ?_) (fun h25_3 => ?_)
              · exact absurd h25_3 (by decide)
              · refine r_aload_n dX13_begins_28 rfl 2 rfl ?_
                refine m_ref (k := 0) (j := 1) hs hs.2.1.1 dX13_begins_29 fr_X13_7 rfl ?_
                refine r_iload dX13_begins_32 1 rfl ?_
                refine r_iload dX13_begins_34 0 rfl ?_
                refine r_fnS (M2 := m_X13_at) (As := [.int (nI (g (0))), .int (nI (3))]) (rest := [.ref (m + 1)]) (v := some (.int (nI (90 + 13 * (g (0)) + 3)))) dX13_begins_36 cc_X13_begins_72 rfl rfl rfl (Nat.le_of_ble_eq_true rfl) f_at rfl ?_
                refine r_iload dX13_begins_39 0 rfl ?_
                refine r_iconst (v := nI 4) dX13_begins_41 (by decide) ?_
                refine r_icmp_ltN (tgt := 56) dX13_begins_42 (by decide) (by omega) (by omega) (fun h42_3 => ?_) (fun h42_3 => ?_)
                · refine r_iconst (v := nI 0) dX13_begins_56 (by decide) ?_
                  refine g_iast (i := 90 + 13 * (g (0)) + 3) (x := 0) hs dX13_begins_57 (by omega) ?_
                  refine r_iincN (k := 1) (lv' := [(6, .int (nI (4))), (5, .int (nI (g (0)))), (0, .ref (m)), (1, .int (nI (a))), (2, .int (nI (p))), (3, .int (nI (n))), (4, .int (nI (k)))]) dX13_begins_58 (by decide) 0 rfl (by decide) rfl ?_
                  refine r_goto (tgt := 21) dX13_begins_61 (by decide) ?_
                  refine r_iload dX13_begins_21 0 rfl ?_
                  refine r_bipush (v := nI 13) dX13_begins_23 (by decide) ?_
                  refine r_icmp_geN (tgt := 64) dX13_begins_25 (by decide) (by omega) (by omega) (fun h25_4 => ?_) (fun h25_4 => ?_)
                  · exact absurd h25_4 (by decide)
                  · refine r_aload_n dX13_begins_28 rfl 2 rfl ?_
                    refine m_ref (k := 0) (j := 1) hs hs.2.1.1 dX13_begins_29 fr_X13_7 rfl ?_
                    refine r_iload dX13_begins_32 1 rfl ?_
                    refine r_iload dX13_begins_34 0 rfl ?_
                    refine r_fnS (M2 := m_X13_at) (As := [.int (nI (g (0))), .int (nI (4))]) (rest := [.ref (m + 1)]) (v := some (.int (nI (90 + 13 * (g (0)) + 4)))) dX13_begins_36 cc_X13_begins_72 rfl rfl rfl (Nat.le_of_ble_eq_true rfl) f_at rfl ?_
                    refine r_iload dX13_begins_39 0 rfl ?_
                    refine r_iconst (v := nI 4) dX13_begins_41 (by decide) ?_
                    refine r_icmp_ltN (tgt := 56) dX13_begins_42 (by decide) (by omega) (by omega) (fun h42_4 => ?_) (fun h42_4 => ?_)
                    · exact absurd h42_4 (by decide)
                    · refine r_iload dX13_begins_45 0 rfl ?_
                      refine r_bipush (v := nI 8) dX13_begins_47 (by decide) ?_
                      refine r_icmp_geN (tgt := 56) dX13_begins_49 (by decide) (by omega) (by omega) (fun h49 => ?_) (fun h49 => ?_)
                      · exact absurd h49 (by decide)
                      · refine r_iconst (v := nI 4294967295) dX13_begins_52 (by decide) ?_
                        refine r_goto (tgt := 57) dX13_begins_53 (by decide) ?_
                        refine g_iast (i := 90 + 13 * (g (0)) + 4) (x := 4294967295) hs dX13_begins_57 (by omega) ?_
                        refine r_iincN (k := 1) (lv' := [(6, .int (nI (5))), (5, .int (nI (g (0)))), (0, .ref (m)), (1, .int (nI (a))), (2, .int (nI (p))), (3, .int (nI (n))), (4, .int (nI (k)))]) dX13_begins_58 (by decide) 0 rfl (by decide) rfl ?_
                        refine r_goto (tgt := 21) dX13_begins_61 (by decide) ?_
                        refine r_iload dX13_begins_21 0 rfl ?_
                        refine r_bipush (v := nI 13) dX13_begins_23 (by decide) ?_
                        refine r_icmp_geN (tgt := 64) dX13_begins_25 (by decide) (by omega) (by omega) (fun h25_5 => ?_) (fun h25_5 => ?_)
                        · exact absurd h25_5 (by decide)
                        · refine r_aload_n dX13_begins_28 rfl 2 rfl ?_
                          refine m_ref (k := 0) (j := 1) hs hs.2.1.1 dX13_begins_29 fr_X13_7 rfl ?_
                          refine r_iload dX13_begins_32 1 rfl ?_
                          refine r_iload dX13_begins_34 0 rfl ?_
                          refine r_fnS (M2 := m_X13_at) (As := [.int (nI (g (0))), .int (nI (5))]) (rest := [.ref (m + 1)]) (v := some (.int (nI (90 + 13 * (g (0)) + 5)))) dX13_begins_36 cc_X13_begins_72 rfl rfl rfl (Nat.le_of_ble_eq_true rfl) f_at rfl ?_
                          refine r_iload dX13_begins_39 0 rfl ?_
                          refine r_iconst (v := nI 4) dX13_begins_41 (by decide) ?_
                          refine r_icmp_ltN (tgt := 56) dX13_begins_42 (by decide) (by omega) (by omega) (fun h42_5 => ?_) (fun h42_5 => ?_)
                          · exact absurd h42_5 (by decide)
                          · refine r_iload dX13_begins_45 0 rfl ?_
                            refine r_bipush (v := nI 8) dX13_begins_47 (by decide) ?_
                            refine r_icmp_geN (tgt := 56) dX13_begins_49 (by decide) (by omega) (by omega) (fun h49_1 => ?_) (fun h49_1 => ?_)
                            · exact absurd h49_1 (by decide)
                            · refine r_iconst (v := nI 4294967295) dX13_begins_52 (by decide) ?_
                              refine r_goto (tgt := 57) dX13_begins_53 (by decide) ?_
                              refine g_iast (i := 90 + 13 * (g (0)) + 5) (x := 4294967295) hs dX13_begins_57 (by omega) ?_
                              refine r_iincN (k := 1) (lv' := [(6, .int (nI (6))), (5, .int (nI (g (0)))), (0, .ref (m)), (1, .int (nI (a))), (2, .int (nI (p))), (3, .int (nI (n))), (4, .int (nI (k)))]) dX13_begins_58 (by decide) 0 rfl (by decide) rfl ?_
                              refine r_goto (tgt := 21) dX13_begins_61 (by decide) ?_
                              refine r_iload dX13_begins_21 0 rfl ?_
                              refine r_bipush (v := nI 13) dX13_begins_23 (by decide) ?_
                              refine r_icmp_geN (tgt := 64) dX13_begins_25 (by decide) (by omega) (by omega) (fun h25_6 => ?_) (fun h25_6 => ?_)
                              · exact absurd h25_6 (by decide)
                              · refine r_aload_n dX13_begins_28 rfl 2 rfl ?_
                                refine m_ref (k := 0) (j := 1) hs hs.2.1.1 dX13_begins_29 fr_X13_7 rfl ?_
                                refine r_iload dX13_begins_32 1 rfl ?_
                                refine r_iload dX13_begins_34 0 rfl ?_
                                refine r_fnS (M2 := m_X13_at) (As := [.int (nI (g (0))), .int (nI (6))]) (rest := [.ref (m + 1)]) (v := some (.int (nI (90 + 13 * (g (0)) + 6)))) dX13_begins_36 cc_X13_begins_72 rfl rfl rfl (Nat.le_of_ble_eq_true rfl) f_at rfl ?_
                                refine r_iload dX13_begins_39 0 rfl ?_
                                refine r_iconst (v := nI 4) dX13_begins_41 (by decide) ?_
                                refine r_icmp_ltN (tgt := 56) dX13_begins_42 (by decide) (by omega) (by omega) (fun h42_6 => ?_) (fun h42_6 => ?_)
                                · exact absurd h42_6 (by decide)
                                · refine r_iload dX13_begins_45 0 rfl ?_
                                  refine r_bipush (v := nI 8) dX13_begins_47 (by decide) ?_
                                  refine r_icmp_geN (tgt := 56) dX13_begins_49 (by decide) (by omega) (by omega) (fun h49_2 => ?_) (fun h49_2 => ?_)
                                  · exact absurd h49_2 (by decide)
                                  · refine r_iconst (v := nI 4294967295) dX13_begins_52 (by decide) ?_
                                    refine r_goto (tgt := 57) dX13_begins_53 (by decide) ?_
                                    refine g_iast (i := 90 + 13 * (g (0)) + 6) (x := 4294967295) hs dX13_begins_57 (by omega) ?_
                                    refine r_iincN (k := 1) (lv' := [(6, .int (nI (7))), (5, .int (nI (g (0)))), (0, .ref (m)), (1, .int (nI (a))), (2, .int (nI (p))), (3, .int (nI (n))), (4, .int (nI (k)))]) dX13_begins_58 (by decide) 0 rfl (by decide) rfl ?_
                                    refine r_goto (tgt := 21) dX13_begins_61 (by decide) ?_
                                    refine r_iload dX13_begins_21 0 rfl ?_
                                    refine r_bipush (v := nI 13) dX13_begins_23 (by decide) ?_
                                    refine r_icmp_geN (tgt := 64) dX13_begins_25 (by decide) (by omega) (by omega) (fun h25_7 => ?_) (fun h25_7 => ?_)
                                    · exact absurd h25_7 (by decide)
                                    · refine r_aload_n dX13_begins_28 rfl 2 rfl ?_
                                      refine m_ref (k := 0) (j := 1) hs hs.2.1.1 dX13_begins_29 fr_X13_7 rfl ?_
                                      refine r_iload dX13_begins_32 1 rfl ?_
                                      refine r_iload dX13_begins_34 0 rfl ?_
                                      refine r_fnS (M2 := m_X13_at) (As := [.int (nI (g (0))), .int (nI (7))]) (rest := [.ref (m + 1)]) (v := some (.int (nI (90 + 13 * (g (0)) + 7)))) dX13_begins_36 cc_X13_begins_72 rfl rfl rfl (Nat.le_of_ble_eq_true rfl) f_at rfl ?_
                                      refine r_iload dX13_begins_39 0 rfl ?_
                                      refine r_iconst (v := nI 4) dX13_begins_41 (by decide) ?_
                                      refine r_icmp_ltN (tgt := 56) dX13_begins_42 (by decide) (by omega) (by omega) (fun h42_7 => ?_) (fun h42_7 => ?_)
                                      · exact absurd h42_7 (by decide)
                                      · refine r_iload dX13_begins_45 0 rfl ?_
                                        refine r_bipush (v := nI 8) dX13_begins_47 (by decide) ?_
                                        refine r_icmp_geN (tgt := 56) dX13_begins_49 (by decide) (by omega) (by omega) (fun h49_3 => ?_) (fun h49_3 => ?_)
                                        · exact absurd h49_3 (by decide)
                                        · refine r_iconst (v := nI 4294967295) dX13_begins_52 (by decide) ?_
                                          refine r_goto (tgt := 57) dX13_begins_53 (by decide) ?_
                                          refine g_iast (i := 90 + 13 * (g (0)) + 7) (x := 4294967295) hs dX13_begins_57 (by omega) ?_
                                          refine r_iincN (k := 1) (lv' := [(6, .int (nI (8))), (5, .int (nI (g (0)))), (0, .ref (m)), (1, .int (nI (a))), (2, .int (nI (p))), (3, .int (nI (n))), (4, .int (nI (k)))]) dX13_begins_58 (by decide) 0 rfl (by decide) rfl ?_
                                          refine r_goto (tgt := 21) dX13_begins_61 (by decide) ?_
                                          refine r_iload dX13_begins_21 0 rfl ?_
                                          refine r_bipush (v := nI 13) dX13_begins_23 (by decide) ?_
                                          refine r_icmp_geN (tgt := 64) dX13_begins_25 (by decide) (by omega) (by omega) (fun h25_8 => ?_) (fun h25_8 => ?_)
                                          · exact absurd h25_8 (by decide)
                                          · refine r_aload_n dX13_begins_28 rfl 2 rfl ?_
                                            refine m_ref (k := 0) (j := 1) hs hs.2.1.1 dX13_begins_29 fr_X13_7 rfl ?_
                                            refine r_iload dX13_begins_32 1 rfl ?_
                                            refine r_iload dX13_begins_34 0 rfl ?_
                                            refine r_fnS (M2 := m_X13_at) (As := [.int (nI (g (0))), .int (nI (8))]) (rest := [.ref (m + 1)]) (v := some (.int (nI (90 + 13 * (g (0)) + 8)))) dX13_begins_36 cc_X13_begins_72 rfl rfl rfl (Nat.le_of_ble_eq_true rfl) f_at rfl ?_
                                            refine r_iload dX13_begins_39 0 rfl ?_
                                            refine r_iconst (v := nI 4) dX13_begins_41 (by decide) ?_
                                            refine r_icmp_ltN (tgt := 56) dX13_begins_42 (by decide) (by omega) (by omega) (fun h42_8 => ?_) (fun h42_8 => ?_)
                                            · exact absurd h42_8 (by decide)
                                            · refine r_iload dX13_begins_45 0 rfl ?_
                                              refine r_bipush (v := nI 8) dX13_begins_47 (by decide) ?_
                                              refine r_icmp_geN (tgt := 56) dX13_begins_49 (by decide) (by omega) (by omega) (fun h49_4 => ?_) (fun h49_4 => ?_)
                                              · refine r_iconst (v := nI 0) dX13_begins_56 (by decide) ?_
                                                refine g_iast (i := 90 + 13 * (g (0)) + 8) (x := 0) hs dX13_begins_57 (by omega) ?_
                                                refine r_iincN (k := 1) (lv' := [(6, .int (nI (9))), (5, .int (nI (g (0)))), (0, .ref (m)), (1, .int (nI (a))), (2, .int (nI (p))), (3, .int (nI (n))), (4, .int (nI (k)))]) dX13_begins_58 (by decide) 0 rfl (by decide) rfl ?_
                                                refine r_goto (tgt := 21) dX13_begins_61 (by decide) ?_
                                                refine r_iload dX13_begins_21 0 rfl ?_
                                                refine r_bipush (v := nI 13) dX13_begins_23 (by decide) ?_
                                                refine r_icmp_geN (tgt := 64) dX13_begins_25 (by decide) (by omega) (by omega) (fun h25_9 => ?_) (fun h25_9 => ?_)
                                                · exact absurd h25_9 (by decide)
                                                · refine r_aload_n dX13_begins_28 rfl 2 rfl ?_
                                                  refine m_ref (k := 0) (j := 1) hs hs.2.1.1 dX13_begins_29 fr_X13_7 rfl ?_
                                                  refine r_iload dX13_begins_32 1 rfl ?_
                                                  refine r_iload dX13_begins_34 0 rfl ?_
                                                  refine r_fnS (M2 := m_X13_at) (As := [.int (nI (g (0))), .int (nI (9))]) (rest := [.ref (m + 1)]) (v := some (.int (nI (90 + 13 * (g (0)) + 9)))) dX13_begins_36 cc_X13_begins_72 rfl rfl rfl (Nat.le_of_ble_eq_true rfl) f_at rfl ?_
                                                  refine r_iload dX13_begins_39 0 rfl ?_
                                                  refine r_iconst (v := nI 4) dX13_begins_41 (by decide) ?_
                                                  refine r_icmp_ltN (tgt := 56) dX13_begins_42 (by decide) (by omega) (by omega) (fun h42_9 => ?_) (fun h42_9 => ?_)
                                                  · exact absurd h42_9 (by decide)
                                                  · refine r_iload dX13_begins_45 0 rfl ?_
                                                    refine r_bipush (v := nI 8) dX13_begins_47 (by decide) ?_
                                                    refine r_icmp_geN (tgt := 56) dX13_begins_49 (by decide) (by omega) (by omega) (fun h49_5 => ?_) (fun h49_5 => ?_)
                                                    · refine r_iconst (v := nI 0) dX13_begins_56 (by decide) ?_
                                                      refine g_iast (i := 90 + 13 * (g (0)) + 9) (x := 0) hs dX13_begins_57 (by omega) ?_
                                                      refine r_iincN (k := 1) (lv' := [(6, .int (nI (10))), (5, .int (nI (g (0)))), (0, .ref (m)), (1, .int (nI (a))), (2, .int (nI (p))), (3, .int (nI (n))), (4, .int (nI (k)))]) dX13_begins_58 (by decide) 0 rfl (by decide) rfl ?_
                                                      refine r_goto (tgt := 21) dX13_begins_61 (by decide) ?_
                                                      refine r_iload dX13_begins_21 0 rfl ?_
                                                      refine r_bipush (v := nI 13) dX13_begins_23 (by decide) ?_
                                                      refine r_icmp_geN (tgt := 64) dX13_begins_25 (by decide) (by omega) (by omega) (fun h25_10 => ?_) (fun h25_10 => ?_)
                                                      · exact absurd h25_10 (by decide)
                                                      · refine r_aload_n dX13_begins_28 rfl 2 rfl ?_
                                                        refine m_ref (k := 0) (j := 1) hs hs.2.1.1 dX13_begins_29 fr_X13_7 rfl ?_
                                                        refine r_iload dX13_begins_32 1 rfl ?_
                                                        refine r_iload dX13_begins_34 0 rfl ?_
                                                        refine r_fnS (M2 := m_X13_at) (As := [.int (nI (g (0))), .int (nI (10))]) (rest := [.ref (m + 1)]) (v := some (.int (nI (90 + 13 * (g (0)) + 10)))) dX13_begins_36 cc_X13_begins_72 rfl rfl rfl (Nat.le_of_ble_eq_true rfl) f_at rfl ?_
                                                        refine r_iload dX13_begins_39 0 rfl ?_
                                                        refine r_iconst (v := nI 4) dX13_begins_41 (by decide) ?_
                                                        refine r_icmp_ltN (tgt := 56) dX13_begins_42 (by decide) (by omega) (by omega) (fun h42_10 => ?_) (fun h42_10 => ?_)
                                                        · exact absurd h42_10 (by decide)
                                                        · refine r_iload dX13_begins_45 0 rfl ?_
                                                          refine r_bipush (v := nI 8) dX13_begins_47 (by decide) ?_
                                                          refine r_icmp_geN (tgt := 56) dX13_begins_49 (by decide) (by omega) (by omega) (fun h49_6 => ?_) (fun h49_6 => ?_)
                                                          · refine r_iconst (v := nI 0) dX13_begins_56 (by decide) ?_
                                                            refine g_iast (i := 90 + 13 * (g (0)) + 10) (x := 0) hs dX13_begins_57 (by omega) ?_
                                                            refine r_iincN (k := 1) (lv' := [(6, .int (nI (11))), (5, .int (nI (g (0)))), (0, .ref (m)), (1, .int (nI (a))), (2, .int (nI (p))), (3, .int (nI (n))), (4, .int (nI (k)))]) dX13_begins_58 (by decide) 0 rfl (by decide) rfl ?_
                                                            refine r_goto (tgt := 21) dX13_begins_61 (by decide) ?_
                                                            refine r_iload dX13_begins_21 0 rfl ?_
                                                            refine r_bipush (v := nI 13) dX13_begins_23 (by decide) ?_
                                                            refine r_icmp_geN (tgt := 64) dX13_begins_25 (by decide) (by omega) (by omega) (fun h25_11 => ?_) (fun h25_11 => ?_)
                                                            · exact absurd h25_11 (by decide)
                                                            · refine r_aload_n dX13_begins_28 rfl 2 rfl ?_
                                                              refine m_ref (k := 0) (j := 1) hs hs.2.1.1 dX13_begins_29 fr_X13_7 rfl ?_
                                                              refine r_iload dX13_begins_32 1 rfl ?_
                                                              refine r_iload dX13_begins_34 0 rfl ?_
                                                              refine r_fnS (M2 := m_X13_at) (As := [.int (nI (g (0))), .int (nI (11))]) (rest := [.ref (m + 1)]) (v := some (.int (nI (90 + 13 * (g (0)) + 11)))) dX13_begins_36 cc_X13_begins_72 rfl rfl rfl (Nat.le_of_ble_eq_true rfl) f_at rfl ?_
                                                              refine r_iload dX13_begins_39 0 rfl ?_
                                                              refine r_iconst (v := nI 4) dX13_begins_41 (by decide) ?_
                                                              refine r_icmp_ltN (tgt := 56) dX13_begins_42 (by decide) (by omega) (by omega) (fun h42_11 => ?_) (fun h42_11 => ?_)
                                                              · exact absurd h42_11 (by decide)
                                                              · refine r_iload dX13_begins_45 0 rfl ?_
                                                                refine r_bipush (v := nI 8) dX13_begins_47 (by decide) ?_
                                                                refine r_icmp_geN (tgt := 56) dX13_begins_49 (by decide) (by omega) (by omega) (fun h49_7 => ?_) (fun h49_7 => ?_)
                                                                · refine r_iconst (v := nI 0) dX13_begins_56 (by decide) ?_
                                                                  refine g_iast (i := 90 + 13 * (g (0)) + 11) (x := 0) hs dX13_begins_57 (by omega) ?_
                                                                  refine r_iincN (k := 1) (lv' := [(6, .int (nI (12))), (5, .int (nI (g (0)))), (0, .ref (m)), (1, .int (nI (a))), (2, .int (nI (p))), (3, .int (nI (n))), (4, .int (nI (k)))]) dX13_begins_58 (by decide) 0 rfl (by decide) rfl ?_
                                                                  refine r_goto (tgt := 21) dX13_begins_61 (by decide) ?_
                                                                  refine r_iload dX13_begins_21 0 rfl ?_
                                                                  refine r_bipush (v := nI 13) dX13_begins_23 (by decide) ?_
                                                                  refine r_icmp_geN (tgt := 64) dX13_begins_25 (by decide) (by omega) (by omega) (fun h25_12 => ?_) (fun h25_12 => ?_)
                                                                  · exact absurd h25_12 (by decide)
                                                                  · refine r_aload_n dX13_begins_28 rfl 2 rfl ?_
                                                                    refine m_ref (k := 0) (j := 1) hs hs.2.1.1 dX13_begins_29 fr_X13_7 rfl ?_
                                                                    refine r_iload dX13_begins_32 1 rfl ?_
                                                                    refine r_iload dX13_begins_34 0 rfl ?_
                                                                    refine r_fnS (M2 := m_X13_at) (As := [.int (nI (g (0))), .int (nI (12))]) (rest := [.ref (m + 1)]) (v := some (.int (nI (90 + 13 * (g (0)) + 12)))) dX13_begins_36 cc_X13_begins_72 rfl rfl rfl (Nat.le_of_ble_eq_true rfl) f_at rfl ?_
                                                                    refine r_iload dX13_begins_39 0 rfl ?_
                                                                    refine r_iconst (v := nI 4) dX13_begins_41 (by decide) ?_
                                                                    refine r_icmp_ltN (tgt := 56) dX13_begins_42 (by decide) (by omega) (by omega) (fun h42_12 => ?_) (fun h42_12 => ?_)
                                                                    · exact absurd h42_12 (by decide)
                                                                    · refine r_iload dX13_begins_45 0 rfl ?_
                                                                      refine r_bipush (v := nI 8) dX13_begins_47 (by decide) ?_
                                                                      refine r_icmp_geN (tgt := 56) dX13_begins_49 (by decide) (by omega) (by omega) (fun h49_8 => ?_) (fun h49_8 => ?_)
                                                                      · refine r_iconst (v := nI 0) dX13_begins_56 (by decide) ?_
                                                                        refine g_iast (i := 90 + 13 * (g (0)) + 12) (x := 0) hs dX13_begins_57 (by omega) ?_
                                                                        refine r_iincN (k := 1) (lv' := [(6, .int (nI (13))), (5, .int (nI (g (0)))), (0, .ref (m)), (1, .int (nI (a))), (2, .int (nI (p))), (3, .int (nI (n))), (4, .int (nI (k)))]) dX13_begins_58 (by decide) 0 rfl (by decide) rfl ?_
                                                                        refine r_goto (tgt := 21) dX13_begins_61 (by decide) ?_
                                                                        refine r_iload dX13_begins_21 0 rfl ?_
                                                                        refine r_bipush (v := nI 13) dX13_begins_23 (by decide) ?_
                                                                        refine r_icmp_geN (tgt := 64) dX13_begins_25 (by decide) (by omega) (by omega) (fun h25_13 => ?_) (fun h25_13 => ?_)
                                                                        · refine r_aload_n dX13_begins_64 rfl 2 rfl ?_
                                                                          refine m_ref (k := 0) (j := 1) hs hs.2.1.1 dX13_begins_65 fr_X13_7 rfl ?_
                                                                          refine r_iload dX13_begins_68 1 rfl ?_
                                                                          refine r_iconst (v := nI 0) dX13_begins_70 (by decide) ?_
                                                                          refine r_fnS (M2 := m_X13_at) (As := [.int (nI (g (0))), .int (nI (0))]) (rest := [.ref (m + 1)]) (v := some (.int (nI (90 + 13 * (g (0)) + 0)))) dX13_begins_71 cc_X13_begins_72 rfl rfl rfl (Nat.le_of_ble_eq_true rfl) f_at rfl ?_
                                                                          refine r_iload_n dX13_begins_74 rfl 4 rfl ?_
                                                                          refine g_iast (i := 90 + 13 * (g (0)) + 0) (x := p) hs dX13_begins_75 (by omega) ?_
                                                                          refine r_aload_n dX13_begins_76 rfl 2 rfl ?_
                                                                          refine m_ref (k := 0) (j := 1) hs hs.2.1.1 dX13_begins_77 fr_X13_7 rfl ?_
                                                                          refine r_iload dX13_begins_80 1 rfl ?_
                                                                          refine r_iconst (v := nI 1) dX13_begins_82 (by decide) ?_
                                                                          refine r_fnS (M2 := m_X13_at) (As := [.int (nI (g (0))), .int (nI (1))]) (rest := [.ref (m + 1)]) (v := some (.int (nI (90 + 13 * (g (0)) + 1)))) dX13_begins_83 cc_X13_begins_72 rfl rfl rfl (Nat.le_of_ble_eq_true rfl) f_at rfl ?_
                                                                          refine r_iload_n dX13_begins_86 rfl 5 rfl ?_
                                                                          refine g_iast (i := 90 + 13 * (g (0)) + 1) (x := n) hs dX13_begins_87 (by omega) ?_
                                                                          refine r_aload_n dX13_begins_88 rfl 2 rfl ?_
                                                                          refine m_ref (k := 0) (j := 1) hs hs.2.1.1 dX13_begins_89 fr_X13_7 rfl ?_
                                                                          refine r_iload dX13_begins_92 1 rfl ?_
                                                                          refine r_bipush (v := nI 8) dX13_begins_94 (by decide) ?_
                                                                          refine r_fnS (M2 := m_X13_at) (As := [.int (nI (g (0))), .int (nI (8))]) (rest := [.ref (m + 1)]) (v := some (.int (nI (90 + 13 * (g (0)) + 8)))) dX13_begins_96 cc_X13_begins_72 rfl rfl rfl (Nat.le_of_ble_eq_true rfl) f_at rfl ?_
                                                                          refine r_iload dX13_begins_99 6 rfl ?_
                                                                          refine g_iast (i := 90 + 13 * (g (0)) + 8) (x := k) hs dX13_begins_101 (by omega) ?_
                                                                          refine r_aload_n dX13_begins_102 rfl 2 rfl ?_
                                                                          refine m_ref (k := 0) (j := 1) hs hs.2.1.1 dX13_begins_103 fr_X13_7 rfl ?_
                                                                          refine r_iload dX13_begins_106 1 rfl ?_
                                                                          refine r_bipush (v := nI 9) dX13_begins_108 (by decide) ?_
                                                                          refine r_fnS (M2 := m_X13_at) (As := [.int (nI (g (0))), .int (nI (9))]) (rest := [.ref (m + 1)]) (v := some (.int (nI (90 + 13 * (g (0)) + 9)))) dX13_begins_110 cc_X13_begins_72 rfl rfl rfl (Nat.le_of_ble_eq_true rfl) f_at rfl ?_
                                                                          refine r_iload_n dX13_begins_113 rfl 3 rfl ?_
                                                                          refine g_iast (i := 90 + 13 * (g (0)) + 9) (x := a) hs dX13_begins_114 (by omega) ?_
                                                                          refine r_iconst (v := nI 0) dX13_begins_115 (by decide) ?_
                                                                          refine r_istore (lv' := [(6, .int (nI (0))), (5, .int (nI (g (0)))), (0, .ref (m)), (1, .int (nI (a))), (2, .int (nI (p))), (3, .int (nI (n))), (4, .int (nI (k)))]) dX13_begins_116 (by decide) rfl ?_
                                                                          refine Wx.st' (S' := rput T m (sg V (clrG (begH g a p n k) (g 0) 0)) od) (by rw [clr_0]; rfl) ?_
                                                                          refine Wx.sub [2, 3, 4, 5, 6, 1, 0] rfl ?_
                                                                          refine Wx.loop (fun u => rput T m (sg V (clrG (begH g a p n k) (g 0) u)) od) (fun u => [(0, .ref (m)), (1, .int (nI (a))), (2, .int (nI (p))), (3, .int (nI (n))), (4, .int (nI (k))), (5, .int (nI (g 0))), (6, .int (nI (u)))]) (n) (0) (Nat.zero_le _) (fun u hge hle next => ?_)
                                                                          show Wx _ G (rput T m (sg V (clrG (begH g a p n k) (g 0) u)) od) 118 [(0, .ref (m)), (1, .int (nI (a))), (2, .int (nI (p))), (3, .int (nI (n))), (4, .int (nI (k))), (5, .int (nI (g 0))), (6, .int (nI (u)))] [] _
                                                                          refine r_iload dX13_begins_118 6 rfl ?_
                                                                          refine r_iload_n dX13_begins_120 rfl 3 rfl ?_
                                                                          refine r_icmp_geN (tgt := 158) dX13_begins_121 (by decide) (by omega) (by omega) (fun h121 => ?_) (fun h121 => ?_)
                                                                          · refine r_iload dX13_begins_158 5 rfl ?_
                                                                            obtain rfl : u = n := by omega
                                                                            exact r_iret (ty := .int) dX13_begins_160 rfl rfl ⟨rfl, rfl⟩
                                                                          · refine r_aload_n dX13_begins_124 rfl 0 rfl ?_
                                                                            refine m_ref (k := 0) (j := 1) hs hs.2.1.1 dX13_begins_125 fr_X13_7 rfl ?_
                                                                            refine r_iload dX13_begins_128 5 rfl ?_
                                                                            refine r_iload dX13_begins_130 6 rfl ?_
                                                                            refine r_fnS (M2 := m_X13_spot) (As := [.int (nI (g 0)), .int (nI (u))]) (rest := [.ref (m + 1)]) (v := some (.int (nI (402 + 2 * (200 * (g 0) + u))))) dX13_begins_132 cc_X13_begins_84 rfl rfl rfl (Nat.le_of_ble_eq_true rfl) f_spot rfl ?_
                                                                            refine r_iconst (v := nI 0) dX13_begins_135 (by decide) ?_
                                                                            refine g_iast (i := 402 + 2 * (200 * (g 0) + u)) (x := 0) hs dX13_begins_136 (by omega) ?_
                                                                            refine r_aload_n dX13_begins_137 rfl 0 rfl ?_
                                                                            refine m_ref (k := 0) (j := 1) hs hs.2.1.1 dX13_begins_138 fr_X13_7 rfl ?_
                                                                            refine r_iload dX13_begins_141 5 rfl ?_
                                                                            refine r_iload dX13_begins_143 6 rfl ?_
                                                                            refine r_fnS (M2 := m_X13_spot) (As := [.int (nI (g 0)), .int (nI (u))]) (rest := [.ref (m + 1)]) (v := some (.int (nI (402 + 2 * (200 * (g 0) + u))))) dX13_begins_145 cc_X13_begins_84 rfl rfl rfl (Nat.le_of_ble_eq_true rfl) f_spot rfl ?_
                                                                            refine r_iconst (v := nI 1) dX13_begins_148 (by decide) ?_
                                                                            refine r_iaddN dX13_begins_149 ?_
                                                                            refine r_iconst (v := nI 0) dX13_begins_150 (by decide) ?_
                                                                            refine g_iast (i := 402 + 2 * (200 * (g 0) + u) + 1) (x := 0) hs dX13_begins_151 (by omega) ?_
                                                                            refine r_iincN (k := 1) (lv' := [(6, .int (nI (u + 1))), (0, .ref (m)), (1, .int (nI (a))), (2, .int (nI (p))), (3, .int (nI (n))), (4, .int (nI (k))), (5, .int (nI (g 0)))]) dX13_begins_152 (by decide) 6 rfl (by decide) rfl ?_
                                                                            refine r_goto (tgt := 118) dX13_begins_155 (by decide) ?_
                                                                            refine Wx.sub [1, 2, 3, 4, 5, 6, 0] rfl ?_
                                                                            have n2 := next (by omega)
                                                                            rw [← clr_s] at n2
                                                                            exact n2
                                                                        · exact absurd h25_13 (by decide)
                                                                      · exact absurd h49_8 (by decide)
                                                                · exact absurd h49_7 (by decide)
                                                          · exact absurd h49_6 (by decide)
                                                    · exact absurd h49_5 (by decide)
                                              · exact absurd h49_4 (by decide)
                · exact absurd h42_3 (by decide)
            · exact absurd h42_2 (by decide)
        · exact absurd h42_1 (by decide)
    · exact absurd h42 (by decide)
