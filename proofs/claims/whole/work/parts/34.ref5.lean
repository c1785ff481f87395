theorem WB.lo {g : Nat → Nat} {i x : Nat} (h : i < 402) (hb : WB g) : WB (up1 g i x) := fun j hj => by rw [up1_n (by omega)]; exact hb j hj
theorem WB.hi {g : Nat → Nat} {i x : Nat} (h : x < 16777216) (hb : WB g) : WB (up1 g i x) := fun j hj => by
  by_cases e : j = i
  · rw [up1_e e]; exact h
  · rw [up1_n e]; exact hb j hj
theorem becN_lt {w st : Nat} (h : w < 16777216) (hst : st < 8) : becN w st < 16777216 := Nat.or_lt_two_pow (n := 24) (Nat.lt_of_le_of_lt Nat.and_le_left h) (by omega)
theorem cauN_lt {w k y : Nat} (h : w < 16777216) (hk : k < 4) (hy : y < 4) : cauN w k y < 16777216 := Nat.or_lt_two_pow (n := 24) h (Nat.lt_trans (cau_b hk hy).2.2 (by decide))
theorem WB.bec {g : Nat → Nat} {l u st : Nat} (hst : st < 8) (hb : WB g) : WB (becG g l u st) := WB.hi (becN_lt (hb _ (by omega)) hst) hb
theorem WB.cau {g : Nat → Nat} {l u k y : Nat} (hk : k < 4) (hy : y < 4) (hb : WB g) : WB (cauG g l u k y) := by
  unfold cauG
  split
  · exact WB.hi (cauN_lt (hb _ (by omega)) hk hy) hb
  · exact hb
theorem WB.los {g : Nat → Nat} {l u ks : Nat} (hb : WB g) : WB (losG g l u ks) := WB.hi (Nat.lt_of_le_of_lt (losK_le _ _ _) (hb _ (by omega))) hb
def wrkG (g : Nat → Nat) (a l u : Nat) : Nat → Nat := if g (4 + 3 * a) = 0 then up1 g (4 + 3 * a + 2) (g (4 + 3 * a + 2) + 1) else if (g (4 + 3 * a + 2) + 1) % g (4 + 3 * a) = 0 then cauG (up1 g (4 + 3 * a + 2) (g (4 + 3 * a + 2) + 1)) l u (g (4 + 3 * a + 1)) 1 else up1 g (4 + 3 * a + 2) (g (4 + 3 * a + 2) + 1)
set_option maxRecDepth 4000 in
theorem g_works {G : GI} {T : Hp} {m : Nat} {V : RVal} {g : Nat → Nat} {od : Nat → UInt64} (hs : RS T m)  (hb : WB g) {l u : Nat} (hl : l < 24) (hu : u < 200) {a : Nat} (ha : a < 6) (h1 : g (4 + 3 * a) ≤ 50) (h2 : g (4 + 3 * a + 1) < 4) (h3 : g (4 + 3 * a + 2) < 2147480000) : Fn m_X13_works G [.ref (m), .int (nI (a)), .int (nI (l)), .int (nI (u))] (rput T m (sg V g) od) none (rput T m (sg V (wrkG g a l u)) od) := by
  refine Cn.of rfl (by decide) (Nat.le_of_ble_eq_true rfl) (fun hN hM => ?_)
  show Wx _ G _ 0 [(0, .ref (m)), (1, .int (nI (a))), (2, .int (nI (l))), (3, .int (nI (u)))] [] _
  refine r_iconst (v := nI 4) dX13_works_0 (by decide) ?_
  refine r_iconst (v := nI 3) dX13_works_1 (by decide) ?_
  refine r_iload_n dX13_works_2 rfl 1 rfl ?_
  refine r_imulN dX13_works_3 ?_
  refine r_iaddN dX13_works_4 ?_
  refine r_istore (lv' := [(4, .int (nI (4 + 3 * a))), (0, .ref (m)), (1, .int (nI (a))), (2, .int (nI (l))), (3, .int (nI (u)))]) dX13_works_5 (by decide) rfl ?_
  refine r_aload_n dX13_works_7 rfl 1 rfl ?_
  refine m_ref (k := 0) (j := 1) hs hs.2.1.1 dX13_works_8 fr_X13_7 rfl ?_
  refine r_iload dX13_works_11 0 rfl ?_
  refine r_iconst (v := nI 2) dX13_works_13 (by decide) ?_
  refine r_iaddN dX13_works_14 ?_
  refine r_dup2 dX13_works_15 rfl rfl ?_
  refine g_iald (i := 4 + 3 * a + 2) hs dX13_works_16 (by (first | omega | (have := Nat.mod_le (g (4 + 3 * a + 2) + 1) (g (4 + 3 * a)); omega))) ?_
  refine r_iconst (v := nI 1) dX13_works_17 (by decide) ?_
  refine r_iaddN dX13_works_18 ?_
  refine g_iast (i := 4 + 3 * a + 2) (x := g (4 + 3 * a + 2) + 1) hs dX13_works_19 (by (first | omega | (have := Nat.mod_le (g (4 + 3 * a + 2) + 1) (g (4 + 3 * a)); omega))) ?_
  refine r_aload_n dX13_works_20 rfl 1 rfl ?_
  refine m_ref (k := 0) (j := 1) hs hs.2.1.1 dX13_works_21 fr_X13_7 rfl ?_
  refine r_iload dX13_works_24 0 rfl ?_
  refine g_iald (i := 4 + 3 * a) hs dX13_works_26 (by (first | omega | (have := Nat.mod_le (g (4 + 3 * a + 2) + 1) (g (4 + 3 * a)); omega))) ?_
  refine Wx.topN (up1_n (by (first | omega | (have := Nat.mod_le (g (4 + 3 * a + 2) + 1) (g (4 + 3 * a)); omega)))) ?_
  refine r_if_leN (tgt := 66) dX13_works_27 (by decide) (by (first | omega | (have := Nat.mod_le (g (4 + 3 * a + 2) + 1) (g (4 + 3 * a)); omega))) (fun h27 => ?_) (fun h27 => ?_)
  · exact r_vret dX13_works_66 rfl ⟨rfl, congrArg (fun g => rput T m (sg V g) od) (show (up1 g (4 + 3 * a + 2) (g (4 + 3 * a + 2) + 1)) = wrkG g a l u from by unfold wrkG; (repeat first | rw [if_pos (by first | assumption | omega)] | rw [if_neg (by first | assumption | omega)]); try rfl)⟩
  · refine r_aload_n dX13_works_30 rfl 1 rfl ?_
    refine m_ref (k := 0) (j := 1) hs hs.2.1.1 dX13_works_31 fr_X13_7 rfl ?_
    refine r_iload dX13_works_34 0 rfl ?_
    refine r_iconst (v := nI 2) dX13_works_36 (by decide) ?_
    refine r_iaddN dX13_works_37 ?_
    refine g_iald (i := 4 + 3 * a + 2) hs dX13_works_38 (by (first | omega | (have := Nat.mod_le (g (4 + 3 * a + 2) + 1) (g (4 + 3 * a)); omega))) ?_
    refine Wx.topN up1_s ?_
    refine r_aload_n dX13_works_39 rfl 1 rfl ?_
    refine m_ref (k := 0) (j := 1) hs hs.2.1.1 dX13_works_40 fr_X13_7 rfl ?_
    refine r_iload dX13_works_43 0 rfl ?_
    refine g_iald (i := 4 + 3 * a) hs dX13_works_45 (by (first | omega | (have := Nat.mod_le (g (4 + 3 * a + 2) + 1) (g (4 + 3 * a)); omega))) ?_
    refine Wx.topN (up1_n (by (first | omega | (have := Nat.mod_le (g (4 + 3 * a + 2) + 1) (g (4 + 3 * a)); omega)))) ?_
    refine r_iremN dX13_works_46 (by (first | omega | (have := Nat.mod_le (g (4 + 3 * a + 2) + 1) (g (4 + 3 * a)); omega))) (by (first | omega | (have := Nat.mod_le (g (4 + 3 * a + 2) + 1) (g (4 + 3 * a)); omega))) (by (first | omega | (have := Nat.mod_le (g (4 + 3 * a + 2) + 1) (g (4 + 3 * a)); omega))) ?_
    refine r_if_neN (tgt := 66) dX13_works_47 (by decide) (by (first | omega | (have := Nat.mod_le (g (4 + 3 * a + 2) + 1) (g (4 + 3 * a)); omega))) (fun h47 => ?_) (fun h47 => ?_)
    · exact r_vret dX13_works_66 rfl ⟨rfl, congrArg (fun g => rput T m (sg V g) od) (show (up1 g (4 + 3 * a + 2) (g (4 + 3 * a + 2) + 1)) = wrkG g a l u from by unfold wrkG; (repeat first | rw [if_pos (by first | assumption | omega)] | rw [if_neg (by first | assumption | omega)]); try rfl)⟩
    · refine r_aload_n dX13_works_50 rfl 1 rfl ?_
      refine r_iload_n dX13_works_51 rfl 3 rfl ?_
      refine r_iload_n dX13_works_52 rfl 4 rfl ?_
      refine r_aload_n dX13_works_53 rfl 1 rfl ?_
      refine m_ref (k := 0) (j := 1) hs hs.2.1.1 dX13_works_54 fr_X13_7 rfl ?_
      refine r_iload dX13_works_57 0 rfl ?_
      refine r_iconst (v := nI 1) dX13_works_59 (by decide) ?_
      refine r_iaddN dX13_works_60 ?_
      refine g_iald (i := 4 + 3 * a + 1) hs dX13_works_61 (by (first | omega | (have := Nat.mod_le (g (4 + 3 * a + 2) + 1) (g (4 + 3 * a)); omega))) ?_
      refine Wx.topN (up1_n (by (first | omega | (have := Nat.mod_le (g (4 + 3 * a + 2) + 1) (g (4 + 3 * a)); omega)))) ?_
      refine r_iconst (v := nI 1) dX13_works_62 (by decide) ?_
      refine r_fnV (M2 := m_X13_causes) (As := [.int (nI (l)), .int (nI (u)), .int (nI (g (4 + 3 * a + 1))), .int (nI (1))]) (rest := []) (v := none) dX13_works_63 cc_X13_works_100 rfl rfl rfl (Nat.le_of_ble_eq_true rfl) hs.1 rfl rfl (by decide) (g_causes hs (WB.lo (by (first | omega | (have := Nat.mod_le (g (4 + 3 * a + 2) + 1) (g (4 + 3 * a)); omega))) hb) (by (first | omega | (have := Nat.mod_le (g (4 + 3 * a + 2) + 1) (g (4 + 3 * a)); omega))) (by (first | omega | (have := Nat.mod_le (g (4 + 3 * a + 2) + 1) (g (4 + 3 * a)); omega))) (by (first | omega | (have := Nat.mod_le (g (4 + 3 * a + 2) + 1) (g (4 + 3 * a)); omega))) (by (first | omega | (have := Nat.mod_le (g (4 + 3 * a + 2) + 1) (g (4 + 3 * a)); omega)))) rfl ?_
      exact r_vret dX13_works_66 rfl ⟨rfl, congrArg (fun g => rput T m (sg V g) od) (show (cauG (up1 g (4 + 3 * a + 2) (g (4 + 3 * a + 2) + 1)) l u (g (4 + 3 * a + 1)) 1) = wrkG g a l u from by unfold wrkG; (repeat first | rw [if_pos (by first | assumption | omega)] | rw [if_neg (by first | assumption | omega)]); try rfl)⟩
def onesK (x : Nat) : Nat → Nat
  | 0 => 0
  | q + 1 => onesK x q + x / 2 ^ q % 2
theorem onesK_le (x : Nat) : ∀ q, onesK x q ≤ q
  | 0 => Nat.le_refl 0
  | q + 1 => by
    have := onesK_le x q
    have := Nat.mod_lt (x / 2 ^ q) (by decide : 0 < 2)
    show onesK x q + x / 2 ^ q % 2 ≤ q + 1
    omega
set_option maxRecDepth 4000 in
theorem g_ones {G : GI} {S : Hp} {x : Nat} (hx : x < 2 ^ 31) : Fn m_X13_ones G [.int (nI x)] S (some (.int (nI (onesK x 5)))) S := by
  refine Cn.of rfl (by decide) (Nat.le_of_ble_eq_true rfl) (fun hN hM => ?_)
  show Wx _ G _ 0 [(0, .int (nI (x)))] [] _
  refine r_iconst (v := nI 0) dX13_ones_0 (by decide) ?_
  refine r_istore_n (lv' := [(1, .int (nI (0))), (0, .int (nI (x)))]) dX13_ones_1 rfl (by decide) rfl ?_
  refine r_iconst (v := nI 0) dX13_ones_2 (by decide) ?_
  refine r_istore_n (lv' := [(2, .int (nI (0))), (1, .int (nI (0))), (0, .int (nI (x)))]) dX13_ones_3 rfl (by decide) rfl ?_
  refine Wx.sub [2, 1, 0] rfl ?_
  refine Wx.loop (fun q => S) (fun q => [(0, .int (nI (x))), (1, .int (nI (onesK x q))), (2, .int (nI (q)))]) (5) (0) (Nat.zero_le _) (fun q hge hle next => ?_)
  show Wx _ G (S) 4 [(0, .int (nI (x))), (1, .int (nI (onesK x q))), (2, .int (nI (q)))] [] _
  refine r_iload_n dX13_ones_4 rfl 2 rfl ?_
  refine r_iconst (v := nI 5) dX13_ones_5 (by decide) ?_
  refine r_icmp_geN (tgt := 23) dX13_ones_6 (by decide) (by (first | omega | (have := Nat.div_le_self x (2 ^ q); omega))) (by (first | omega | (have := Nat.div_le_self x (2 ^ q); omega))) (fun h6 => ?_) (fun h6 => ?_)
  · refine r_iload_n dX13_ones_23 rfl 1 rfl ?_
    obtain rfl : q = 5 := by omega
    exact r_iret (ty := .int) dX13_ones_24 rfl rfl ⟨rfl, rfl⟩
  · refine r_iload_n dX13_ones_9 rfl 1 rfl ?_
    refine r_iload_n dX13_ones_10 rfl 0 rfl ?_
    refine r_iload_n dX13_ones_11 rfl 2 rfl ?_
    refine r_ishrN dX13_ones_12 (by (first | omega | (have := Nat.div_le_self x (2 ^ q); omega))) (by (first | omega | (have := Nat.div_le_self x (2 ^ q); omega))) ?_
    refine r_iconst (v := nI 1) dX13_ones_13 (by decide) ?_
    refine r_iandM (k := 1) (c := 2) rfl rfl dX13_ones_14 (by decide) ?_
    refine r_iaddN dX13_ones_15 ?_
    refine r_istore_n (lv' := [(1, .int (nI (onesK x q + ((x / 2 ^ q) % 2)))), (0, .int (nI (x))), (2, .int (nI (q)))]) dX13_ones_16 rfl (by decide) rfl ?_
    refine r_iincN (k := 1) (lv' := [(2, .int (nI (q + 1))), (1, .int (nI (onesK x q + ((x / 2 ^ q) % 2)))), (0, .int (nI (x)))]) dX13_ones_17 (by decide) 2 rfl (by decide) rfl ?_
    refine r_goto (tgt := 4) dX13_ones_20 (by decide) ?_
    refine Wx.sub [2, 1, 0] rfl ?_
    exact next (by omega)
def ltN (x r : Nat) : Nat := x * 2 ^ 1 % 32 ||| r
theorem ltN_lt {x r : Nat} (h : r < 2) : x * 2 ^ 1 % 32 ||| r < 32 := Nat.or_lt_two_pow (n := 5) (by omega) (by omega)
def sevB (g : Nat → Nat) (e f a : Nat) : Nat := if a < f then (if g (e + 3) = 0 then (if 2 ≤ onesK (g (e + 7) * 2 ^ 1 % 32 ||| 1) 5 then 1 else 0) else if g (e + 3) = 1 then (if 5 ≤ g (e + 6) + 1 then 3 else 1) else 0)
  else if g (e + 3) = 0 then (if 2 * f ≤ a then (if g (e + 4) = 12 then 2 else 0) else 0) else if g (e + 3) = 1 then (if 5 ≤ g (e + 5) + 1 then (if g (e + 7) * 2 ^ 1 % 32 ||| 0 = 0 then 0 else 1) else 1) else if f = a then 0 else 2
theorem sevB_le {g : Nat → Nat} {e f a : Nat} : sevB g e f a ≤ 3 := by
  unfold sevB
  (repeat' split) <;> omega
set_option maxRecDepth 4000 in
theorem g_sevB {G : GI} {T : Hp} {m : Nat} {V : RVal} {g : Nat → Nat} {od : Nat → UInt64} (hs : RS T m)  {e f a : Nat} (he : e ≤ 52) (hf : f ≤ 200) (ha : a ≤ 200) (h3 : g (e + 3) ≤ 3) (h4 : g (e + 4) ≤ 15) (h5 : g (e + 5) < 2147480000) (h6 : g (e + 6) < 2147480000) (h7 : g (e + 7) < 32) : Fn m_X13_severityBehind G [.ref (m), .int (nI (e)), .int (nI (f)), .int (nI (a))] (rput T m (sg V g) od) (some (.int (nI (sevB g e f a)))) (rput T m (sg V g) od) := by
  refine Cn.of rfl (by decide) (Nat.le_of_ble_eq_true rfl) (fun hN hM => ?_)
  show Wx _ G _ 0 [(0, .ref (m)), (1, .int (nI (e))), (2, .int (nI (f))), (3, .int (nI (a)))] [] _
  refine r_iload_n dX13_severityBehind_0 rfl 2 rfl ?_
  refine r_iload_n dX13_severityBehind_1 rfl 3 rfl ?_
  refine r_icmp_leN (tgt := 9) dX13_severityBehind_2 (by decide) (by (first | omega | (have := ltN_lt (x := g (e + 7)) (by decide : 0 < 2); have := ltN_lt (x := g (e + 7)) (by decide : 1 < 2); have := onesK_le (g (e + 7) * 2 ^ 1 % 32 ||| 1) 5; have := sevB_le (g := g) (e := e) (f := f) (a := a); omega))) (by (first | omega | (have := ltN_lt (x := g (e + 7)) (by decide : 0 < 2); have := ltN_lt (x := g (e + 7)) (by decide : 1 < 2); have := onesK_le (g (e + 7) * 2 ^ 1 % 32 ||| 1) 5; have := sevB_le (g := g) (e := e) (f := f) (a := a); omega))) (fun h2 => ?_) (fun h2 => ?_)
  · refine r_iconst (v := nI 0) dX13_severityBehind_9 (by decide) ?_
    refine r_istore (lv' := [(4, .int (nI (0))), (0, .ref (m)), (1, .int (nI (e))), (2, .int (nI (f))), (3, .int (nI (a)))]) dX13_severityBehind_10 (by decide) rfl ?_
    refine r_aload_n dX13_severityBehind_12 rfl 1 rfl ?_
    refine m_ref (k := 0) (j := 1) hs hs.2.1.1 dX13_severityBehind_13 fr_X13_7 rfl ?_
    refine r_iload_n dX13_severityBehind_16 rfl 2 rfl ?_
    refine r_iconst (v := nI 5) dX13_severityBehind_17 (by decide) ?_
    refine r_iaddN dX13_severityBehind_18 ?_
    refine g_iald (i := e + 5) hs dX13_severityBehind_19 (by (first | omega | (have := ltN_lt (x := g (e + 7)) (by decide : 0 < 2); have := ltN_lt (x := g (e + 7)) (by decide : 1 < 2); have := onesK_le (g (e + 7) * 2 ^ 1 % 32 ||| 1) 5; have := sevB_le (g := g) (e := e) (f := f) (a := a); omega))) ?_
    refine r_iconst (v := nI 1) dX13_severityBehind_20 (by decide) ?_
    refine r_iaddN dX13_severityBehind_21 ?_
    refine r_istore (lv' := [(5, .int (nI (g (e + 5) + 1))), (4, .int (nI (0))), (0, .ref (m)), (1, .int (nI (e))), (2, .int (nI (f))), (3, .int (nI (a)))]) dX13_severityBehind_22 (by decide) rfl ?_
    refine r_aload_n dX13_severityBehind_24 rfl 2 rfl ?_
    refine m_ref (k := 0) (j := 1) hs hs.2.1.1 dX13_severityBehind_25 fr_X13_7 rfl ?_
    refine r_iload_n dX13_severityBehind_28 rfl 3 rfl ?_
    refine r_bipush (v := nI 7) dX13_severityBehind_29 (by decide) ?_
    refine r_iaddN dX13_severityBehind_31 ?_
    refine g_iald (i := e + 7) hs dX13_severityBehind_32 (by (first | omega | (have := ltN_lt (x := g (e + 7)) (by decide : 0 < 2); have := ltN_lt (x := g (e + 7)) (by decide : 1 < 2); have := onesK_le (g (e + 7) * 2 ^ 1 % 32 ||| 1) 5; have := sevB_le (g := g) (e := e) (f := f) (a := a); omega))) ?_
    refine r_iconst (v := nI 1) dX13_severityBehind_33 (by decide) ?_
    refine r_ishlN dX13_severityBehind_34 (by (first | omega | (have := ltN_lt (x := g (e + 7)) (by decide : 0 < 2); have := ltN_lt (x := g (e + 7)) (by decide : 1 < 2); have := onesK_le (g (e + 7) * 2 ^ 1 % 32 ||| 1) 5; have := sevB_le (g := g) (e := e) (f := f) (a := a); omega))) (by (first | omega | (have := ltN_lt (x := g (e + 7)) (by decide : 0 < 2); have := ltN_lt (x := g (e + 7)) (by decide : 1 < 2); have := onesK_le (g (e + 7) * 2 ^ 1 % 32 ||| 1) 5; have := sevB_le (g := g) (e := e) (f := f) (a := a); omega))) ?_
    refine r_bipush (v := nI 31) dX13_severityBehind_35 (by decide) ?_
    refine r_iandM (k := 5) (c := 32) rfl rfl dX13_severityBehind_37 (by decide) ?_
    refine r_iload dX13_severityBehind_38 1 rfl ?_
    refine r_if_eqN (tgt := 47) dX13_severityBehind_40 (by decide) (by (first | omega | (have := ltN_lt (x := g (e + 7)) (by decide : 0 < 2); have := ltN_lt (x := g (e + 7)) (by decide : 1 < 2); have := onesK_le (g (e + 7) * 2 ^ 1 % 32 ||| 1) 5; have := sevB_le (g := g) (e := e) (f := f) (a := a); omega))) (fun zz40 => ?_) (fun zz40 => ?_)
    · refine r_iconst (v := nI 0) dX13_severityBehind_47 (by decide) ?_
      refine r_iorN dX13_severityBehind_48 (by (first | omega | (have := ltN_lt (x := g (e + 7)) (by decide : 0 < 2); have := ltN_lt (x := g (e + 7)) (by decide : 1 < 2); have := onesK_le (g (e + 7) * 2 ^ 1 % 32 ||| 1) 5; have := sevB_le (g := g) (e := e) (f := f) (a := a); omega))) (by (first | omega | (have := ltN_lt (x := g (e + 7)) (by decide : 0 < 2); have := ltN_lt (x := g (e + 7)) (by decide : 1 < 2); have := onesK_le (g (e + 7) * 2 ^ 1 % 32 ||| 1) 5; have := sevB_le (g := g) (e := e) (f := f) (a := a); omega))) ?_
      refine r_istore (lv' := [(6, .int (nI ((((g (e + 7)) * 2 ^ 1) % 32) ||| 0))), (5, .int (nI (g (e + 5) + 1))), (4, .int (nI (0))), (0, .ref (m)), (1, .int (nI (e))), (2, .int (nI (f))), (3, .int (nI (a)))]) dX13_severityBehind_49 (by decide) rfl ?_
      refine r_aload_n dX13_severityBehind_51 rfl 3 rfl ?_
      refine m_ref (k := 0) (j := 1) hs hs.2.1.1 dX13_severityBehind_52 fr_X13_7 rfl ?_
      refine r_iload_n dX13_severityBehind_55 rfl 4 rfl ?_
      refine r_iconst (v := nI 3) dX13_severityBehind_56 (by decide) ?_
      refine r_iaddN dX13_severityBehind_57 ?_
      refine g_iald (i := e + 3) hs dX13_severityBehind_58 (by (first | omega | (have := ltN_lt (x := g (e + 7)) (by decide : 0 < 2); have := ltN_lt (x := g (e + 7)) (by decide : 1 < 2); have := onesK_le (g (e + 7) * 2 ^ 1 % 32 ||| 1) 5; have := sevB_le (g := g) (e := e) (f := f) (a := a); omega))) ?_
      obtain h59 | h59 | h59 | h59 : g (e + 3) = 0 ∨ g (e + 3) = 1 ∨ g (e + 3) = 2 ∨ g (e + 3) = 3 := by (first | omega | (have := ltN_lt (x := g (e + 7)) (by decide : 0 < 2); have := ltN_lt (x := g (e + 7)) (by decide : 1 < 2); have := onesK_le (g (e + 7) * 2 ^ 1 % 32 ||| 1) 5; have := sevB_le (g := g) (e := e) (f := f) (a := a); omega))
      · refine Wx.topN h59 ?_
        refine r_lookup (off := 25) (tgt := 84) dX13_severityBehind_59 (by decide) (by decide) (by decide) ?_
        refine r_iload dX13_severityBehind_84 2 rfl ?_
        refine r_if_eqN (tgt := 104) dX13_severityBehind_86 (by decide) (by (first | omega | (have := ltN_lt (x := g (e + 7)) (by decide : 0 < 2); have := ltN_lt (x := g (e + 7)) (by decide : 1 < 2); have := onesK_le (g (e + 7) * 2 ^ 1 % 32 ||| 1) 5; have := sevB_le (g := g) (e := e) (f := f) (a := a); omega))) (fun zz86 => ?_) (fun zz86 => ?_)
        · refine r_iconst (v := nI 2) dX13_severityBehind_104 (by decide) ?_
          refine r_iload_n dX13_severityBehind_105 rfl 5 rfl ?_
          refine r_imulN dX13_severityBehind_106 ?_
          refine r_iload_n dX13_severityBehind_107 rfl 6 rfl ?_
          refine r_icmp_gtN (tgt := 128) dX13_severityBehind_108 (by decide) (by (first | omega | (have := ltN_lt (x := g (e + 7)) (by decide : 0 < 2); have := ltN_lt (x := g (e + 7)) (by decide : 1 < 2); have := onesK_le (g (e + 7) * 2 ^ 1 % 32 ||| 1) 5; have := sevB_le (g := g) (e := e) (f := f) (a := a); omega))) (by (first | omega | (have := ltN_lt (x := g (e + 7)) (by decide : 0 < 2); have := ltN_lt (x := g (e + 7)) (by decide : 1 < 2); have := onesK_le (g (e + 7) * 2 ^ 1 % 32 ||| 1) 5; have := sevB_le (g := g) (e := e) (f := f) (a := a); omega))) (fun h108 => ?_) (fun h108 => ?_)
          · refine r_iconst (v := nI 0) dX13_severityBehind_128 (by decide) ?_
            exact r_iret (ty := .int) dX13_severityBehind_129 rfl rfl ⟨congrArg (fun x => Sum.inl (some (Value.int (nI x)))) (show 0 = sevB g e f a from by unfold sevB; (repeat first | rw [if_pos (by first | assumption | omega)] | rw [if_neg (by first | assumption | omega)])), rfl⟩
          · refine r_aload_n dX13_severityBehind_111 rfl 3 rfl ?_
            refine m_ref (k := 0) (j := 1) hs hs.2.1.1 dX13_severityBehind_112 fr_X13_7 rfl ?_
            refine r_iload_n dX13_severityBehind_115 rfl 4 rfl ?_
            refine r_iconst (v := nI 4) dX13_severityBehind_116 (by decide) ?_
            refine r_iaddN dX13_severityBehind_117 ?_
            refine g_iald (i := e + 4) hs dX13_severityBehind_118 (by (first | omega | (have := ltN_lt (x := g (e + 7)) (by decide : 0 < 2); have := ltN_lt (x := g (e + 7)) (by decide : 1 < 2); have := onesK_le (g (e + 7) * 2 ^ 1 % 32 ||| 1) 5; have := sevB_le (g := g) (e := e) (f := f) (a := a); omega))) ?_
            refine r_bipush (v := nI 12) dX13_severityBehind_119 (by decide) ?_
            refine r_icmp_neN (tgt := 128) dX13_severityBehind_121 (by decide) (by (first | omega | (have := ltN_lt (x := g (e + 7)) (by decide : 0 < 2); have := ltN_lt (x := g (e + 7)) (by decide : 1 < 2); have := onesK_le (g (e + 7) * 2 ^ 1 % 32 ||| 1) 5; have := sevB_le (g := g) (e := e) (f := f) (a := a); omega))) (by (first | omega | (have := ltN_lt (x := g (e + 7)) (by decide : 0 < 2); have := ltN_lt (x := g (e + 7)) (by decide : 1 < 2); have := onesK_le (g (e + 7) * 2 ^ 1 % 32 ||| 1) 5; have := sevB_le (g := g) (e := e) (f := f) (a := a); omega))) (fun h121 => ?_) (fun h121 => ?_)
            · refine r_iconst (v := nI 0) dX13_severityBehind_128 (by decide) ?_
              exact r_iret (ty := .int) dX13_severityBehind_129 rfl rfl ⟨congrArg (fun x => Sum.inl (some (Value.int (nI x)))) (show 0 = sevB g e f a from by unfold sevB; (repeat first | rw [if_pos (by first | assumption | omega)] | rw [if_neg (by first | assumption | omega)])), rfl⟩
            · refine r_iconst (v := nI 2) dX13_severityBehind_124 (by decide) ?_
              refine r_goto (tgt := 129) dX13_severityBehind_125 (by decide) ?_
              exact r_iret (ty := .int) dX13_severityBehind_129 rfl rfl ⟨congrArg (fun x => Sum.inl (some (Value.int (nI x)))) (show 2 = sevB g e f a from by unfold sevB; (repeat first | rw [if_pos (by first | assumption | omega)] | rw [if_neg (by first | assumption | omega)])), rfl⟩
        · exact absurd zz86 (by decide)
      · refine Wx.topN h59 ?_
        refine r_lookup (off := 71) (tgt := 130) dX13_severityBehind_59 (by decide) (by decide) (by decide) ?_
        refine r_iload dX13_severityBehind_130 2 rfl ?_
        refine r_if_eqN (tgt := 156) dX13_severityBehind_132 (by decide) (by (first | omega | (have := ltN_lt (x := g (e + 7)) (by decide : 0 < 2); have := ltN_lt (x := g (e + 7)) (by decide : 1 < 2); have := onesK_le (g (e + 7) * 2 ^ 1 % 32 ||| 1) 5; have := sevB_le (g := g) (e := e) (f := f) (a := a); omega))) (fun zz132 => ?_) (fun zz132 => ?_)
        · refine r_iload dX13_severityBehind_156 1 rfl ?_
          refine r_iconst (v := nI 5) dX13_severityBehind_158 (by decide) ?_
          refine r_icmp_ltN (tgt := 171) dX13_severityBehind_159 (by decide) (by (first | omega | (have := ltN_lt (x := g (e + 7)) (by decide : 0 < 2); have := ltN_lt (x := g (e + 7)) (by decide : 1 < 2); have := onesK_le (g (e + 7) * 2 ^ 1 % 32 ||| 1) 5; have := sevB_le (g := g) (e := e) (f := f) (a := a); omega))) (by (first | omega | (have := ltN_lt (x := g (e + 7)) (by decide : 0 < 2); have := ltN_lt (x := g (e + 7)) (by decide : 1 < 2); have := onesK_le (g (e + 7) * 2 ^ 1 % 32 ||| 1) 5; have := sevB_le (g := g) (e := e) (f := f) (a := a); omega))) (fun h159 => ?_) (fun h159 => ?_)
          · refine r_iconst (v := nI 1) dX13_severityBehind_171 (by decide) ?_
            exact r_iret (ty := .int) dX13_severityBehind_172 rfl rfl ⟨congrArg (fun x => Sum.inl (some (Value.int (nI x)))) (show 1 = sevB g e f a from by unfold sevB; (repeat first | rw [if_pos (by first | assumption | omega)] | rw [if_neg (by first | assumption | omega)])), rfl⟩
          · refine r_iload dX13_severityBehind_162 0 rfl ?_
            refine r_if_neN (tgt := 171) dX13_severityBehind_164 (by decide) (by (first | omega | (have := ltN_lt (x := g (e + 7)) (by decide : 0 < 2); have := ltN_lt (x := g (e + 7)) (by decide : 1 < 2); have := onesK_le (g (e + 7) * 2 ^ 1 % 32 ||| 1) 5; have := sevB_le (g := g) (e := e) (f := f) (a := a); omega))) (fun h164 => ?_) (fun h164 => ?_)
            · refine r_iconst (v := nI 1) dX13_severityBehind_171 (by decide) ?_
              exact r_iret (ty := .int) dX13_severityBehind_172 rfl rfl ⟨congrArg (fun x => Sum.inl (some (Value.int (nI x)))) (show 1 = sevB g e f a from by unfold sevB; (repeat first | rw [if_pos (by first | assumption | omega)] | rw [if_neg (by first | assumption | omega)])), rfl⟩
            · refine r_iconst (v := nI 0) dX13_severityBehind_167 (by decide) ?_
              refine r_goto (tgt := 172) dX13_severityBehind_168 (by decide) ?_
              exact r_iret (ty := .int) dX13_severityBehind_172 rfl rfl ⟨congrArg (fun x => Sum.inl (some (Value.int (nI x)))) (show 0 = sevB g e f a from by unfold sevB; (repeat first | rw [if_pos (by first | assumption | omega)] | rw [if_neg (by first | assumption | omega)])), rfl⟩
        · exact absurd zz132 (by decide)
      · refine Wx.topN h59 ?_
        refine r_lookup (off := 114) (tgt := 173) dX13_severityBehind_59 (by decide) (by decide) (by decide) ?_
        refine r_iload dX13_severityBehind_173 2 rfl ?_
        refine r_if_neN (tgt := 183) dX13_severityBehind_175 (by decide) (by (first | omega | (have := ltN_lt (x := g (e + 7)) (by decide : 0 < 2); have := ltN_lt (x := g (e + 7)) (by decide : 1 < 2); have := onesK_le (g (e + 7) * 2 ^ 1 % 32 ||| 1) 5; have := sevB_le (g := g) (e := e) (f := f) (a := a); omega))) (fun zz175 => ?_) (fun zz175 => ?_)
        · exact absurd zz175 (by decide)
        · refine r_iload_n dX13_severityBehind_178 rfl 5 rfl ?_
          refine r_iload_n dX13_severityBehind_179 rfl 6 rfl ?_
          refine r_icmp_neN (tgt := 187) dX13_severityBehind_180 (by decide) (by (first | omega | (have := ltN_lt (x := g (e + 7)) (by decide : 0 < 2); have := ltN_lt (x := g (e + 7)) (by decide : 1 < 2); have := onesK_le (g (e + 7) * 2 ^ 1 % 32 ||| 1) 5; have := sevB_le (g := g) (e := e) (f := f) (a := a); omega))) (by (first | omega | (have := ltN_lt (x := g (e + 7)) (by decide : 0 < 2); have := ltN_lt (x := g (e + 7)) (by decide : 1 < 2); have := onesK_le (g (e + 7) * 2 ^ 1 % 32 ||| 1) 5; have := sevB_le (g := g) (e := e) (f := f) (a := a); omega))) (fun h180 => ?_) (fun h180 => ?_)
          · refine r_iconst (v := nI 2) dX13_severityBehind_187 (by decide) ?_
            exact r_iret (ty := .int) dX13_severityBehind_188 rfl rfl ⟨congrArg (fun x => Sum.inl (some (Value.int (nI x)))) (show 2 = sevB g e f a from by unfold sevB; (repeat first | rw [if_pos (by first | assumption | omega)] | rw [if_neg (by first | assumption | omega)])), rfl⟩
          · refine r_iconst (v := nI 0) dX13_severityBehind_183 (by decide) ?_
            refine r_goto (tgt := 188) dX13_severityBehind_184 (by decide) ?_
            exact r_iret (ty := .int) dX13_severityBehind_188 rfl rfl ⟨congrArg (fun x => Sum.inl (some (Value.int (nI x)))) (show 0 = sevB g e f a from by unfold sevB; (repeat first | rw [if_pos (by first | assumption | omega)] | rw [if_neg (by first | assumption | omega)])), rfl⟩
      · refine Wx.topN h59 ?_
        refine r_lookup (off := 114) (tgt := 173) dX13_severityBehind_59 (by decide) (by decide) (by decide) ?_
        refine r_iload dX13_severityBehind_173 2 rfl ?_
        refine r_if_neN (tgt := 183) dX13_severityBehind_175 (by decide) (by (first | omega | (have := ltN_lt (x := g (e + 7)) (by decide : 0 < 2); have := ltN_lt (x := g (e + 7)) (by decide : 1 < 2); have := onesK_le (g (e + 7) * 2 ^ 1 % 32 ||| 1) 5; have := sevB_le (g := g) (e := e) (f := f) (a := a); omega))) (fun zz175_1 => ?_) (fun zz175_1 => ?_)
        · exact absurd zz175_1 (by decide)
        · refine r_iload_n dX13_severityBehind_178 rfl 5 rfl ?_
          refine r_iload_n dX13_severityBehind_179 rfl 6 rfl ?_
          refine r_icmp_neN (tgt := 187) dX13_severityBehind_180 (by decide) (by (first | omega | (have := ltN_lt (x := g (e + 7)) (by decide : 0 < 2); have := ltN_lt (x := g (e + 7)) (by decide : 1 < 2); have := onesK_le (g (e + 7) * 2 ^ 1 % 32 ||| 1) 5; have := sevB_le (g := g) (e := e) (f := f) (a := a); omega))) (by (first | omega | (have := ltN_lt (x := g (e + 7)) (by decide : 0 < 2); have := ltN_lt (x := g (e + 7)) (by decide : 1 < 2); have := onesK_le (g (e + 7) * 2 ^ 1 % 32 ||| 1) 5; have := sevB_le (g := g) (e := e) (f := f) (a := a); omega))) (fun h180_1 => ?_) (fun h180_1 => ?_)
          · refine r_iconst (v := nI 2) dX13_severityBehind_187 (by decide) ?_
            exact r_iret (ty := .int) dX13_severityBehind_188 rfl rfl ⟨congrArg (fun x => Sum.inl (some (Value.int (nI x)))) (show 2 = sevB g e f a from by unfold sevB; (repeat first | rw [if_pos (by first | assumption | omega)] | rw [if_neg (by first | assumption | omega)])), rfl⟩
          · refine r_iconst (v := nI 0) dX13_severityBehind_183 (by decide) ?_
            refine r_goto (tgt := 188) dX13_severityBehind_184 (by decide) ?_
            exact r_iret (ty := .int) dX13_severityBehind_188 rfl rfl ⟨congrArg (fun x => Sum.inl (some (Value.int (nI x)))) (show 0 = sevB g e f a from by unfold sevB; (repeat first | rw [if_pos (by first | assumption | omega)] | rw [if_neg (by first | assumption | omega)])), rfl⟩
    · exact absurd zz40 (by decide)
  · refine r_iconst (v := nI 1) dX13_severityBehind_5 (by decide) ?_
    refine r_goto (tgt := 10) dX13_severityBehind_6 (by decide) ?_
    refine r_istore (lv' := [(4, .int (nI (1))), (0, .ref (m)), (1, .int (nI (e))), (2, .int (nI (f))), (3, .int (nI (a)))]) dX13_severityBehind_10 (by decide) rfl ?_
    refine r_aload_n dX13_severityBehind_12 rfl 1 rfl ?_
    refine m_ref (k := 0) (j := 1) hs hs.2.1.1 dX13_severityBehind_13 fr_X13_7 rfl ?_
    refine r_iload_n dX13_severityBehind_16 rfl 2 rfl ?_
    refine r_iconst (v := nI 5) dX13_severityBehind_17 (by decide) ?_
    refine r_iaddN dX13_severityBehind_18 ?_
    refine g_iald (i := e + 5) hs dX13_severityBehind_19 (by (first | omega | (have := ltN_lt (x := g (e + 7)) (by decide : 0 < 2); have := ltN_lt (x := g (e + 7)) (by decide : 1 < 2); have := onesK_le (g (e + 7) * 2 ^ 1 % 32 ||| 1) 5; have := sevB_le (g := g) (e := e) (f := f) (a := a); omega))) ?_
    refine r_iconst (v := nI 1) dX13_severityBehind_20 (by decide) ?_
    refine r_iaddN dX13_severityBehind_21 ?_
    refine r_istore (lv' := [(5, .int (nI (g (e + 5) + 1))), (4, .int (nI (1))), (0, .ref (m)), (1, .int (nI (e))), (2, .int (nI (f))), (3, .int (nI (a)))]) dX13_severityBehind_22 (by decide) rfl ?_
    refine r_aload_n dX13_severityBehind_24 rfl 2 rfl ?_
    refine m_ref (k := 0) (j := 1) hs hs.2.1.1 dX13_severityBehind_25 fr_X13_7 rfl ?_
    refine r_iload_n dX13_severityBehind_28 rfl 3 rfl ?_
    refine r_bipush (v := nI 7) dX13_severityBehind_29 (by decide) ?_
    refine r_iaddN dX13_severityBehind_31 ?_
    refine g_iald (i := e + 7) hs dX13_severityBehind_32 (by (first | omega | (have := ltN_lt (x := g (e + 7)) (by decide : 0 < 2); have := ltN_lt (x := g (e + 7)) (by decide : 1 < 2); have := onesK_le (g (e + 7) * 2 ^ 1 % 32 ||| 1) 5; have := sevB_le (g := g) (e := e) (f := f) (a := a); omega))) ?_
    refine r_iconst (v := nI 1) dX13_severityBehind_33 (by decide) ?_
    refine r_ishlN dX13_severityBehind_34 (by (first | omega | (have := ltN_lt (x := g (e + 7)) (by decide : 0 < 2); have := ltN_lt (x := g (e + 7)) (by decide : 1 < 2); have := onesK_le (g (e + 7) * 2 ^ 1 % 32 ||| 1) 5; have := sevB_le (g := g) (e := e) (f := f) (a := a); omega))) (by (first | omega | (have := ltN_lt (x := g (e + 7)) (by decide : 0 < 2); have := ltN_lt (x := g (e + 7)) (by decide : 1 < 2); have := onesK_le (g (e + 7) * 2 ^ 1 % 32 ||| 1) 5; have := sevB_le (g := g) (e := e) (f := f) (a := a); omega))) ?_
    refine r_bipush (v := nI 31) dX13_severityBehind_35 (by decide) ?_
    refine r_iandM (k := 5) (c := 32) rfl rfl dX13_severityBehind_37 (by decide) ?_
    refine r_iload dX13_severityBehind_38 1 rfl ?_
    refine r_if_eqN (tgt := 47) dX13_severityBehind_40 (by decide) (by (first | omega | (have := ltN_lt (x := g (e + 7)) (by decide : 0 < 2); have := ltN_lt (x := g (e + 7)) (by decide : 1 < 2); have := onesK_le (g (e + 7) * 2 ^ 1 % 32 ||| 1) 5; have := sevB_le (g := g) (e := e) (f := f) (a := a); omega))) (fun zz40_1 => ?_) (fun zz40_1 => ?_)
    · exact absurd zz40_1 (by decide)
    · refine r_iconst (v := nI 1) dX13_severityBehind_43 (by decide) ?_
      refine r_goto (tgt := 48) dX13_severityBehind_44 (by decide) ?_
      refine r_iorN dX13_severityBehind_48 (by (first | omega | (have := ltN_lt (x := g (e + 7)) (by decide : 0 < 2); have := ltN_lt (x := g (e + 7)) (by decide : 1 < 2); have := onesK_le (g (e + 7) * 2 ^ 1 % 32 ||| 1) 5; have := sevB_le (g := g) (e := e) (f := f) (a := a); omega))) (by (first | omega | (have := ltN_lt (x := g (e + 7)) (by decide : 0 < 2); have := ltN_lt (x := g (e + 7)) (by decide : 1 < 2); have := onesK_le (g (e + 7) * 2 ^ 1 % 32 ||| 1) 5; have := sevB_le (g := g) (e := e) (f := f) (a := a); omega))) ?_
      refine r_istore (lv' := [(6, .int (nI ((((g (e + 7)) * 2 ^ 1) % 32) ||| 1))), (5, .int (nI (g (e + 5) + 1))), (4, .int (nI (1))), (0, .ref (m)), (1, .int (nI (e))), (2, .int (nI (f))), (3, .int (nI (a)))]) dX13_severityBehind_49 (by decide) rfl ?_
      refine r_aload_n dX13_severityBehind_51 rfl 3 rfl ?_
      refine m_ref (k := 0) (j := 1) hs hs.2.1.1 dX13_severityBehind_52 fr_X13_7 rfl ?_
      refine r_iload_n dX13_severityBehind_55 rfl 4 rfl ?_
      refine r_iconst (v := nI 3) dX13_severityBehind_56 (by decide) ?_
      refine r_iaddN dX13_severityBehind_57 ?_
      refine g_iald (i := e + 3) hs dX13_severityBehind_58 (by (first | omega | (have := ltN_lt (x := g (e + 7)) (by decide : 0 < 2); have := ltN_lt (x := g (e + 7)) (by decide : 1 < 2); have := onesK_le (g (e + 7) * 2 ^ 1 % 32 ||| 1) 5; have := sevB_le (g := g) (e := e) (f := f) (a := a); omega))) ?_
      obtain h59_1 | h59_1 | h59_1 | h59_1 : g (e + 3) = 0 ∨ g (e + 3) = 1 ∨ g (e + 3) = 2 ∨ g (e + 3) = 3 := by (first | omega | (have := ltN_lt (x := g (e + 7)) (by decide : 0 < 2); have := ltN_lt (x := g (e + 7)) (by decide : 1 < 2); have := onesK_le (g (e + 7) * 2 ^ 1 % 32 ||| 1) 5; have := sevB_le (g := g) (e := e) (f := f) (a := a); omega))
      · refine Wx.topN h59_1 ?_
        refine r_lookup (off := 25) (tgt := 84) dX13_severityBehind_59 (by decide) (by decide) (by decide) ?_
        refine r_iload dX13_severityBehind_84 2 rfl ?_
        refine r_if_eqN (tgt := 104) dX13_severityBehind_86 (by decide) (by (first | omega | (have := ltN_lt (x := g (e + 7)) (by decide : 0 < 2); have := ltN_lt (x := g (e + 7)) (by decide : 1 < 2); have := onesK_le (g (e + 7) * 2 ^ 1 % 32 ||| 1) 5; have := sevB_le (g := g) (e := e) (f := f) (a := a); omega))) (fun zz86_1 => ?_) (fun zz86_1 => ?_)
        · exact absurd zz86_1 (by decide)
        · refine r_iload dX13_severityBehind_89 0 rfl ?_
          refine r_fnS (M2 := m_X13_ones) (As := [.int (nI ((((g (e + 7)) * 2 ^ 1) % 32) ||| 1))]) (rest := []) (v := some (.int (nI (onesK ((((g (e + 7)) * 2 ^ 1) % 32) ||| 1) 5)))) dX13_severityBehind_91 cc_X13_severityBehind_140 rfl rfl rfl (Nat.le_of_ble_eq_true rfl) (g_ones (by (first | omega | (have := ltN_lt (x := g (e + 7)) (by decide : 0 < 2); have := ltN_lt (x := g (e + 7)) (by decide : 1 < 2); have := onesK_le (g (e + 7) * 2 ^ 1 % 32 ||| 1) 5; have := sevB_le (g := g) (e := e) (f := f) (a := a); omega)))) rfl ?_
          refine r_iconst (v := nI 2) dX13_severityBehind_94 (by decide) ?_
          refine r_icmp_ltN (tgt := 102) dX13_severityBehind_95 (by decide) (by (first | omega | (have := ltN_lt (x := g (e + 7)) (by decide : 0 < 2); have := ltN_lt (x := g (e + 7)) (by decide : 1 < 2); have := onesK_le (g (e + 7) * 2 ^ 1 % 32 ||| 1) 5; have := sevB_le (g := g) (e := e) (f := f) (a := a); omega))) (by (first | omega | (have := ltN_lt (x := g (e + 7)) (by decide : 0 < 2); have := ltN_lt (x := g (e + 7)) (by decide : 1 < 2); have := onesK_le (g (e + 7) * 2 ^ 1 % 32 ||| 1) 5; have := sevB_le (g := g) (e := e) (f := f) (a := a); omega))) (fun h95 => ?_) (fun h95 => ?_)
          · refine r_iconst (v := nI 0) dX13_severityBehind_102 (by decide) ?_
            exact r_iret (ty := .int) dX13_severityBehind_103 rfl rfl ⟨congrArg (fun x => Sum.inl (some (Value.int (nI x)))) (show 0 = sevB g e f a from by unfold sevB; (repeat first | rw [if_pos (by first | assumption | omega)] | rw [if_neg (by first | assumption | omega)])), rfl⟩
          · refine r_iconst (v := nI 1) dX13_severityBehind_98 (by decide) ?_
            refine r_goto (tgt := 103) dX13_severityBehind_99 (by decide) ?_
            exact r_iret (ty := .int) dX13_severityBehind_103 rfl rfl ⟨congrArg (fun x => Sum.inl (some (Value.int (nI x)))) (show 1 = sevB g e f a from by unfold sevB; (repeat first | rw [if_pos (by first | assumption | omega)] | rw [if_neg (by first | assumption | omega)])), rfl⟩
      · refine Wx.topN h59_1 ?_
        refine r_lookup (off := 71) (tgt := 130) dX13_severityBehind_59 (by decide) (by decide) (by decide) ?_
        refine r_iload dX13_severityBehind_130 2 rfl ?_
        refine r_if_eqN (tgt := 156) dX13_severityBehind_132 (by decide) (by (first | omega | (have := ltN_lt (x := g (e + 7)) (by decide : 0 < 2); have := ltN_lt (x := g (e + 7)) (by decide : 1 < 2); have := onesK_le (g (e + 7) * 2 ^ 1 % 32 ||| 1) 5; have := sevB_le (g := g) (e := e) (f := f) (a := a); omega))) (fun zz132_1 => ?_) (fun zz132_1 => ?_)
        · exact absurd zz132_1 (by decide)
        · refine r_aload_n dX13_severityBehind_135 rfl 3 rfl ?_
          refine m_ref (k := 0) (j := 1) hs hs.2.1.1 dX13_severityBehind_136 fr_X13_7 rfl ?_
          refine r_iload_n dX13_severityBehind_139 rfl 4 rfl ?_
          refine r_bipush (v := nI 6) dX13_severityBehind_140 (by decide) ?_
          refine r_iaddN dX13_severityBehind_142 ?_
          refine g_iald (i := e + 6) hs dX13_severityBehind_143 (by (first | omega | (have := ltN_lt (x := g (e + 7)) (by decide : 0 < 2); have := ltN_lt (x := g (e + 7)) (by decide : 1 < 2); have := onesK_le (g (e + 7) * 2 ^ 1 % 32 ||| 1) 5; have := sevB_le (g := g) (e := e) (f := f) (a := a); omega))) ?_
          refine r_iconst (v := nI 1) dX13_severityBehind_144 (by decide) ?_
          refine r_iaddN dX13_severityBehind_145 ?_
          refine r_iconst (v := nI 5) dX13_severityBehind_146 (by decide) ?_
          refine r_icmp_ltN (tgt := 154) dX13_severityBehind_147 (by decide) (by (first | omega | (have := ltN_lt (x := g (e + 7)) (by decide : 0 < 2); have := ltN_lt (x := g (e + 7)) (by decide : 1 < 2); have := onesK_le (g (e + 7) * 2 ^ 1 % 32 ||| 1) 5; have := sevB_le (g := g) (e := e) (f := f) (a := a); omega))) (by (first | omega | (have := ltN_lt (x := g (e + 7)) (by decide : 0 < 2); have := ltN_lt (x := g (e + 7)) (by decide : 1 < 2); have := onesK_le (g (e + 7) * 2 ^ 1 % 32 ||| 1) 5; have := sevB_le (g := g) (e := e) (f := f) (a := a); omega))) (fun h147 => ?_) (fun h147 => ?_)
          · refine r_iconst (v := nI 1) dX13_severityBehind_154 (by decide) ?_
            exact r_iret (ty := .int) dX13_severityBehind_155 rfl rfl ⟨congrArg (fun x => Sum.inl (some (Value.int (nI x)))) (show 1 = sevB g e f a from by unfold sevB; (repeat first | rw [if_pos (by first | assumption | omega)] | rw [if_neg (by first | assumption | omega)])), rfl⟩
          · refine r_iconst (v := nI 3) dX13_severityBehind_150 (by decide) ?_
            refine r_goto (tgt := 155) dX13_severityBehind_151 (by decide) ?_
            exact r_iret (ty := .int) dX13_severityBehind_155 rfl rfl ⟨congrArg (fun x => Sum.inl (some (Value.int (nI x)))) (show 3 = sevB g e f a from by unfold sevB; (repeat first | rw [if_pos (by first | assumption | omega)] | rw [if_neg (by first | assumption | omega)])), rfl⟩
      · refine Wx.topN h59_1 ?_
        refine r_lookup (off := 114) (tgt := 173) dX13_severityBehind_59 (by decide) (by decide) (by decide) ?_
        refine r_iload dX13_severityBehind_173 2 rfl ?_
        refine r_if_neN (tgt := 183) dX13_severityBehind_175 (by decide) (by (first | omega | (have := ltN_lt (x := g (e + 7)) (by decide : 0 < 2); have := ltN_lt (x := g (e + 7)) (by decide : 1 < 2); have := onesK_le (g (e + 7) * 2 ^ 1 % 32 ||| 1) 5; have := sevB_le (g := g) (e := e) (f := f) (a := a); omega))) (fun zz175_2 => ?_) (fun zz175_2 => ?_)
        · refine r_iconst (v := nI 0) dX13_severityBehind_183 (by decide) ?_
          refine r_goto (tgt := 188) dX13_severityBehind_184 (by decide) ?_
          exact r_iret (ty := .int) dX13_severityBehind_188 rfl rfl ⟨congrArg (fun x => Sum.inl (some (Value.int (nI x)))) (show 0 = sevB g e f a from by unfold sevB; (repeat first | rw [if_pos (by first | assumption | omega)] | rw [if_neg (by first | assumption | omega)])), rfl⟩
        · exact absurd zz175_2 (by decide)
      · refine Wx.topN h59_1 ?_
        refine r_lookup (off := 114) (tgt := 173) dX13_severityBehind_59 (by decide) (by decide) (by decide) ?_
        refine r_iload dX13_severityBehind_173 2 rfl ?_
        refine r_if_neN (tgt := 183) dX13_severityBehind_175 (by decide) (by (first | omega | (have := ltN_lt (x := g (e + 7)) (by decide : 0 < 2); have := ltN_lt (x := g (e + 7)) (by decide : 1 < 2); have := onesK_le (g (e + 7) * 2 ^ 1 % 32 ||| 1) 5; have := sevB_le (g := g) (e := e) (f := f) (a := a); omega))) (fun zz175_3 => ?_) (fun zz175_3 => ?_)
        · refine r_iconst (v := nI 0) dX13_severityBehind_183 (by decide) ?_
          refine r_goto (tgt := 188) dX13_severityBehind_184 (by decide) ?_
          exact r_iret (ty := .int) dX13_severityBehind_188 rfl rfl ⟨congrArg (fun x => Sum.inl (some (Value.int (nI x)))) (show 0 = sevB g e f a from by unfold sevB; (repeat first | rw [if_pos (by first | assumption | omega)] | rw [if_neg (by first | assumption | omega)])), rfl⟩
        · exact absurd zz175_3 (by decide)
def fgtG (g : Nat → Nat) (e s : Nat) : Nat → Nat := up1 (up1 (up1 (up1 (up1 g (e + 3) s) (e + 4) 0) (e + 5) 0) (e + 6) 0) (e + 7) 0
set_option maxRecDepth 4000 in
theorem g_forgets {G : GI} {T : Hp} {m : Nat} {V : RVal} {g : Nat → Nat} {od : Nat → UInt64} (hs : RS T m)  {e s : Nat} (he : e ≤ 52) : Fn m_X13_forgets G [.ref (m), .int (nI (e)), .int (nI (s))] (rput T m (sg V g) od) none (rput T m (sg V (fgtG g e s)) od) := by
  refine Cn.of rfl (by decide) (Nat.le_of_ble_eq_true rfl) (fun hN hM => ?_)
  show Wx _ G _ 0 [(0, .ref (m)), (1, .int (nI (e))), (2, .int (nI (s)))] [] _
  refine r_aload_n dX13_forgets_0 rfl 0 rfl ?_
  refine m_ref (k := 0) (j := 1) hs hs.2.1.1 dX13_forgets_1 fr_X13_7 rfl ?_
  refine r_iload_n dX13_forgets_4 rfl 1 rfl ?_
  refine r_iconst (v := nI 3) dX13_forgets_5 (by decide) ?_
  refine r_iaddN dX13_forgets_6 ?_
  refine r_iload_n dX13_forgets_7 rfl 2 rfl ?_
  refine g_iast (i := e + 3) (x := s) hs dX13_forgets_8 (by omega) ?_
  refine r_iconst (v := nI 4) dX13_forgets_9 (by decide) ?_
  refine r_istore_n (lv' := [(3, .int (nI (4))), (0, .ref (m)), (1, .int (nI (e))), (2, .int (nI (s)))]) dX13_forgets_10 rfl (by decide) rfl ?_
  refine r_iload_n dX13_forgets_11 rfl 0 rfl ?_
  refine r_bipush (v := nI 8) dX13_forgets_12 (by decide) ?_
  refine r_icmp_geN (tgt := 32) dX13_forgets_14 (by decide) (by omega) (by omega) (fun zz14 => ?_) (fun zz14 => ?_)
  · exact absurd zz14 (by decide)
  · refine r_aload_n dX13_forgets_17 rfl 1 rfl ?_
    refine m_ref (k := 0) (j := 1) hs hs.2.1.1 dX13_forgets_18 fr_X13_7 rfl ?_
    refine r_iload_n dX13_forgets_21 rfl 2 rfl ?_
    refine r_iload_n dX13_forgets_22 rfl 0 rfl ?_
    refine r_iaddN dX13_forgets_23 ?_
    refine r_iconst (v := nI 0) dX13_forgets_24 (by decide) ?_
    refine g_iast (i := e + 4) (x := 0) hs dX13_forgets_25 (by omega) ?_
    refine r_iincN (k := 1) (lv' := [(3, .int (nI (5))), (0, .ref (m)), (1, .int (nI (e))), (2, .int (nI (s)))]) dX13_forgets_26 (by decide) 0 rfl (by decide) rfl ?_
    refine r_goto (tgt := 11) dX13_forgets_29 (by decide) ?_
    refine r_iload_n dX13_forgets_11 rfl 0 rfl ?_
    refine r_bipush (v := nI 8) dX13_forgets_12 (by decide) ?_
    refine r_icmp_geN (tgt := 32) dX13_forgets_14 (by decide) (by omega) (by omega) (fun zz14_1 => ?_) (fun zz14_1 => ?_)
    · exact absurd zz14_1 (by decide)
    · refine r_aload_n dX13_forgets_17 rfl 1 rfl ?_
      refine m_ref (k := 0) (j := 1) hs hs.2.1.1 dX13_forgets_18 fr_X13_7 rfl ?_
      refine r_iload_n dX13_forgets_21 rfl 2 rfl ?_
      refine r_iload_n dX13_forgets_22 rfl 0 rfl ?_
      refine r_iaddN dX13_forgets_23 ?_
      refine r_iconst (v := nI 0) dX13_forgets_24 (by decide) ?_
      refine g_iast (i := e + 5) (x := 0) hs dX13_forgets_25 (by omega) ?_
      refine r_iincN (k := 1) (lv' := [(3, .int (nI (6))), (0, .ref (m)), (1, .int (nI (e))), (2, .int (nI (s)))]) dX13_forgets_26 (by decide) 0 rfl (by decide) rfl ?_
      refine r_goto (tgt := 11) dX13_forgets_29 (by decide) ?_
      refine r_iload_n dX13_forgets_11 rfl 0 rfl ?_
      refine r_bipush (v := nI 8) dX13_forgets_12 (by decide) ?_
      refine r_icmp_geN (tgt := 32) dX13_forgets_14 (by decide) (by omega) (by omega) (fun zz14_2 => ?_) (fun zz14_2 => ?_)
      · exact absurd zz14_2 (by decide)
      · refine r_aload_n dX13_forgets_17 rfl 1 rfl ?_
        refine m_ref (k := 0) (j := 1) hs hs.2.1.1 dX13_forgets_18 fr_X13_7 rfl ?_
        refine r_iload_n dX13_forgets_21 rfl 2 rfl ?_
        refine r_iload_n dX13_forgets_22 rfl 0 rfl ?_
        refine r_iaddN dX13_forgets_23 ?_
        refine r_iconst (v := nI 0) dX13_forgets_24 (by decide) ?_
        refine g_iast (i := e + 6) (x := 0) hs dX13_forgets_25 (by omega) ?_
        refine r_iincN (k := 1) (lv' := [(3, .int (nI (7))), (0, .ref (m)), (1, .int (nI (e))), (2, .int (nI (s)))]) dX13_forgets_26 (by decide) 0 rfl (by decide) rfl ?_
        refine r_goto (tgt := 11) dX13_forgets_29 (by decide) ?_
        refine r_iload_n dX13_forgets_11 rfl 0 rfl ?_
        refine r_bipush (v := nI 8) dX13_forgets_12 (by decide) ?_
        refine r_icmp_geN (tgt := 32) dX13_forgets_14 (by decide) (by omega) (by omega) (fun zz14_3 => ?_) (fun zz14_3 => ?_)
        · exact absurd zz14_3 (by decide)
        · refine r_aload_n dX13_forgets_17 rfl 1 rfl ?_
          refine m_ref (k := 0) (j := 1) hs hs.2.1.1 dX13_forgets_18 fr_X13_7 rfl ?_
          refine r_iload_n dX13_forgets_21 rfl 2 rfl ?_
          refine r_iload_n dX13_forgets_22 rfl 0 rfl ?_
          refine r_iaddN dX13_forgets_23 ?_
          refine r_iconst (v := nI 0) dX13_forgets_24 (by decide) ?_
          refine g_iast (i := e + 7) (x := 0) hs dX13_forgets_25 (by omega) ?_
          refine r_iincN (k := 1) (lv' := [(3, .int (nI (8))), (0, .ref (m)), (1, .int (nI (e))), (2, .int (nI (s)))]) dX13_forgets_26 (by decide) 0 rfl (by decide) rfl ?_
          refine r_goto (tgt := 11) dX13_forgets_29 (by decide) ?_
          refine r_iload_n dX13_forgets_11 rfl 0 rfl ?_
          refine r_bipush (v := nI 8) dX13_forgets_12 (by decide) ?_
          refine r_icmp_geN (tgt := 32) dX13_forgets_14 (by decide) (by omega) (by omega) (fun zz14_4 => ?_) (fun zz14_4 => ?_)
          · exact r_vret dX13_forgets_32 rfl ⟨rfl, rfl⟩
          · exact absurd zz14_4 (by decide)
theorem WB.fgt {g : Nat → Nat} {e s : Nat} (he : e ≤ 52) (hb : WB g) : WB (fgtG g e s) := WB.lo (by omega) (WB.lo (by omega) (WB.lo (by omega) (WB.lo (by omega) (WB.lo (by omega) hb))))
def updG (g1 g : Nat → Nat) (e r : Nat) : Nat → Nat := up1 (up1 (up1 g1 (e + 5) (g (e + 5) + 1)) (e + 6) (g (e + 6) + r)) (e + 7) (g (e + 7) * 2 ^ 1 % 32 ||| r)
def swtG (g : Nat → Nat) (e f a : Nat) : Nat → Nat := if sevB g e f a = g (e + 3) then (if a < f then (if sevB g e f a = 0 then updG (up1 g (e + 4) 0) g e 1 else updG g g e 1) else (if sevB g e f a = 0 then (if 2 * f ≤ a then updG (up1 g (e + 4) (g (e + 4) + 3)) g e 0 else updG (up1 g (e + 4) 0) g e 0) else updG g g e 0)) else fgtG g e (sevB g e f a)
set_option maxRecDepth 4000 in
theorem g_switches {G : GI} {T : Hp} {m : Nat} {V : RVal} {g : Nat → Nat} {od : Nat → UInt64} (hs : RS T m)  {e f a : Nat} (he : e ≤ 52) (hf : f ≤ 200) (ha : a ≤ 200) (h3 : g (e + 3) ≤ 3) (h4 : g (e + 4) ≤ 15) (h5 : g (e + 5) < 2147480000) (h6 : g (e + 6) < 2147480000) (h7 : g (e + 7) < 32) : Fn m_X13_switches G [.ref (m), .int (nI (e)), .int (nI (f)), .int (nI (a))] (rput T m (sg V g) od) none (rput T m (sg V (swtG g e f a)) od) := by
  refine Cn.of rfl (by decide) (Nat.le_of_ble_eq_true rfl) (fun hN hM => ?_)
  show Wx _ G _ 0 [(0, .ref (m)), (1, .int (nI (e))), (2, .int (nI (f))), (3, .int (nI (a)))] [] _
  refine r_aload_n dX13_switches_0 rfl 0 rfl ?_
  refine r_iload_n dX13_switches_1 rfl 1 rfl ?_
  refine r_iload_n dX13_switches_2 rfl 2 rfl ?_
  refine r_iload_n dX13_switches_3 rfl 3 rfl ?_
  refine r_fnV (M2 := m_X13_severityBehind) (As := [.int (nI (e)), .int (nI (f)), .int (nI (a))]) (rest := []) (v := some (.int (nI (sevB g e f a)))) dX13_switches_4 cc_X13_switches_143 rfl rfl rfl (Nat.le_of_ble_eq_true rfl) hs.1 rfl rfl (by decide) (g_sevB hs he hf ha h3 h4 h5 h6 h7) rfl ?_
  refine r_istore (lv' := [(4, .int (nI (sevB g e f a))), (0, .ref (m)), (1, .int (nI (e))), (2, .int (nI (f))), (3, .int (nI (a)))]) dX13_switches_7 (by decide) rfl ?_
  refine r_iload dX13_switches_9 0 rfl ?_
  refine r_aload_n dX13_switches_11 rfl 1 rfl ?_
  refine m_ref (k := 0) (j := 1) hs hs.2.1.1 dX13_switches_12 fr_X13_7 rfl ?_
  refine r_iload_n dX13_switches_15 rfl 2 rfl ?_
  refine r_iconst (v := nI 3) dX13_switches_16 (by decide) ?_
  refine r_iaddN dX13_switches_17 ?_
  refine g_iald (i := e + 3) hs dX13_switches_18 (by (first | omega | (have := ltN_lt (x := g (e + 7)) (by decide : 0 < 2); have := ltN_lt (x := g (e + 7)) (by decide : 1 < 2); have := onesK_le (g (e + 7) * 2 ^ 1 % 32 ||| 1) 5; have := sevB_le (g := g) (e := e) (f := f) (a := a); omega))) ?_
  refine r_icmp_eqN (tgt := 30) dX13_switches_19 (by decide) (by (first | omega | (have := ltN_lt (x := g (e + 7)) (by decide : 0 < 2); have := ltN_lt (x := g (e + 7)) (by decide : 1 < 2); have := onesK_le (g (e + 7) * 2 ^ 1 % 32 ||| 1) 5; have := sevB_le (g := g) (e := e) (f := f) (a := a); omega))) (by (first | omega | (have := ltN_lt (x := g (e + 7)) (by decide : 0 < 2); have := ltN_lt (x := g (e + 7)) (by decide : 1 < 2); have := onesK_le (g (e + 7) * 2 ^ 1 % 32 ||| 1) 5; have := sevB_le (g := g) (e := e) (f := f) (a := a); omega))) (fun h19 => ?_) (fun h19 => ?_)
  · refine r_iload_n dX13_switches_30 rfl 3 rfl ?_
    refine r_iload_n dX13_switches_31 rfl 4 rfl ?_
    refine r_icmp_leN (tgt := 39) dX13_switches_32 (by decide) (by (first | omega | (have := ltN_lt (x := g (e + 7)) (by decide : 0 < 2); have := ltN_lt (x := g (e + 7)) (by decide : 1 < 2); have := onesK_le (g (e + 7) * 2 ^ 1 % 32 ||| 1) 5; have := sevB_le (g := g) (e := e) (f := f) (a := a); omega))) (by (first | omega | (have := ltN_lt (x := g (e + 7)) (by decide : 0 < 2); have := ltN_lt (x := g (e + 7)) (by decide : 1 < 2); have := onesK_le (g (e + 7) * 2 ^ 1 % 32 ||| 1) 5; have := sevB_le (g := g) (e := e) (f := f) (a := a); omega))) (fun h32 => ?_) (fun h32 => ?_)
    · refine r_iconst (v := nI 0) dX13_switches_39 (by decide) ?_
      refine r_istore (lv' := [(5, .int (nI (0))), (4, .int (nI (sevB g e f a))), (0, .ref (m)), (1, .int (nI (e))), (2, .int (nI (f))), (3, .int (nI (a)))]) dX13_switches_40 (by decide) rfl ?_
      refine r_iload dX13_switches_42 1 rfl ?_
      refine r_if_neN (tgt := 81) dX13_switches_44 (by decide) (by (first | omega | (have := ltN_lt (x := g (e + 7)) (by decide : 0 < 2); have := ltN_lt (x := g (e + 7)) (by decide : 1 < 2); have := onesK_le (g (e + 7) * 2 ^ 1 % 32 ||| 1) 5; have := sevB_le (g := g) (e := e) (f := f) (a := a); omega))) (fun h44 => ?_) (fun h44 => ?_)
      · refine r_aload_n dX13_switches_81 rfl 2 rfl ?_
        refine m_ref (k := 0) (j := 1) hs hs.2.1.1 dX13_switches_82 fr_X13_7 rfl ?_
        refine r_iload_n dX13_switches_85 rfl 3 rfl ?_
        refine r_iconst (v := nI 5) dX13_switches_86 (by decide) ?_
        refine r_iaddN dX13_switches_87 ?_
        refine r_dup2 dX13_switches_88 rfl rfl ?_
        refine g_iald (i := e + 5) hs dX13_switches_89 (by (first | omega | (have := ltN_lt (x := g (e + 7)) (by decide : 0 < 2); have := ltN_lt (x := g (e + 7)) (by decide : 1 < 2); have := onesK_le (g (e + 7) * 2 ^ 1 % 32 ||| 1) 5; have := sevB_le (g := g) (e := e) (f := f) (a := a); omega))) ?_
        refine r_iconst (v := nI 1) dX13_switches_90 (by decide) ?_
        refine r_iaddN dX13_switches_91 ?_
        refine g_iast (i := e + 5) (x := g (e + 5) + 1) hs dX13_switches_92 (by (first | omega | (have := ltN_lt (x := g (e + 7)) (by decide : 0 < 2); have := ltN_lt (x := g (e + 7)) (by decide : 1 < 2); have := onesK_le (g (e + 7) * 2 ^ 1 % 32 ||| 1) 5; have := sevB_le (g := g) (e := e) (f := f) (a := a); omega))) ?_
        refine r_aload_n dX13_switches_93 rfl 2 rfl ?_
        refine m_ref (k := 0) (j := 1) hs hs.2.1.1 dX13_switches_94 fr_X13_7 rfl ?_
        refine r_iload_n dX13_switches_97 rfl 3 rfl ?_
        refine r_bipush (v := nI 6) dX13_switches_98 (by decide) ?_
        refine r_iaddN dX13_switches_100 ?_
        refine r_dup2 dX13_switches_101 rfl rfl ?_
        refine g_iald (i := e + 6) hs dX13_switches_102 (by (first | omega | (have := ltN_lt (x := g (e + 7)) (by decide : 0 < 2); have := ltN_lt (x := g (e + 7)) (by decide : 1 < 2); have := onesK_le (g (e + 7) * 2 ^ 1 % 32 ||| 1) 5; have := sevB_le (g := g) (e := e) (f := f) (a := a); omega))) ?_
        refine Wx.topN (up1_n (by (first | omega | (have := ltN_lt (x := g (e + 7)) (by decide : 0 < 2); have := ltN_lt (x := g (e + 7)) (by decide : 1 < 2); have := onesK_le (g (e + 7) * 2 ^ 1 % 32 ||| 1) 5; have := sevB_le (g := g) (e := e) (f := f) (a := a); omega)))) ?_
        refine r_iload dX13_switches_103 0 rfl ?_
        refine r_if_eqN (tgt := 112) dX13_switches_105 (by decide) (by (first | omega | (have := ltN_lt (x := g (e + 7)) (by decide : 0 < 2); have := ltN_lt (x := g (e + 7)) (by decide : 1 < 2); have := onesK_le (g (e + 7) * 2 ^ 1 % 32 ||| 1) 5; have := sevB_le (g := g) (e := e) (f := f) (a := a); omega))) (fun zz105 => ?_) (fun zz105 => ?_)
        · refine r_iconst (v := nI 0) dX13_switches_112 (by decide) ?_
          refine r_iaddN dX13_switches_113 ?_
          refine g_iast (i := e + 6) (x := g (e + 6) + 0) hs dX13_switches_114 (by (first | omega | (have := ltN_lt (x := g (e + 7)) (by decide : 0 < 2); have := ltN_lt (x := g (e + 7)) (by decide : 1 < 2); have := onesK_le (g (e + 7) * 2 ^ 1 % 32 ||| 1) 5; have := sevB_le (g := g) (e := e) (f := f) (a := a); omega))) ?_
          refine r_aload_n dX13_switches_115 rfl 2 rfl ?_
          refine m_ref (k := 0) (j := 1) hs hs.2.1.1 dX13_switches_116 fr_X13_7 rfl ?_
          refine r_iload_n dX13_switches_119 rfl 3 rfl ?_
          refine r_bipush (v := nI 7) dX13_switches_120 (by decide) ?_
          refine r_iaddN dX13_switches_122 ?_
          refine r_aload_n dX13_switches_123 rfl 2 rfl ?_
          refine m_ref (k := 0) (j := 1) hs hs.2.1.1 dX13_switches_124 fr_X13_7 rfl ?_
          refine r_iload_n dX13_switches_127 rfl 3 rfl ?_
          refine r_bipush (v := nI 7) dX13_switches_128 (by decide) ?_
          refine r_iaddN dX13_switches_130 ?_
          refine g_iald (i := e + 7) hs dX13_switches_131 (by (first | omega | (have := ltN_lt (x := g (e + 7)) (by decide : 0 < 2); have := ltN_lt (x := g (e + 7)) (by decide : 1 < 2); have := onesK_le (g (e + 7) * 2 ^ 1 % 32 ||| 1) 5; have := sevB_le (g := g) (e := e) (f := f) (a := a); omega))) ?_
          refine Wx.topN (up1_n (by (first | omega | (have := ltN_lt (x := g (e + 7)) (by decide : 0 < 2); have := ltN_lt (x := g (e + 7)) (by decide : 1 < 2); have := onesK_le (g (e + 7) * 2 ^ 1 % 32 ||| 1) 5; have := sevB_le (g := g) (e := e) (f := f) (a := a); omega)))) ?_
          refine Wx.topN (up1_n (by (first | omega | (have := ltN_lt (x := g (e + 7)) (by decide : 0 < 2); have := ltN_lt (x := g (e + 7)) (by decide : 1 < 2); have := onesK_le (g (e + 7) * 2 ^ 1 % 32 ||| 1) 5; have := sevB_le (g := g) (e := e) (f := f) (a := a); omega)))) ?_
          refine r_iconst (v := nI 1) dX13_switches_132 (by decide) ?_
          refine r_ishlN dX13_switches_133 (by (first | omega | (have := ltN_lt (x := g (e + 7)) (by decide : 0 < 2); have := ltN_lt (x := g (e + 7)) (by decide : 1 < 2); have := onesK_le (g (e + 7) * 2 ^ 1 % 32 ||| 1) 5; have := sevB_le (g := g) (e := e) (f := f) (a := a); omega))) (by (first | omega | (have := ltN_lt (x := g (e + 7)) (by decide : 0 < 2); have := ltN_lt (x := g (e + 7)) (by decide : 1 < 2); have := onesK_le (g (e + 7) * 2 ^ 1 % 32 ||| 1) 5; have := sevB_le (g := g) (e := e) (f := f) (a := a); omega))) ?_
          refine r_bipush (v := nI 31) dX13_switches_134 (by decide) ?_
          refine r_iandM (k := 5) (c := 32) rfl rfl dX13_switches_136 (by decide) ?_
          refine r_iload dX13_switches_137 0 rfl ?_
          refine r_if_eqN (tgt := 146) dX13_switches_139 (by decide) (by (first | omega | (have := ltN_lt (x := g (e + 7)) (by decide : 0 < 2); have := ltN_lt (x := g (e + 7)) (by decide : 1 < 2); have := onesK_le (g (e + 7) * 2 ^ 1 % 32 ||| 1) 5; have := sevB_le (g := g) (e := e) (f := f) (a := a); omega))) (fun zz139 => ?_) (fun zz139 => ?_)
          · refine r_iconst (v := nI 0) dX13_switches_146 (by decide) ?_
            refine r_iorN dX13_switches_147 (by (first | omega | (have := ltN_lt (x := g (e + 7)) (by decide : 0 < 2); have := ltN_lt (x := g (e + 7)) (by decide : 1 < 2); have := onesK_le (g (e + 7) * 2 ^ 1 % 32 ||| 1) 5; have := sevB_le (g := g) (e := e) (f := f) (a := a); omega))) (by (first | omega | (have := ltN_lt (x := g (e + 7)) (by decide : 0 < 2); have := ltN_lt (x := g (e + 7)) (by decide : 1 < 2); have := onesK_le (g (e + 7) * 2 ^ 1 % 32 ||| 1) 5; have := sevB_le (g := g) (e := e) (f := f) (a := a); omega))) ?_
            refine g_iast (i := e + 7) (x := (((g (e + 7)) * 2 ^ 1) % 32) ||| 0) hs dX13_switches_148 (by (first | omega | (have := ltN_lt (x := g (e + 7)) (by decide : 0 < 2); have := ltN_lt (x := g (e + 7)) (by decide : 1 < 2); have := onesK_le (g (e + 7) * 2 ^ 1 % 32 ||| 1) 5; have := sevB_le (g := g) (e := e) (f := f) (a := a); omega))) ?_
            exact r_vret dX13_switches_149 rfl ⟨rfl, congrArg (fun g => rput T m (sg V g) od) (show (up1 (up1 (up1 g (e + 5) (g (e + 5) + 1)) (e + 6) (g (e + 6) + 0)) (e + 7) ((((g (e + 7)) * 2 ^ 1) % 32) ||| 0)) = swtG g e f a from by unfold swtG; (repeat first | rw [if_pos (by first | assumption | omega)] | rw [if_neg (by first | assumption | omega)]); try rfl)⟩
          · exact absurd zz139 (by decide)
        · exact absurd zz105 (by decide)
      · refine r_aload_n dX13_switches_47 rfl 2 rfl ?_
        refine m_ref (k := 0) (j := 1) hs hs.2.1.1 dX13_switches_48 fr_X13_7 rfl ?_
        refine r_iload_n dX13_switches_51 rfl 3 rfl ?_
        refine r_iconst (v := nI 4) dX13_switches_52 (by decide) ?_
        refine r_iaddN dX13_switches_53 ?_
        refine r_iload dX13_switches_54 0 rfl ?_
        refine r_if_neN (tgt := 79) dX13_switches_56 (by decide) (by (first | omega | (have := ltN_lt (x := g (e + 7)) (by decide : 0 < 2); have := ltN_lt (x := g (e + 7)) (by decide : 1 < 2); have := onesK_le (g (e + 7) * 2 ^ 1 % 32 ||| 1) 5; have := sevB_le (g := g) (e := e) (f := f) (a := a); omega))) (fun zz56 => ?_) (fun zz56 => ?_)
        · exact absurd zz56 (by decide)
        · refine r_iconst (v := nI 2) dX13_switches_59 (by decide) ?_
          refine r_iload_n dX13_switches_60 rfl 4 rfl ?_
          refine r_imulN dX13_switches_61 ?_
          refine r_iload_n dX13_switches_62 rfl 5 rfl ?_
          refine r_icmp_gtN (tgt := 79) dX13_switches_63 (by decide) (by (first | omega | (have := ltN_lt (x := g (e + 7)) (by decide : 0 < 2); have := ltN_lt (x := g (e + 7)) (by decide : 1 < 2); have := onesK_le (g (e + 7) * 2 ^ 1 % 32 ||| 1) 5; have := sevB_le (g := g) (e := e) (f := f) (a := a); omega))) (by (first | omega | (have := ltN_lt (x := g (e + 7)) (by decide : 0 < 2); have := ltN_lt (x := g (e + 7)) (by decide : 1 < 2); have := onesK_le (g (e + 7) * 2 ^ 1 % 32 ||| 1) 5; have := sevB_le (g := g) (e := e) (f := f) (a := a); omega))) (fun h63 => ?_) (fun h63 => ?_)
          · refine r_iconst (v := nI 0) dX13_switches_79 (by decide) ?_
            refine g_iast (i := e + 4) (x := 0) hs dX13_switches_80 (by (first | omega | (have := ltN_lt (x := g (e + 7)) (by decide : 0 < 2); have := ltN_lt (x := g (e + 7)) (by decide : 1 < 2); have := onesK_le (g (e + 7) * 2 ^ 1 % 32 ||| 1) 5; have := sevB_le (g := g) (e := e) (f := f) (a := a); omega))) ?_
            refine r_aload_n dX13_switches_81 rfl 2 rfl ?_
            refine m_ref (k := 0) (j := 1) hs hs.2.1.1 dX13_switches_82 fr_X13_7 rfl ?_
            refine r_iload_n dX13_switches_85 rfl 3 rfl ?_
            refine r_iconst (v := nI 5) dX13_switches_86 (by decide) ?_
            refine r_iaddN dX13_switches_87 ?_
            refine r_dup2 dX13_switches_88 rfl rfl ?_
            refine g_iald (i := e + 5) hs dX13_switches_89 (by (first | omega | (have := ltN_lt (x := g (e + 7)) (by decide : 0 < 2); have := ltN_lt (x := g (e + 7)) (by decide : 1 < 2); have := onesK_le (g (e + 7) * 2 ^ 1 % 32 ||| 1) 5; have := sevB_le (g := g) (e := e) (f := f) (a := a); omega))) ?_
            refine Wx.topN (up1_n (by (first | omega | (have := ltN_lt (x := g (e + 7)) (by decide : 0 < 2); have := ltN_lt (x := g (e + 7)) (by decide : 1 < 2); have := onesK_le (g (e + 7) * 2 ^ 1 % 32 ||| 1) 5; have := sevB_le (g := g) (e := e) (f := f) (a := a); omega)))) ?_
            refine r_iconst (v := nI 1) dX13_switches_90 (by decide) ?_
            refine r_iaddN dX13_switches_91 ?_
            refine g_iast (i := e + 5) (x := g (e + 5) + 1) hs dX13_switches_92 (by (first | omega | (have := ltN_lt (x := g (e + 7)) (by decide : 0 < 2); have := ltN_lt (x := g (e + 7)) (by decide : 1 < 2); have := onesK_le (g (e + 7) * 2 ^ 1 % 32 ||| 1) 5; have := sevB_le (g := g) (e := e) (f := f) (a := a); omega))) ?_
            refine r_aload_n dX13_switches_93 rfl 2 rfl ?_
            refine m_ref (k := 0) (j := 1) hs hs.2.1.1 dX13_switches_94 fr_X13_7 rfl ?_
            refine r_iload_n dX13_switches_97 rfl 3 rfl ?_
            refine r_bipush (v := nI 6) dX13_switches_98 (by decide) ?_
            refine r_iaddN dX13_switches_100 ?_
            refine r_dup2 dX13_switches_101 rfl rfl ?_
            refine g_iald (i := e + 6) hs dX13_switches_102 (by (first | omega | (have := ltN_lt (x := g (e + 7)) (by decide : 0 < 2); have := ltN_lt (x := g (e + 7)) (by decide : 1 < 2); have := onesK_le (g (e + 7) * 2 ^ 1 % 32 ||| 1) 5; have := sevB_le (g := g) (e := e) (f := f) (a := a); omega))) ?_
            refine Wx.topN (up1_n (by (first | omega | (have := ltN_lt (x := g (e + 7)) (by decide : 0 < 2); have := ltN_lt (x := g (e + 7)) (by decide : 1 < 2); have := onesK_le (g (e + 7) * 2 ^ 1 % 32 ||| 1) 5; have := sevB_le (g := g) (e := e) (f := f) (a := a); omega)))) ?_
            refine Wx.topN (up1_n (by (first | omega | (have := ltN_lt (x := g (e + 7)) (by decide : 0 < 2); have := ltN_lt (x := g (e + 7)) (by decide : 1 < 2); have := onesK_le (g (e + 7) * 2 ^ 1 % 32 ||| 1) 5; have := sevB_le (g := g) (e := e) (f := f) (a := a); omega)))) ?_
            refine r_iload dX13_switches_103 0 rfl ?_
            refine r_if_eqN (tgt := 112) dX13_switches_105 (by decide) (by (first | omega | (have := ltN_lt (x := g (e + 7)) (by decide : 0 < 2); have := ltN_lt (x := g (e + 7)) (by decide : 1 < 2); have := onesK_le (g (e + 7) * 2 ^ 1 % 32 ||| 1) 5; have := sevB_le (g := g) (e := e) (f := f) (a := a); omega))) (fun zz105_1 => ?_) (fun zz105_1 => ?_)
            · refine r_iconst (v := nI 0) dX13_switches_112 (by decide) ?_
              refine r_iaddN dX13_switches_113 ?_
              refine g_iast (i := e + 6) (x := g (e + 6) + 0) hs dX13_switches_114 (by (first | omega | (have := ltN_lt (x := g (e + 7)) (by decide : 0 < 2); have := ltN_lt (x := g (e + 7)) (by decide : 1 < 2); have := onesK_le (g (e + 7) * 2 ^ 1 % 32 ||| 1) 5; have := sevB_le (g := g) (e := e) (f := f) (a := a); omega))) ?_
              refine r_aload_n dX13_switches_115 rfl 2 rfl ?_
              refine m_ref (k := 0) (j := 1) hs hs.2.1.1 dX13_switches_116 fr_X13_7 rfl ?_
              refine r_iload_n dX13_switches_119 rfl 3 rfl ?_
              refine r_bipush (v := nI 7) dX13_switches_120 (by decide) ?_
              refine r_iaddN dX13_switches_122 ?_
              refine r_aload_n dX13_switches_123 rfl 2 rfl ?_
              refine m_ref (k := 0) (j := 1) hs hs.2.1.1 dX13_switches_124 fr_X13_7 rfl ?_
              refine r_iload_n dX13_switches_127 rfl 3 rfl ?_
              refine r_bipush (v := nI 7) dX13_switches_128 (by decide) ?_
              refine r_iaddN dX13_switches_130 ?_
              refine g_iald (i := e + 7) hs dX13_switches_131 (by (first | omega | (have := ltN_lt (x := g (e + 7)) (by decide : 0 < 2); have := ltN_lt (x := g (e + 7)) (by decide : 1 < 2); have := onesK_le (g (e + 7) * 2 ^ 1 % 32 ||| 1) 5; have := sevB_le (g := g) (e := e) (f := f) (a := a); omega))) ?_
              refine Wx.topN (up1_n (by (first | omega | (have := ltN_lt (x := g (e + 7)) (by decide : 0 < 2); have := ltN_lt (x := g (e + 7)) (by decide : 1 < 2); have := onesK_le (g (e + 7) * 2 ^ 1 % 32 ||| 1) 5; have := sevB_le (g := g) (e := e) (f := f) (a := a); omega)))) ?_
              refine Wx.topN (up1_n (by (first | omega | (have := ltN_lt (x := g (e + 7)) (by decide : 0 < 2); have := ltN_lt (x := g (e + 7)) (by decide : 1 < 2); have := onesK_le (g (e + 7) * 2 ^ 1 % 32 ||| 1) 5; have := sevB_le (g := g) (e := e) (f := f) (a := a); omega)))) ?_
              refine Wx.topN (up1_n (by (first | omega | (have := ltN_lt (x := g (e + 7)) (by decide : 0 < 2); have := ltN_lt (x := g (e + 7)) (by decide : 1 < 2); have := onesK_le (g (e + 7) * 2 ^ 1 % 32 ||| 1) 5; have := sevB_le (g := g) (e := e) (f := f) (a := a); omega)))) ?_
              refine r_iconst (v := nI 1) dX13_switches_132 (by decide) ?_
              refine r_ishlN dX13_switches_133 (by (first | omega | (have := ltN_lt (x := g (e + 7)) (by decide : 0 < 2); have := ltN_lt (x := g (e + 7)) (by decide : 1 < 2); have := onesK_le (g (e + 7) * 2 ^ 1 % 32 ||| 1) 5; have := sevB_le (g := g) (e := e) (f := f) (a := a); omega))) (by (first | omega | (have := ltN_lt (x := g (e + 7)) (by decide : 0 < 2); have := ltN_lt (x := g (e + 7)) (by decide : 1 < 2); have := onesK_le (g (e + 7) * 2 ^ 1 % 32 ||| 1) 5; have := sevB_le (g := g) (e := e) (f := f) (a := a); omega))) ?_
              refine r_bipush (v := nI 31) dX13_switches_134 (by decide) ?_
              refine r_iandM (k := 5) (c := 32) rfl rfl dX13_switches_136 (by decide) ?_
              refine r_iload dX13_switches_137 0 rfl ?_
              refine r_if_eqN (tgt := 146) dX13_switches_139 (by decide) (by (first | omega | (have := ltN_lt (x := g (e + 7)) (by decide : 0 < 2); have := ltN_lt (x := g (e + 7)) (by decide : 1 < 2); have := onesK_le (g (e + 7) * 2 ^ 1 % 32 ||| 1) 5; have := sevB_le (g := g) (e := e) (f := f) (a := a); omega))) (fun zz139_1 => ?_) (fun zz139_1 => ?_)
              · refine r_iconst (v := nI 0) dX13_switches_146 (by decide) ?_
                refine r_iorN dX13_switches_147 (by (first | omega | (have := ltN_lt (x := g (e + 7)) (by decide : 0 < 2); have := ltN_lt (x := g (e + 7)) (by decide : 1 < 2); have := onesK_le (g (e + 7) * 2 ^ 1 % 32 ||| 1) 5; have := sevB_le (g := g) (e := e) (f := f) (a := a); omega))) (by (first | omega | (have := ltN_lt (x := g (e + 7)) (by decide : 0 < 2); have := ltN_lt (x := g (e + 7)) (by decide : 1 < 2); have := onesK_le (g (e + 7) * 2 ^ 1 % 32 ||| 1) 5; have := sevB_le (g := g) (e := e) (f := f) (a := a); omega))) ?_
                refine g_iast (i := e + 7) (x := (((g (e + 7)) * 2 ^ 1) % 32) ||| 0) hs dX13_switches_148 (by (first | omega | (have := ltN_lt (x := g (e + 7)) (by decide : 0 < 2); have := ltN_lt (x := g (e + 7)) (by decide : 1 < 2); have := onesK_le (g (e + 7) * 2 ^ 1 % 32 ||| 1) 5; have := sevB_le (g := g) (e := e) (f := f) (a := a); omega))) ?_
                exact r_vret dX13_switches_149 rfl ⟨rfl, congrArg (fun g => rput T m (sg V g) od) (show (up1 (up1 (up1 (up1 g (e + 4) (0)) (e + 5) (g (e + 5) + 1)) (e + 6) (g (e + 6) + 0)) (e + 7) ((((g (e + 7)) * 2 ^ 1) % 32) ||| 0)) = swtG g e f a from by unfold swtG; (repeat first | rw [if_pos (by first | assumption | omega)] | rw [if_neg (by first | assumption | omega)]); try rfl)⟩
              · exact absurd zz139_1 (by decide)
            · exact absurd zz105_1 (by decide)
          · refine r_aload_n dX13_switches_66 rfl 2 rfl ?_
            refine m_ref (k := 0) (j := 1) hs hs.2.1.1 dX13_switches_67 fr_X13_7 rfl ?_
            refine r_iload_n dX13_switches_70 rfl 3 rfl ?_
            refine r_iconst (v := nI 4) dX13_switches_71 (by decide) ?_
            refine r_iaddN dX13_switches_72 ?_
            refine g_iald (i := e + 4) hs dX13_switches_73 (by (first | omega | (have := ltN_lt (x := g (e + 7)) (by decide : 0 < 2); have := ltN_lt (x := g (e + 7)) (by decide : 1 < 2); have := onesK_le (g (e + 7) * 2 ^ 1 % 32 ||| 1) 5; have := sevB_le (g := g) (e := e) (f := f) (a := a); omega))) ?_
            refine r_iconst (v := nI 3) dX13_switches_74 (by decide) ?_
            refine r_iaddN dX13_switches_75 ?_
            refine r_goto (tgt := 80) dX13_switches_76 (by decide) ?_
            refine g_iast (i := e + 4) (x := g (e + 4) + 3) hs dX13_switches_80 (by (first | omega | (have := ltN_lt (x := g (e + 7)) (by decide : 0 < 2); have := ltN_lt (x := g (e + 7)) (by decide : 1 < 2); have := onesK_le (g (e + 7) * 2 ^ 1 % 32 ||| 1) 5; have := sevB_le (g := g) (e := e) (f := f) (a := a); omega))) ?_
            refine r_aload_n dX13_switches_81 rfl 2 rfl ?_
            refine m_ref (k := 0) (j := 1) hs hs.2.1.1 dX13_switches_82 fr_X13_7 rfl ?_
            refine r_iload_n dX13_switches_85 rfl 3 rfl ?_
            refine r_iconst (v := nI 5) dX13_switches_86 (by decide) ?_
            refine r_iaddN dX13_switches_87 ?_
            refine r_dup2 dX13_switches_88 rfl rfl ?_
            refine g_iald (i := e + 5) hs dX13_switches_89 (by (first | omega | (have := ltN_lt (x := g (e + 7)) (by decide : 0 < 2); have := ltN_lt (x := g (e + 7)) (by decide : 1 < 2); have := onesK_le (g (e + 7) * 2 ^ 1 % 32 ||| 1) 5; have := sevB_le (g := g) (e := e) (f := f) (a := a); omega))) ?_
            refine Wx.topN (up1_n (by (first | omega | (have := ltN_lt (x := g (e + 7)) (by decide : 0 < 2); have := ltN_lt (x := g (e + 7)) (by decide : 1 < 2); have := onesK_le (g (e + 7) * 2 ^ 1 % 32 ||| 1) 5; have := sevB_le (g := g) (e := e) (f := f) (a := a); omega)))) ?_
            refine r_iconst (v := nI 1) dX13_switches_90 (by decide) ?_
            refine r_iaddN dX13_switches_91 ?_
            refine g_iast (i := e + 5) (x := g (e + 5) + 1) hs dX13_switches_92 (by (first | omega | (have := ltN_lt (x := g (e + 7)) (by decide : 0 < 2); have := ltN_lt (x := g (e + 7)) (by decide : 1 < 2); have := onesK_le (g (e + 7) * 2 ^ 1 % 32 ||| 1) 5; have := sevB_le (g := g) (e := e) (f := f) (a := a); omega))) ?_
            refine r_aload_n dX13_switches_93 rfl 2 rfl ?_
            refine m_ref (k := 0) (j := 1) hs hs.2.1.1 dX13_switches_94 fr_X13_7 rfl ?_
            refine r_iload_n dX13_switches_97 rfl 3 rfl ?_
            refine r_bipush (v := nI 6) dX13_switches_98 (by decide) ?_
            refine r_iaddN dX13_switches_100 ?_
            refine r_dup2 dX13_switches_101 rfl rfl ?_
            refine g_iald (i := e + 6) hs dX13_switches_102 (by (first | omega | (have := ltN_lt (x := g (e + 7)) (by decide : 0 < 2); have := ltN_lt (x := g (e + 7)) (by decide : 1 < 2); have := onesK_le (g (e + 7) * 2 ^ 1 % 32 ||| 1) 5; have := sevB_le (g := g) (e := e) (f := f) (a := a); omega))) ?_
            refine Wx.topN (up1_n (by (first | omega | (have := ltN_lt (x := g (e + 7)) (by decide : 0 < 2); have := ltN_lt (x := g (e + 7)) (by decide : 1 < 2); have := onesK_le (g (e + 7) * 2 ^ 1 % 32 ||| 1) 5; have := sevB_le (g := g) (e := e) (f := f) (a := a); omega)))) ?_
            refine Wx.topN (up1_n (by (first | omega | (have := ltN_lt (x := g (e + 7)) (by decide : 0 < 2); have := ltN_lt (x := g (e + 7)) (by decide : 1 < 2); have := onesK_le (g (e + 7) * 2 ^ 1 % 32 ||| 1) 5; have := sevB_le (g := g) (e := e) (f := f) (a := a); omega)))) ?_
            refine r_iload dX13_switches_103 0 rfl ?_
            refine r_if_eqN (tgt := 112) dX13_switches_105 (by decide) (by (first | omega | (have := ltN_lt (x := g (e + 7)) (by decide : 0 < 2); have := ltN_lt (x := g (e + 7)) (by decide : 1 < 2); have := onesK_le (g (e + 7) * 2 ^ 1 % 32 ||| 1) 5; have := sevB_le (g := g) (e := e) (f := f) (a := a); omega))) (fun zz105_2 => ?_) (fun zz105_2 => ?_)
            · refine r_iconst (v := nI 0) dX13_switches_112 (by decide) ?_
              refine r_iaddN dX13_switches_113 ?_
              refine g_iast (i := e + 6) (x := g (e + 6) + 0) hs dX13_switches_114 (by (first | omega | (have := ltN_lt (x := g (e + 7)) (by decide : 0 < 2); have := ltN_lt (x := g (e + 7)) (by decide : 1 < 2); have := onesK_le (g (e + 7) * 2 ^ 1 % 32 ||| 1) 5; have := sevB_le (g := g) (e := e) (f := f) (a := a); omega))) ?_
              refine r_aload_n dX13_switches_115 rfl 2 rfl ?_
              refine m_ref (k := 0) (j := 1) hs hs.2.1.1 dX13_switches_116 fr_X13_7 rfl ?_
              refine r_iload_n dX13_switches_119 rfl 3 rfl ?_
              refine r_bipush (v := nI 7) dX13_switches_120 (by decide) ?_
              refine r_iaddN dX13_switches_122 ?_
              refine r_aload_n dX13_switches_123 rfl 2 rfl ?_
              refine m_ref (k := 0) (j := 1) hs hs.2.1.1 dX13_switches_124 fr_X13_7 rfl ?_
              refine r_iload_n dX13_switches_127 rfl 3 rfl ?_
              refine r_bipush (v := nI 7) dX13_switches_128 (by decide) ?_
              refine r_iaddN dX13_switches_130 ?_
              refine g_iald (i := e + 7) hs dX13_switches_131 (by (first | omega | (have := ltN_lt (x := g (e + 7)) (by decide : 0 < 2); have := ltN_lt (x := g (e + 7)) (by decide : 1 < 2); have := onesK_le (g (e + 7) * 2 ^ 1 % 32 ||| 1) 5; have := sevB_le (g := g) (e := e) (f := f) (a := a); omega))) ?_
              refine Wx.topN (up1_n (by (first | omega | (have := ltN_lt (x := g (e + 7)) (by decide : 0 < 2); have := ltN_lt (x := g (e + 7)) (by decide : 1 < 2); have := onesK_le (g (e + 7) * 2 ^ 1 % 32 ||| 1) 5; have := sevB_le (g := g) (e := e) (f := f) (a := a); omega)))) ?_
              refine Wx.topN (up1_n (by (first | omega | (have := ltN_lt (x := g (e + 7)) (by decide : 0 < 2); have := ltN_lt (x := g (e + 7)) (by decide : 1 < 2); have := onesK_le (g (e + 7) * 2 ^ 1 % 32 ||| 1) 5; have := sevB_le (g := g) (e := e) (f := f) (a := a); omega)))) ?_
              refine Wx.topN (up1_n (by (first | omega | (have := ltN_lt (x := g (e + 7)) (by decide : 0 < 2); have := ltN_lt (x := g (e + 7)) (by decide : 1 < 2); have := onesK_le (g (e + 7) * 2 ^ 1 % 32 ||| 1) 5; have := sevB_le (g := g) (e := e) (f := f) (a := a); omega)))) ?_
              refine r_iconst (v := nI 1) dX13_switches_132 (by decide) ?_
              refine r_ishlN dX13_switches_133 (by (first | omega | (have := ltN_lt (x := g (e + 7)) (by decide : 0 < 2); have := ltN_lt (x := g (e + 7)) (by decide : 1 < 2); have := onesK_le (g (e + 7) * 2 ^ 1 % 32 ||| 1) 5; have := sevB_le (g := g) (e := e) (f := f) (a := a); omega))) (by (first | omega | (have := ltN_lt (x := g (e + 7)) (by decide : 0 < 2); have := ltN_lt (x := g (e + 7)) (by decide : 1 < 2); have := onesK_le (g (e + 7) * 2 ^ 1 % 32 ||| 1) 5; have := sevB_le (g := g) (e := e) (f := f) (a := a); omega))) ?_
              refine r_bipush (v := nI 31) dX13_switches_134 (by decide) ?_
              refine r_iandM (k := 5) (c := 32) rfl rfl dX13_switches_136 (by decide) ?_
              refine r_iload dX13_switches_137 0 rfl ?_
              refine r_if_eqN (tgt := 146) dX13_switches_139 (by decide) (by (first | omega | (have := ltN_lt (x := g (e + 7)) (by decide : 0 < 2); have := ltN_lt (x := g (e + 7)) (by decide : 1 < 2); have := onesK_le (g (e + 7) * 2 ^ 1 % 32 ||| 1) 5; have := sevB_le (g := g) (e := e) (f := f) (a := a); omega))) (fun zz139_2 => ?_) (fun zz139_2 => ?_)
              · refine r_iconst (v := nI 0) dX13_switches_146 (by decide) ?_
                refine r_iorN dX13_switches_147 (by (first | omega | (have := ltN_lt (x := g (e + 7)) (by decide : 0 < 2); have := ltN_lt (x := g (e + 7)) (by decide : 1 < 2); have := onesK_le (g (e + 7) * 2 ^ 1 % 32 ||| 1) 5; have := sevB_le (g := g) (e := e) (f := f) (a := a); omega))) (by (first | omega | (have := ltN_lt (x := g (e + 7)) (by decide : 0 < 2); have := ltN_lt (x := g (e + 7)) (by decide : 1 < 2); have := onesK_le (g (e + 7) * 2 ^ 1 % 32 ||| 1) 5; have := sevB_le (g := g) (e := e) (f := f) (a := a); omega))) ?_
                refine g_iast (i := e + 7) (x := (((g (e + 7)) * 2 ^ 1) % 32) ||| 0) hs dX13_switches_148 (by (first | omega | (have := ltN_lt (x := g (e + 7)) (by decide : 0 < 2); have := ltN_lt (x := g (e + 7)) (by decide : 1 < 2); have := onesK_le (g (e + 7) * 2 ^ 1 % 32 ||| 1) 5; have := sevB_le (g := g) (e := e) (f := f) (a := a); omega))) ?_
                exact r_vret dX13_switches_149 rfl ⟨rfl, congrArg (fun g => rput T m (sg V g) od) (show (up1 (up1 (up1 (up1 g (e + 4) (g (e + 4) + 3)) (e + 5) (g (e + 5) + 1)) (e + 6) (g (e + 6) + 0)) (e + 7) ((((g (e + 7)) * 2 ^ 1) % 32) ||| 0)) = swtG g e f a from by unfold swtG; (repeat first | rw [if_pos (by first | assumption | omega)] | rw [if_neg (by first | assumption | omega)]); try rfl)⟩
              · exact absurd zz139_2 (by decide)
            · exact absurd zz105_2 (by decide)
    · refine r_iconst (v := nI 1) dX13_switches_35 (by decide) ?_
      refine r_goto (tgt := 40) dX13_switches_36 (by decide) ?_
      refine r_istore (lv' := [(5, .int (nI (1))), (4, .int (nI (sevB g e f a))), (0, .ref (m)), (1, .int (nI (e))), (2, .int (nI (f))), (3, .int (nI (a)))]) dX13_switches_40 (by decide) rfl ?_
      refine r_iload dX13_switches_42 1 rfl ?_
      refine r_if_neN (tgt := 81) dX13_switches_44 (by decide) (by (first | omega | (have := ltN_lt (x := g (e + 7)) (by decide : 0 < 2); have := ltN_lt (x := g (e + 7)) (by decide : 1 < 2); have := onesK_le (g (e + 7) * 2 ^ 1 % 32 ||| 1) 5; have := sevB_le (g := g) (e := e) (f := f) (a := a); omega))) (fun h44_1 => ?_) (fun h44_1 => ?_)
      · refine r_aload_n dX13_switches_81 rfl 2 rfl ?_
        refine m_ref (k := 0) (j := 1) hs hs.2.1.1 dX13_switches_82 fr_X13_7 rfl ?_
        refine r_iload_n dX13_switches_85 rfl 3 rfl ?_
        refine r_iconst (v := nI 5) dX13_switches_86 (by decide) ?_
        refine r_iaddN dX13_switches_87 ?_
        refine r_dup2 dX13_switches_88 rfl rfl ?_
        refine g_iald (i := e + 5) hs dX13_switches_89 (by (first | omega | (have := ltN_lt (x := g (e + 7)) (by decide : 0 < 2); have := ltN_lt (x := g (e + 7)) (by decide : 1 < 2); have := onesK_le (g (e + 7) * 2 ^ 1 % 32 ||| 1) 5; have := sevB_le (g := g) (e := e) (f := f) (a := a); omega))) ?_
        refine r_iconst (v := nI 1) dX13_switches_90 (by decide) ?_
        refine r_iaddN dX13_switches_91 ?_
        refine g_iast (i := e + 5) (x := g (e + 5) + 1) hs dX13_switches_92 (by (first | omega | (have := ltN_lt (x := g (e + 7)) (by decide : 0 < 2); have := ltN_lt (x := g (e + 7)) (by decide : 1 < 2); have := onesK_le (g (e + 7) * 2 ^ 1 % 32 ||| 1) 5; have := sevB_le (g := g) (e := e) (f := f) (a := a); omega))) ?_
        refine r_aload_n dX13_switches_93 rfl 2 rfl ?_
        refine m_ref (k := 0) (j := 1) hs hs.2.1.1 dX13_switches_94 fr_X13_7 rfl ?_
        refine r_iload_n dX13_switches_97 rfl 3 rfl ?_
        refine r_bipush (v := nI 6) dX13_switches_98 (by decide) ?_
        refine r_iaddN dX13_switches_100 ?_
        refine r_dup2 dX13_switches_101 rfl rfl ?_
        refine g_iald (i := e + 6) hs dX13_switches_102 (by (first | omega | (have := ltN_lt (x := g (e + 7)) (by decide : 0 < 2); have := ltN_lt (x := g (e + 7)) (by decide : 1 < 2); have := onesK_le (g (e + 7) * 2 ^ 1 % 32 ||| 1) 5; have := sevB_le (g := g) (e := e) (f := f) (a := a); omega))) ?_
        refine Wx.topN (up1_n (by (first | omega | (have := ltN_lt (x := g (e + 7)) (by decide : 0 < 2); have := ltN_lt (x := g (e + 7)) (by decide : 1 < 2); have := onesK_le (g (e + 7) * 2 ^ 1 % 32 ||| 1) 5; have := sevB_le (g := g) (e := e) (f := f) (a := a); omega)))) ?_
        refine r_iload dX13_switches_103 0 rfl ?_
        refine r_if_eqN (tgt := 112) dX13_switches_105 (by decide) (by (first | omega | (have := ltN_lt (x := g (e + 7)) (by decide : 0 < 2); have := ltN_lt (x := g (e + 7)) (by decide : 1 < 2); have := onesK_le (g (e + 7) * 2 ^ 1 % 32 ||| 1) 5; have := sevB_le (g := g) (e := e) (f := f) (a := a); omega))) (fun zz105_3 => ?_) (fun zz105_3 => ?_)
        · exact absurd zz105_3 (by decide)
        · refine r_iconst (v := nI 1) dX13_switches_108 (by decide) ?_
          refine r_goto (tgt := 113) dX13_switches_109 (by decide) ?_
          refine r_iaddN dX13_switches_113 ?_
          refine g_iast (i := e + 6) (x := g (e + 6) + 1) hs dX13_switches_114 (by (first | omega | (have := ltN_lt (x := g (e + 7)) (by decide : 0 < 2); have := ltN_lt (x := g (e + 7)) (by decide : 1 < 2); have := onesK_le (g (e + 7) * 2 ^ 1 % 32 ||| 1) 5; have := sevB_le (g := g) (e := e) (f := f) (a := a); omega))) ?_
          refine r_aload_n dX13_switches_115 rfl 2 rfl ?_
          refine m_ref (k := 0) (j := 1) hs hs.2.1.1 dX13_switches_116 fr_X13_7 rfl ?_
          refine r_iload_n dX13_switches_119 rfl 3 rfl ?_
          refine r_bipush (v := nI 7) dX13_switches_120 (by decide) ?_
          refine r_iaddN dX13_switches_122 ?_
          refine r_aload_n dX13_switches_123 rfl 2 rfl ?_
          refine m_ref (k := 0) (j := 1) hs hs.2.1.1 dX13_switches_124 fr_X13_7 rfl ?_
          refine r_iload_n dX13_switches_127 rfl 3 rfl ?_
          refine r_bipush (v := nI 7) dX13_switches_128 (by decide) ?_
          refine r_iaddN dX13_switches_130 ?_
          refine g_iald (i := e + 7) hs dX13_switches_131 (by (first | omega | (have := ltN_lt (x := g (e + 7)) (by decide : 0 < 2); have := ltN_lt (x := g (e + 7)) (by decide : 1 < 2); have := onesK_le (g (e + 7) * 2 ^ 1 % 32 ||| 1) 5; have := sevB_le (g := g) (e := e) (f := f) (a := a); omega))) ?_
          refine Wx.topN (up1_n (by (first | omega | (have := ltN_lt (x := g (e + 7)) (by decide : 0 < 2); have := ltN_lt (x := g (e + 7)) (by decide : 1 < 2); have := onesK_le (g (e + 7) * 2 ^ 1 % 32 ||| 1) 5; have := sevB_le (g := g) (e := e) (f := f) (a := a); omega)))) ?_
          refine Wx.topN (up1_n (by (first | omega | (have := ltN_lt (x := g (e + 7)) (by decide : 0 < 2); have := ltN_lt (x := g (e + 7)) (by decide : 1 < 2); have := onesK_le (g (e + 7) * 2 ^ 1 % 32 ||| 1) 5; have := sevB_le (g := g) (e := e) (f := f) (a := a); omega)))) ?_
          refine r_iconst (v := nI 1) dX13_switches_132 (by decide) ?_
          refine r_ishlN dX13_switches_133 (by (first | omega | (have := ltN_lt (x := g (e + 7)) (by decide : 0 < 2); have := ltN_lt (x := g (e + 7)) (by decide : 1 < 2); have := onesK_le (g (e + 7) * 2 ^ 1 % 32 ||| 1) 5; have := sevB_le (g := g) (e := e) (f := f) (a := a); omega))) (by (first | omega | (have := ltN_lt (x := g (e + 7)) (by decide : 0 < 2); have := ltN_lt (x := g (e + 7)) (by decide : 1 < 2); have := onesK_le (g (e + 7) * 2 ^ 1 % 32 ||| 1) 5; have := sevB_le (g := g) (e := e) (f := f) (a := a); omega))) ?_
          refine r_bipush (v := nI 31) dX13_switches_134 (by decide) ?_
          refine r_iandM (k := 5) (c := 32) rfl rfl dX13_switches_136 (by decide) ?_
          refine r_iload dX13_switches_137 0 rfl ?_
          refine r_if_eqN (tgt := 146) dX13_switches_139 (by decide) (by (first | omega | (have := ltN_lt (x := g (e + 7)) (by decide : 0 < 2); have := ltN_lt (x := g (e + 7)) (by decide : 1 < 2); have := onesK_le (g (e + 7) * 2 ^ 1 % 32 ||| 1) 5; have := sevB_le (g := g) (e := e) (f := f) (a := a); omega))) (fun zz139_3 => ?_) (fun zz139_3 => ?_)
          · exact absurd zz139_3 (by decide)
          · refine r_iconst (v := nI 1) dX13_switches_142 (by decide) ?_
            refine r_goto (tgt := 147) dX13_switches_143 (by decide) ?_
            refine r_iorN dX13_switches_147 (by (first | omega | (have := ltN_lt (x := g (e + 7)) (by decide : 0 < 2); have := ltN_lt (x := g (e + 7)) (by decide : 1 < 2); have := onesK_le (g (e + 7) * 2 ^ 1 % 32 ||| 1) 5; have := sevB_le (g := g) (e := e) (f := f) (a := a); omega))) (by (first | omega | (have := ltN_lt (x := g (e + 7)) (by decide : 0 < 2); have := ltN_lt (x := g (e + 7)) (by decide : 1 < 2); have := onesK_le (g (e + 7) * 2 ^ 1 % 32 ||| 1) 5; have := sevB_le (g := g) (e := e) (f := f) (a := a); omega))) ?_
            refine g_iast (i := e + 7) (x := (((g (e + 7)) * 2 ^ 1) % 32) ||| 1) hs dX13_switches_148 (by (first | omega | (have := ltN_lt (x := g (e + 7)) (by decide : 0 < 2); have := ltN_lt (x := g (e + 7)) (by decide : 1 < 2); have := onesK_le (g (e + 7) * 2 ^ 1 % 32 ||| 1) 5; have := sevB_le (g := g) (e := e) (f := f) (a := a); omega))) ?_
            exact r_vret dX13_switches_149 rfl ⟨rfl, congrArg (fun g => rput T m (sg V g) od) (show (up1 (up1 (up1 g (e + 5) (g (e + 5) + 1)) (e + 6) (g (e + 6) + 1)) (e + 7) ((((g (e + 7)) * 2 ^ 1) % 32) ||| 1)) = swtG g e f a from by unfold swtG; (repeat first | rw [if_pos (by first | assumption | omega)] | rw [if_neg (by first | assumption | omega)]); try rfl)⟩
      · refine r_aload_n dX13_switches_47 rfl 2 rfl ?_
        refine m_ref (k := 0) (j := 1) hs hs.2.1.1 dX13_switches_48 fr_X13_7 rfl ?_
        refine r_iload_n dX13_switches_51 rfl 3 rfl ?_
        refine r_iconst (v := nI 4) dX13_switches_52 (by decide) ?_
        refine r_iaddN dX13_switches_53 ?_
        refine r_iload dX13_switches_54 0 rfl ?_
        refine r_if_neN (tgt := 79) dX13_switches_56 (by decide) (by (first | omega | (have := ltN_lt (x := g (e + 7)) (by decide : 0 < 2); have := ltN_lt (x := g (e + 7)) (by decide : 1 < 2); have := onesK_le (g (e + 7) * 2 ^ 1 % 32 ||| 1) 5; have := sevB_le (g := g) (e := e) (f := f) (a := a); omega))) (fun zz56_1 => ?_) (fun zz56_1 => ?_)
        · refine r_iconst (v := nI 0) dX13_switches_79 (by decide) ?_
          refine g_iast (i := e + 4) (x := 0) hs dX13_switches_80 (by (first | omega | (have := ltN_lt (x := g (e + 7)) (by decide : 0 < 2); have := ltN_lt (x := g (e + 7)) (by decide : 1 < 2); have := onesK_le (g (e + 7) * 2 ^ 1 % 32 ||| 1) 5; have := sevB_le (g := g) (e := e) (f := f) (a := a); omega))) ?_
          refine r_aload_n dX13_switches_81 rfl 2 rfl ?_
          refine m_ref (k := 0) (j := 1) hs hs.2.1.1 dX13_switches_82 fr_X13_7 rfl ?_
          refine r_iload_n dX13_switches_85 rfl 3 rfl ?_
          refine r_iconst (v := nI 5) dX13_switches_86 (by decide) ?_
          refine r_iaddN dX13_switches_87 ?_
          refine r_dup2 dX13_switches_88 rfl rfl ?_
          refine g_iald (i := e + 5) hs dX13_switches_89 (by (first | omega | (have := ltN_lt (x := g (e + 7)) (by decide : 0 < 2); have := ltN_lt (x := g (e + 7)) (by decide : 1 < 2); have := onesK_le (g (e + 7) * 2 ^ 1 % 32 ||| 1) 5; have := sevB_le (g := g) (e := e) (f := f) (a := a); omega))) ?_
          refine Wx.topN (up1_n (by (first | omega | (have := ltN_lt (x := g (e + 7)) (by decide : 0 < 2); have := ltN_lt (x := g (e + 7)) (by decide : 1 < 2); have := onesK_le (g (e + 7) * 2 ^ 1 % 32 ||| 1) 5; have := sevB_le (g := g) (e := e) (f := f) (a := a); omega)))) ?_
          refine r_iconst (v := nI 1) dX13_switches_90 (by decide) ?_
          refine r_iaddN dX13_switches_91 ?_
          refine g_iast (i := e + 5) (x := g (e + 5) + 1) hs dX13_switches_92 (by (first | omega | (have := ltN_lt (x := g (e + 7)) (by decide : 0 < 2); have := ltN_lt (x := g (e + 7)) (by decide : 1 < 2); have := onesK_le (g (e + 7) * 2 ^ 1 % 32 ||| 1) 5; have := sevB_le (g := g) (e := e) (f := f) (a := a); omega))) ?_
          refine r_aload_n dX13_switches_93 rfl 2 rfl ?_
          refine m_ref (k := 0) (j := 1) hs hs.2.1.1 dX13_switches_94 fr_X13_7 rfl ?_
          refine r_iload_n dX13_switches_97 rfl 3 rfl ?_
          refine r_bipush (v := nI 6) dX13_switches_98 (by decide) ?_
          refine r_iaddN dX13_switches_100 ?_
          refine r_dup2 dX13_switches_101 rfl rfl ?_
          refine g_iald (i := e + 6) hs dX13_switches_102 (by (first | omega | (have := ltN_lt (x := g (e + 7)) (by decide : 0 < 2); have := ltN_lt (x := g (e + 7)) (by decide : 1 < 2); have := onesK_le (g (e + 7) * 2 ^ 1 % 32 ||| 1) 5; have := sevB_le (g := g) (e := e) (f := f) (a := a); omega))) ?_
          refine Wx.topN (up1_n (by (first | omega | (have := ltN_lt (x := g (e + 7)) (by decide : 0 < 2); have := ltN_lt (x := g (e + 7)) (by decide : 1 < 2); have := onesK_le (g (e + 7) * 2 ^ 1 % 32 ||| 1) 5; have := sevB_le (g := g) (e := e) (f := f) (a := a); omega)))) ?_
          refine Wx.topN (up1_n (by (first | omega | (have := ltN_lt (x := g (e + 7)) (by decide : 0 < 2); have := ltN_lt (x := g (e + 7)) (by decide : 1 < 2); have := onesK_le (g (e + 7) * 2 ^ 1 % 32 ||| 1) 5; have := sevB_le (g := g) (e := e) (f := f) (a := a); omega)))) ?_
          refine r_iload dX13_switches_103 0 rfl ?_
          refine r_if_eqN (tgt := 112) dX13_switches_105 (by decide) (by (first | omega | (have := ltN_lt (x := g (e + 7)) (by decide : 0 < 2); have := ltN_lt (x := g (e + 7)) (by decide : 1 < 2); have := onesK_le (g (e + 7) * 2 ^ 1 % 32 ||| 1) 5; have := sevB_le (g := g) (e := e) (f := f) (a := a); omega))) (fun zz105_4 => ?_) (fun zz105_4 => ?_)
          · exact absurd zz105_4 (by decide)
          · refine r_iconst (v := nI 1) dX13_switches_108 (by decide) ?_
            refine r_goto (tgt := 113) dX13_switches_109 (by decide) ?_
            refine r_iaddN dX13_switches_113 ?_
            refine g_iast (i := e + 6) (x := g (e + 6) + 1) hs dX13_switches_114 (by (first | omega | (have := ltN_lt (x := g (e + 7)) (by decide : 0 < 2); have := ltN_lt (x := g (e + 7)) (by decide : 1 < 2); have := onesK_le (g (e + 7) * 2 ^ 1 % 32 ||| 1) 5; have := sevB_le (g := g) (e := e) (f := f) (a := a); omega))) ?_
            refine r_aload_n dX13_switches_115 rfl 2 rfl ?_
            refine m_ref (k := 0) (j := 1) hs hs.2.1.1 dX13_switches_116 fr_X13_7 rfl ?_
            refine r_iload_n dX13_switches_119 rfl 3 rfl ?_
            refine r_bipush (v := nI 7) dX13_switches_120 (by decide) ?_
            refine r_iaddN dX13_switches_122 ?_
            refine r_aload_n dX13_switches_123 rfl 2 rfl ?_
            refine m_ref (k := 0) (j := 1) hs hs.2.1.1 dX13_switches_124 fr_X13_7 rfl ?_
            refine r_iload_n dX13_switches_127 rfl 3 rfl ?_
            refine r_bipush (v := nI 7) dX13_switches_128 (by decide) ?_
            refine r_iaddN dX13_switches_130 ?_
            refine g_iald (i := e + 7) hs dX13_switches_131 (by (first | omega | (have := ltN_lt (x := g (e + 7)) (by decide : 0 < 2); have := ltN_lt (x := g (e + 7)) (by decide : 1 < 2); have := onesK_le (g (e + 7) * 2 ^ 1 % 32 ||| 1) 5; have := sevB_le (g := g) (e := e) (f := f) (a := a); omega))) ?_
            refine Wx.topN (up1_n (by (first | omega | (have := ltN_lt (x := g (e + 7)) (by decide : 0 < 2); have := ltN_lt (x := g (e + 7)) (by decide : 1 < 2); have := onesK_le (g (e + 7) * 2 ^ 1 % 32 ||| 1) 5; have := sevB_le (g := g) (e := e) (f := f) (a := a); omega)))) ?_
            refine Wx.topN (up1_n (by (first | omega | (have := ltN_lt (x := g (e + 7)) (by decide : 0 < 2); have := ltN_lt (x := g (e + 7)) (by decide : 1 < 2); have := onesK_le (g (e + 7) * 2 ^ 1 % 32 ||| 1) 5; have := sevB_le (g := g) (e := e) (f := f) (a := a); omega)))) ?_
            refine Wx.topN (up1_n (by (first | omega | (have := ltN_lt (x := g (e + 7)) (by decide : 0 < 2); have := ltN_lt (x := g (e + 7)) (by decide : 1 < 2); have := onesK_le (g (e + 7) * 2 ^ 1 % 32 ||| 1) 5; have := sevB_le (g := g) (e := e) (f := f) (a := a); omega)))) ?_
            refine r_iconst (v := nI 1) dX13_switches_132 (by decide) ?_
            refine r_ishlN dX13_switches_133 (by (first | omega | (have := ltN_lt (x := g (e + 7)) (by decide : 0 < 2); have := ltN_lt (x := g (e + 7)) (by decide : 1 < 2); have := onesK_le (g (e + 7) * 2 ^ 1 % 32 ||| 1) 5; have := sevB_le (g := g) (e := e) (f := f) (a := a); omega))) (by (first | omega | (have := ltN_lt (x := g (e + 7)) (by decide : 0 < 2); have := ltN_lt (x := g (e + 7)) (by decide : 1 < 2); have := onesK_le (g (e + 7) * 2 ^ 1 % 32 ||| 1) 5; have := sevB_le (g := g) (e := e) (f := f) (a := a); omega))) ?_
            refine r_bipush (v := nI 31) dX13_switches_134 (by decide) ?_
            refine r_iandM (k := 5) (c := 32) rfl rfl dX13_switches_136 (by decide) ?_
            refine r_iload dX13_switches_137 0 rfl ?_
            refine r_if_eqN (tgt := 146) dX13_switches_139 (by decide) (by (first | omega | (have := ltN_lt (x := g (e + 7)) (by decide : 0 < 2); have := ltN_lt (x := g (e + 7)) (by decide : 1 < 2); have := onesK_le (g (e + 7) * 2 ^ 1 % 32 ||| 1) 5; have := sevB_le (g := g) (e := e) (f := f) (a := a); omega))) (fun zz139_4 => ?_) (fun zz139_4 => ?_)
            · exact absurd zz139_4 (by decide)
            · refine r_iconst (v := nI 1) dX13_switches_142 (by decide) ?_
              refine r_goto (tgt := 147) dX13_switches_143 (by decide) ?_
              refine r_iorN dX13_switches_147 (by (first | omega | (have := ltN_lt (x := g (e + 7)) (by decide : 0 < 2); have := ltN_lt (x := g (e + 7)) (by decide : 1 < 2); have := onesK_le (g (e + 7) * 2 ^ 1 % 32 ||| 1) 5; have := sevB_le (g := g) (e := e) (f := f) (a := a); omega))) (by (first | omega | (have := ltN_lt (x := g (e + 7)) (by decide : 0 < 2); have := ltN_lt (x := g (e + 7)) (by decide : 1 < 2); have := onesK_le (g (e + 7) * 2 ^ 1 % 32 ||| 1) 5; have := sevB_le (g := g) (e := e) (f := f) (a := a); omega))) ?_
              refine g_iast (i := e + 7) (x := (((g (e + 7)) * 2 ^ 1) % 32) ||| 1) hs dX13_switches_148 (by (first | omega | (have := ltN_lt (x := g (e + 7)) (by decide : 0 < 2); have := ltN_lt (x := g (e + 7)) (by decide : 1 < 2); have := onesK_le (g (e + 7) * 2 ^ 1 % 32 ||| 1) 5; have := sevB_le (g := g) (e := e) (f := f) (a := a); omega))) ?_
              exact r_vret dX13_switches_149 rfl ⟨rfl, congrArg (fun g => rput T m (sg V g) od) (show (up1 (up1 (up1 (up1 g (e + 4) (0)) (e + 5) (g (e + 5) + 1)) (e + 6) (g (e + 6) + 1)) (e + 7) ((((g (e + 7)) * 2 ^ 1) % 32) ||| 1)) = swtG g e f a from by unfold swtG; (repeat first | rw [if_pos (by first | assumption | omega)] | rw [if_neg (by first | assumption | omega)]); try rfl)⟩
        · exact absurd zz56_1 (by decide)
  · refine r_aload_n dX13_switches_22 rfl 1 rfl ?_
    refine r_iload_n dX13_switches_23 rfl 2 rfl ?_
    refine r_iload dX13_switches_24 0 rfl ?_
    refine r_fnV (M2 := m_X13_forgets) (As := [.int (nI (e)), .int (nI (sevB g e f a))]) (rest := []) (v := none) dX13_switches_26 cc_X13_switches_146 rfl rfl rfl (Nat.le_of_ble_eq_true rfl) hs.1 rfl rfl (by decide) (g_forgets hs (by (first | omega | (have := ltN_lt (x := g (e + 7)) (by decide : 0 < 2); have := ltN_lt (x := g (e + 7)) (by decide : 1 < 2); have := onesK_le (g (e + 7) * 2 ^ 1 % 32 ||| 1) 5; have := sevB_le (g := g) (e := e) (f := f) (a := a); omega)))) rfl ?_
    exact r_vret dX13_switches_29 rfl ⟨rfl, congrArg (fun g => rput T m (sg V g) od) (show (fgtG g e (sevB g e f a)) = swtG g e f a from by unfold swtG; (repeat first | rw [if_pos (by first | assumption | omega)] | rw [if_neg (by first | assumption | omega)]); try rfl)⟩
def sdN (s : Nat) : Nat := (s * 1103515245 + 12345) % 2147483648
set_option maxRecDepth 4000 in
theorem g_draws {G : GI} {T : Hp} {m : Nat} {V : RVal} {g : Nat → Nat} {od : Nat → UInt64} (hs : RS T m)  {n : Nat} (h0 : 0 < n) (hn : n ≤ 200) : Fn m_X13_draws G [.ref (m), .int (nI (n))] (rput T m (sg V g) od) (some (.int (nI (sdN (g 3) / 65536 % n)))) (rput T m (sg V (up1 g 3 (sdN (g 3)))) od) := by
  refine Cn.of rfl (by decide) (Nat.le_of_ble_eq_true rfl) (fun hN hM => ?_)
  show Wx _ G _ 0 [(0, .ref (m)), (1, .int (nI (n)))] [] _
  refine r_aload_n dX13_draws_0 rfl 0 rfl ?_
  refine m_ref (k := 0) (j := 1) hs hs.2.1.1 dX13_draws_1 fr_X13_7 rfl ?_
  refine r_iconst (v := nI 3) dX13_draws_4 (by decide) ?_
  refine r_aload_n dX13_draws_5 rfl 0 rfl ?_
  refine m_ref (k := 0) (j := 1) hs hs.2.1.1 dX13_draws_6 fr_X13_7 rfl ?_
  refine r_iconst (v := nI 3) dX13_draws_9 (by decide) ?_
  refine g_iald (i := 3) hs dX13_draws_10 (by omega) ?_
  refine r_ldc (v := 1103515245) (sg9 9 rfl rfl) dX13_draws_11 ?_
  refine Wx.top (y := nI 1103515245) (by decide) ?_
  refine r_imulN dX13_draws_13 ?_
  refine r_sipush (v := nI 12345) dX13_draws_14 (by decide) ?_
  refine r_iaddN dX13_draws_17 ?_
  refine r_ldc (v := 2147483647) (sg9 10 rfl rfl) dX13_draws_18 ?_
  refine Wx.top (y := nI 2147483647) (by decide) ?_
  refine r_iandM (k := 31) (c := 2147483648) rfl rfl dX13_draws_20 (by decide) ?_
  refine g_iast (i := 3) (x := ((g (3)) * 1103515245 + 12345) % 2147483648) hs dX13_draws_21 (by omega) ?_
  refine r_aload_n dX13_draws_22 rfl 0 rfl ?_
  refine m_ref (k := 0) (j := 1) hs hs.2.1.1 dX13_draws_23 fr_X13_7 rfl ?_
  refine r_iconst (v := nI 3) dX13_draws_26 (by decide) ?_
  refine g_iald (i := 3) hs dX13_draws_27 (by omega) ?_
  refine Wx.topN up1_s ?_
  refine r_ldc (v := 65536) (sg9 11 rfl rfl) dX13_draws_28 ?_
  refine Wx.top (y := nI 65536) (by decide) ?_
  refine r_idivN dX13_draws_30 (by omega) (by omega) (by omega) ?_
  refine r_iload_n dX13_draws_31 rfl 1 rfl ?_
  refine r_iremN dX13_draws_32 (by omega) (by omega) (by omega) ?_
  exact r_iret (ty := .int) dX13_draws_33 rfl rfl ⟨rfl, rfl⟩
