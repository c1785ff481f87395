def becN (w st : Nat) : Nat := w &&& 4294966847 ||| st * 2 ^ 6
def becG (g : Nat → Nat) (l u st : Nat) : Nat → Nat := up1 g (402 + 2 * (200 * l + u)) (becN (g (402 + 2 * (200 * l + u))) st)
set_option maxRecDepth 4000 in
theorem g_becomes {G : GI} {T : Hp} {m : Nat} {V : RVal} {g : Nat → Nat} {od : Nat → UInt64} (hs : RS T m)  (hb : WB g) {l u : Nat} (hl : l < 24) (hu : u < 200) {st : Nat} (hst : st < 8) : Fn m_X13_becomes G [.ref (m), .int (nI (l)), .int (nI (u)), .int (nI (st))] (rput T m (sg V g) od) none (rput T m (sg V (becG g l u st)) od) := by
  refine Cn.of rfl (by decide) (Nat.le_of_ble_eq_true rfl) (fun hN hM => ?_)
  show Wx _ G _ 0 [(0, .ref (m)), (1, .int (nI (l))), (2, .int (nI (u))), (3, .int (nI (st)))] [] _
  refine r_aload_n dX13_becomes_0 rfl 0 rfl ?_
  refine m_ref (k := 0) (j := 1) hs hs.2.1.1 dX13_becomes_1 fr_X13_7 rfl ?_
  refine r_iload_n dX13_becomes_4 rfl 1 rfl ?_
  refine r_iload_n dX13_becomes_5 rfl 2 rfl ?_
  refine r_fnS (M2 := m_X13_spot) (As := [.int (nI (l)), .int (nI (u))]) (rest := [.ref (m + 1)]) (v := some (.int (nI (402 + 2 * (200 * l + u))))) dX13_becomes_6 cc_X13_becomes_84 rfl rfl rfl (Nat.le_of_ble_eq_true rfl) f_spot rfl ?_
  refine r_aload_n dX13_becomes_9 rfl 0 rfl ?_
  refine m_ref (k := 0) (j := 1) hs hs.2.1.1 dX13_becomes_10 fr_X13_7 rfl ?_
  refine r_iload_n dX13_becomes_13 rfl 1 rfl ?_
  refine r_iload_n dX13_becomes_14 rfl 2 rfl ?_
  refine r_fnS (M2 := m_X13_spot) (As := [.int (nI (l)), .int (nI (u))]) (rest := [.ref (m + 1), .int (nI (402 + 2 * (200 * l + u))), .ref (m + 1)]) (v := some (.int (nI (402 + 2 * (200 * l + u))))) dX13_becomes_15 cc_X13_becomes_84 rfl rfl rfl (Nat.le_of_ble_eq_true rfl) f_spot rfl ?_
  refine g_iald (i := 402 + 2 * (200 * l + u)) hs dX13_becomes_18 (by (have := hb (402 + 2 * (200 * l + u)); have := Nat.and_le_left (n := g (402 + 2 * (200 * l + u))) (m := 4294966847); omega)) ?_
  refine r_sipush (v := nI 4294966847) dX13_becomes_19 (by decide) ?_
  refine r_iandN dX13_becomes_22 (by (have := hb (402 + 2 * (200 * l + u)); have := Nat.and_le_left (n := g (402 + 2 * (200 * l + u))) (m := 4294966847); omega)) (by (have := hb (402 + 2 * (200 * l + u)); have := Nat.and_le_left (n := g (402 + 2 * (200 * l + u))) (m := 4294966847); omega)) ?_
  refine r_iload_n dX13_becomes_23 rfl 3 rfl ?_
  refine r_bipush (v := nI 6) dX13_becomes_24 (by decide) ?_
  refine r_ishlN dX13_becomes_26 (by (have := hb (402 + 2 * (200 * l + u)); have := Nat.and_le_left (n := g (402 + 2 * (200 * l + u))) (m := 4294966847); omega)) (by (have := hb (402 + 2 * (200 * l + u)); have := Nat.and_le_left (n := g (402 + 2 * (200 * l + u))) (m := 4294966847); omega)) ?_
  refine r_iorN dX13_becomes_27 (by (have := hb (402 + 2 * (200 * l + u)); have := Nat.and_le_left (n := g (402 + 2 * (200 * l + u))) (m := 4294966847); omega)) (by (have := hb (402 + 2 * (200 * l + u)); have := Nat.and_le_left (n := g (402 + 2 * (200 * l + u))) (m := 4294966847); omega)) ?_
  refine g_iast (i := 402 + 2 * (200 * l + u)) (x := ((g (402 + 2 * (200 * l + u))) &&& 4294966847) ||| (st * 2 ^ 6)) hs dX13_becomes_28 (by (have := hb (402 + 2 * (200 * l + u)); have := Nat.and_le_left (n := g (402 + 2 * (200 * l + u))) (m := 4294966847); omega)) ?_
  exact r_vret dX13_becomes_29 rfl ⟨rfl, rfl⟩
def cauN (w k y : Nat) : Nat := w ||| (1 * 2 ^ k ||| y * 2 ^ (10 + 2 * k))
def cauG (g : Nat → Nat) (l u k y : Nat) : Nat → Nat := if bW (g (402 + 2 * (200 * l + u))) k = 0 then up1 g (402 + 2 * (200 * l + u)) (cauN (g (402 + 2 * (200 * l + u))) k y) else g
theorem cau_b {k y : Nat} (hk : k < 4) (hy : y < 4) : 2 ^ k ≤ 8 ∧ y * 2 ^ (10 + 2 * k) < 2 ^ 18 ∧ (1 * 2 ^ k ||| y * 2 ^ (10 + 2 * k)) < 2 ^ 18 := by
  have h1 : 2 ^ k ≤ 2 ^ 3 := Nat.pow_le_pow_right (by decide) (by omega)
  have h2 : 2 ^ (10 + 2 * k) ≤ 2 ^ 16 := Nat.pow_le_pow_right (by decide) (by omega)
  have h3 : y * 2 ^ (10 + 2 * k) ≤ 3 * 2 ^ 16 := Nat.mul_le_mul (by omega) h2
  exact ⟨by omega, by omega, Nat.or_lt_two_pow (by omega) (by omega)⟩
set_option maxRecDepth 4000 in
theorem g_causes {G : GI} {T : Hp} {m : Nat} {V : RVal} {g : Nat → Nat} {od : Nat → UInt64} (hs : RS T m)  (hb : WB g) {l u : Nat} (hl : l < 24) (hu : u < 200) {k y : Nat} (hk : k < 4) (hy : y < 4) : Fn m_X13_causes G [.ref (m), .int (nI (l)), .int (nI (u)), .int (nI (k)), .int (nI (y))] (rput T m (sg V g) od) none (rput T m (sg V (cauG g l u k y)) od) := by
  refine Cn.of rfl (by decide) (Nat.le_of_ble_eq_true rfl) (fun hN hM => ?_)
  show Wx _ G _ 0 [(0, .ref (m)), (1, .int (nI (l))), (2, .int (nI (u))), (3, .int (nI (k))), (4, .int (nI (y)))] [] _
  refine r_aload_n dX13_causes_0 rfl 0 rfl ?_
  refine r_iload_n dX13_causes_1 rfl 1 rfl ?_
  refine r_iload_n dX13_causes_2 rfl 2 rfl ?_
  refine r_fnV (M2 := m_X13_defects) (As := [.int (nI (l)), .int (nI (u))]) (rest := []) (v := some (.int (nI ((g (402 + 2 * (200 * l + u))) % 16)))) dX13_causes_3 cc_X13_causes_87 rfl rfl rfl (Nat.le_of_ble_eq_true rfl) hs.1 rfl rfl (by decide) (g_defects hs hb (by (have := hb (402 + 2 * (200 * l + u)); have := cau_b hk hy; have := Nat.div_le_self (g (402 + 2 * (200 * l + u)) % 16) (2 ^ k); omega)) (by (have := hb (402 + 2 * (200 * l + u)); have := cau_b hk hy; have := Nat.div_le_self (g (402 + 2 * (200 * l + u)) % 16) (2 ^ k); omega))) rfl ?_
  refine r_iload_n dX13_causes_6 rfl 3 rfl ?_
  refine r_ishrN dX13_causes_7 (by (have := hb (402 + 2 * (200 * l + u)); have := cau_b hk hy; have := Nat.div_le_self (g (402 + 2 * (200 * l + u)) % 16) (2 ^ k); omega)) (by (have := hb (402 + 2 * (200 * l + u)); have := cau_b hk hy; have := Nat.div_le_self (g (402 + 2 * (200 * l + u)) % 16) (2 ^ k); omega)) ?_
  refine r_iconst (v := nI 1) dX13_causes_8 (by decide) ?_
  refine r_iandM (k := 1) (c := 2) rfl rfl dX13_causes_9 (by decide) ?_
  refine r_if_neN (tgt := 39) dX13_causes_10 (by decide) (by (have := hb (402 + 2 * (200 * l + u)); have := cau_b hk hy; have := Nat.div_le_self (g (402 + 2 * (200 * l + u)) % 16) (2 ^ k); omega)) (fun h10 => ?_) (fun h10 => ?_)
  · exact r_vret dX13_causes_39 rfl ⟨rfl, congrArg (fun g => rput T m (sg V g) od) (by unfold cauG; first | exact (if_pos h10).symm | exact (if_neg h10).symm)⟩
  · refine r_aload_n dX13_causes_13 rfl 0 rfl ?_
    refine m_ref (k := 0) (j := 1) hs hs.2.1.1 dX13_causes_14 fr_X13_7 rfl ?_
    refine r_iload_n dX13_causes_17 rfl 1 rfl ?_
    refine r_iload_n dX13_causes_18 rfl 2 rfl ?_
    refine r_fnS (M2 := m_X13_spot) (As := [.int (nI (l)), .int (nI (u))]) (rest := [.ref (m + 1)]) (v := some (.int (nI (402 + 2 * (200 * l + u))))) dX13_causes_19 cc_X13_causes_84 rfl rfl rfl (Nat.le_of_ble_eq_true rfl) f_spot rfl ?_
    refine r_dup2 dX13_causes_22 rfl rfl ?_
    refine g_iald (i := 402 + 2 * (200 * l + u)) hs dX13_causes_23 (by (have := hb (402 + 2 * (200 * l + u)); have := cau_b hk hy; have := Nat.div_le_self (g (402 + 2 * (200 * l + u)) % 16) (2 ^ k); omega)) ?_
    refine r_iconst (v := nI 1) dX13_causes_24 (by decide) ?_
    refine r_iload_n dX13_causes_25 rfl 3 rfl ?_
    refine r_ishlN dX13_causes_26 (by (have := hb (402 + 2 * (200 * l + u)); have := cau_b hk hy; have := Nat.div_le_self (g (402 + 2 * (200 * l + u)) % 16) (2 ^ k); omega)) (by (have := hb (402 + 2 * (200 * l + u)); have := cau_b hk hy; have := Nat.div_le_self (g (402 + 2 * (200 * l + u)) % 16) (2 ^ k); omega)) ?_
    refine r_iload dX13_causes_27 4 rfl ?_
    refine r_bipush (v := nI 10) dX13_causes_29 (by decide) ?_
    refine r_iconst (v := nI 2) dX13_causes_31 (by decide) ?_
    refine r_iload_n dX13_causes_32 rfl 3 rfl ?_
    refine r_imulN dX13_causes_33 ?_
    refine r_iaddN dX13_causes_34 ?_
    refine r_ishlN dX13_causes_35 (by (have := hb (402 + 2 * (200 * l + u)); have := cau_b hk hy; have := Nat.div_le_self (g (402 + 2 * (200 * l + u)) % 16) (2 ^ k); omega)) (by (have := hb (402 + 2 * (200 * l + u)); have := cau_b hk hy; have := Nat.div_le_self (g (402 + 2 * (200 * l + u)) % 16) (2 ^ k); omega)) ?_
    refine r_iorN dX13_causes_36 (by (have := hb (402 + 2 * (200 * l + u)); have := cau_b hk hy; have := Nat.div_le_self (g (402 + 2 * (200 * l + u)) % 16) (2 ^ k); omega)) (by (have := hb (402 + 2 * (200 * l + u)); have := cau_b hk hy; have := Nat.div_le_self (g (402 + 2 * (200 * l + u)) % 16) (2 ^ k); omega)) ?_
    refine r_iorN dX13_causes_37 (by (have := hb (402 + 2 * (200 * l + u)); have := cau_b hk hy; have := Nat.div_le_self (g (402 + 2 * (200 * l + u)) % 16) (2 ^ k); omega)) (by (have := hb (402 + 2 * (200 * l + u)); have := cau_b hk hy; have := Nat.div_le_self (g (402 + 2 * (200 * l + u)) % 16) (2 ^ k); omega)) ?_
    refine g_iast (i := 402 + 2 * (200 * l + u)) (x := (g (402 + 2 * (200 * l + u))) ||| ((1 * 2 ^ k) ||| (y * 2 ^ (10 + 2 * k)))) hs dX13_causes_38 (by (have := hb (402 + 2 * (200 * l + u)); have := cau_b hk hy; have := Nat.div_le_self (g (402 + 2 * (200 * l + u)) % 16) (2 ^ k); omega)) ?_
    exact r_vret dX13_causes_39 rfl ⟨rfl, congrArg (fun g => rput T m (sg V g) od) (by unfold cauG; first | exact (if_pos h10).symm | exact (if_neg h10).symm)⟩
def losK (ks w : Nat) : Nat → Nat
  | 0 => w
  | q + 1 => if ks / 2 ^ q % 2 = 1 then losK ks w q &&& ((1 * 2 ^ q ||| 3 * 2 ^ (10 + 2 * q)) ^^^ 4294967295) else losK ks w q
theorem losK_le (ks w : Nat) : ∀ q, losK ks w q ≤ w
  | 0 => Nat.le_refl w
  | q + 1 => by
    unfold losK
    split
    · exact Nat.le_trans Nat.and_le_left (losK_le ks w q)
    · exact losK_le ks w q
theorem losK_t {ks w q : Nat} (h : ks / 2 ^ q % 2 = 1) : losK ks w (q + 1) = losK ks w q &&& ((1 * 2 ^ q ||| 3 * 2 ^ (10 + 2 * q)) ^^^ 4294967295) := if_pos h
theorem losK_f {ks w q : Nat} (h : ¬ ks / 2 ^ q % 2 = 1) : losK ks w (q + 1) = losK ks w q := if_neg h
def losG (g : Nat → Nat) (l u ks : Nat) : Nat → Nat := up1 g (402 + 2 * (200 * l + u)) (losK ks (g (402 + 2 * (200 * l + u))) 4)
theorem los_x {q : Nat} (hq : q < 4) : ((1 * 2 ^ q ||| 3 * 2 ^ (10 + 2 * q)) ^^^ 4294967295) < 2 ^ 32 := Nat.xor_lt_two_pow (Nat.lt_trans (cau_b hq (by decide : 3 < 4)).2.2 (by decide)) (by decide)
set_option maxRecDepth 4000 in
theorem g_loses {G : GI} {T : Hp} {m : Nat} {V : RVal} {g : Nat → Nat} {od : Nat → UInt64} (hs : RS T m)  (hb : WB g) {l u : Nat} (hl : l < 24) (hu : u < 200) {ks : Nat} (hk : ks < 16) : Fn m_X13_loses G [.ref (m), .int (nI (l)), .int (nI (u)), .int (nI (ks))] (rput T m (sg V g) od) none (rput T m (sg V (losG g l u ks)) od) := by
  refine Cn.of rfl (by decide) (Nat.le_of_ble_eq_true rfl) (fun hN hM => ?_)
  show Wx _ G _ 0 [(0, .ref (m)), (1, .int (nI (l))), (2, .int (nI (u))), (3, .int (nI (ks)))] [] _
  refine r_iconst (v := nI 0) dX13_loses_0 (by decide) ?_
  refine r_istore (lv' := [(4, .int (nI (0))), (0, .ref (m)), (1, .int (nI (l))), (2, .int (nI (u))), (3, .int (nI (ks)))]) dX13_loses_1 (by decide) rfl ?_
  refine Wx.st' (S' := rput T m (sg V (up1 g (402 + 2 * (200 * l + u)) (losK ks (g (402 + 2 * (200 * l + u))) 0))) od) (congrArg (fun g => rput T m (sg V g) od) up1_self.symm) ?_
  refine Wx.sub [1, 2, 3, 4, 0] rfl ?_
  refine Wx.loop (fun q => rput T m (sg V (up1 g (402 + 2 * (200 * l + u)) (losK ks (g (402 + 2 * (200 * l + u))) q))) od) (fun q => [(0, .ref (m)), (1, .int (nI (l))), (2, .int (nI (u))), (3, .int (nI (ks))), (4, .int (nI (q)))]) (4) (0) (Nat.zero_le _) (fun q hge hle next => ?_)
  show Wx _ G (rput T m (sg V (up1 g (402 + 2 * (200 * l + u)) (losK ks (g (402 + 2 * (200 * l + u))) q))) od) 3 [(0, .ref (m)), (1, .int (nI (l))), (2, .int (nI (u))), (3, .int (nI (ks))), (4, .int (nI (q)))] [] _
  refine r_iload dX13_loses_3 4 rfl ?_
  refine r_iconst (v := nI 4) dX13_loses_5 (by decide) ?_
  refine r_icmp_geN (tgt := 54) dX13_loses_6 (by decide) (by (first | omega | (have := hb (402 + 2 * (200 * l + u)); have := losK_le ks (g (402 + 2 * (200 * l + u))) q; have := cau_b (show q < 4 by omega) (by decide : 3 < 4); have := los_x (show q < 4 by omega); have := Nat.div_le_self ks (2 ^ q); omega))) (by (first | omega | (have := hb (402 + 2 * (200 * l + u)); have := losK_le ks (g (402 + 2 * (200 * l + u))) q; have := cau_b (show q < 4 by omega) (by decide : 3 < 4); have := los_x (show q < 4 by omega); have := Nat.div_le_self ks (2 ^ q); omega))) (fun h6 => ?_) (fun h6 => ?_)
  · obtain rfl : q = 4 := by omega
    exact r_vret dX13_loses_54 rfl ⟨rfl, rfl⟩
  · refine r_iload_n dX13_loses_9 rfl 3 rfl ?_
    refine r_iload dX13_loses_10 4 rfl ?_
    refine r_ishrN dX13_loses_12 (by (first | omega | (have := hb (402 + 2 * (200 * l + u)); have := losK_le ks (g (402 + 2 * (200 * l + u))) q; have := cau_b (show q < 4 by omega) (by decide : 3 < 4); have := los_x (show q < 4 by omega); have := Nat.div_le_self ks (2 ^ q); omega))) (by (first | omega | (have := hb (402 + 2 * (200 * l + u)); have := losK_le ks (g (402 + 2 * (200 * l + u))) q; have := cau_b (show q < 4 by omega) (by decide : 3 < 4); have := los_x (show q < 4 by omega); have := Nat.div_le_self ks (2 ^ q); omega))) ?_
    refine r_iconst (v := nI 1) dX13_loses_13 (by decide) ?_
    refine r_iandM (k := 1) (c := 2) rfl rfl dX13_loses_14 (by decide) ?_
    refine r_iconst (v := nI 1) dX13_loses_15 (by decide) ?_
    refine r_icmp_neN (tgt := 48) dX13_loses_16 (by decide) (by (first | omega | (have := hb (402 + 2 * (200 * l + u)); have := losK_le ks (g (402 + 2 * (200 * l + u))) q; have := cau_b (show q < 4 by omega) (by decide : 3 < 4); have := los_x (show q < 4 by omega); have := Nat.div_le_self ks (2 ^ q); omega))) (by (first | omega | (have := hb (402 + 2 * (200 * l + u)); have := losK_le ks (g (402 + 2 * (200 * l + u))) q; have := cau_b (show q < 4 by omega) (by decide : 3 < 4); have := los_x (show q < 4 by omega); have := Nat.div_le_self ks (2 ^ q); omega))) (fun h16 => ?_) (fun h16 => ?_)
    · refine r_iincN (k := 1) (lv' := [(4, .int (nI (q + 1))), (0, .ref (m)), (1, .int (nI (l))), (2, .int (nI (u))), (3, .int (nI (ks)))]) dX13_loses_48 (by decide) 4 rfl (by decide) rfl ?_
      refine r_goto (tgt := 3) dX13_loses_51 (by decide) ?_
      refine Wx.sub [1, 2, 3, 4, 0] rfl ?_
      have n2 := next (by omega)
      refine Wx.st' (congrArg (fun g => rput T m (sg V g) od) (by exact congrArg (up1 g _) (losK_f h16).symm)) n2
    · refine r_aload_n dX13_loses_19 rfl 0 rfl ?_
      refine m_ref (k := 0) (j := 1) hs hs.2.1.1 dX13_loses_20 fr_X13_7 rfl ?_
      refine r_iload_n dX13_loses_23 rfl 1 rfl ?_
      refine r_iload_n dX13_loses_24 rfl 2 rfl ?_
      refine r_fnS (M2 := m_X13_spot) (As := [.int (nI (l)), .int (nI (u))]) (rest := [.ref (m + 1)]) (v := some (.int (nI (402 + 2 * (200 * l + u))))) dX13_loses_25 cc_X13_loses_84 rfl rfl rfl (Nat.le_of_ble_eq_true rfl) f_spot rfl ?_
      refine r_dup2 dX13_loses_28 rfl rfl ?_
      refine g_iald (i := 402 + 2 * (200 * l + u)) hs dX13_loses_29 (by (first | omega | (have := hb (402 + 2 * (200 * l + u)); have := losK_le ks (g (402 + 2 * (200 * l + u))) q; have := cau_b (show q < 4 by omega) (by decide : 3 < 4); have := los_x (show q < 4 by omega); have := Nat.div_le_self ks (2 ^ q); omega))) ?_
      refine Wx.topN up1_s ?_
      refine r_iconst (v := nI 1) dX13_loses_30 (by decide) ?_
      refine r_iload dX13_loses_31 4 rfl ?_
      refine r_ishlN dX13_loses_33 (by (first | omega | (have := hb (402 + 2 * (200 * l + u)); have := losK_le ks (g (402 + 2 * (200 * l + u))) q; have := cau_b (show q < 4 by omega) (by decide : 3 < 4); have := los_x (show q < 4 by omega); have := Nat.div_le_self ks (2 ^ q); omega))) (by (first | omega | (have := hb (402 + 2 * (200 * l + u)); have := losK_le ks (g (402 + 2 * (200 * l + u))) q; have := cau_b (show q < 4 by omega) (by decide : 3 < 4); have := los_x (show q < 4 by omega); have := Nat.div_le_self ks (2 ^ q); omega))) ?_
      refine r_iconst (v := nI 3) dX13_loses_34 (by decide) ?_
      refine r_bipush (v := nI 10) dX13_loses_35 (by decide) ?_
      refine r_iconst (v := nI 2) dX13_loses_37 (by decide) ?_
      refine r_iload dX13_loses_38 4 rfl ?_
      refine r_imulN dX13_loses_40 ?_
      refine r_iaddN dX13_loses_41 ?_
      refine r_ishlN dX13_loses_42 (by (first | omega | (have := hb (402 + 2 * (200 * l + u)); have := losK_le ks (g (402 + 2 * (200 * l + u))) q; have := cau_b (show q < 4 by omega) (by decide : 3 < 4); have := los_x (show q < 4 by omega); have := Nat.div_le_self ks (2 ^ q); omega))) (by (first | omega | (have := hb (402 + 2 * (200 * l + u)); have := losK_le ks (g (402 + 2 * (200 * l + u))) q; have := cau_b (show q < 4 by omega) (by decide : 3 < 4); have := los_x (show q < 4 by omega); have := Nat.div_le_self ks (2 ^ q); omega))) ?_
      refine r_iorN dX13_loses_43 (by (first | omega | (have := hb (402 + 2 * (200 * l + u)); have := losK_le ks (g (402 + 2 * (200 * l + u))) q; have := cau_b (show q < 4 by omega) (by decide : 3 < 4); have := los_x (show q < 4 by omega); have := Nat.div_le_self ks (2 ^ q); omega))) (by (first | omega | (have := hb (402 + 2 * (200 * l + u)); have := losK_le ks (g (402 + 2 * (200 * l + u))) q; have := cau_b (show q < 4 by omega) (by decide : 3 < 4); have := los_x (show q < 4 by omega); have := Nat.div_le_self ks (2 ^ q); omega))) ?_
      refine r_iconst (v := nI 4294967295) dX13_loses_44 (by decide) ?_
      refine r_ixorN dX13_loses_45 (by (first | omega | (have := hb (402 + 2 * (200 * l + u)); have := losK_le ks (g (402 + 2 * (200 * l + u))) q; have := cau_b (show q < 4 by omega) (by decide : 3 < 4); have := los_x (show q < 4 by omega); have := Nat.div_le_self ks (2 ^ q); omega))) (by (first | omega | (have := hb (402 + 2 * (200 * l + u)); have := losK_le ks (g (402 + 2 * (200 * l + u))) q; have := cau_b (show q < 4 by omega) (by decide : 3 < 4); have := los_x (show q < 4 by omega); have := Nat.div_le_self ks (2 ^ q); omega))) ?_
      refine r_iandN dX13_loses_46 (by (first | omega | (have := hb (402 + 2 * (200 * l + u)); have := losK_le ks (g (402 + 2 * (200 * l + u))) q; have := cau_b (show q < 4 by omega) (by decide : 3 < 4); have := los_x (show q < 4 by omega); have := Nat.div_le_self ks (2 ^ q); omega))) (by (first | omega | (have := hb (402 + 2 * (200 * l + u)); have := losK_le ks (g (402 + 2 * (200 * l + u))) q; have := cau_b (show q < 4 by omega) (by decide : 3 < 4); have := los_x (show q < 4 by omega); have := Nat.div_le_self ks (2 ^ q); omega))) ?_
      refine g_iast (i := 402 + 2 * (200 * l + u)) (x := (losK ks (g (402 + 2 * (200 * l + u))) q) &&& (((1 * 2 ^ q) ||| (3 * 2 ^ (10 + 2 * q))) ^^^ 4294967295)) hs dX13_loses_47 (by (first | omega | (have := hb (402 + 2 * (200 * l + u)); have := losK_le ks (g (402 + 2 * (200 * l + u))) q; have := cau_b (show q < 4 by omega) (by decide : 3 < 4); have := los_x (show q < 4 by omega); have := Nat.div_le_self ks (2 ^ q); omega))) ?_
      refine r_iincN (k := 1) (lv' := [(4, .int (nI (q + 1))), (0, .ref (m)), (1, .int (nI (l))), (2, .int (nI (u))), (3, .int (nI (ks)))]) dX13_loses_48 (by decide) 4 rfl (by decide) rfl ?_
      refine r_goto (tgt := 3) dX13_loses_51 (by decide) ?_
      refine Wx.sub [1, 2, 3, 4, 0] rfl ?_
      have n2 := next (by omega)
      refine Wx.st' (congrArg (fun g => rput T m (sg V g) od) (by rw [up1_up]; exact congrArg (up1 g _) (losK_t h16).symm)) n2
