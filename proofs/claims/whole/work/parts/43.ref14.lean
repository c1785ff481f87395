set_option maxRecDepth 4000 in
theorem p_isC {G : GI} {T : Hp} {m : Nat} {V : RVal} {g : Nat → Nat} {od : Nat → UInt64} (hs : RS T m)  (hb : WB g) {l u : Nat} (hl : l < 24) (hu : u < 200) : Fn m_X13_isComplained G [.ref (m), .int (nI (l)), .int (nI (u))] (rput T m (sg V g) od) (some (.int (bI (g (402 + 2 * (200 * l + u)) / 2 ^ 9 % 2 = 1)))) (rput T m (sg V (g)) od) := by
  refine Cn.of rfl (by decide) (Nat.le_of_ble_eq_true rfl) (fun hN hM => ?_)
  show Wx _ G _ 0 [(0, .ref (m)), (1, .int (nI (l))), (2, .int (nI (u)))] [] _
  refine r_aload_n dX13_isComplained_0 rfl 0 rfl ?_
  refine m_ref (k := 0) (j := 1) hs hs.2.1.1 dX13_isComplained_1 fr_X13_7 rfl ?_
  refine r_iload_n dX13_isComplained_4 rfl 1 rfl ?_
  refine r_iload_n dX13_isComplained_5 rfl 2 rfl ?_
  refine r_fnS (M2 := m_X13_spot) (As := [.int (nI (l)), .int (nI (u))]) (rest := [.ref (m + 1)]) (v := some (.int (nI (402 + 2 * (200 * l + u))))) dX13_isComplained_6 cc_X13_isComplained_84 rfl rfl rfl (Nat.le_of_ble_eq_true rfl) f_spot rfl ?_
  refine g_iald (i := 402 + 2 * (200 * l + u)) hs dX13_isComplained_9 (by (have := hb (402 + 2 * (200 * l + u)) (by omega); omega)) ?_
  refine r_bipush (v := nI 9) dX13_isComplained_10 (by decide) ?_
  refine r_ishrN dX13_isComplained_12 (by (have := hb (402 + 2 * (200 * l + u)) (by omega); omega)) (by (have := hb (402 + 2 * (200 * l + u)) (by omega); omega)) ?_
  refine r_iconst (v := nI 1) dX13_isComplained_13 (by decide) ?_
  refine r_iandM (k := 1) (c := 2) rfl rfl dX13_isComplained_14 (by decide) ?_
  refine r_iconst (v := nI 1) dX13_isComplained_15 (by decide) ?_
  refine r_icmp_neN (tgt := 23) dX13_isComplained_16 (by decide) (by (have := hb (402 + 2 * (200 * l + u)) (by omega); omega)) (by (have := hb (402 + 2 * (200 * l + u)) (by omega); omega)) (fun h16 => ?_) (fun h16 => ?_)
  · refine r_iconst (v := nI 0) dX13_isComplained_23 (by decide) ?_
    exact r_iret (ty := .boolean) dX13_isComplained_24 rfl (by decide) ⟨congrArg (fun x => Sum.inl (some (Value.int x))) (bI_f h16).symm, rfl⟩
  · refine r_iconst (v := nI 1) dX13_isComplained_19 (by decide) ?_
    refine r_goto (tgt := 24) dX13_isComplained_20 (by decide) ?_
    exact r_iret (ty := .boolean) dX13_isComplained_24 rfl (by decide) ⟨congrArg (fun x => Sum.inl (some (Value.int x))) (bI_t h16).symm, rfl⟩
set_option maxRecDepth 4000 in
theorem c_complain_1a {G : GI} {T : Hp} {m : Nat} {V : RVal} {g : Nat → Nat} {od : Nat → UInt64} (hs : RS T m)  (h24 : g 0 ≤ 24) {x y : Int32} (hx : ¬ vp_in x (g 0)) : Fn m_X13_complain G [.ref (m), .int (x), .int (y)] (rput T m (sg V g) od) (some (.int (nI (0)))) (rput T m (sg (up2 V 0 (6) (nI 1)) (g)) od) := by
  refine Cn.of rfl (by decide) (Nat.le_of_ble_eq_true rfl) (fun hN hM => ?_)
  show Wx _ G _ 0 [(0, .ref (m)), (1, .int (x)), (2, .int (y))] [] _
  refine r_aload_n dX13_complain_0 rfl 0 rfl ?_
  refine r_aload_n dX13_complain_1 rfl 0 rfl ?_
  refine r_iload_n dX13_complain_2 rfl 1 rfl ?_
  refine r_iload_n dX13_complain_3 rfl 2 rfl ?_
  refine r_fnV (M2 := m_X13_isUnit) (As := [.int (x), .int (y)]) (rest := [.ref (m)]) (v := some (.int (nI (0)))) dX13_complain_4 cc_X13_complain_218 rfl rfl rfl (Nat.le_of_ble_eq_true rfl) hs.1 rfl rfl (by decide) (g_isUnit_0 hs h24 hx) rfl ?_
  refine r_if_neN (tgt := 14) dX13_complain_7 (by decide) (by omega) (fun zz7 => ?_) (fun zz7 => ?_)
  · exact absurd zz7 (by decide)
  · refine r_iconst (v := nI 1) dX13_complain_10 (by decide) ?_
    refine r_goto (tgt := 51) dX13_complain_11 (by decide) ?_
    refine o_put (k := 6) hs dX13_complain_51 fw_X13_complain_54 rfl rfl rfl ?_
    refine r_aload_n dX13_complain_54 rfl 0 rfl ?_
    refine o_get (k := 6) hs dX13_complain_55 fr_X13_54 rfl ?_
    refine Wx.top up2_s ?_
    refine r_if_leN (tgt := 63) dX13_complain_58 (by decide) (by omega) (fun zz58 => ?_) (fun zz58 => ?_)
    · exact absurd zz58 (by decide)
    · refine r_iconst (v := nI 0) dX13_complain_61 (by decide) ?_
      exact r_iret (ty := .int) dX13_complain_62 rfl rfl ⟨rfl, rfl⟩
set_option maxRecDepth 4000 in
theorem c_complain_1b {G : GI} {T : Hp} {m : Nat} {V : RVal} {g : Nat → Nat} {od : Nat → UInt64} (hs : RS T m)  (h24 : g 0 ≤ 24) {l : Nat} (hl : l < g 0) (hz : g (90 + 13 * l + 1) ≤ 200) {y : Int32} (hy : ¬ vp_in y (g (90 + 13 * l + 1))) : Fn m_X13_complain G [.ref (m), .int (nI (l)), .int (y)] (rput T m (sg V g) od) (some (.int (nI (0)))) (rput T m (sg (up2 V 0 (6) (nI 1)) (g)) od) := by
  refine Cn.of rfl (by decide) (Nat.le_of_ble_eq_true rfl) (fun hN hM => ?_)
  show Wx _ G _ 0 [(0, .ref (m)), (1, .int (nI (l))), (2, .int (y))] [] _
  refine r_aload_n dX13_complain_0 rfl 0 rfl ?_
  refine r_aload_n dX13_complain_1 rfl 0 rfl ?_
  refine r_iload_n dX13_complain_2 rfl 1 rfl ?_
  refine r_iload_n dX13_complain_3 rfl 2 rfl ?_
  refine r_fnV (M2 := m_X13_isUnit) (As := [.int (nI (l)), .int (y)]) (rest := [.ref (m)]) (v := some (.int (nI (0)))) dX13_complain_4 cc_X13_complain_218 rfl rfl rfl (Nat.le_of_ble_eq_true rfl) hs.1 rfl rfl (by decide) (g_isUnit_1 hs h24 (by omega) (by omega) hy) rfl ?_
  refine r_if_neN (tgt := 14) dX13_complain_7 (by decide) (by omega) (fun zz7 => ?_) (fun zz7 => ?_)
  · exact absurd zz7 (by decide)
  · refine r_iconst (v := nI 1) dX13_complain_10 (by decide) ?_
    refine r_goto (tgt := 51) dX13_complain_11 (by decide) ?_
    refine o_put (k := 6) hs dX13_complain_51 fw_X13_complain_54 rfl rfl rfl ?_
    refine r_aload_n dX13_complain_54 rfl 0 rfl ?_
    refine o_get (k := 6) hs dX13_complain_55 fr_X13_54 rfl ?_
    refine Wx.top up2_s ?_
    refine r_if_leN (tgt := 63) dX13_complain_58 (by decide) (by omega) (fun zz58 => ?_) (fun zz58 => ?_)
    · exact absurd zz58 (by decide)
    · refine r_iconst (v := nI 0) dX13_complain_61 (by decide) ?_
      exact r_iret (ty := .int) dX13_complain_62 rfl rfl ⟨rfl, rfl⟩
set_option maxRecDepth 4000 in
theorem c_complain_2 {G : GI} {T : Hp} {m : Nat} {V : RVal} {g : Nat → Nat} {od : Nat → UInt64} (hs : RS T m)  (h24 : g 0 ≤ 24) (hb : WB g) {l u : Nat} (hl : l < g 0) (hz : g (90 + 13 * l + 1) ≤ 200) (hu : u < g (90 + 13 * l + 1)) (h : ¬ sW (g (402 + 2 * (200 * l + u))) = 4 ∨ g (402 + 2 * (200 * l + u)) / 2 ^ 9 % 2 = 1) : Fn m_X13_complain G [.ref (m), .int (nI (l)), .int (nI (u))] (rput T m (sg V g) od) (some (.int (nI (0)))) (rput T m (sg (up2 V 0 (6) (nI 2)) (g)) od) := by
  refine Cn.of rfl (by decide) (Nat.le_of_ble_eq_true rfl) (fun hN hM => ?_)
  show Wx _ G _ 0 [(0, .ref (m)), (1, .int (nI (l))), (2, .int (nI (u)))] [] _
  refine r_aload_n dX13_complain_0 rfl 0 rfl ?_
  refine r_aload_n dX13_complain_1 rfl 0 rfl ?_
  refine r_iload_n dX13_complain_2 rfl 1 rfl ?_
  refine r_iload_n dX13_complain_3 rfl 2 rfl ?_
  refine r_fnV (M2 := m_X13_isUnit) (As := [.int (nI (l)), .int (nI (u))]) (rest := [.ref (m)]) (v := some (.int (nI (1)))) dX13_complain_4 cc_X13_complain_218 rfl rfl rfl (Nat.le_of_ble_eq_true rfl) hs.1 rfl rfl (by decide) (g_isUnit_2 hs h24 (by (first | omega | (have := sW_lt (g (402 + 2 * (200 * l + u))); omega))) (by (first | omega | (have := sW_lt (g (402 + 2 * (200 * l + u))); omega))) (by (first | omega | (have := sW_lt (g (402 + 2 * (200 * l + u))); omega)))) rfl ?_
  refine r_if_neN (tgt := 14) dX13_complain_7 (by decide) (by (first | omega | (have := sW_lt (g (402 + 2 * (200 * l + u))); omega))) (fun zz7 => ?_) (fun zz7 => ?_)
  · refine r_aload_n dX13_complain_14 rfl 0 rfl ?_
    refine r_iload_n dX13_complain_15 rfl 1 rfl ?_
    refine r_iload_n dX13_complain_16 rfl 2 rfl ?_
    refine r_fnV (M2 := m_X13_state) (As := [.int (nI (l)), .int (nI (u))]) (rest := [.ref (m)]) (v := some (.int (nI (sW (g (402 + 2 * (200 * l + u))))))) dX13_complain_17 cc_X13_complain_93 rfl rfl rfl (Nat.le_of_ble_eq_true rfl) hs.1 rfl rfl (by decide) (g_state hs hb (by (first | omega | (have := sW_lt (g (402 + 2 * (200 * l + u))); omega))) (by (first | omega | (have := sW_lt (g (402 + 2 * (200 * l + u))); omega)))) rfl ?_
    refine r_iconst (v := nI 4) dX13_complain_20 (by decide) ?_
    refine r_icmp_neN (tgt := 33) dX13_complain_21 (by decide) (by (first | omega | (have := sW_lt (g (402 + 2 * (200 * l + u))); omega))) (by (first | omega | (have := sW_lt (g (402 + 2 * (200 * l + u))); omega))) (fun h21 => ?_) (fun h21 => ?_)
    · refine r_iconst (v := nI 2) dX13_complain_33 (by decide) ?_
      refine r_goto (tgt := 51) dX13_complain_34 (by decide) ?_
      refine o_put (k := 6) hs dX13_complain_51 fw_X13_complain_54 rfl rfl rfl ?_
      refine r_aload_n dX13_complain_54 rfl 0 rfl ?_
      refine o_get (k := 6) hs dX13_complain_55 fr_X13_54 rfl ?_
      refine Wx.top up2_s ?_
      refine r_if_leN (tgt := 63) dX13_complain_58 (by decide) (by (first | omega | (have := sW_lt (g (402 + 2 * (200 * l + u))); omega))) (fun zz58 => ?_) (fun zz58 => ?_)
      · exact absurd zz58 (by decide)
      · refine r_iconst (v := nI 0) dX13_complain_61 (by decide) ?_
        exact r_iret (ty := .int) dX13_complain_62 rfl rfl ⟨rfl, rfl⟩
    · refine r_aload_n dX13_complain_24 rfl 0 rfl ?_
      refine r_iload_n dX13_complain_25 rfl 1 rfl ?_
      refine r_iload_n dX13_complain_26 rfl 2 rfl ?_
      refine r_fnV (M2 := m_X13_isComplained) (As := [.int (nI (l)), .int (nI (u))]) (rest := [.ref (m)]) (v := some (.int (bI (g (402 + 2 * (200 * l + u)) / 2 ^ 9 % 2 = 1)))) dX13_complain_27 cc_X13_complain_260 rfl rfl rfl (Nat.le_of_ble_eq_true rfl) hs.1 rfl rfl (by decide) (p_isC hs hb (by omega) (by omega)) rfl ?_
      refine r_if_eqB (tgt := 37) dX13_complain_30 (by decide) (fun h30 => ?_) (fun h30 => ?_)
      · exact absurd h (fun q => by rcases q with q | q <;> first | exact zz7 q | exact h21 q | exact h30 q | exact q zz7 | exact q h21 | exact q h30)
      · refine r_iconst (v := nI 2) dX13_complain_33 (by decide) ?_
        refine r_goto (tgt := 51) dX13_complain_34 (by decide) ?_
        refine o_put (k := 6) hs dX13_complain_51 fw_X13_complain_54 rfl rfl rfl ?_
        refine r_aload_n dX13_complain_54 rfl 0 rfl ?_
        refine o_get (k := 6) hs dX13_complain_55 fr_X13_54 rfl ?_
        refine Wx.top up2_s ?_
        refine r_if_leN (tgt := 63) dX13_complain_58 (by decide) (by (first | omega | (have := sW_lt (g (402 + 2 * (200 * l + u))); omega))) (fun zz58_1 => ?_) (fun zz58_1 => ?_)
        · exact absurd zz58_1 (by decide)
        · refine r_iconst (v := nI 0) dX13_complain_61 (by decide) ?_
          exact r_iret (ty := .int) dX13_complain_62 rfl rfl ⟨rfl, rfl⟩
  · exact absurd zz7 (by decide)
set_option maxRecDepth 4000 in
theorem c_complain_3 {G : GI} {T : Hp} {m : Nat} {V : RVal} {g : Nat → Nat} {od : Nat → UInt64} (hs : RS T m)  (h24 : g 0 ≤ 24) (hb : WB g) {l u : Nat} (hl : l < g 0) (hz : g (90 + 13 * l + 1) ≤ 200) (hu : u < g (90 + 13 * l + 1)) (h : ¬ (¬ sW (g (402 + 2 * (200 * l + u))) = 4 ∨ g (402 + 2 * (200 * l + u)) / 2 ^ 9 % 2 = 1)) (hd : g (402 + 2 * (200 * l + u)) % 16 = 0) : Fn m_X13_complain G [.ref (m), .int (nI (l)), .int (nI (u))] (rput T m (sg V g) od) (some (.int (nI (0)))) (rput T m (sg (up2 V 0 (6) (nI 3)) (g)) od) := by
  refine Cn.of rfl (by decide) (Nat.le_of_ble_eq_true rfl) (fun hN hM => ?_)
  show Wx _ G _ 0 [(0, .ref (m)), (1, .int (nI (l))), (2, .int (nI (u)))] [] _
  refine r_aload_n dX13_complain_0 rfl 0 rfl ?_
  refine r_aload_n dX13_complain_1 rfl 0 rfl ?_
  refine r_iload_n dX13_complain_2 rfl 1 rfl ?_
  refine r_iload_n dX13_complain_3 rfl 2 rfl ?_
  refine r_fnV (M2 := m_X13_isUnit) (As := [.int (nI (l)), .int (nI (u))]) (rest := [.ref (m)]) (v := some (.int (nI (1)))) dX13_complain_4 cc_X13_complain_218 rfl rfl rfl (Nat.le_of_ble_eq_true rfl) hs.1 rfl rfl (by decide) (g_isUnit_2 hs h24 (by (first | omega | (have := sW_lt (g (402 + 2 * (200 * l + u))); omega))) (by (first | omega | (have := sW_lt (g (402 + 2 * (200 * l + u))); omega))) (by (first | omega | (have := sW_lt (g (402 + 2 * (200 * l + u))); omega)))) rfl ?_
  refine r_if_neN (tgt := 14) dX13_complain_7 (by decide) (by (first | omega | (have := sW_lt (g (402 + 2 * (200 * l + u))); omega))) (fun zz7 => ?_) (fun zz7 => ?_)
  · refine r_aload_n dX13_complain_14 rfl 0 rfl ?_
    refine r_iload_n dX13_complain_15 rfl 1 rfl ?_
    refine r_iload_n dX13_complain_16 rfl 2 rfl ?_
    refine r_fnV (M2 := m_X13_state) (As := [.int (nI (l)), .int (nI (u))]) (rest := [.ref (m)]) (v := some (.int (nI (sW (g (402 + 2 * (200 * l + u))))))) dX13_complain_17 cc_X13_complain_93 rfl rfl rfl (Nat.le_of_ble_eq_true rfl) hs.1 rfl rfl (by decide) (g_state hs hb (by (first | omega | (have := sW_lt (g (402 + 2 * (200 * l + u))); omega))) (by (first | omega | (have := sW_lt (g (402 + 2 * (200 * l + u))); omega)))) rfl ?_
    refine r_iconst (v := nI 4) dX13_complain_20 (by decide) ?_
    refine r_icmp_neN (tgt := 33) dX13_complain_21 (by decide) (by (first | omega | (have := sW_lt (g (402 + 2 * (200 * l + u))); omega))) (by (first | omega | (have := sW_lt (g (402 + 2 * (200 * l + u))); omega))) (fun h21 => ?_) (fun h21 => ?_)
    · exact absurd (by first | exact Or.inl h21 | exact Or.inr h21) h
    · refine r_aload_n dX13_complain_24 rfl 0 rfl ?_
      refine r_iload_n dX13_complain_25 rfl 1 rfl ?_
      refine r_iload_n dX13_complain_26 rfl 2 rfl ?_
      refine r_fnV (M2 := m_X13_isComplained) (As := [.int (nI (l)), .int (nI (u))]) (rest := [.ref (m)]) (v := some (.int (bI (g (402 + 2 * (200 * l + u)) / 2 ^ 9 % 2 = 1)))) dX13_complain_27 cc_X13_complain_260 rfl rfl rfl (Nat.le_of_ble_eq_true rfl) hs.1 rfl rfl (by decide) (p_isC hs hb (by omega) (by omega)) rfl ?_
      refine r_if_eqB (tgt := 37) dX13_complain_30 (by decide) (fun h30 => ?_) (fun h30 => ?_)
      · refine r_aload_n dX13_complain_37 rfl 0 rfl ?_
        refine r_iload_n dX13_complain_38 rfl 1 rfl ?_
        refine r_iload_n dX13_complain_39 rfl 2 rfl ?_
        refine r_fnV (M2 := m_X13_defects) (As := [.int (nI (l)), .int (nI (u))]) (rest := [.ref (m)]) (v := some (.int (nI ((g (402 + 2 * (200 * l + u))) % 16)))) dX13_complain_40 cc_X13_complain_87 rfl rfl rfl (Nat.le_of_ble_eq_true rfl) hs.1 rfl rfl (by decide) (g_defects hs hb (by (first | omega | (have := sW_lt (g (402 + 2 * (200 * l + u))); omega))) (by (first | omega | (have := sW_lt (g (402 + 2 * (200 * l + u))); omega)))) rfl ?_
        refine r_if_neN (tgt := 50) dX13_complain_43 (by decide) (by (first | omega | (have := sW_lt (g (402 + 2 * (200 * l + u))); omega))) (fun h43 => ?_) (fun h43 => ?_)
        · exact absurd hd h43
        · refine r_iconst (v := nI 3) dX13_complain_46 (by decide) ?_
          refine r_goto (tgt := 51) dX13_complain_47 (by decide) ?_
          refine o_put (k := 6) hs dX13_complain_51 fw_X13_complain_54 rfl rfl rfl ?_
          refine r_aload_n dX13_complain_54 rfl 0 rfl ?_
          refine o_get (k := 6) hs dX13_complain_55 fr_X13_54 rfl ?_
          refine Wx.top up2_s ?_
          refine r_if_leN (tgt := 63) dX13_complain_58 (by decide) (by (first | omega | (have := sW_lt (g (402 + 2 * (200 * l + u))); omega))) (fun zz58 => ?_) (fun zz58 => ?_)
          · exact absurd zz58 (by decide)
          · refine r_iconst (v := nI 0) dX13_complain_61 (by decide) ?_
            exact r_iret (ty := .int) dX13_complain_62 rfl rfl ⟨rfl, rfl⟩
      · exact absurd (by first | exact Or.inl h30 | exact Or.inr h30) h
  · exact absurd zz7 (by decide)
set_option maxRecDepth 4000 in
theorem c_complain_0 {G : GI} {T : Hp} {m : Nat} {V : RVal} {g : Nat → Nat} {od : Nat → UInt64} (hs : RS T m)  (h24 : g 0 ≤ 24) (hb : WB g) {l u : Nat} (hl : l < g 0) (hz : g (90 + 13 * l + 1) ≤ 200) (hu : u < g (90 + 13 * l + 1)) {c : Nat → Nat} (h : ¬ (¬ sW (g (402 + 2 * (200 * l + u))) = 4 ∨ g (402 + 2 * (200 * l + u)) / 2 ^ 9 % 2 = 1)) (hd : ¬ g (402 + 2 * (200 * l + u)) % 16 = 0) (hcc : CauC g l u 15 c) {V2 : RVal} (hch : Fn m_X13_changes G [.ref (m), .ref (m + 1)] (rput T m (sg (up2 V 0 (6) (nI 0)) g) od) none (rput T m (sg V2 g) od)) : Fx m_X13_complain G [.ref (m), .int (nI (l)), .int (nI (u))] (rput T m (sg V g) od) (some (.int (nI (g (2) + 1)))) (fun x y => rput T m (sg (l78 V2 x y) (up1 (up1 (blmG g c l u 15) (402 + 2 * (200 * l + u)) ((g (402 + 2 * (200 * l + u))) ||| 512)) (2) (g (2) + 1))) od) := by
  refine Cn.of rfl (by decide) (Nat.le_of_ble_eq_true rfl) (fun hN hM => ?_)
  show Wx _ G _ 0 [(0, .ref (m)), (1, .int (nI (l))), (2, .int (nI (u)))] [] _
  refine r_aload_n dX13_complain_0 rfl 0 rfl ?_
  refine r_aload_n dX13_complain_1 rfl 0 rfl ?_
  refine r_iload_n dX13_complain_2 rfl 1 rfl ?_
  refine r_iload_n dX13_complain_3 rfl 2 rfl ?_
  refine r_fnV (M2 := m_X13_isUnit) (As := [.int (nI (l)), .int (nI (u))]) (rest := [.ref (m)]) (v := some (.int (nI (1)))) dX13_complain_4 cc_X13_complain_218 rfl rfl rfl (Nat.le_of_ble_eq_true rfl) hs.1 rfl rfl (by decide) (g_isUnit_2 hs h24 (by (first | omega | (have := sW_lt (g (402 + 2 * (200 * l + u))); omega) | (have := hb (402 + 2 * (200 * l + u)) (by omega); omega))) (by (first | omega | (have := sW_lt (g (402 + 2 * (200 * l + u))); omega) | (have := hb (402 + 2 * (200 * l + u)) (by omega); omega))) (by (first | omega | (have := sW_lt (g (402 + 2 * (200 * l + u))); omega) | (have := hb (402 + 2 * (200 * l + u)) (by omega); omega)))) rfl ?_
  refine r_if_neN (tgt := 14) dX13_complain_7 (by decide) (by (first | omega | (have := sW_lt (g (402 + 2 * (200 * l + u))); omega) | (have := hb (402 + 2 * (200 * l + u)) (by omega); omega))) (fun zz7 => ?_) (fun zz7 => ?_)
  · refine r_aload_n dX13_complain_14 rfl 0 rfl ?_
    refine r_iload_n dX13_complain_15 rfl 1 rfl ?_
    refine r_iload_n dX13_complain_16 rfl 2 rfl ?_
    refine r_fnV (M2 := m_X13_state) (As := [.int (nI (l)), .int (nI (u))]) (rest := [.ref (m)]) (v := some (.int (nI (sW (g (402 + 2 * (200 * l + u))))))) dX13_complain_17 cc_X13_complain_93 rfl rfl rfl (Nat.le_of_ble_eq_true rfl) hs.1 rfl rfl (by decide) (g_state hs hb (by (first | omega | (have := sW_lt (g (402 + 2 * (200 * l + u))); omega) | (have := hb (402 + 2 * (200 * l + u)) (by omega); omega))) (by (first | omega | (have := sW_lt (g (402 + 2 * (200 * l + u))); omega) | (have := hb (402 + 2 * (200 * l + u)) (by omega); omega)))) rfl ?_
    refine r_iconst (v := nI 4) dX13_complain_20 (by decide) ?_
    refine r_icmp_neN (tgt := 33) dX13_complain_21 (by decide) (by (first | omega | (have := sW_lt (g (402 + 2 * (200 * l + u))); omega) | (have := hb (402 + 2 * (200 * l + u)) (by omega); omega))) (by (first | omega | (have := sW_lt (g (402 + 2 * (200 * l + u))); omega) | (have := hb (402 + 2 * (200 * l + u)) (by omega); omega))) (fun h21 => ?_) (fun h21 => ?_)
    · exact absurd (by first | exact Or.inl h21 | exact Or.inr h21) h
    · refine r_aload_n dX13_complain_24 rfl 0 rfl ?_
      refine r_iload_n dX13_complain_25 rfl 1 rfl ?_
      refine r_iload_n dX13_complain_26 rfl 2 rfl ?_
      refine r_fnV (M2 := m_X13_isComplained) (As := [.int (nI (l)), .int (nI (u))]) (rest := [.ref (m)]) (v := some (.int (bI (g (402 + 2 * (200 * l + u)) / 2 ^ 9 % 2 = 1)))) dX13_complain_27 cc_X13_complain_260 rfl rfl rfl (Nat.le_of_ble_eq_true rfl) hs.1 rfl rfl (by decide) (p_isC hs hb (by omega) (by omega)) rfl ?_
      refine r_if_eqB (tgt := 37) dX13_complain_30 (by decide) (fun h30 => ?_) (fun h30 => ?_)
      · refine r_aload_n dX13_complain_37 rfl 0 rfl ?_
        refine r_iload_n dX13_complain_38 rfl 1 rfl ?_
        refine r_iload_n dX13_complain_39 rfl 2 rfl ?_
        refine r_fnV (M2 := m_X13_defects) (As := [.int (nI (l)), .int (nI (u))]) (rest := [.ref (m)]) (v := some (.int (nI ((g (402 + 2 * (200 * l + u))) % 16)))) dX13_complain_40 cc_X13_complain_87 rfl rfl rfl (Nat.le_of_ble_eq_true rfl) hs.1 rfl rfl (by decide) (g_defects hs hb (by (first | omega | (have := sW_lt (g (402 + 2 * (200 * l + u))); omega) | (have := hb (402 + 2 * (200 * l + u)) (by omega); omega))) (by (first | omega | (have := sW_lt (g (402 + 2 * (200 * l + u))); omega) | (have := hb (402 + 2 * (200 * l + u)) (by omega); omega)))) rfl ?_
        refine r_if_neN (tgt := 50) dX13_complain_43 (by decide) (by (first | omega | (have := sW_lt (g (402 + 2 * (200 * l + u))); omega) | (have := hb (402 + 2 * (200 * l + u)) (by omega); omega))) (fun h43 => ?_) (fun h43 => ?_)
        · refine r_iconst (v := nI 0) dX13_complain_50 (by decide) ?_
          refine o_put (k := 6) hs dX13_complain_51 fw_X13_complain_54 rfl rfl rfl ?_
          refine r_aload_n dX13_complain_54 rfl 0 rfl ?_
          refine o_get (k := 6) hs dX13_complain_55 fr_X13_54 rfl ?_
          refine Wx.top up2_s ?_
          refine r_if_leN (tgt := 63) dX13_complain_58 (by decide) (by (first | omega | (have := sW_lt (g (402 + 2 * (200 * l + u))); omega) | (have := hb (402 + 2 * (200 * l + u)) (by omega); omega))) (fun zz58 => ?_) (fun zz58 => ?_)
          · refine r_aload_n dX13_complain_63 rfl 0 rfl ?_
            refine r_aload_n dX13_complain_64 rfl 0 rfl ?_
            refine m_ref (k := 0) (j := 1) hs hs.2.1.1 dX13_complain_65 fr_X13_7 rfl ?_
            refine r_fnV (M2 := m_X13_changes) (As := [.ref (m + 1)]) (rest := []) (v := none) dX13_complain_68 cc_X13_complain_111 rfl rfl rfl (Nat.le_of_ble_eq_true rfl) hs.1 rfl rfl (by decide) hch rfl ?_
            refine r_aload_n dX13_complain_71 rfl 0 rfl ?_
            refine r_iload_n dX13_complain_72 rfl 1 rfl ?_
            refine r_iload_n dX13_complain_73 rfl 2 rfl ?_
            refine r_bipush (v := nI 15) dX13_complain_74 (by decide) ?_
            refine r_fxV (M2 := m_X13_blames) (As := [.int (nI (l)), .int (nI (u)), .int (nI (15))]) (rest := []) (v := none) dX13_complain_76 cc_X13_complain_227 rfl rfl rfl (Nat.le_of_ble_eq_true rfl) hs.1 rfl rfl (by decide) (g_blames (c := c) hs hb (by omega) (by omega) (by decide) hcc) rfl (fun x y => ?_)
            refine r_aload_n dX13_complain_79 rfl 0 rfl ?_
            refine m_ref (k := 0) (j := 1) hs hs.2.1.1 dX13_complain_80 fr_X13_7 rfl ?_
            refine r_iload_n dX13_complain_83 rfl 1 rfl ?_
            refine r_iload_n dX13_complain_84 rfl 2 rfl ?_
            refine r_fnS (M2 := m_X13_spot) (As := [.int (nI (l)), .int (nI (u))]) (rest := [.ref (m + 1)]) (v := some (.int (nI (402 + 2 * (200 * l + u))))) dX13_complain_85 cc_X13_complain_84 rfl rfl rfl (Nat.le_of_ble_eq_true rfl) f_spot rfl ?_
            refine r_dup2 dX13_complain_88 rfl rfl ?_
            refine g_iald (i := 402 + 2 * (200 * l + u)) hs dX13_complain_89 (by (first | omega | (have := sW_lt (g (402 + 2 * (200 * l + u))); omega) | (have := hb (402 + 2 * (200 * l + u)) (by omega); omega))) ?_
            refine Wx.topN (blmG_n hcc.1 (by (first | omega | (have := sW_lt (g (402 + 2 * (200 * l + u))); omega) | (have := hb (402 + 2 * (200 * l + u)) (by omega); omega)))) ?_
            refine r_sipush (v := nI 512) dX13_complain_90 (by decide) ?_
            refine r_iorN dX13_complain_93 (by (first | omega | (have := sW_lt (g (402 + 2 * (200 * l + u))); omega) | (have := hb (402 + 2 * (200 * l + u)) (by omega); omega))) (by (first | omega | (have := sW_lt (g (402 + 2 * (200 * l + u))); omega) | (have := hb (402 + 2 * (200 * l + u)) (by omega); omega))) ?_
            refine g_iast (i := 402 + 2 * (200 * l + u)) (x := (g (402 + 2 * (200 * l + u))) ||| 512) hs dX13_complain_94 (by (first | omega | (have := sW_lt (g (402 + 2 * (200 * l + u))); omega) | (have := hb (402 + 2 * (200 * l + u)) (by omega); omega))) ?_
            refine r_aload_n dX13_complain_95 rfl 0 rfl ?_
            refine m_ref (k := 0) (j := 1) hs hs.2.1.1 dX13_complain_96 fr_X13_7 rfl ?_
            refine r_iconst (v := nI 2) dX13_complain_99 (by decide) ?_
            refine r_dup2 dX13_complain_100 rfl rfl ?_
            refine g_iald (i := 2) hs dX13_complain_101 (by (first | omega | (have := sW_lt (g (402 + 2 * (200 * l + u))); omega) | (have := hb (402 + 2 * (200 * l + u)) (by omega); omega))) ?_
            refine Wx.topN (up1_n (by (first | omega | (have := sW_lt (g (402 + 2 * (200 * l + u))); omega) | (have := hb (402 + 2 * (200 * l + u)) (by omega); omega)))) ?_
            refine Wx.topN (blmG_n hcc.1 (by (first | omega | (have := sW_lt (g (402 + 2 * (200 * l + u))); omega) | (have := hb (402 + 2 * (200 * l + u)) (by omega); omega)))) ?_
            refine r_iconst (v := nI 1) dX13_complain_102 (by decide) ?_
            refine r_iaddN dX13_complain_103 ?_
            refine g_iast (i := 2) (x := g (2) + 1) hs dX13_complain_104 (by (first | omega | (have := sW_lt (g (402 + 2 * (200 * l + u))); omega) | (have := hb (402 + 2 * (200 * l + u)) (by omega); omega))) ?_
            refine r_aload_n dX13_complain_105 rfl 0 rfl ?_
            refine m_ref (k := 0) (j := 1) hs hs.2.1.1 dX13_complain_106 fr_X13_7 rfl ?_
            refine r_iconst (v := nI 2) dX13_complain_109 (by decide) ?_
            refine g_iald (i := 2) hs dX13_complain_110 (by (first | omega | (have := sW_lt (g (402 + 2 * (200 * l + u))); omega) | (have := hb (402 + 2 * (200 * l + u)) (by omega); omega))) ?_
            refine Wx.topN up1_s ?_
            exact r_iret (ty := .int) dX13_complain_111 rfl rfl ⟨rfl, x, y, rfl⟩
          · exact absurd zz58 (by decide)
        · exact absurd h43 hd
      · exact absurd (by first | exact Or.inl h30 | exact Or.inr h30) h
  · exact absurd zz7 (by decide)
set_option maxRecDepth 4000 in
theorem q_trace_1a {G : GI} {T : Hp} {m : Nat} {V : RVal} {g : Nat → Nat} {od : Nat → UInt64} (hs : RS T m)  (h24 : g 0 ≤ 24) {x y z z2 : Int32} (hx : ¬ vp_in x (g 0)) : Fn m_X13_trace G [.ref (m), .int (x), .int (y), .int (z), .int (z2)] (rput T m (sg V g) od) (some (.int (nI (0)))) (rput T m (sg (up2 V 0 (6) (nI 1)) (g)) od) := by
  refine Cn.of rfl (by decide) (Nat.le_of_ble_eq_true rfl) (fun hN hM => ?_)
  show Wx _ G _ 0 [(0, .ref (m)), (1, .int (x)), (2, .int (y)), (3, .int (z)), (4, .int (z2))] [] _
  refine r_aload_n dX13_trace_0 rfl 0 rfl ?_
  refine r_aload_n dX13_trace_1 rfl 0 rfl ?_
  refine r_iload_n dX13_trace_2 rfl 1 rfl ?_
  refine r_iload_n dX13_trace_3 rfl 2 rfl ?_
  refine r_fnV (M2 := m_X13_isUnit) (As := [.int (x), .int (y)]) (rest := [.ref (m)]) (v := some (.int (nI (0)))) dX13_trace_4 cc_X13_trace_218 rfl rfl rfl (Nat.le_of_ble_eq_true rfl) hs.1 rfl rfl (by decide) (g_isUnit_0 hs h24 hx) rfl ?_
  refine r_if_neN (tgt := 14) dX13_trace_7 (by decide) (by omega) (fun zz7 => ?_) (fun zz7 => ?_)
  · exact absurd zz7 (by decide)
  · refine r_iconst (v := nI 1) dX13_trace_10 (by decide) ?_
    refine r_goto (tgt := 45) dX13_trace_11 (by decide) ?_
    refine o_put (k := 6) hs dX13_trace_45 fw_X13_trace_54 rfl rfl rfl ?_
    refine r_aload_n dX13_trace_48 rfl 0 rfl ?_
    refine o_get (k := 6) hs dX13_trace_49 fr_X13_54 rfl ?_
    refine Wx.top up2_s ?_
    refine r_if_leN (tgt := 57) dX13_trace_52 (by decide) (by omega) (fun zz52 => ?_) (fun zz52 => ?_)
    · exact absurd zz52 (by decide)
    · refine r_iconst (v := nI 0) dX13_trace_55 (by decide) ?_
      exact r_iret (ty := .int) dX13_trace_56 rfl rfl ⟨rfl, rfl⟩
set_option maxRecDepth 4000 in
theorem q_trace_1b {G : GI} {T : Hp} {m : Nat} {V : RVal} {g : Nat → Nat} {od : Nat → UInt64} (hs : RS T m)  (h24 : g 0 ≤ 24) {l : Nat} (hl : l < g 0) (hz : g (90 + 13 * l + 1) ≤ 200) {y z z2 : Int32} (hy : ¬ vp_in y (g (90 + 13 * l + 1))) : Fn m_X13_trace G [.ref (m), .int (nI (l)), .int (y), .int (z), .int (z2)] (rput T m (sg V g) od) (some (.int (nI (0)))) (rput T m (sg (up2 V 0 (6) (nI 1)) (g)) od) := by
  refine Cn.of rfl (by decide) (Nat.le_of_ble_eq_true rfl) (fun hN hM => ?_)
  show Wx _ G _ 0 [(0, .ref (m)), (1, .int (nI (l))), (2, .int (y)), (3, .int (z)), (4, .int (z2))] [] _
  refine r_aload_n dX13_trace_0 rfl 0 rfl ?_
  refine r_aload_n dX13_trace_1 rfl 0 rfl ?_
  refine r_iload_n dX13_trace_2 rfl 1 rfl ?_
  refine r_iload_n dX13_trace_3 rfl 2 rfl ?_
  refine r_fnV (M2 := m_X13_isUnit) (As := [.int (nI (l)), .int (y)]) (rest := [.ref (m)]) (v := some (.int (nI (0)))) dX13_trace_4 cc_X13_trace_218 rfl rfl rfl (Nat.le_of_ble_eq_true rfl) hs.1 rfl rfl (by decide) (g_isUnit_1 hs h24 (by omega) (by omega) hy) rfl ?_
  refine r_if_neN (tgt := 14) dX13_trace_7 (by decide) (by omega) (fun zz7 => ?_) (fun zz7 => ?_)
  · exact absurd zz7 (by decide)
  · refine r_iconst (v := nI 1) dX13_trace_10 (by decide) ?_
    refine r_goto (tgt := 45) dX13_trace_11 (by decide) ?_
    refine o_put (k := 6) hs dX13_trace_45 fw_X13_trace_54 rfl rfl rfl ?_
    refine r_aload_n dX13_trace_48 rfl 0 rfl ?_
    refine o_get (k := 6) hs dX13_trace_49 fr_X13_54 rfl ?_
    refine Wx.top up2_s ?_
    refine r_if_leN (tgt := 57) dX13_trace_52 (by decide) (by omega) (fun zz52 => ?_) (fun zz52 => ?_)
    · exact absurd zz52 (by decide)
    · refine r_iconst (v := nI 0) dX13_trace_55 (by decide) ?_
      exact r_iret (ty := .int) dX13_trace_56 rfl rfl ⟨rfl, rfl⟩
set_option maxRecDepth 4000 in
theorem q_trace_2 {G : GI} {T : Hp} {m : Nat} {V : RVal} {g : Nat → Nat} {od : Nat → UInt64} (hs : RS T m)  (h24 : g 0 ≤ 24) (hb : WB g) {l u : Nat} (hl : l < g 0) (hz : g (90 + 13 * l + 1) ≤ 200) (hu : u < g (90 + 13 * l + 1)) {z : Int32} (hz : ¬ vp_in z 4) {z2 : Int32} : Fn m_X13_trace G [.ref (m), .int (nI (l)), .int (nI (u)), .int (z), .int (z2)] (rput T m (sg V g) od) (some (.int (nI (0)))) (rput T m (sg (up2 V 0 (6) (nI 2)) (g)) od) := by
  refine Cn.of rfl (by decide) (Nat.le_of_ble_eq_true rfl) (fun hN hM => ?_)
  show Wx _ G _ 0 [(0, .ref (m)), (1, .int (nI (l))), (2, .int (nI (u))), (3, .int (z)), (4, .int (z2))] [] _
  refine r_aload_n dX13_trace_0 rfl 0 rfl ?_
  refine r_aload_n dX13_trace_1 rfl 0 rfl ?_
  refine r_iload_n dX13_trace_2 rfl 1 rfl ?_
  refine r_iload_n dX13_trace_3 rfl 2 rfl ?_
  refine r_fnV (M2 := m_X13_isUnit) (As := [.int (nI (l)), .int (nI (u))]) (rest := [.ref (m)]) (v := some (.int (nI (1)))) dX13_trace_4 cc_X13_trace_218 rfl rfl rfl (Nat.le_of_ble_eq_true rfl) hs.1 rfl rfl (by decide) (g_isUnit_2 hs h24 (by omega) (by omega) (by omega)) rfl ?_
  refine r_if_neN (tgt := 14) dX13_trace_7 (by decide) (by omega) (fun zz7 => ?_) (fun zz7 => ?_)
  · refine r_iload_n dX13_trace_14 rfl 3 rfl ?_
    refine r_iconst (v := nI 0) dX13_trace_15 (by decide) ?_
    refine r_iconst (v := nI 3) dX13_trace_16 (by decide) ?_
    refine r_fnS (M2 := m_X13_in) (As := [.int (z), .int (nI (0)), .int (nI (3))]) (rest := [.ref (m)]) (v := some (.int (nI (0)))) dX13_trace_17 cc_X13_trace_68 rfl rfl rfl (Nat.le_of_ble_eq_true rfl) (Fn.eq (f_in0 (n := 3) (by decide)) (congrArg (fun x => some (Value.int x)) (bI_f hz)) rfl) rfl ?_
    refine r_if_neN (tgt := 27) dX13_trace_20 (by decide) (by omega) (fun zz20 => ?_) (fun zz20 => ?_)
    · exact absurd zz20 (by decide)
    · refine r_iconst (v := nI 2) dX13_trace_23 (by decide) ?_
      refine r_goto (tgt := 45) dX13_trace_24 (by decide) ?_
      refine o_put (k := 6) hs dX13_trace_45 fw_X13_trace_54 rfl rfl rfl ?_
      refine r_aload_n dX13_trace_48 rfl 0 rfl ?_
      refine o_get (k := 6) hs dX13_trace_49 fr_X13_54 rfl ?_
      refine Wx.top up2_s ?_
      refine r_if_leN (tgt := 57) dX13_trace_52 (by decide) (by omega) (fun zz52 => ?_) (fun zz52 => ?_)
      · exact absurd zz52 (by decide)
      · refine r_iconst (v := nI 0) dX13_trace_55 (by decide) ?_
        exact r_iret (ty := .int) dX13_trace_56 rfl rfl ⟨rfl, rfl⟩
  · exact absurd zz7 (by decide)
set_option maxRecDepth 4000 in
theorem q_trace_3 {G : GI} {T : Hp} {m : Nat} {V : RVal} {g : Nat → Nat} {od : Nat → UInt64} (hs : RS T m)  (h24 : g 0 ≤ 24) (hb : WB g) {l u : Nat} (hl : l < g 0) (hz : g (90 + 13 * l + 1) ≤ 200) (hu : u < g (90 + 13 * l + 1)) {k : Nat} (hk : k < 4) {z2 : Int32} (hd : bW (g (402 + 2 * (200 * l + u))) k = 0) : Fn m_X13_trace G [.ref (m), .int (nI (l)), .int (nI (u)), .int (nI (k)), .int (z2)] (rput T m (sg V g) od) (some (.int (nI (0)))) (rput T m (sg (up2 V 0 (6) (nI 3)) (g)) od) := by
  refine Cn.of rfl (by decide) (Nat.le_of_ble_eq_true rfl) (fun hN hM => ?_)
  show Wx _ G _ 0 [(0, .ref (m)), (1, .int (nI (l))), (2, .int (nI (u))), (3, .int (nI (k))), (4, .int (z2))] [] _
  refine r_aload_n dX13_trace_0 rfl 0 rfl ?_
  refine r_aload_n dX13_trace_1 rfl 0 rfl ?_
  refine r_iload_n dX13_trace_2 rfl 1 rfl ?_
  refine r_iload_n dX13_trace_3 rfl 2 rfl ?_
  refine r_fnV (M2 := m_X13_isUnit) (As := [.int (nI (l)), .int (nI (u))]) (rest := [.ref (m)]) (v := some (.int (nI (1)))) dX13_trace_4 cc_X13_trace_218 rfl rfl rfl (Nat.le_of_ble_eq_true rfl) hs.1 rfl rfl (by decide) (g_isUnit_2 hs h24 (by (first | omega | (have := Nat.div_le_self (g (402 + 2 * (200 * l + u)) % 16) (2 ^ k); omega))) (by (first | omega | (have := Nat.div_le_self (g (402 + 2 * (200 * l + u)) % 16) (2 ^ k); omega))) (by (first | omega | (have := Nat.div_le_self (g (402 + 2 * (200 * l + u)) % 16) (2 ^ k); omega)))) rfl ?_
  refine r_if_neN (tgt := 14) dX13_trace_7 (by decide) (by (first | omega | (have := Nat.div_le_self (g (402 + 2 * (200 * l + u)) % 16) (2 ^ k); omega))) (fun zz7 => ?_) (fun zz7 => ?_)
  · refine r_iload_n dX13_trace_14 rfl 3 rfl ?_
    refine r_iconst (v := nI 0) dX13_trace_15 (by decide) ?_
    refine r_iconst (v := nI 3) dX13_trace_16 (by decide) ?_
    refine r_fnS (M2 := m_X13_in) (As := [.int (nI (k)), .int (nI (0)), .int (nI (3))]) (rest := [.ref (m)]) (v := some (.int (nI (1)))) dX13_trace_17 cc_X13_trace_68 rfl rfl rfl (Nat.le_of_ble_eq_true rfl) (Fn.eq (f_in0 (n := 3) (by decide)) (congrArg (fun x => some (Value.int x)) (bI_t (vp_in_nI (by (first | omega | (have := Nat.div_le_self (g (402 + 2 * (200 * l + u)) % 16) (2 ^ k); omega))) (by decide)))) rfl) rfl ?_
    refine r_if_neN (tgt := 27) dX13_trace_20 (by decide) (by (first | omega | (have := Nat.div_le_self (g (402 + 2 * (200 * l + u)) % 16) (2 ^ k); omega))) (fun zz20 => ?_) (fun zz20 => ?_)
    · refine r_aload_n dX13_trace_27 rfl 0 rfl ?_
      refine r_iload_n dX13_trace_28 rfl 1 rfl ?_
      refine r_iload_n dX13_trace_29 rfl 2 rfl ?_
      refine r_fnV (M2 := m_X13_defects) (As := [.int (nI (l)), .int (nI (u))]) (rest := [.ref (m)]) (v := some (.int (nI ((g (402 + 2 * (200 * l + u))) % 16)))) dX13_trace_30 cc_X13_trace_87 rfl rfl rfl (Nat.le_of_ble_eq_true rfl) hs.1 rfl rfl (by decide) (g_defects hs hb (by (first | omega | (have := Nat.div_le_self (g (402 + 2 * (200 * l + u)) % 16) (2 ^ k); omega))) (by (first | omega | (have := Nat.div_le_self (g (402 + 2 * (200 * l + u)) % 16) (2 ^ k); omega)))) rfl ?_
      refine r_iload_n dX13_trace_33 rfl 3 rfl ?_
      refine r_ishrN dX13_trace_34 (by (first | omega | (have := Nat.div_le_self (g (402 + 2 * (200 * l + u)) % 16) (2 ^ k); omega))) (by (first | omega | (have := Nat.div_le_self (g (402 + 2 * (200 * l + u)) % 16) (2 ^ k); omega))) ?_
      refine r_iconst (v := nI 1) dX13_trace_35 (by decide) ?_
      refine r_iandM (k := 1) (c := 2) rfl rfl dX13_trace_36 (by decide) ?_
      refine r_if_neN (tgt := 44) dX13_trace_37 (by decide) (by (first | omega | (have := Nat.div_le_self (g (402 + 2 * (200 * l + u)) % 16) (2 ^ k); omega))) (fun h37 => ?_) (fun h37 => ?_)
      · exact absurd hd h37
      · refine r_iconst (v := nI 3) dX13_trace_40 (by decide) ?_
        refine r_goto (tgt := 45) dX13_trace_41 (by decide) ?_
        refine o_put (k := 6) hs dX13_trace_45 fw_X13_trace_54 rfl rfl rfl ?_
        refine r_aload_n dX13_trace_48 rfl 0 rfl ?_
        refine o_get (k := 6) hs dX13_trace_49 fr_X13_54 rfl ?_
        refine Wx.top up2_s ?_
        refine r_if_leN (tgt := 57) dX13_trace_52 (by decide) (by (first | omega | (have := Nat.div_le_self (g (402 + 2 * (200 * l + u)) % 16) (2 ^ k); omega))) (fun zz52 => ?_) (fun zz52 => ?_)
        · exact absurd zz52 (by decide)
        · refine r_iconst (v := nI 0) dX13_trace_55 (by decide) ?_
          exact r_iret (ty := .int) dX13_trace_56 rfl rfl ⟨rfl, rfl⟩
    · exact absurd zz20 (by decide)
  · exact absurd zz7 (by decide)
set_option maxRecDepth 4000 in
theorem q_trace_a {G : GI} {T : Hp} {m : Nat} {V : RVal} {g : Nat → Nat} {od : Nat → UInt64} (hs : RS T m)  (h24 : g 0 ≤ 24) (hb : WB g) {l u : Nat} (hl : l < g 0) (hz : g (90 + 13 * l + 1) ≤ 200) (hu : u < g (90 + 13 * l + 1)) {k : Nat} (hk : k < 4) {n l' u' : Nat} (hd : ¬ bW (g (402 + 2 * (200 * l + u))) k = 0) (ho : Org g k n l u l' u') : Fx m_X13_trace G [.ref (m), .int (nI (l)), .int (nI (u)), .int (nI (k)), .int (nI (1))] (rput T m (sg V g) od) (some (.int (nI (cauV g k l' u')))) (fun x y => rput T m (sg (l78 (up2 V 0 (6) (nI 0)) x y) g) od) := by
  refine Cn.of rfl (by decide) (Nat.le_of_ble_eq_true rfl) (fun hN hM => ?_)
  show Wx _ G _ 0 [(0, .ref (m)), (1, .int (nI (l))), (2, .int (nI (u))), (3, .int (nI (k))), (4, .int (nI (1)))] [] _
  refine r_aload_n dX13_trace_0 rfl 0 rfl ?_
  refine r_aload_n dX13_trace_1 rfl 0 rfl ?_
  refine r_iload_n dX13_trace_2 rfl 1 rfl ?_
  refine r_iload_n dX13_trace_3 rfl 2 rfl ?_
  refine r_fnV (M2 := m_X13_isUnit) (As := [.int (nI (l)), .int (nI (u))]) (rest := [.ref (m)]) (v := some (.int (nI (1)))) dX13_trace_4 cc_X13_trace_218 rfl rfl rfl (Nat.le_of_ble_eq_true rfl) hs.1 rfl rfl (by decide) (g_isUnit_2 hs h24 (by (first | omega | (have := Nat.div_le_self (g (402 + 2 * (200 * l + u)) % 16) (2 ^ k); omega))) (by (first | omega | (have := Nat.div_le_self (g (402 + 2 * (200 * l + u)) % 16) (2 ^ k); omega))) (by (first | omega | (have := Nat.div_le_self (g (402 + 2 * (200 * l + u)) % 16) (2 ^ k); omega)))) rfl ?_
  refine r_if_neN (tgt := 14) dX13_trace_7 (by decide) (by (first | omega | (have := Nat.div_le_self (g (402 + 2 * (200 * l + u)) % 16) (2 ^ k); omega))) (fun zz7 => ?_) (fun zz7 => ?_)
  · refine r_iload_n dX13_trace_14 rfl 3 rfl ?_
    refine r_iconst (v := nI 0) dX13_trace_15 (by decide) ?_
    refine r_iconst (v := nI 3) dX13_trace_16 (by decide) ?_
    refine r_fnS (M2 := m_X13_in) (As := [.int (nI (k)), .int (nI (0)), .int (nI (3))]) (rest := [.ref (m)]) (v := some (.int (nI (1)))) dX13_trace_17 cc_X13_trace_68 rfl rfl rfl (Nat.le_of_ble_eq_true rfl) (Fn.eq (f_in0 (n := 3) (by decide)) (congrArg (fun x => some (Value.int x)) (bI_t (vp_in_nI (by (first | omega | (have := Nat.div_le_self (g (402 + 2 * (200 * l + u)) % 16) (2 ^ k); omega))) (by decide)))) rfl) rfl ?_
    refine r_if_neN (tgt := 27) dX13_trace_20 (by decide) (by (first | omega | (have := Nat.div_le_self (g (402 + 2 * (200 * l + u)) % 16) (2 ^ k); omega))) (fun zz20 => ?_) (fun zz20 => ?_)
    · refine r_aload_n dX13_trace_27 rfl 0 rfl ?_
      refine r_iload_n dX13_trace_28 rfl 1 rfl ?_
      refine r_iload_n dX13_trace_29 rfl 2 rfl ?_
      refine r_fnV (M2 := m_X13_defects) (As := [.int (nI (l)), .int (nI (u))]) (rest := [.ref (m)]) (v := some (.int (nI ((g (402 + 2 * (200 * l + u))) % 16)))) dX13_trace_30 cc_X13_trace_87 rfl rfl rfl (Nat.le_of_ble_eq_true rfl) hs.1 rfl rfl (by decide) (g_defects hs hb (by (first | omega | (have := Nat.div_le_self (g (402 + 2 * (200 * l + u)) % 16) (2 ^ k); omega))) (by (first | omega | (have := Nat.div_le_self (g (402 + 2 * (200 * l + u)) % 16) (2 ^ k); omega)))) rfl ?_
      refine r_iload_n dX13_trace_33 rfl 3 rfl ?_
      refine r_ishrN dX13_trace_34 (by (first | omega | (have := Nat.div_le_self (g (402 + 2 * (200 * l + u)) % 16) (2 ^ k); omega))) (by (first | omega | (have := Nat.div_le_self (g (402 + 2 * (200 * l + u)) % 16) (2 ^ k); omega))) ?_
      refine r_iconst (v := nI 1) dX13_trace_35 (by decide) ?_
      refine r_iandM (k := 1) (c := 2) rfl rfl dX13_trace_36 (by decide) ?_
      refine r_if_neN (tgt := 44) dX13_trace_37 (by decide) (by (first | omega | (have := Nat.div_le_self (g (402 + 2 * (200 * l + u)) % 16) (2 ^ k); omega))) (fun h37 => ?_) (fun h37 => ?_)
      · refine r_iconst (v := nI 0) dX13_trace_44 (by decide) ?_
        refine o_put (k := 6) hs dX13_trace_45 fw_X13_trace_54 rfl rfl rfl ?_
        refine r_aload_n dX13_trace_48 rfl 0 rfl ?_
        refine o_get (k := 6) hs dX13_trace_49 fr_X13_54 rfl ?_
        refine Wx.top up2_s ?_
        refine r_if_leN (tgt := 57) dX13_trace_52 (by decide) (by (first | omega | (have := Nat.div_le_self (g (402 + 2 * (200 * l + u)) % 16) (2 ^ k); omega))) (fun zz52 => ?_) (fun zz52 => ?_)
        · refine r_aload_n dX13_trace_57 rfl 0 rfl ?_
          refine r_iload_n dX13_trace_58 rfl 1 rfl ?_
          refine r_iload_n dX13_trace_59 rfl 2 rfl ?_
          refine r_iload_n dX13_trace_60 rfl 3 rfl ?_
          refine r_fxV (M2 := m_X13_causeOf) (As := [.int (nI (l)), .int (nI (u)), .int (nI (k))]) (rest := []) (v := some (.int (nI (cauV g k l' u')))) dX13_trace_61 cc_X13_trace_215 rfl rfl rfl (Nat.le_of_ble_eq_true rfl) hs.1 rfl rfl (by decide) (g_causeOf hs hb (by omega) ho) rfl (fun x y => ?_)
          refine r_istore (lv' := [(5, .int (nI (cauV g k l' u'))), (0, .ref (m)), (1, .int (nI (l))), (2, .int (nI (u))), (3, .int (nI (k))), (4, .int (nI (1)))]) dX13_trace_64 (by decide) rfl ?_
          refine r_iload dX13_trace_66 5 rfl ?_
          refine r_if_eqN (tgt := 76) dX13_trace_68 (by decide) (by (first | omega | (have := Nat.div_le_self (g (402 + 2 * (200 * l + u)) % 16) (2 ^ k); omega))) (fun zz68 => ?_) (fun zz68 => ?_)
          · exact absurd zz68 (by decide)
          · refine r_iload dX13_trace_71 0 rfl ?_
            refine r_goto (tgt := 89) dX13_trace_73 (by decide) ?_
            exact r_iret (ty := .int) dX13_trace_89 rfl rfl ⟨rfl, x, y, rfl⟩
        · exact absurd zz52 (by decide)
      · exact absurd h37 hd
    · exact absurd zz20 (by decide)
  · exact absurd zz7 (by decide)
set_option maxRecDepth 4000 in
theorem q_madeOf_1a {G : GI} {T : Hp} {m : Nat} {V : RVal} {g : Nat → Nat} {od : Nat → UInt64} (hs : RS T m)  (h24 : g 0 ≤ 24) {x y z : Int32} (hx : ¬ vp_in x (g 0)) : Fn m_X13_madeOf G [.ref (m), .int (x), .int (y), .int (z)] (rput T m (sg V g) od) (some (.int (nI (0)))) (rput T m (sg (up2 V 0 (6) (nI 1)) (g)) od) := by
  refine Cn.of rfl (by decide) (Nat.le_of_ble_eq_true rfl) (fun hN hM => ?_)
  show Wx _ G _ 0 [(0, .ref (m)), (1, .int (x)), (2, .int (y)), (3, .int (z))] [] _
  refine r_aload_n dX13_madeOf_0 rfl 0 rfl ?_
  refine r_aload_n dX13_madeOf_1 rfl 0 rfl ?_
  refine r_iload_n dX13_madeOf_2 rfl 1 rfl ?_
  refine r_iload_n dX13_madeOf_3 rfl 2 rfl ?_
  refine r_fnV (M2 := m_X13_isUnit) (As := [.int (x), .int (y)]) (rest := [.ref (m)]) (v := some (.int (nI (0)))) dX13_madeOf_4 cc_X13_madeOf_218 rfl rfl rfl (Nat.le_of_ble_eq_true rfl) hs.1 rfl rfl (by decide) (g_isUnit_0 hs h24 hx) rfl ?_
  refine r_if_neN (tgt := 14) dX13_madeOf_7 (by decide) (by omega) (fun zz7 => ?_) (fun zz7 => ?_)
  · exact absurd zz7 (by decide)
  · refine r_iconst (v := nI 1) dX13_madeOf_10 (by decide) ?_
    refine r_goto (tgt := 40) dX13_madeOf_11 (by decide) ?_
    refine o_put (k := 6) hs dX13_madeOf_40 fw_X13_madeOf_54 rfl rfl rfl ?_
    refine r_aload_n dX13_madeOf_43 rfl 0 rfl ?_
    refine o_get (k := 6) hs dX13_madeOf_44 fr_X13_54 rfl ?_
    refine Wx.top up2_s ?_
    refine r_if_leN (tgt := 54) dX13_madeOf_47 (by decide) (by omega) (fun zz47 => ?_) (fun zz47 => ?_)
    · exact absurd zz47 (by decide)
    · refine r_iconst (v := nI 0) dX13_madeOf_50 (by decide) ?_
      refine r_goto (tgt := 72) dX13_madeOf_51 (by decide) ?_
      exact r_iret (ty := .int) dX13_madeOf_72 rfl rfl ⟨rfl, rfl⟩
set_option maxRecDepth 4000 in
theorem q_madeOf_1b {G : GI} {T : Hp} {m : Nat} {V : RVal} {g : Nat → Nat} {od : Nat → UInt64} (hs : RS T m)  (h24 : g 0 ≤ 24) {l : Nat} (hl : l < g 0) (hz : g (90 + 13 * l + 1) ≤ 200) {y z : Int32} (hy : ¬ vp_in y (g (90 + 13 * l + 1))) : Fn m_X13_madeOf G [.ref (m), .int (nI (l)), .int (y), .int (z)] (rput T m (sg V g) od) (some (.int (nI (0)))) (rput T m (sg (up2 V 0 (6) (nI 1)) (g)) od) := by
  refine Cn.of rfl (by decide) (Nat.le_of_ble_eq_true rfl) (fun hN hM => ?_)
  show Wx _ G _ 0 [(0, .ref (m)), (1, .int (nI (l))), (2, .int (y)), (3, .int (z))] [] _
  refine r_aload_n dX13_madeOf_0 rfl 0 rfl ?_
  refine r_aload_n dX13_madeOf_1 rfl 0 rfl ?_
  refine r_iload_n dX13_madeOf_2 rfl 1 rfl ?_
  refine r_iload_n dX13_madeOf_3 rfl 2 rfl ?_
  refine r_fnV (M2 := m_X13_isUnit) (As := [.int (nI (l)), .int (y)]) (rest := [.ref (m)]) (v := some (.int (nI (0)))) dX13_madeOf_4 cc_X13_madeOf_218 rfl rfl rfl (Nat.le_of_ble_eq_true rfl) hs.1 rfl rfl (by decide) (g_isUnit_1 hs h24 (by omega) (by omega) hy) rfl ?_
  refine r_if_neN (tgt := 14) dX13_madeOf_7 (by decide) (by omega) (fun zz7 => ?_) (fun zz7 => ?_)
  · exact absurd zz7 (by decide)
  · refine r_iconst (v := nI 1) dX13_madeOf_10 (by decide) ?_
    refine r_goto (tgt := 40) dX13_madeOf_11 (by decide) ?_
    refine o_put (k := 6) hs dX13_madeOf_40 fw_X13_madeOf_54 rfl rfl rfl ?_
    refine r_aload_n dX13_madeOf_43 rfl 0 rfl ?_
    refine o_get (k := 6) hs dX13_madeOf_44 fr_X13_54 rfl ?_
    refine Wx.top up2_s ?_
    refine r_if_leN (tgt := 54) dX13_madeOf_47 (by decide) (by omega) (fun zz47 => ?_) (fun zz47 => ?_)
    · exact absurd zz47 (by decide)
    · refine r_iconst (v := nI 0) dX13_madeOf_50 (by decide) ?_
      refine r_goto (tgt := 72) dX13_madeOf_51 (by decide) ?_
      exact r_iret (ty := .int) dX13_madeOf_72 rfl rfl ⟨rfl, rfl⟩
set_option maxRecDepth 4000 in
theorem q_madeOf_2 {G : GI} {T : Hp} {m : Nat} {V : RVal} {g : Nat → Nat} {od : Nat → UInt64} (hs : RS T m)  (h24 : g 0 ≤ 24) (hb : WB g) {l u : Nat} (hl : l < g 0) (hz : g (90 + 13 * l + 1) ≤ 200) (hu : u < g (90 + 13 * l + 1)) (h8 : g (90 + 13 * l + 8) ≤ 3) {z : Int32} (hz9 : ¬ vp_in z (g (90 + 13 * l + 8))) : Fn m_X13_madeOf G [.ref (m), .int (nI (l)), .int (nI (u)), .int (z)] (rput T m (sg V g) od) (some (.int (nI (0)))) (rput T m (sg (up2 V 0 (6) (nI 2)) (g)) od) := by
  refine Cn.of rfl (by decide) (Nat.le_of_ble_eq_true rfl) (fun hN hM => ?_)
  show Wx _ G _ 0 [(0, .ref (m)), (1, .int (nI (l))), (2, .int (nI (u))), (3, .int (z))] [] _
  refine r_aload_n dX13_madeOf_0 rfl 0 rfl ?_
  refine r_aload_n dX13_madeOf_1 rfl 0 rfl ?_
  refine r_iload_n dX13_madeOf_2 rfl 1 rfl ?_
  refine r_iload_n dX13_madeOf_3 rfl 2 rfl ?_
  refine r_fnV (M2 := m_X13_isUnit) (As := [.int (nI (l)), .int (nI (u))]) (rest := [.ref (m)]) (v := some (.int (nI (1)))) dX13_madeOf_4 cc_X13_madeOf_218 rfl rfl rfl (Nat.le_of_ble_eq_true rfl) hs.1 rfl rfl (by decide) (g_isUnit_2 hs h24 (by omega) (by omega) (by omega)) rfl ?_
  refine r_if_neN (tgt := 14) dX13_madeOf_7 (by decide) (by omega) (fun zz7 => ?_) (fun zz7 => ?_)
  · refine r_iload_n dX13_madeOf_14 rfl 3 rfl ?_
    refine r_iconst (v := nI 0) dX13_madeOf_15 (by decide) ?_
    refine r_aload_n dX13_madeOf_16 rfl 0 rfl ?_
    refine m_ref (k := 0) (j := 1) hs hs.2.1.1 dX13_madeOf_17 fr_X13_7 rfl ?_
    refine r_iload_n dX13_madeOf_20 rfl 1 rfl ?_
    refine r_bipush (v := nI 8) dX13_madeOf_21 (by decide) ?_
    refine r_fnS (M2 := m_X13_at) (As := [.int (nI (l)), .int (nI (8))]) (rest := [.ref (m + 1), .int (nI (0)), .int (z), .ref (m)]) (v := some (.int (nI (90 + 13 * l + 8)))) dX13_madeOf_23 cc_X13_madeOf_72 rfl rfl rfl (Nat.le_of_ble_eq_true rfl) f_at rfl ?_
    refine g_iald (i := 90 + 13 * l + 8) hs dX13_madeOf_26 (by omega) ?_
    refine r_iconst (v := nI 1) dX13_madeOf_27 (by decide) ?_
    refine r_isub dX13_madeOf_28 ?_
    refine r_fnS (M2 := m_X13_in) (As := [.int (z), .int (nI (0)), .int (nI (g (90 + 13 * l + 8)) - nI 1)]) (rest := [.ref (m)]) (v := some (.int (nI (0)))) dX13_madeOf_29 cc_X13_madeOf_68 rfl rfl rfl (Nat.le_of_ble_eq_true rfl) (Fn.eq f_in (show some (Value.int (bI (nI 0 ≤ z ∧ z ≤ nI (g (90 + 13 * l + 8)) - nI 1))) = some (Value.int (nI 0)) from congrArg (fun x => some (Value.int x)) ((bI_iff (inR_iff0 (by omega))).trans (bI_f hz9))) rfl) rfl ?_
    refine r_if_neN (tgt := 39) dX13_madeOf_32 (by decide) (by omega) (fun zz32 => ?_) (fun zz32 => ?_)
    · exact absurd zz32 (by decide)
    · refine r_iconst (v := nI 2) dX13_madeOf_35 (by decide) ?_
      refine r_goto (tgt := 40) dX13_madeOf_36 (by decide) ?_
      refine o_put (k := 6) hs dX13_madeOf_40 fw_X13_madeOf_54 rfl rfl rfl ?_
      refine r_aload_n dX13_madeOf_43 rfl 0 rfl ?_
      refine o_get (k := 6) hs dX13_madeOf_44 fr_X13_54 rfl ?_
      refine Wx.top up2_s ?_
      refine r_if_leN (tgt := 54) dX13_madeOf_47 (by decide) (by omega) (fun zz47 => ?_) (fun zz47 => ?_)
      · exact absurd zz47 (by decide)
      · refine r_iconst (v := nI 0) dX13_madeOf_50 (by decide) ?_
        refine r_goto (tgt := 72) dX13_madeOf_51 (by decide) ?_
        exact r_iret (ty := .int) dX13_madeOf_72 rfl rfl ⟨rfl, rfl⟩
  · exact absurd zz7 (by decide)
set_option maxRecDepth 4000 in
theorem q_madeOf_0 {G : GI} {T : Hp} {m : Nat} {V : RVal} {g : Nat → Nat} {od : Nat → UInt64} (hs : RS T m)  (h24 : g 0 ≤ 24) (hb : WB g) {l u : Nat} (hl : l < g 0) (hz : g (90 + 13 * l + 1) ≤ 200) (hu : u < g (90 + 13 * l + 1)) (h8 : g (90 + 13 * l + 8) ≤ 3) {k : Nat} (hk : k < g (90 + 13 * l + 8)) : Fn m_X13_madeOf G [.ref (m), .int (nI (l)), .int (nI (u)), .int (nI (k))] (rput T m (sg V g) od) (some (.int (nI (1000 * (g (90 + 13 * l + (10 + k))) + (pW (g (402 + 2 * (200 * l + u) + 1)) k))))) (rput T m (sg (up2 V 0 (6) (nI 0)) (g)) od) := by
  refine Cn.of rfl (by decide) (Nat.le_of_ble_eq_true rfl) (fun hN hM => ?_)
  show Wx _ G _ 0 [(0, .ref (m)), (1, .int (nI (l))), (2, .int (nI (u))), (3, .int (nI (k)))] [] _
  refine r_aload_n dX13_madeOf_0 rfl 0 rfl ?_
  refine r_aload_n dX13_madeOf_1 rfl 0 rfl ?_
  refine r_iload_n dX13_madeOf_2 rfl 1 rfl ?_
  refine r_iload_n dX13_madeOf_3 rfl 2 rfl ?_
  refine r_fnV (M2 := m_X13_isUnit) (As := [.int (nI (l)), .int (nI (u))]) (rest := [.ref (m)]) (v := some (.int (nI (1)))) dX13_madeOf_4 cc_X13_madeOf_218 rfl rfl rfl (Nat.le_of_ble_eq_true rfl) hs.1 rfl rfl (by decide) (g_isUnit_2 hs h24 (by omega) (by omega) (by omega)) rfl ?_
  refine r_if_neN (tgt := 14) dX13_madeOf_7 (by decide) (by omega) (fun zz7 => ?_) (fun zz7 => ?_)
  · refine r_iload_n dX13_madeOf_14 rfl 3 rfl ?_
    refine r_iconst (v := nI 0) dX13_madeOf_15 (by decide) ?_
    refine r_aload_n dX13_madeOf_16 rfl 0 rfl ?_
    refine m_ref (k := 0) (j := 1) hs hs.2.1.1 dX13_madeOf_17 fr_X13_7 rfl ?_
    refine r_iload_n dX13_madeOf_20 rfl 1 rfl ?_
    refine r_bipush (v := nI 8) dX13_madeOf_21 (by decide) ?_
    refine r_fnS (M2 := m_X13_at) (As := [.int (nI (l)), .int (nI (8))]) (rest := [.ref (m + 1), .int (nI (0)), .int (nI (k)), .ref (m)]) (v := some (.int (nI (90 + 13 * l + 8)))) dX13_madeOf_23 cc_X13_madeOf_72 rfl rfl rfl (Nat.le_of_ble_eq_true rfl) f_at rfl ?_
    refine g_iald (i := 90 + 13 * l + 8) hs dX13_madeOf_26 (by omega) ?_
    refine r_iconst (v := nI 1) dX13_madeOf_27 (by decide) ?_
    refine r_isub dX13_madeOf_28 ?_
    refine r_fnS (M2 := m_X13_in) (As := [.int (nI (k)), .int (nI (0)), .int (nI (g (90 + 13 * l + 8)) - nI 1)]) (rest := [.ref (m)]) (v := some (.int (nI (1)))) dX13_madeOf_29 cc_X13_madeOf_68 rfl rfl rfl (Nat.le_of_ble_eq_true rfl) (Fn.eq f_in (show some (Value.int (bI (nI 0 ≤ nI k ∧ nI k ≤ nI (g (90 + 13 * l + 8)) - nI 1))) = some (Value.int (nI 1)) from congrArg (fun x => some (Value.int x)) ((bI_iff (inR_iff0 (by omega))).trans (bI_t (vp_in_nI hk (by omega))))) rfl) rfl ?_
    refine r_if_neN (tgt := 39) dX13_madeOf_32 (by decide) (by omega) (fun zz32 => ?_) (fun zz32 => ?_)
    · refine r_iconst (v := nI 0) dX13_madeOf_39 (by decide) ?_
      refine o_put (k := 6) hs dX13_madeOf_40 fw_X13_madeOf_54 rfl rfl rfl ?_
      refine r_aload_n dX13_madeOf_43 rfl 0 rfl ?_
      refine o_get (k := 6) hs dX13_madeOf_44 fr_X13_54 rfl ?_
      refine Wx.top up2_s ?_
      refine r_if_leN (tgt := 54) dX13_madeOf_47 (by decide) (by omega) (fun zz47 => ?_) (fun zz47 => ?_)
      · refine r_sipush (v := nI 1000) dX13_madeOf_54 (by decide) ?_
        refine r_aload_n dX13_madeOf_57 rfl 0 rfl ?_
        refine r_iload_n dX13_madeOf_58 rfl 1 rfl ?_
        refine r_iload_n dX13_madeOf_59 rfl 3 rfl ?_
        refine r_fnV (M2 := m_X13_part) (As := [.int (nI (l)), .int (nI (k))]) (rest := [.int (nI (1000))]) (v := some (.int (nI (g (90 + 13 * l + (10 + k)))))) dX13_madeOf_60 cc_X13_madeOf_203 rfl rfl rfl (Nat.le_of_ble_eq_true rfl) hs.1 rfl rfl (by decide) (g_part hs (by omega) (by omega)) rfl ?_
        refine r_imulN dX13_madeOf_63 ?_
        refine r_aload_n dX13_madeOf_64 rfl 0 rfl ?_
        refine r_iload_n dX13_madeOf_65 rfl 1 rfl ?_
        refine r_iload_n dX13_madeOf_66 rfl 2 rfl ?_
        refine r_iload_n dX13_madeOf_67 rfl 3 rfl ?_
        refine r_fnV (M2 := m_X13_partUnit) (As := [.int (nI (l)), .int (nI (u)), .int (nI (k))]) (rest := [.int (nI (1000 * (g (90 + 13 * l + (10 + k)))))]) (v := some (.int (nI (pW (g (402 + 2 * (200 * l + u) + 1)) k)))) dX13_madeOf_68 cc_X13_madeOf_206 rfl rfl rfl (Nat.le_of_ble_eq_true rfl) hs.1 rfl rfl (by decide) (g_partUnit hs hb (by omega) (by omega) (by omega)) rfl ?_
        refine r_iaddN dX13_madeOf_71 ?_
        exact r_iret (ty := .int) dX13_madeOf_72 rfl rfl ⟨rfl, rfl⟩
      · exact absurd zz47 (by decide)
    · exact absurd zz32 (by decide)
  · exact absurd zz7 (by decide)
set_option maxRecDepth 4000 in
theorem q_blame_1a {G : GI} {T : Hp} {m : Nat} {V : RVal} {g : Nat → Nat} {od : Nat → UInt64} (hs : RS T m)  {x : Int32} (hx : ¬ vp_in x 7) {y : Int32} : Fn m_X13_blame G [.ref (m), .int (x), .int (y)] (rput T m (sg V g) od) (some (.int (nI (0)))) (rput T m (sg (up2 V 0 (6) (nI 1)) (g)) od) := by
  refine Cn.of rfl (by decide) (Nat.le_of_ble_eq_true rfl) (fun hN hM => ?_)
  show Wx _ G _ 0 [(0, .ref (m)), (1, .int (x)), (2, .int (y))] [] _
  refine r_aload_n dX13_blame_0 rfl 0 rfl ?_
  refine r_iload_n dX13_blame_1 rfl 1 rfl ?_
  refine r_iconst (v := nI 0) dX13_blame_2 (by decide) ?_
  refine r_bipush (v := nI 6) dX13_blame_3 (by decide) ?_
  refine r_fnS (M2 := m_X13_in) (As := [.int (x), .int (nI (0)), .int (nI (6))]) (rest := [.ref (m)]) (v := some (.int (nI (0)))) dX13_blame_5 cc_X13_blame_68 rfl rfl rfl (Nat.le_of_ble_eq_true rfl) (Fn.eq (f_in0 (n := 6) (by decide)) (congrArg (fun x => some (Value.int x)) (bI_f hx)) rfl) rfl ?_
  refine r_if_eqN (tgt := 24) dX13_blame_8 (by decide) (by omega) (fun zz8 => ?_) (fun zz8 => ?_)
  · refine r_iconst (v := nI 1) dX13_blame_24 (by decide) ?_
    refine o_put (k := 6) hs dX13_blame_25 fw_X13_blame_54 rfl rfl rfl ?_
    refine r_aload_n dX13_blame_28 rfl 0 rfl ?_
    refine o_get (k := 6) hs dX13_blame_29 fr_X13_54 rfl ?_
    refine Wx.top up2_s ?_
    refine r_if_leN (tgt := 37) dX13_blame_32 (by decide) (by omega) (fun zz32 => ?_) (fun zz32 => ?_)
    · exact absurd zz32 (by decide)
    · refine r_iconst (v := nI 0) dX13_blame_35 (by decide) ?_
      exact r_iret (ty := .int) dX13_blame_36 rfl rfl ⟨rfl, rfl⟩
  · exact absurd zz8 (by decide)
set_option maxRecDepth 4000 in
theorem q_blame_1b {G : GI} {T : Hp} {m : Nat} {V : RVal} {g : Nat → Nat} {od : Nat → UInt64} (hs : RS T m)  {a : Nat} (ha : a < 7) {y : Int32} (hy : ¬ ((-1) ≤ y ∧ y ≤ nI 3)) : Fn m_X13_blame G [.ref (m), .int (nI (a)), .int (y)] (rput T m (sg V g) od) (some (.int (nI (0)))) (rput T m (sg (up2 V 0 (6) (nI 1)) (g)) od) := by
  refine Cn.of rfl (by decide) (Nat.le_of_ble_eq_true rfl) (fun hN hM => ?_)
  show Wx _ G _ 0 [(0, .ref (m)), (1, .int (nI (a))), (2, .int (y))] [] _
  refine r_aload_n dX13_blame_0 rfl 0 rfl ?_
  refine r_iload_n dX13_blame_1 rfl 1 rfl ?_
  refine r_iconst (v := nI 0) dX13_blame_2 (by decide) ?_
  refine r_bipush (v := nI 6) dX13_blame_3 (by decide) ?_
  refine r_fnS (M2 := m_X13_in) (As := [.int (nI (a)), .int (nI (0)), .int (nI (6))]) (rest := [.ref (m)]) (v := some (.int (nI (1)))) dX13_blame_5 cc_X13_blame_68 rfl rfl rfl (Nat.le_of_ble_eq_true rfl) (Fn.eq (f_in0 (n := 6) (by decide)) (congrArg (fun x => some (Value.int x)) (bI_t (vp_in_nI (by omega) (by decide)))) rfl) rfl ?_
  refine r_if_eqN (tgt := 24) dX13_blame_8 (by decide) (by omega) (fun zz8 => ?_) (fun zz8 => ?_)
  · exact absurd zz8 (by decide)
  · refine r_iload_n dX13_blame_11 rfl 2 rfl ?_
    refine r_iconst (v := (-1)) dX13_blame_12 (by decide) ?_
    refine r_iconst (v := nI 3) dX13_blame_13 (by decide) ?_
    refine r_fnS (M2 := m_X13_in) (As := [.int (y), .int ((-1)), .int (nI (3))]) (rest := [.ref (m)]) (v := some (.int (nI (0)))) dX13_blame_14 cc_X13_blame_68 rfl rfl rfl (Nat.le_of_ble_eq_true rfl) (Fn.eq f_in (congrArg (fun x => some (Value.int x)) (bI_f hy)) rfl) rfl ?_
    refine r_if_eqN (tgt := 24) dX13_blame_17 (by decide) (by omega) (fun zz17 => ?_) (fun zz17 => ?_)
    · refine r_iconst (v := nI 1) dX13_blame_24 (by decide) ?_
      refine o_put (k := 6) hs dX13_blame_25 fw_X13_blame_54 rfl rfl rfl ?_
      refine r_aload_n dX13_blame_28 rfl 0 rfl ?_
      refine o_get (k := 6) hs dX13_blame_29 fr_X13_54 rfl ?_
      refine Wx.top up2_s ?_
      refine r_if_leN (tgt := 37) dX13_blame_32 (by decide) (by omega) (fun zz32 => ?_) (fun zz32 => ?_)
      · exact absurd zz32 (by decide)
      · refine r_iconst (v := nI 0) dX13_blame_35 (by decide) ?_
        exact r_iret (ty := .int) dX13_blame_36 rfl rfl ⟨rfl, rfl⟩
    · exact absurd zz17 (by decide)
set_option maxRecDepth 4000 in
theorem q_blame_a {G : GI} {T : Hp} {m : Nat} {V : RVal} {g : Nat → Nat} {od : Nat → UInt64} (hs : RS T m)  {a : Nat} (ha : a < 7) : Fn m_X13_blame G [.ref (m), .int (nI (a)), .int ((-1))] (rput T m (sg V g) od) (some (.int (nI (g (62 + 4 * a) + (g (62 + 4 * a + 1)) + (g (62 + 4 * a + 2)) + (g (62 + 4 * a + 3)))))) (rput T m (sg (up2 V 0 (6) (nI 0)) (g)) od) := by
  refine Cn.of rfl (by decide) (Nat.le_of_ble_eq_true rfl) (fun hN hM => ?_)
  show Wx _ G _ 0 [(0, .ref (m)), (1, .int (nI (a))), (2, .int ((-1)))] [] _
  refine r_aload_n dX13_blame_0 rfl 0 rfl ?_
  refine r_iload_n dX13_blame_1 rfl 1 rfl ?_
  refine r_iconst (v := nI 0) dX13_blame_2 (by decide) ?_
  refine r_bipush (v := nI 6) dX13_blame_3 (by decide) ?_
  refine r_fnS (M2 := m_X13_in) (As := [.int (nI (a)), .int (nI (0)), .int (nI (6))]) (rest := [.ref (m)]) (v := some (.int (nI (1)))) dX13_blame_5 cc_X13_blame_68 rfl rfl rfl (Nat.le_of_ble_eq_true rfl) (Fn.eq (f_in0 (n := 6) (by decide)) (congrArg (fun x => some (Value.int x)) (bI_t (vp_in_nI (by omega) (by decide)))) rfl) rfl ?_
  refine r_if_eqN (tgt := 24) dX13_blame_8 (by decide) (by omega) (fun zz8 => ?_) (fun zz8 => ?_)
  · exact absurd zz8 (by decide)
  · refine r_iload_n dX13_blame_11 rfl 2 rfl ?_
    refine r_iconst (v := (-1)) dX13_blame_12 (by decide) ?_
    refine r_iconst (v := nI 3) dX13_blame_13 (by decide) ?_
    refine r_fnS (M2 := m_X13_in) (As := [.int ((-1)), .int ((-1)), .int (nI (3))]) (rest := [.ref (m)]) (v := some (.int (nI (1)))) dX13_blame_14 cc_X13_blame_68 rfl rfl rfl (Nat.le_of_ble_eq_true rfl) (Fn.eq f_in (congrArg (fun x => some (Value.int x)) (bI_t (by decide))) rfl) rfl ?_
    refine r_if_eqN (tgt := 24) dX13_blame_17 (by decide) (by omega) (fun zz17 => ?_) (fun zz17 => ?_)
    · exact absurd zz17 (by decide)
    · refine r_iconst (v := nI 0) dX13_blame_20 (by decide) ?_
      refine r_goto (tgt := 25) dX13_blame_21 (by decide) ?_
      refine o_put (k := 6) hs dX13_blame_25 fw_X13_blame_54 rfl rfl rfl ?_
      refine r_aload_n dX13_blame_28 rfl 0 rfl ?_
      refine o_get (k := 6) hs dX13_blame_29 fr_X13_54 rfl ?_
      refine Wx.top up2_s ?_
      refine r_if_leN (tgt := 37) dX13_blame_32 (by decide) (by omega) (fun zz32 => ?_) (fun zz32 => ?_)
      · refine r_bipush (v := nI 62) dX13_blame_37 (by decide) ?_
        refine r_iconst (v := nI 4) dX13_blame_39 (by decide) ?_
        refine r_iload_n dX13_blame_40 rfl 1 rfl ?_
        refine r_imulN dX13_blame_41 ?_
        refine r_iaddN dX13_blame_42 ?_
        refine r_istore_n (lv' := [(3, .int (nI (62 + 4 * a))), (0, .ref (m)), (1, .int (nI (a))), (2, .int ((-1)))]) dX13_blame_43 rfl (by decide) rfl ?_
        refine r_iload_n dX13_blame_44 rfl 3 rfl ?_
        refine r_if_ge (tgt := 84) dX13_blame_45 (by decide) (fun h45 => ?_) (fun h45 => ?_)
        · exact absurd h45 (by decide : ¬ (0 : Int32) ≤ -1)
        · refine r_aload_n dX13_blame_48 rfl 1 rfl ?_
          refine m_ref (k := 0) (j := 1) hs hs.2.1.1 dX13_blame_49 fr_X13_7 rfl ?_
          refine r_iload_n dX13_blame_52 rfl 0 rfl ?_
          refine g_iald (i := 62 + 4 * a) hs dX13_blame_53 (by omega) ?_
          refine r_aload_n dX13_blame_54 rfl 1 rfl ?_
          refine m_ref (k := 0) (j := 1) hs hs.2.1.1 dX13_blame_55 fr_X13_7 rfl ?_
          refine r_iload_n dX13_blame_58 rfl 0 rfl ?_
          refine r_iconst (v := nI 1) dX13_blame_59 (by decide) ?_
          refine r_iaddN dX13_blame_60 ?_
          refine g_iald (i := 62 + 4 * a + 1) hs dX13_blame_61 (by omega) ?_
          refine r_iaddN dX13_blame_62 ?_
          refine r_aload_n dX13_blame_63 rfl 1 rfl ?_
          refine m_ref (k := 0) (j := 1) hs hs.2.1.1 dX13_blame_64 fr_X13_7 rfl ?_
          refine r_iload_n dX13_blame_67 rfl 0 rfl ?_
          refine r_iconst (v := nI 2) dX13_blame_68 (by decide) ?_
          refine r_iaddN dX13_blame_69 ?_
          refine g_iald (i := 62 + 4 * a + 2) hs dX13_blame_70 (by omega) ?_
          refine r_iaddN dX13_blame_71 ?_
          refine r_aload_n dX13_blame_72 rfl 1 rfl ?_
          refine m_ref (k := 0) (j := 1) hs hs.2.1.1 dX13_blame_73 fr_X13_7 rfl ?_
          refine r_iload_n dX13_blame_76 rfl 0 rfl ?_
          refine r_iconst (v := nI 3) dX13_blame_77 (by decide) ?_
          refine r_iaddN dX13_blame_78 ?_
          refine g_iald (i := 62 + 4 * a + 3) hs dX13_blame_79 (by omega) ?_
          refine r_iaddN dX13_blame_80 ?_
          refine r_goto (tgt := 92) dX13_blame_81 (by decide) ?_
          exact r_iret (ty := .int) dX13_blame_92 rfl rfl ⟨rfl, rfl⟩
      · exact absurd zz32 (by decide)
set_option maxRecDepth 4000 in
theorem q_blame_b {G : GI} {T : Hp} {m : Nat} {V : RVal} {g : Nat → Nat} {od : Nat → UInt64} (hs : RS T m)  {a : Nat} (ha : a < 7) {k : Nat} (hk : k < 4) : Fn m_X13_blame G [.ref (m), .int (nI (a)), .int (nI (k))] (rput T m (sg V g) od) (some (.int (nI (g (62 + 4 * a + k))))) (rput T m (sg (up2 V 0 (6) (nI 0)) (g)) od) := by
  refine Cn.of rfl (by decide) (Nat.le_of_ble_eq_true rfl) (fun hN hM => ?_)
  show Wx _ G _ 0 [(0, .ref (m)), (1, .int (nI (a))), (2, .int (nI (k)))] [] _
  refine r_aload_n dX13_blame_0 rfl 0 rfl ?_
  refine r_iload_n dX13_blame_1 rfl 1 rfl ?_
  refine r_iconst (v := nI 0) dX13_blame_2 (by decide) ?_
  refine r_bipush (v := nI 6) dX13_blame_3 (by decide) ?_
  refine r_fnS (M2 := m_X13_in) (As := [.int (nI (a)), .int (nI (0)), .int (nI (6))]) (rest := [.ref (m)]) (v := some (.int (nI (1)))) dX13_blame_5 cc_X13_blame_68 rfl rfl rfl (Nat.le_of_ble_eq_true rfl) (Fn.eq (f_in0 (n := 6) (by decide)) (congrArg (fun x => some (Value.int x)) (bI_t (vp_in_nI (by omega) (by decide)))) rfl) rfl ?_
  refine r_if_eqN (tgt := 24) dX13_blame_8 (by decide) (by omega) (fun zz8 => ?_) (fun zz8 => ?_)
  · exact absurd zz8 (by decide)
  · refine r_iload_n dX13_blame_11 rfl 2 rfl ?_
    refine r_iconst (v := (-1)) dX13_blame_12 (by decide) ?_
    refine r_iconst (v := nI 3) dX13_blame_13 (by decide) ?_
    refine r_fnS (M2 := m_X13_in) (As := [.int (nI (k)), .int ((-1)), .int (nI (3))]) (rest := [.ref (m)]) (v := some (.int (nI (1)))) dX13_blame_14 cc_X13_blame_68 rfl rfl rfl (Nat.le_of_ble_eq_true rfl) (Fn.eq f_in (congrArg (fun x => some (Value.int x)) (bI_t ⟨(Int32.le_trans (by decide : (-1) ≤ nI 0) (nI_le (Nat.zero_le _) (by omega))), nI_le (by omega) (by omega)⟩)) rfl) rfl ?_
    refine r_if_eqN (tgt := 24) dX13_blame_17 (by decide) (by omega) (fun zz17 => ?_) (fun zz17 => ?_)
    · exact absurd zz17 (by decide)
    · refine r_iconst (v := nI 0) dX13_blame_20 (by decide) ?_
      refine r_goto (tgt := 25) dX13_blame_21 (by decide) ?_
      refine o_put (k := 6) hs dX13_blame_25 fw_X13_blame_54 rfl rfl rfl ?_
      refine r_aload_n dX13_blame_28 rfl 0 rfl ?_
      refine o_get (k := 6) hs dX13_blame_29 fr_X13_54 rfl ?_
      refine Wx.top up2_s ?_
      refine r_if_leN (tgt := 37) dX13_blame_32 (by decide) (by omega) (fun zz32 => ?_) (fun zz32 => ?_)
      · refine r_bipush (v := nI 62) dX13_blame_37 (by decide) ?_
        refine r_iconst (v := nI 4) dX13_blame_39 (by decide) ?_
        refine r_iload_n dX13_blame_40 rfl 1 rfl ?_
        refine r_imulN dX13_blame_41 ?_
        refine r_iaddN dX13_blame_42 ?_
        refine r_istore_n (lv' := [(3, .int (nI (62 + 4 * a))), (0, .ref (m)), (1, .int (nI (a))), (2, .int (nI (k)))]) dX13_blame_43 rfl (by decide) rfl ?_
        refine r_iload_n dX13_blame_44 rfl 3 rfl ?_
        refine r_if_geN (tgt := 84) dX13_blame_45 (by decide) (by omega) ?_
        refine r_aload_n dX13_blame_84 rfl 1 rfl ?_
        refine m_ref (k := 0) (j := 1) hs hs.2.1.1 dX13_blame_85 fr_X13_7 rfl ?_
        refine r_iload_n dX13_blame_88 rfl 0 rfl ?_
        refine r_iload_n dX13_blame_89 rfl 3 rfl ?_
        refine r_iaddN dX13_blame_90 ?_
        refine g_iald (i := 62 + 4 * a + k) hs dX13_blame_91 (by omega) ?_
        exact r_iret (ty := .int) dX13_blame_92 rfl rfl ⟨rfl, rfl⟩
      · exact absurd zz32 (by decide)
set_option maxRecDepth 4000 in
theorem c_undo_1 {G : GI} {T : Hp} {m : Nat} {V : RVal} {g : Nat → Nat} {od : Nat → UInt64} (hs : RS T m)  (hn : V 0 5 = nI 0) : Fn m_X13_undo G [.ref (m)] (rput T m (sg V g) od) (some (.int (nI (0)))) (rput T m (sg (up2 V 0 (6) (nI 1)) (g)) od) := by
  refine Cn.of rfl (by decide) (Nat.le_of_ble_eq_true rfl) (fun hN hM => ?_)
  show Wx _ G _ 0 [(0, .ref (m))] [] _
  refine r_aload_n dX13_undo_0 rfl 0 rfl ?_
  refine r_aload_n dX13_undo_1 rfl 0 rfl ?_
  refine o_get (k := 5) hs dX13_undo_2 fr_X13_57 rfl ?_
  refine Wx.top hn ?_
  refine r_if_neN (tgt := 12) dX13_undo_5 (by decide) (by omega) (fun zz5 => ?_) (fun zz5 => ?_)
  · exact absurd zz5 (by decide)
  · refine r_iconst (v := nI 1) dX13_undo_8 (by decide) ?_
    refine r_goto (tgt := 13) dX13_undo_9 (by decide) ?_
    refine o_put (k := 6) hs dX13_undo_13 fw_X13_undo_54 rfl rfl rfl ?_
    refine r_aload_n dX13_undo_16 rfl 0 rfl ?_
    refine o_get (k := 6) hs dX13_undo_17 fr_X13_54 rfl ?_
    refine Wx.top up2_s ?_
    refine r_if_leN (tgt := 25) dX13_undo_20 (by decide) (by omega) (fun zz20 => ?_) (fun zz20 => ?_)
    · exact absurd zz20 (by decide)
    · refine r_iconst (v := nI 0) dX13_undo_23 (by decide) ?_
      exact r_iret (ty := .int) dX13_undo_24 rfl rfl ⟨rfl, rfl⟩
set_option maxRecDepth 4000 in
theorem c_undo_0 {G : GI} {T : Hp} {m : Nat} {V : RVal} {g : Nat → Nat} {od : Nat → UInt64} (hs : RS T m)  {n : Nat} (h0 : 0 < n) (h8 : n ≤ 8) (hn : V 0 5 = nI n) {f : Nat → Nat} (h24f : f 0 ≤ 24) (hf : ∀ i, i < 402 + 400 * f 0 → V 4 (10002 * (n - 1) + i) = nI (f i)) : Fn m_X13_undo G [.ref (m)] (rput T m (sg V g) od) (some (.int (nI (n - 1)))) (rput T m (sg (up2 (up2 V 0 (6) (nI 0)) 0 (5) (nI (n - 1))) ((cpG g (402 + 400 * f 0) f))) od) := by
  refine Cn.of rfl (by decide) (Nat.le_of_ble_eq_true rfl) (fun hN hM => ?_)
  show Wx _ G _ 0 [(0, .ref (m))] [] _
  refine r_aload_n dX13_undo_0 rfl 0 rfl ?_
  refine r_aload_n dX13_undo_1 rfl 0 rfl ?_
  refine o_get (k := 5) hs dX13_undo_2 fr_X13_57 rfl ?_
  refine Wx.top hn ?_
  refine r_if_neN (tgt := 12) dX13_undo_5 (by decide) (by omega) (fun h5 => ?_) (fun h5 => ?_)
  · refine r_iconst (v := nI 0) dX13_undo_12 (by decide) ?_
    refine o_put (k := 6) hs dX13_undo_13 fw_X13_undo_54 rfl rfl rfl ?_
    refine r_aload_n dX13_undo_16 rfl 0 rfl ?_
    refine o_get (k := 6) hs dX13_undo_17 fr_X13_54 rfl ?_
    refine Wx.top up2_s ?_
    refine r_if_leN (tgt := 25) dX13_undo_20 (by decide) (by omega) (fun zz20 => ?_) (fun zz20 => ?_)
    · refine r_aload_n dX13_undo_25 rfl 0 rfl ?_
      refine r_dup dX13_undo_26 rfl ?_
      refine o_get (k := 5) hs dX13_undo_27 fr_X13_57 rfl ?_
      refine Wx.top (up2_n (by omega)) ?_
      refine Wx.top hn ?_
      refine r_iconst (v := nI 1) dX13_undo_30 (by decide) ?_
      refine r_isubN dX13_undo_31 (by omega) ?_
      refine o_put (k := 5) hs dX13_undo_32 fw_X13_undo_57 rfl rfl rfl ?_
      have hf9 : ∀ i, i < 402 + 400 * f 0 → (up2 (up2 V 0 (6) (nI 0)) 0 (5) (nI (n - 1))) 4 (10002 * (n - 1) + i) = nI (f i) := fun i hi => by
        repeat rw [up2_n (by omega)]
        exact hf i hi
      refine r_aload_n dX13_undo_35 rfl 0 rfl ?_
      refine m_ref (k := 4) (j := 4) hs hs.2.1.2.2.2.1 dX13_undo_36 fr_X13_20 rfl ?_
      refine r_sipush (v := nI 10002) dX13_undo_39 (by decide) ?_
      refine r_aload_n dX13_undo_42 rfl 0 rfl ?_
      refine o_get (k := 5) hs dX13_undo_43 fr_X13_57 rfl ?_
      refine Wx.top up2_s ?_
      refine r_imulN dX13_undo_46 ?_
      refine r_aload_n dX13_undo_47 rfl 0 rfl ?_
      refine m_ref (k := 0) (j := 1) hs hs.2.1.1 dX13_undo_48 fr_X13_7 rfl ?_
      refine r_iconst (v := nI 0) dX13_undo_51 (by decide) ?_
      refine r_fnS (M2 := m_X13_copies) (As := [.ref (m + 4), .int (nI (10002 * (n - 1))), .ref (m + 1), .int (nI (0))]) (rest := []) (v := none) dX13_undo_52 cc_X13_undo_60 rfl rfl rfl (Nat.le_of_ble_eq_true rfl) (g_back (j := 4) (p := 10002 * (n - 1)) (f := f) hs rw4 (by decide) (by decide) h24f (by omega) hf9) rfl ?_
      refine r_aload_n dX13_undo_55 rfl 0 rfl ?_
      refine o_get (k := 5) hs dX13_undo_56 fr_X13_57 rfl ?_
      refine Wx.top up2_s ?_
      exact r_iret (ty := .int) dX13_undo_59 rfl rfl ⟨rfl, rfl⟩
    · exact absurd zz20 (by decide)
  · exact absurd h5 (by omega)
set_option maxRecDepth 4000 in
theorem c_save {G : GI} {T : Hp} {m : Nat} {V : RVal} {g : Nat → Nat} {od : Nat → UInt64} (hs : RS T m)  (h24 : g 0 ≤ 24) : Fn m_X13_save G [.ref (m)] (rput T m (sg V g) od) (some (.int (nI (g (0))))) (rput T m (sg (cpR (up2 (up2 V 0 (6) (nI 0)) 0 (3) (nI 1)) 2 0 (402 + 400 * g 0) (fun i => sg (up2 (up2 V 0 (6) (nI 0)) 0 (3) (nI 1)) g 1 (0 + i))) (g)) od) := by
  refine Cn.of rfl (by decide) (Nat.le_of_ble_eq_true rfl) (fun hN hM => ?_)
  show Wx _ G _ 0 [(0, .ref (m))] [] _
  refine r_aload_n dX13_save_0 rfl 0 rfl ?_
  refine r_iconst (v := nI 0) dX13_save_1 (by decide) ?_
  refine o_put (k := 6) hs dX13_save_2 fw_X13_save_54 rfl rfl rfl ?_
  refine r_aload_n dX13_save_5 rfl 0 rfl ?_
  refine r_iconst (v := nI 1) dX13_save_6 (by decide) ?_
  refine o_put (k := 3) hs dX13_save_7 fw_X13_save_64 rfl (by decide) (by decide) ?_
  refine r_aload_n dX13_save_10 rfl 0 rfl ?_
  refine m_ref (k := 0) (j := 1) hs hs.2.1.1 dX13_save_11 fr_X13_7 rfl ?_
  refine r_iconst (v := nI 0) dX13_save_14 (by decide) ?_
  refine r_aload_n dX13_save_15 rfl 0 rfl ?_
  refine m_ref (k := 1) (j := 2) hs hs.2.1.2.1 dX13_save_16 fr_X13_13 rfl ?_
  refine r_iconst (v := nI 0) dX13_save_19 (by decide) ?_
  refine r_fnS (M2 := m_X13_copies) (As := [.ref (m + 1), .int (nI (0)), .ref (m + 2), .int (nI (0))]) (rest := []) (v := none) dX13_save_20 cc_X13_save_60 rfl rfl rfl (Nat.le_of_ble_eq_true rfl) (g_kept hs h24) rfl ?_
  refine r_aload_n dX13_save_23 rfl 0 rfl ?_
  refine m_ref (k := 0) (j := 1) hs hs.2.1.1 dX13_save_24 fr_X13_7 rfl ?_
  refine r_iconst (v := nI 0) dX13_save_27 (by decide) ?_
  refine g_iald (i := 0) hs dX13_save_28 (by omega) ?_
  exact r_iret (ty := .int) dX13_save_29 rfl rfl ⟨rfl, rfl⟩
set_option maxRecDepth 4000 in
theorem c_restore_1 {G : GI} {T : Hp} {m : Nat} {V : RVal} {g : Nat → Nat} {od : Nat → UInt64} (hs : RS T m)  (hn : V 0 3 = nI 0) : Fn m_X13_restore G [.ref (m)] (rput T m (sg V g) od) (some (.int (nI (0)))) (rput T m (sg (up2 V 0 (6) (nI 1)) (g)) od) := by
  refine Cn.of rfl (by decide) (Nat.le_of_ble_eq_true rfl) (fun hN hM => ?_)
  show Wx _ G _ 0 [(0, .ref (m))] [] _
  refine r_aload_n dX13_restore_0 rfl 0 rfl ?_
  refine r_aload_n dX13_restore_1 rfl 0 rfl ?_
  refine o_get (k := 3) hs dX13_restore_2 fr_X13_64 rfl ?_
  refine Wx.top hn ?_
  refine r_if_eqN (tgt := 12) dX13_restore_5 (by decide) (by omega) (fun zz5 => ?_) (fun zz5 => ?_)
  · refine r_iconst (v := nI 1) dX13_restore_12 (by decide) ?_
    refine o_put (k := 6) hs dX13_restore_13 fw_X13_restore_54 rfl rfl rfl ?_
    refine r_aload_n dX13_restore_16 rfl 0 rfl ?_
    refine o_get (k := 3) hs dX13_restore_17 fr_X13_64 rfl ?_
    refine Wx.top (up2_n (by omega)) ?_
    refine Wx.top hn ?_
    refine r_if_neN (tgt := 25) dX13_restore_20 (by decide) (by omega) (fun zz20 => ?_) (fun zz20 => ?_)
    · exact absurd zz20 (by decide)
    · refine r_iconst (v := nI 0) dX13_restore_23 (by decide) ?_
      exact r_iret (ty := .int) dX13_restore_24 rfl rfl ⟨rfl, rfl⟩
  · exact absurd zz5 (by decide)
set_option maxRecDepth 4000 in
theorem c_restore_0 {G : GI} {T : Hp} {m : Nat} {V : RVal} {g : Nat → Nat} {od : Nat → UInt64} (hs : RS T m)  (hn : V 0 3 = nI 1) {f : Nat → Nat} (h24f : f 0 ≤ 24) (hf : ∀ i, i < 402 + 400 * f 0 → V 2 i = nI (f i)) : Fn m_X13_restore G [.ref (m)] (rput T m (sg V g) od) (some (.int (nI ((cpG g (402 + 400 * f 0) f) (0))))) (rput T m (sg (up2 (up2 V 0 (6) (nI 0)) 0 (5) (nI 0)) ((cpG g (402 + 400 * f 0) f))) od) := by
  refine Cn.of rfl (by decide) (Nat.le_of_ble_eq_true rfl) (fun hN hM => ?_)
  show Wx _ G _ 0 [(0, .ref (m))] [] _
  refine r_aload_n dX13_restore_0 rfl 0 rfl ?_
  refine r_aload_n dX13_restore_1 rfl 0 rfl ?_
  refine o_get (k := 3) hs dX13_restore_2 fr_X13_64 rfl ?_
  refine Wx.top hn ?_
  refine r_if_eqN (tgt := 12) dX13_restore_5 (by decide) (by omega) (fun zz5 => ?_) (fun zz5 => ?_)
  · exact absurd zz5 (by decide)
  · refine r_iconst (v := nI 0) dX13_restore_8 (by decide) ?_
    refine r_goto (tgt := 13) dX13_restore_9 (by decide) ?_
    refine o_put (k := 6) hs dX13_restore_13 fw_X13_restore_54 rfl rfl rfl ?_
    refine r_aload_n dX13_restore_16 rfl 0 rfl ?_
    refine o_get (k := 3) hs dX13_restore_17 fr_X13_64 rfl ?_
    refine Wx.top (up2_n (by omega)) ?_
    refine Wx.top hn ?_
    refine r_if_neN (tgt := 25) dX13_restore_20 (by decide) (by omega) (fun zz20 => ?_) (fun zz20 => ?_)
    · have hf9 : ∀ i, i < 402 + 400 * f 0 → (up2 V 0 (6) (nI 0)) 2 (0 + i) = nI (f i) := fun i hi => by
        repeat rw [up2_n (by omega)]
        rw [Nat.zero_add]
        exact hf i hi
      refine r_aload_n dX13_restore_25 rfl 0 rfl ?_
      refine m_ref (k := 1) (j := 2) hs hs.2.1.2.1 dX13_restore_26 fr_X13_13 rfl ?_
      refine r_iconst (v := nI 0) dX13_restore_29 (by decide) ?_
      refine r_aload_n dX13_restore_30 rfl 0 rfl ?_
      refine m_ref (k := 0) (j := 1) hs hs.2.1.1 dX13_restore_31 fr_X13_7 rfl ?_
      refine r_iconst (v := nI 0) dX13_restore_34 (by decide) ?_
      refine r_fnS (M2 := m_X13_copies) (As := [.ref (m + 2), .int (nI (0)), .ref (m + 1), .int (nI (0))]) (rest := []) (v := none) dX13_restore_35 cc_X13_restore_60 rfl rfl rfl (Nat.le_of_ble_eq_true rfl) (g_back (j := 2) (p := 0) (f := f) hs rw2 (by decide) (by decide) h24f (by omega) hf9) rfl ?_
      refine r_aload_n dX13_restore_38 rfl 0 rfl ?_
      refine r_iconst (v := nI 0) dX13_restore_39 (by decide) ?_
      refine o_put (k := 5) hs dX13_restore_40 fw_X13_restore_57 rfl rfl rfl ?_
      refine r_aload_n dX13_restore_43 rfl 0 rfl ?_
      refine m_ref (k := 0) (j := 1) hs hs.2.1.1 dX13_restore_44 fr_X13_7 rfl ?_
      refine r_iconst (v := nI 0) dX13_restore_47 (by decide) ?_
      refine g_iald (i := 0) hs dX13_restore_48 (by omega) ?_
      exact r_iret (ty := .int) dX13_restore_49 rfl rfl ⟨rfl, rfl⟩
    · exact absurd zz20 (by decide)
def sumN (f : Nat → Nat) : Nat → Nat
  | 0 => 0
  | n + 1 => sumN f n + f n
set_option maxRecDepth 4000 in
theorem g_allUnits_n {G : GI} {T : Hp} {m : Nat} {V : RVal} {g : Nat → Nat} {od : Nat → UInt64} (hs : RS T m)  (h24 : g 0 ≤ 24) (hb : WB g) (hzz : ∀ l, l < g 0 → g (90 + 13 * l + 1) ≤ 200) : Fn m_X13_allUnits G [.ref (m), .int ((-1))] (rput T m (sg V g) od) (some (.int (nI (sumN (fun z => g (90 + 13 * z + 1)) (g 0))))) (rput T m (sg V g) od) := by
  refine Cn.of rfl (by decide) (Nat.le_of_ble_eq_true rfl) (fun hN hM => ?_)
  show Wx _ G _ 0 [(0, .ref (m)), (1, .int ((-1)))] [] _
  refine r_iconst (v := nI 0) dX13_allUnits_0 (by decide) ?_
  refine r_istore_n (lv' := [(2, .int (nI (0))), (0, .ref (m)), (1, .int ((-1)))]) dX13_allUnits_1 rfl (by decide) rfl ?_
  refine r_iconst (v := nI 0) dX13_allUnits_2 (by decide) ?_
  refine r_istore_n (lv' := [(3, .int (nI (0))), (2, .int (nI (0))), (0, .ref (m)), (1, .int ((-1)))]) dX13_allUnits_3 rfl (by decide) rfl ?_
  refine Wx.sub [2, 3, 1, 0] rfl ?_
  refine Wx.loop (fun u => (rput T m (sg V g) od)) (fun u => [(0, .ref (m)), (1, .int ((-1))), (2, .int (nI (sumN (fun z => g (90 + 13 * z + 1)) u))), (3, .int (nI (u)))]) (g 0) (0) (Nat.zero_le _) (fun u hge hle next => ?_)
  show Wx _ G ((rput T m (sg V g) od)) 4 [(0, .ref (m)), (1, .int ((-1))), (2, .int (nI (sumN (fun z => g (90 + 13 * z + 1)) u))), (3, .int (nI (u)))] [] _
  refine r_iload_n dX13_allUnits_4 rfl 3 rfl ?_
  refine r_aload_n dX13_allUnits_5 rfl 0 rfl ?_
  refine m_ref (k := 0) (j := 1) hs hs.2.1.1 dX13_allUnits_6 fr_X13_7 rfl ?_
  refine r_iconst (v := nI 0) dX13_allUnits_9 (by decide) ?_
  refine g_iald (i := 0) hs dX13_allUnits_10 (by (first | omega | (have := hzz u (by omega); omega))) ?_
  refine r_icmp_geN (tgt := 41) dX13_allUnits_11 (by decide) (by (first | omega | (have := hzz u (by omega); omega))) (by (first | omega | (have := hzz u (by omega); omega))) (fun h11 => ?_) (fun h11 => ?_)
  · refine r_iload_n dX13_allUnits_41 rfl 2 rfl ?_
    obtain rfl : u = g 0 := by omega
    exact r_iret (ty := .int) dX13_allUnits_42 rfl rfl ⟨rfl, rfl⟩
  · refine r_iload_n dX13_allUnits_14 rfl 2 rfl ?_
    refine r_iload_n dX13_allUnits_15 rfl 1 rfl ?_
    refine r_if_ge (tgt := 27) dX13_allUnits_16 (by decide) (fun h16 => ?_) (fun h16 => ?_)
    · exact absurd h16 (by decide : ¬ (0 : Int32) ≤ -1)
    · refine r_aload_n dX13_allUnits_19 rfl 0 rfl ?_
      refine r_iload_n dX13_allUnits_20 rfl 3 rfl ?_
      refine r_fnV (M2 := m_X13_size) (As := [.int (nI (u))]) (rest := [.int (nI (sumN (fun z => g (90 + 13 * z + 1)) u))]) (v := some (.int (nI (g (90 + 13 * u + 1))))) dX13_allUnits_21 cc_X13_allUnits_80 rfl rfl rfl (Nat.le_of_ble_eq_true rfl) hs.1 rfl rfl (by decide) (g_size hs (by (first | omega | (have := hzz u (by omega); omega)))) rfl ?_
      refine r_goto (tgt := 33) dX13_allUnits_24 (by decide) ?_
      refine r_iaddN dX13_allUnits_33 ?_
      refine r_istore_n (lv' := [(2, .int (nI (sumN (fun z => g (90 + 13 * z + 1)) u + (g (90 + 13 * u + 1))))), (0, .ref (m)), (1, .int ((-1))), (3, .int (nI (u)))]) dX13_allUnits_34 rfl (by decide) rfl ?_
      refine r_iincN (k := 1) (lv' := [(3, .int (nI (u + 1))), (2, .int (nI (sumN (fun z => g (90 + 13 * z + 1)) u + (g (90 + 13 * u + 1))))), (0, .ref (m)), (1, .int ((-1)))]) dX13_allUnits_35 (by decide) 3 rfl (by decide) rfl ?_
      refine r_goto (tgt := 4) dX13_allUnits_38 (by decide) ?_
      refine Wx.sub [2, 3, 1, 0] rfl ?_
      exact next (by omega)
set_option maxRecDepth 4000 in
theorem g_allUnits_k {G : GI} {T : Hp} {m : Nat} {V : RVal} {g : Nat → Nat} {od : Nat → UInt64} (hs : RS T m)  (h24 : g 0 ≤ 24) (hb : WB g) (hzz : ∀ l, l < g 0 → g (90 + 13 * l + 1) ≤ 200) {k : Nat} (hk : k < 5) : Fn m_X13_allUnits G [.ref (m), .int (nI (k))] (rput T m (sg V g) od) (some (.int (nI (sumN (fun z => inS g z k) (g 0))))) (rput T m (sg V g) od) := by
  refine Cn.of rfl (by decide) (Nat.le_of_ble_eq_true rfl) (fun hN hM => ?_)
  show Wx _ G _ 0 [(0, .ref (m)), (1, .int (nI (k)))] [] _
  refine r_iconst (v := nI 0) dX13_allUnits_0 (by decide) ?_
  refine r_istore_n (lv' := [(2, .int (nI (0))), (0, .ref (m)), (1, .int (nI (k)))]) dX13_allUnits_1 rfl (by decide) rfl ?_
  refine r_iconst (v := nI 0) dX13_allUnits_2 (by decide) ?_
  refine r_istore_n (lv' := [(3, .int (nI (0))), (2, .int (nI (0))), (0, .ref (m)), (1, .int (nI (k)))]) dX13_allUnits_3 rfl (by decide) rfl ?_
  refine Wx.sub [2, 3, 1, 0] rfl ?_
  refine Wx.loop (fun u => (rput T m (sg V g) od)) (fun u => [(0, .ref (m)), (1, .int (nI (k))), (2, .int (nI (sumN (fun z => inS g z k) u))), (3, .int (nI (u)))]) (g 0) (0) (Nat.zero_le _) (fun u hge hle next => ?_)
  show Wx _ G ((rput T m (sg V g) od)) 4 [(0, .ref (m)), (1, .int (nI (k))), (2, .int (nI (sumN (fun z => inS g z k) u))), (3, .int (nI (u)))] [] _
  refine r_iload_n dX13_allUnits_4 rfl 3 rfl ?_
  refine r_aload_n dX13_allUnits_5 rfl 0 rfl ?_
  refine m_ref (k := 0) (j := 1) hs hs.2.1.1 dX13_allUnits_6 fr_X13_7 rfl ?_
  refine r_iconst (v := nI 0) dX13_allUnits_9 (by decide) ?_
  refine g_iald (i := 0) hs dX13_allUnits_10 (by (first | omega | (have := hzz u (by omega); omega))) ?_
  refine r_icmp_geN (tgt := 41) dX13_allUnits_11 (by decide) (by (first | omega | (have := hzz u (by omega); omega))) (by (first | omega | (have := hzz u (by omega); omega))) (fun h11 => ?_) (fun h11 => ?_)
  · refine r_iload_n dX13_allUnits_41 rfl 2 rfl ?_
    obtain rfl : u = g 0 := by omega
    exact r_iret (ty := .int) dX13_allUnits_42 rfl rfl ⟨rfl, rfl⟩
  · refine r_iload_n dX13_allUnits_14 rfl 2 rfl ?_
    refine r_iload_n dX13_allUnits_15 rfl 1 rfl ?_
    refine r_if_geN (tgt := 27) dX13_allUnits_16 (by decide) (by (first | omega | (have := hzz u (by omega); omega))) ?_
    refine r_aload_n dX13_allUnits_27 rfl 0 rfl ?_
    refine r_iload_n dX13_allUnits_28 rfl 3 rfl ?_
    refine r_iload_n dX13_allUnits_29 rfl 1 rfl ?_
    refine r_fnV (M2 := m_X13_inState) (As := [.int (nI (u)), .int (nI (k))]) (rest := [.int (nI (sumN (fun z => inS g z k) u))]) (v := some (.int (nI (inS g u k)))) dX13_allUnits_30 cc_X13_allUnits_175 rfl rfl rfl (Nat.le_of_ble_eq_true rfl) hs.1 rfl rfl (by decide) (g_inState hs hb (by (first | omega | (have := hzz u (by omega); omega))) (by (first | omega | (have := hzz u (by omega); omega))) (by (first | omega | (have := hzz u (by omega); omega)))) rfl ?_
    refine r_iaddN dX13_allUnits_33 ?_
    refine r_istore_n (lv' := [(2, .int (nI (sumN (fun z => inS g z k) u + (inS g u k)))), (0, .ref (m)), (1, .int (nI (k))), (3, .int (nI (u)))]) dX13_allUnits_34 rfl (by decide) rfl ?_
    refine r_iincN (k := 1) (lv' := [(3, .int (nI (u + 1))), (2, .int (nI (sumN (fun z => inS g z k) u + (inS g u k)))), (0, .ref (m)), (1, .int (nI (k)))]) dX13_allUnits_35 (by decide) 3 rfl (by decide) rfl ?_
    refine r_goto (tgt := 4) dX13_allUnits_38 (by decide) ?_
    refine Wx.sub [2, 3, 1, 0] rfl ?_
    exact next (by omega)
set_option maxRecDepth 4000 in
theorem q_count_0 {G : GI} {T : Hp} {m : Nat} {V : RVal} {g : Nat → Nat} {od : Nat → UInt64} (hs : RS T m)  : Fn m_X13_count G [.ref (m), .int (nI (0))] (rput T m (sg V g) od) (some (.int (nI (g (0))))) (rput T m (sg (up2 V 0 (6) (nI 0)) (g)) od) := by
  refine Cn.of rfl (by decide) (Nat.le_of_ble_eq_true rfl) (fun hN hM => ?_)
  show Wx _ G _ 0 [(0, .ref (m)), (1, .int (nI (0)))] [] _
  refine r_aload_n dX13_count_0 rfl 0 rfl ?_
  refine r_iconst (v := nI 0) dX13_count_1 (by decide) ?_
  refine o_put (k := 6) hs dX13_count_2 fw_X13_count_54 rfl rfl rfl ?_
  refine r_iload_n dX13_count_5 rfl 1 rfl ?_
  obtain h6 : 0 = 0 := by omega
  · refine Wx.topN h6 ?_
    refine r_tableIn (off := 42) (tgt := 48) dX13_count_6 (by decide) (by decide) rfl (by decide) ?_
    refine r_aload_n dX13_count_48 rfl 0 rfl ?_
    refine m_ref (k := 0) (j := 1) hs hs.2.1.1 dX13_count_49 fr_X13_7 rfl ?_
    refine r_iconst (v := nI 0) dX13_count_52 (by decide) ?_
    refine g_iald (i := 0) hs dX13_count_53 (by omega) ?_
    exact r_iret (ty := .int) dX13_count_54 rfl rfl ⟨rfl, rfl⟩
set_option maxRecDepth 4000 in
theorem q_count_1 {G : GI} {T : Hp} {m : Nat} {V : RVal} {g : Nat → Nat} {od : Nat → UInt64} (hs : RS T m)  (h24 : g 0 ≤ 24) (hb : WB g) (hzz : ∀ l, l < g 0 → g (90 + 13 * l + 1) ≤ 200) : Fn m_X13_count G [.ref (m), .int (nI (1))] (rput T m (sg V g) od) (some (.int (nI (sumN (fun z => g (90 + 13 * z + 1)) (g 0))))) (rput T m (sg (up2 V 0 (6) (nI 0)) (g)) od) := by
  refine Cn.of rfl (by decide) (Nat.le_of_ble_eq_true rfl) (fun hN hM => ?_)
  show Wx _ G _ 0 [(0, .ref (m)), (1, .int (nI (1)))] [] _
  refine r_aload_n dX13_count_0 rfl 0 rfl ?_
  refine r_iconst (v := nI 0) dX13_count_1 (by decide) ?_
  refine o_put (k := 6) hs dX13_count_2 fw_X13_count_54 rfl rfl rfl ?_
  refine r_iload_n dX13_count_5 rfl 1 rfl ?_
  obtain h6 : 1 = 1 := by omega
  · refine Wx.topN h6 ?_
    refine r_tableIn (off := 49) (tgt := 55) dX13_count_6 (by decide) (by decide) rfl (by decide) ?_
    refine r_aload_n dX13_count_55 rfl 0 rfl ?_
    refine r_iconst (v := (-1)) dX13_count_56 (by decide) ?_
    refine r_fnV (M2 := m_X13_allUnits) (As := [.int ((-1))]) (rest := []) (v := some (.int (nI (sumN (fun z => g (90 + 13 * z + 1)) (g 0))))) dX13_count_57 cc_X13_count_428 rfl rfl rfl (Nat.le_of_ble_eq_true rfl) hs.1 rfl rfl (by decide) (g_allUnits_n hs h24 hb hzz) rfl ?_
    exact r_iret (ty := .int) dX13_count_60 rfl rfl ⟨rfl, rfl⟩
set_option maxRecDepth 4000 in
theorem q_count_2 {G : GI} {T : Hp} {m : Nat} {V : RVal} {g : Nat → Nat} {od : Nat → UInt64} (hs : RS T m)  : Fn m_X13_count G [.ref (m), .int (nI (2))] (rput T m (sg V g) od) (some (.int (nI (g (1))))) (rput T m (sg (up2 V 0 (6) (nI 0)) (g)) od) := by
  refine Cn.of rfl (by decide) (Nat.le_of_ble_eq_true rfl) (fun hN hM => ?_)
  show Wx _ G _ 0 [(0, .ref (m)), (1, .int (nI (2)))] [] _
  refine r_aload_n dX13_count_0 rfl 0 rfl ?_
  refine r_iconst (v := nI 0) dX13_count_1 (by decide) ?_
  refine o_put (k := 6) hs dX13_count_2 fw_X13_count_54 rfl rfl rfl ?_
  refine r_iload_n dX13_count_5 rfl 1 rfl ?_
  obtain h6 : 2 = 2 := by omega
  · refine Wx.topN h6 ?_
    refine r_tableIn (off := 55) (tgt := 61) dX13_count_6 (by decide) (by decide) rfl (by decide) ?_
    refine r_aload_n dX13_count_61 rfl 0 rfl ?_
    refine m_ref (k := 0) (j := 1) hs hs.2.1.1 dX13_count_62 fr_X13_7 rfl ?_
    refine r_iconst (v := nI 1) dX13_count_65 (by decide) ?_
    refine g_iald (i := 1) hs dX13_count_66 (by omega) ?_
    exact r_iret (ty := .int) dX13_count_67 rfl rfl ⟨rfl, rfl⟩
set_option maxRecDepth 4000 in
theorem q_count_3 {G : GI} {T : Hp} {m : Nat} {V : RVal} {g : Nat → Nat} {od : Nat → UInt64} (hs : RS T m)  : Fn m_X13_count G [.ref (m), .int (nI (3))] (rput T m (sg V g) od) (some (.int (nI (g (2))))) (rput T m (sg (up2 V 0 (6) (nI 0)) (g)) od) := by
  refine Cn.of rfl (by decide) (Nat.le_of_ble_eq_true rfl) (fun hN hM => ?_)
  show Wx _ G _ 0 [(0, .ref (m)), (1, .int (nI (3)))] [] _
  refine r_aload_n dX13_count_0 rfl 0 rfl ?_
  refine r_iconst (v := nI 0) dX13_count_1 (by decide) ?_
  refine o_put (k := 6) hs dX13_count_2 fw_X13_count_54 rfl rfl rfl ?_
  refine r_iload_n dX13_count_5 rfl 1 rfl ?_
  obtain h6 : 3 = 3 := by omega
  · refine Wx.topN h6 ?_
    refine r_tableIn (off := 62) (tgt := 68) dX13_count_6 (by decide) (by decide) rfl (by decide) ?_
    refine r_aload_n dX13_count_68 rfl 0 rfl ?_
    refine m_ref (k := 0) (j := 1) hs hs.2.1.1 dX13_count_69 fr_X13_7 rfl ?_
    refine r_iconst (v := nI 2) dX13_count_72 (by decide) ?_
    refine g_iald (i := 2) hs dX13_count_73 (by omega) ?_
    exact r_iret (ty := .int) dX13_count_74 rfl rfl ⟨rfl, rfl⟩
set_option maxRecDepth 4000 in
theorem q_count_4 {G : GI} {T : Hp} {m : Nat} {V : RVal} {g : Nat → Nat} {od : Nat → UInt64} (hs : RS T m)  : Fn m_X13_count G [.ref (m), .int (nI (4))] (rput T m (sg V g) od) (some (.int (V 0 (5)))) (rput T m (sg (up2 V 0 (6) (nI 0)) (g)) od) := by
  refine Cn.of rfl (by decide) (Nat.le_of_ble_eq_true rfl) (fun hN hM => ?_)
  show Wx _ G _ 0 [(0, .ref (m)), (1, .int (nI (4)))] [] _
  refine r_aload_n dX13_count_0 rfl 0 rfl ?_
  refine r_iconst (v := nI 0) dX13_count_1 (by decide) ?_
  refine o_put (k := 6) hs dX13_count_2 fw_X13_count_54 rfl rfl rfl ?_
  refine r_iload_n dX13_count_5 rfl 1 rfl ?_
  obtain h6 : 4 = 4 := by omega
  · refine Wx.topN h6 ?_
    refine r_tableIn (off := 69) (tgt := 75) dX13_count_6 (by decide) (by decide) rfl (by decide) ?_
    refine r_aload_n dX13_count_75 rfl 0 rfl ?_
    refine o_get (k := 5) hs dX13_count_76 fr_X13_57 rfl ?_
    refine Wx.top (up2_n (by omega)) ?_
    exact r_iret (ty := .int) dX13_count_79 rfl rfl ⟨rfl, rfl⟩
set_option maxRecDepth 4000 in
theorem q_count_5 {G : GI} {T : Hp} {m : Nat} {V : RVal} {g : Nat → Nat} {od : Nat → UInt64} (hs : RS T m)  : Fn m_X13_count G [.ref (m), .int (nI (5))] (rput T m (sg V g) od) (some (.int (V 0 (14)))) (rput T m (sg (up2 V 0 (6) (nI 0)) (g)) od) := by
  refine Cn.of rfl (by decide) (Nat.le_of_ble_eq_true rfl) (fun hN hM => ?_)
  show Wx _ G _ 0 [(0, .ref (m)), (1, .int (nI (5)))] [] _
  refine r_aload_n dX13_count_0 rfl 0 rfl ?_
  refine r_iconst (v := nI 0) dX13_count_1 (by decide) ?_
  refine o_put (k := 6) hs dX13_count_2 fw_X13_count_54 rfl rfl rfl ?_
  refine r_iload_n dX13_count_5 rfl 1 rfl ?_
  obtain h6 : 5 = 5 := by omega
  · refine Wx.topN h6 ?_
    refine r_tableIn (off := 74) (tgt := 80) dX13_count_6 (by decide) (by decide) rfl (by decide) ?_
    refine r_aload_n dX13_count_80 rfl 0 rfl ?_
    refine o_get (k := 14) hs dX13_count_81 fr_X13_307 rfl ?_
    refine Wx.top (up2_n (by omega)) ?_
    exact r_iret (ty := .int) dX13_count_84 rfl rfl ⟨rfl, rfl⟩
set_option maxRecDepth 4000 in
theorem q_count_6 {G : GI} {T : Hp} {m : Nat} {V : RVal} {g : Nat → Nat} {od : Nat → UInt64} (hs : RS T m)  : Fn m_X13_count G [.ref (m), .int (nI (6))] (rput T m (sg V g) od) (some (.int (nI (g (3))))) (rput T m (sg (up2 V 0 (6) (nI 0)) (g)) od) := by
  refine Cn.of rfl (by decide) (Nat.le_of_ble_eq_true rfl) (fun hN hM => ?_)
  show Wx _ G _ 0 [(0, .ref (m)), (1, .int (nI (6)))] [] _
  refine r_aload_n dX13_count_0 rfl 0 rfl ?_
  refine r_iconst (v := nI 0) dX13_count_1 (by decide) ?_
  refine o_put (k := 6) hs dX13_count_2 fw_X13_count_54 rfl rfl rfl ?_
  refine r_iload_n dX13_count_5 rfl 1 rfl ?_
  obtain h6 : 6 = 6 := by omega
  · refine Wx.topN h6 ?_
    refine r_tableIn (off := 79) (tgt := 85) dX13_count_6 (by decide) (by decide) rfl (by decide) ?_
    refine r_aload_n dX13_count_85 rfl 0 rfl ?_
    refine m_ref (k := 0) (j := 1) hs hs.2.1.1 dX13_count_86 fr_X13_7 rfl ?_
    refine r_iconst (v := nI 3) dX13_count_89 (by decide) ?_
    refine g_iald (i := 3) hs dX13_count_90 (by omega) ?_
    exact r_iret (ty := .int) dX13_count_91 rfl rfl ⟨rfl, rfl⟩
set_option maxRecDepth 4000 in
theorem q_count_10 {G : GI} {T : Hp} {m : Nat} {V : RVal} {g : Nat → Nat} {od : Nat → UInt64} (hs : RS T m)  (h24 : g 0 ≤ 24) (hb : WB g) (hzz : ∀ l, l < g 0 → g (90 + 13 * l + 1) ≤ 200) : Fn m_X13_count G [.ref (m), .int (nI (10))] (rput T m (sg V g) od) (some (.int (nI (sumN (fun z => inS g z 0) (g 0))))) (rput T m (sg (up2 V 0 (6) (nI 0)) (g)) od) := by
  refine Cn.of rfl (by decide) (Nat.le_of_ble_eq_true rfl) (fun hN hM => ?_)
  show Wx _ G _ 0 [(0, .ref (m)), (1, .int (nI (10)))] [] _
  refine r_aload_n dX13_count_0 rfl 0 rfl ?_
  refine r_iconst (v := nI 0) dX13_count_1 (by decide) ?_
  refine o_put (k := 6) hs dX13_count_2 fw_X13_count_54 rfl rfl rfl ?_
  refine r_iload_n dX13_count_5 rfl 1 rfl ?_
  obtain h6 : 10 = 10 := by omega
  · refine Wx.topN h6 ?_
    refine r_tableOut (tgt := 92) dX13_count_6 (by decide) (by decide) ?_
    refine r_iload_n dX13_count_92 rfl 1 rfl ?_
    refine r_bipush (v := nI 10) dX13_count_93 (by decide) ?_
    refine r_bipush (v := nI 14) dX13_count_95 (by decide) ?_
    refine r_fnS (M2 := m_X13_in) (As := [.int (nI (10)), .int (nI (10)), .int (nI (14))]) (rest := []) (v := some (.int (nI (1)))) dX13_count_97 cc_X13_count_68 rfl rfl rfl (Nat.le_of_ble_eq_true rfl) (Fn.eq f_in (congrArg (fun x => some (Value.int x)) (bI_t ⟨(nI_le (by omega) (by omega)), nI_le (by omega) (by omega)⟩)) rfl) rfl ?_
    refine r_if_eqN (tgt := 114) dX13_count_100 (by decide) (by omega) (fun zz100 => ?_) (fun zz100 => ?_)
    · exact absurd zz100 (by decide)
    · refine r_aload_n dX13_count_103 rfl 0 rfl ?_
      refine r_iload_n dX13_count_104 rfl 1 rfl ?_
      refine r_bipush (v := nI 10) dX13_count_105 (by decide) ?_
      refine r_isubN dX13_count_107 (by omega) ?_
      refine r_fnV (M2 := m_X13_allUnits) (As := [.int (nI (0))]) (rest := []) (v := some (.int (nI (sumN (fun z => inS g z 0) (g 0))))) dX13_count_108 cc_X13_count_428 rfl rfl rfl (Nat.le_of_ble_eq_true rfl) hs.1 rfl rfl (by decide) (g_allUnits_k hs h24 hb hzz (k := 0) (by decide)) rfl ?_
      refine r_goto (tgt := 119) dX13_count_111 (by decide) ?_
      exact r_iret (ty := .int) dX13_count_119 rfl rfl ⟨rfl, rfl⟩
set_option maxRecDepth 4000 in
theorem q_count_11 {G : GI} {T : Hp} {m : Nat} {V : RVal} {g : Nat → Nat} {od : Nat → UInt64} (hs : RS T m)  (h24 : g 0 ≤ 24) (hb : WB g) (hzz : ∀ l, l < g 0 → g (90 + 13 * l + 1) ≤ 200) : Fn m_X13_count G [.ref (m), .int (nI (11))] (rput T m (sg V g) od) (some (.int (nI (sumN (fun z => inS g z 1) (g 0))))) (rput T m (sg (up2 V 0 (6) (nI 0)) (g)) od) := by
  refine Cn.of rfl (by decide) (Nat.le_of_ble_eq_true rfl) (fun hN hM => ?_)
  show Wx _ G _ 0 [(0, .ref (m)), (1, .int (nI (11)))] [] _
  refine r_aload_n dX13_count_0 rfl 0 rfl ?_
  refine r_iconst (v := nI 0) dX13_count_1 (by decide) ?_
  refine o_put (k := 6) hs dX13_count_2 fw_X13_count_54 rfl rfl rfl ?_
  refine r_iload_n dX13_count_5 rfl 1 rfl ?_
  obtain h6 : 11 = 11 := by omega
  · refine Wx.topN h6 ?_
    refine r_tableOut (tgt := 92) dX13_count_6 (by decide) (by decide) ?_
    refine r_iload_n dX13_count_92 rfl 1 rfl ?_
    refine r_bipush (v := nI 10) dX13_count_93 (by decide) ?_
    refine r_bipush (v := nI 14) dX13_count_95 (by decide) ?_
    refine r_fnS (M2 := m_X13_in) (As := [.int (nI (11)), .int (nI (10)), .int (nI (14))]) (rest := []) (v := some (.int (nI (1)))) dX13_count_97 cc_X13_count_68 rfl rfl rfl (Nat.le_of_ble_eq_true rfl) (Fn.eq f_in (congrArg (fun x => some (Value.int x)) (bI_t ⟨(nI_le (by omega) (by omega)), nI_le (by omega) (by omega)⟩)) rfl) rfl ?_
    refine r_if_eqN (tgt := 114) dX13_count_100 (by decide) (by omega) (fun zz100 => ?_) (fun zz100 => ?_)
    · exact absurd zz100 (by decide)
    · refine r_aload_n dX13_count_103 rfl 0 rfl ?_
      refine r_iload_n dX13_count_104 rfl 1 rfl ?_
      refine r_bipush (v := nI 10) dX13_count_105 (by decide) ?_
      refine r_isubN dX13_count_107 (by omega) ?_
      refine r_fnV (M2 := m_X13_allUnits) (As := [.int (nI (1))]) (rest := []) (v := some (.int (nI (sumN (fun z => inS g z 1) (g 0))))) dX13_count_108 cc_X13_count_428 rfl rfl rfl (Nat.le_of_ble_eq_true rfl) hs.1 rfl rfl (by decide) (g_allUnits_k hs h24 hb hzz (k := 1) (by decide)) rfl ?_
      refine r_goto (tgt := 119) dX13_count_111 (by decide) ?_
      exact r_iret (ty := .int) dX13_count_119 rfl rfl ⟨rfl, rfl⟩
set_option maxRecDepth 4000 in
theorem q_count_12 {G : GI} {T : Hp} {m : Nat} {V : RVal} {g : Nat → Nat} {od : Nat → UInt64} (hs : RS T m)  (h24 : g 0 ≤ 24) (hb : WB g) (hzz : ∀ l, l < g 0 → g (90 + 13 * l + 1) ≤ 200) : Fn m_X13_count G [.ref (m), .int (nI (12))] (rput T m (sg V g) od) (some (.int (nI (sumN (fun z => inS g z 2) (g 0))))) (rput T m (sg (up2 V 0 (6) (nI 0)) (g)) od) := by
  refine Cn.of rfl (by decide) (Nat.le_of_ble_eq_true rfl) (fun hN hM => ?_)
  show Wx _ G _ 0 [(0, .ref (m)), (1, .int (nI (12)))] [] _
  refine r_aload_n dX13_count_0 rfl 0 rfl ?_
  refine r_iconst (v := nI 0) dX13_count_1 (by decide) ?_
  refine o_put (k := 6) hs dX13_count_2 fw_X13_count_54 rfl rfl rfl ?_
  refine r_iload_n dX13_count_5 rfl 1 rfl ?_
  obtain h6 : 12 = 12 := by omega
  · refine Wx.topN h6 ?_
    refine r_tableOut (tgt := 92) dX13_count_6 (by decide) (by decide) ?_
    refine r_iload_n dX13_count_92 rfl 1 rfl ?_
    refine r_bipush (v := nI 10) dX13_count_93 (by decide) ?_
    refine r_bipush (v := nI 14) dX13_count_95 (by decide) ?_
    refine r_fnS (M2 := m_X13_in) (As := [.int (nI (12)), .int (nI (10)), .int (nI (14))]) (rest := []) (v := some (.int (nI (1)))) dX13_count_97 cc_X13_count_68 rfl rfl rfl (Nat.le_of_ble_eq_true rfl) (Fn.eq f_in (congrArg (fun x => some (Value.int x)) (bI_t ⟨(nI_le (by omega) (by omega)), nI_le (by omega) (by omega)⟩)) rfl) rfl ?_
    refine r_if_eqN (tgt := 114) dX13_count_100 (by decide) (by omega) (fun zz100 => ?_) (fun zz100 => ?_)
    · exact absurd zz100 (by decide)
    · refine r_aload_n dX13_count_103 rfl 0 rfl ?_
      refine r_iload_n dX13_count_104 rfl 1 rfl ?_
      refine r_bipush (v := nI 10) dX13_count_105 (by decide) ?_
      refine r_isubN dX13_count_107 (by omega) ?_
      refine r_fnV (M2 := m_X13_allUnits) (As := [.int (nI (2))]) (rest := []) (v := some (.int (nI (sumN (fun z => inS g z 2) (g 0))))) dX13_count_108 cc_X13_count_428 rfl rfl rfl (Nat.le_of_ble_eq_true rfl) hs.1 rfl rfl (by decide) (g_allUnits_k hs h24 hb hzz (k := 2) (by decide)) rfl ?_
      refine r_goto (tgt := 119) dX13_count_111 (by decide) ?_
      exact r_iret (ty := .int) dX13_count_119 rfl rfl ⟨rfl, rfl⟩
set_option maxRecDepth 4000 in
theorem q_count_13 {G : GI} {T : Hp} {m : Nat} {V : RVal} {g : Nat → Nat} {od : Nat → UInt64} (hs : RS T m)  (h24 : g 0 ≤ 24) (hb : WB g) (hzz : ∀ l, l < g 0 → g (90 + 13 * l + 1) ≤ 200) : Fn m_X13_count G [.ref (m), .int (nI (13))] (rput T m (sg V g) od) (some (.int (nI (sumN (fun z => inS g z 3) (g 0))))) (rput T m (sg (up2 V 0 (6) (nI 0)) (g)) od) := by
  refine Cn.of rfl (by decide) (Nat.le_of_ble_eq_true rfl) (fun hN hM => ?_)
  show Wx _ G _ 0 [(0, .ref (m)), (1, .int (nI (13)))] [] _
  refine r_aload_n dX13_count_0 rfl 0 rfl ?_
  refine r_iconst (v := nI 0) dX13_count_1 (by decide) ?_
  refine o_put (k := 6) hs dX13_count_2 fw_X13_count_54 rfl rfl rfl ?_
  refine r_iload_n dX13_count_5 rfl 1 rfl ?_
  obtain h6 : 13 = 13 := by omega
  · refine Wx.topN h6 ?_
    refine r_tableOut (tgt := 92) dX13_count_6 (by decide) (by decide) ?_
    refine r_iload_n dX13_count_92 rfl 1 rfl ?_
    refine r_bipush (v := nI 10) dX13_count_93 (by decide) ?_
    refine r_bipush (v := nI 14) dX13_count_95 (by decide) ?_
    refine r_fnS (M2 := m_X13_in) (As := [.int (nI (13)), .int (nI (10)), .int (nI (14))]) (rest := []) (v := some (.int (nI (1)))) dX13_count_97 cc_X13_count_68 rfl rfl rfl (Nat.le_of_ble_eq_true rfl) (Fn.eq f_in (congrArg (fun x => some (Value.int x)) (bI_t ⟨(nI_le (by omega) (by omega)), nI_le (by omega) (by omega)⟩)) rfl) rfl ?_
    refine r_if_eqN (tgt := 114) dX13_count_100 (by decide) (by omega) (fun zz100 => ?_) (fun zz100 => ?_)
    · exact absurd zz100 (by decide)
    · refine r_aload_n dX13_count_103 rfl 0 rfl ?_
      refine r_iload_n dX13_count_104 rfl 1 rfl ?_
      refine r_bipush (v := nI 10) dX13_count_105 (by decide) ?_
      refine r_isubN dX13_count_107 (by omega) ?_
      refine r_fnV (M2 := m_X13_allUnits) (As := [.int (nI (3))]) (rest := []) (v := some (.int (nI (sumN (fun z => inS g z 3) (g 0))))) dX13_count_108 cc_X13_count_428 rfl rfl rfl (Nat.le_of_ble_eq_true rfl) hs.1 rfl rfl (by decide) (g_allUnits_k hs h24 hb hzz (k := 3) (by decide)) rfl ?_
      refine r_goto (tgt := 119) dX13_count_111 (by decide) ?_
      exact r_iret (ty := .int) dX13_count_119 rfl rfl ⟨rfl, rfl⟩
set_option maxRecDepth 4000 in
theorem q_count_14 {G : GI} {T : Hp} {m : Nat} {V : RVal} {g : Nat → Nat} {od : Nat → UInt64} (hs : RS T m)  (h24 : g 0 ≤ 24) (hb : WB g) (hzz : ∀ l, l < g 0 → g (90 + 13 * l + 1) ≤ 200) : Fn m_X13_count G [.ref (m), .int (nI (14))] (rput T m (sg V g) od) (some (.int (nI (sumN (fun z => inS g z 4) (g 0))))) (rput T m (sg (up2 V 0 (6) (nI 0)) (g)) od) := by
  refine Cn.of rfl (by decide) (Nat.le_of_ble_eq_true rfl) (fun hN hM => ?_)
  show Wx _ G _ 0 [(0, .ref (m)), (1, .int (nI (14)))] [] _
  refine r_aload_n dX13_count_0 rfl 0 rfl ?_
  refine r_iconst (v := nI 0) dX13_count_1 (by decide) ?_
  refine o_put (k := 6) hs dX13_count_2 fw_X13_count_54 rfl rfl rfl ?_
  refine r_iload_n dX13_count_5 rfl 1 rfl ?_
  obtain h6 : 14 = 14 := by omega
  · refine Wx.topN h6 ?_
    refine r_tableOut (tgt := 92) dX13_count_6 (by decide) (by decide) ?_
    refine r_iload_n dX13_count_92 rfl 1 rfl ?_
    refine r_bipush (v := nI 10) dX13_count_93 (by decide) ?_
    refine r_bipush (v := nI 14) dX13_count_95 (by decide) ?_
    refine r_fnS (M2 := m_X13_in) (As := [.int (nI (14)), .int (nI (10)), .int (nI (14))]) (rest := []) (v := some (.int (nI (1)))) dX13_count_97 cc_X13_count_68 rfl rfl rfl (Nat.le_of_ble_eq_true rfl) (Fn.eq f_in (congrArg (fun x => some (Value.int x)) (bI_t ⟨(nI_le (by omega) (by omega)), nI_le (by omega) (by omega)⟩)) rfl) rfl ?_
    refine r_if_eqN (tgt := 114) dX13_count_100 (by decide) (by omega) (fun zz100 => ?_) (fun zz100 => ?_)
    · exact absurd zz100 (by decide)
    · refine r_aload_n dX13_count_103 rfl 0 rfl ?_
      refine r_iload_n dX13_count_104 rfl 1 rfl ?_
      refine r_bipush (v := nI 10) dX13_count_105 (by decide) ?_
      refine r_isubN dX13_count_107 (by omega) ?_
      refine r_fnV (M2 := m_X13_allUnits) (As := [.int (nI (4))]) (rest := []) (v := some (.int (nI (sumN (fun z => inS g z 4) (g 0))))) dX13_count_108 cc_X13_count_428 rfl rfl rfl (Nat.le_of_ble_eq_true rfl) hs.1 rfl rfl (by decide) (g_allUnits_k hs h24 hb hzz (k := 4) (by decide)) rfl ?_
      refine r_goto (tgt := 119) dX13_count_111 (by decide) ?_
      exact r_iret (ty := .int) dX13_count_119 rfl rfl ⟨rfl, rfl⟩
