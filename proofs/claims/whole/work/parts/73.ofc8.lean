/-! A UNIT's CHANGES on both sides -/
theorem Rel.bec {c g : Nat → Nat} {N l u st : Nat} (hr : Rel c g N) (hl : l < g 0) (hu : u < g (90 + 13 * l + 1)) (h3 : ¬ sW (g (402 + 2 * (200 * l + u))) = 3) (hst : st ≤ 4) (hst3 : st ≠ 3) : Rel (up1 c (402 + 8 * (200 * l + u)) st) (becG g l u st) N := by
  have hL := hr.lot hl
  obtain ⟨w1, w2, w3, w4⟩ := hL.wu hu
  have h8 : st < 8 := by omega
  refine Rel.unit hr hl hu h3 (by rw [bec_s h8]; exact hst3) (fun i _ hi => up1_n (by omega)) ⟨?_, ?_, ?_, ?_, ?_⟩ (bec_lt h8 w1) (by rw [bec_r h8]; exact w2) (by rw [bec_s h8]; exact hst) (fun q hq => ?_)
  · rw [up1_s, bec_s h8]
  · rw [up1_n (by omega), bec_d h8]; exact hL.u1 hu
  · rw [up1_n (by omega), bec_r h8]; exact hL.u2 hu
  · rw [up1_n (by omega), frW_congr fun q hq => bec_y h8 hq]; exact hL.u3 hu
  · rw [up1_n (by omega), bec_c h8]; exact hL.u5 hu
  · rw [bec_b h8, bec_y h8 hq]
    exact ⟨(w4 q hq).1, (w4 q hq).2.1, fun a b => ⟨a, b⟩, fun a => a⟩
theorem Rel.status {c g : Nat → Nat} {N l v : Nat} (hr : Rel c g N) (hl : l < g 0) (hv : v < 4) : Rel (up1 c (90 + 13 * l + 2) v) (up1 g (90 + 13 * l + 2) v) N := by
  have hL := hr.lot hl
  refine Rel.lhd hr (Nat.le_refl N) hl (fun i _ hi => up1_n (by omega)) (fun i hi => up1_n (by omega)) (fun f h1 h2 => ?_) (by rw [up1_s]; exact hv) (by rw [up1_n (by omega)]; exact hL.1.2.2.2.1) (by rw [up1_n (by omega)]; exact id) (by rw [up1_n (by omega), up1_n (by omega), up1_n (by omega), up1_n (by omega), up1_n (by omega)]; exact hL.i)
  by_cases e : f = 2
  · subst e; rw [up1_s, up1_s]
  · rw [up1_n (by omega), up1_n (by omega)]; exact hL.h (by omega)
set_option maxRecDepth 4000 in
set_option maxHeartbeats 400000 in
theorem ch_ship {G : GI} {S : Hp} {w : Nat → Nat} {k o : Nat} {A c g : Nat → Nat} {N : Nat} (h : OR S w k o A c) (hr : Rel c g N) (hal : ∀ l, l < g 0 → A l ≠ 0) {l : Nat} (hl : l < g 0) (hok : ¬ (¬ g (90 + 13 * l + 2) = 1 ∨ inS g l 0 = 0)) : OCh m_X7_shipLot G [.ref (o), .int (nI (l))] S w k o A (some (.int (nI (inS g l 0)))) (up1 (shpI g l (g (90 + 13 * l + 1))) (90 + 13 * l + 2) 3) (N) := by
  refine Cn.of rfl (by decide) (Nat.le_of_ble_eq_true rfl) (fun hN hM => ?_)
  show Wx _ G _ 0 [(0, .ref (o)), (1, .int (nI (l)))] [] _
  have hx := OX.refl h
  have h24 := hr.n24
  have hl24 : l < 24 := by omega
  have hAl := hal l hl
  have hL := hr.lot hl
  have hz := hL.z
  refine r_aload_n dX7_shipLot_0 rfl 0 rfl ?_
  refine r_iload_n dX7_shipLot_1 rfl 1 rfl ?_
  refine r_fnV (M2 := m_X7_lotAt) (As := [.int (nI (l))]) (rest := []) (v := some (.ref (A l))) dX7_shipLot_2 cc_X7_shipLot_105 rfl rfl rfl (Nat.le_of_ble_eq_true rfl) hx.1.1.1 rfl rfl (by decide) (o_lotAt hx.1 hr hal (l := l) (by (first | omega | (have := hL.st; have hin : inS g l 0 ≤ g (90 + 13 * l + 1) := cnt_le _ _; omega) | (have := sW_lt (g (402 + 2 * (200 * l + u))); omega)))) rfl ?_
  refine r_astore_n (lv' := [(2, .ref (A l)), (0, .ref (o)), (1, .int (nI (l)))]) dX7_shipLot_5 rfl (by decide) rfl ?_
  refine r_aload_n dX7_shipLot_6 rfl 0 rfl ?_
  refine r_ifnonnull (tgt := 12) dX7_shipLot_7 (by decide) ?_
  refine r_aload_n dX7_shipLot_12 rfl 0 rfl ?_
  refine r_iconst (v := nI 0) dX7_shipLot_13 (by decide) ?_
  refine r_fnV (M2 := m_X5_unitsIn) (As := [.int (nI (0))]) (rest := []) (v := some (.int (nI (inS g l 0)))) dX7_shipLot_14 cc_X7_shipLot_127 rfl rfl rfl (Nat.le_of_ble_eq_true rfl) (hx.1.lo hl24 hAl).2.1 rfl rfl (by decide) (o_unitsIn hx.1 hr hal (l := l) (by (first | omega | (have := hL.st; have hin : inS g l 0 ≤ g (90 + 13 * l + 1) := cnt_le _ _; omega) | (have := sW_lt (g (402 + 2 * (200 * l + u))); omega))) (by (first | omega | (have := hL.st; have hin : inS g l 0 ≤ g (90 + 13 * l + 1) := cnt_le _ _; omega) | (have := sW_lt (g (402 + 2 * (200 * l + u))); omega)))) rfl ?_
  refine r_istore_n (lv' := [(3, .int (nI (inS g l 0))), (2, .ref (A l)), (0, .ref (o)), (1, .int (nI (l)))]) dX7_shipLot_17 rfl (by decide) rfl ?_
  refine r_aload_n dX7_shipLot_18 rfl 1 rfl ?_
  refine r_getI (ci := 7) (k := 3) dX7_shipLot_19 fr_X7_108 (hx.1.lo hl24 hAl).2.1 rfl ?_
  refine Wx.top (hx.1.l3 hl24 hAl) ?_
  refine Wx.topN (hL.h (f := 2) (by decide)) ?_
  refine r_iconst (v := nI 1) dX7_shipLot_22 (by decide) ?_
  refine r_icmp_neN (tgt := 30) dX7_shipLot_23 (by decide) (by (first | omega | (have := hL.st; have hin : inS g l 0 ≤ g (90 + 13 * l + 1) := cnt_le _ _; omega) | (have := sW_lt (g (402 + 2 * (200 * l + u))); omega))) (by (first | omega | (have := hL.st; have hin : inS g l 0 ≤ g (90 + 13 * l + 1) := cnt_le _ _; omega) | (have := sW_lt (g (402 + 2 * (200 * l + u))); omega))) (fun h23 => ?_) (fun h23 => ?_)
  · exact absurd (Or.inl h23) hok
  · refine r_iload_n dX7_shipLot_26 rfl 0 rfl ?_
    refine r_if_neN (tgt := 33) dX7_shipLot_27 (by decide) (by (first | omega | (have := hL.st; have hin : inS g l 0 ≤ g (90 + 13 * l + 1) := cnt_le _ _; omega) | (have := sW_lt (g (402 + 2 * (200 * l + u))); omega))) (fun h27 => ?_) (fun h27 => ?_)
    · refine r_iconst (v := nI 0) dX7_shipLot_33 (by decide) ?_
      refine r_istore (lv' := [(4, .int (nI (0))), (3, .int (nI (inS g l 0))), (2, .ref (A l)), (0, .ref (o)), (1, .int (nI (l)))]) dX7_shipLot_34 (by decide) rfl ?_
      refine Wx.sub [3, 4, 2, 1, 0] rfl ?_
      refine Wx.loopR (fun u T lv => ∃ c, OX S w A T w k o A c ∧ (Rel c (shpI g l u) N) ∧ lv = [(0, .ref (o)), (1, .int (nI (l))), (2, .ref (A l)), (3, .int (nI (inS g l 0))), (4, .int (nI (u)))]) (g (90 + 13 * l + 1)) (0) (Nat.zero_le _) ⟨_, hx, hr, rfl⟩ (fun u T lv hge hle hI9 next => ?_)
      obtain ⟨c, hx, hP, rfl⟩ := hI9
      have hg0 : shpI g l u 0 = g 0 := shpI_n (by omega)
      have hgz : shpI g l u (90 + 13 * l + 1) = g (90 + 13 * l + 1) := shpI_n (by omega)
      have hLu := hP.lot (l := l) (by rw [hg0]; exact hl)
      refine r_iload dX7_shipLot_36 4 rfl ?_
      refine r_aload_n dX7_shipLot_38 rfl 2 rfl ?_
      refine r_getI (ci := 7) (k := 2) dX7_shipLot_39 fr_X7_134 (hx.1.lo hl24 hAl).2.1 rfl ?_
      refine Wx.top (hx.1.l2 hl24 hAl) ?_
      refine Wx.topN (hLu.h (f := 1) (by decide)) ?_
      refine Wx.topN (show (shpI g l u) (90 + 13 * l + 1) = g (90 + 13 * l + 1) from congrArg (fun z => z) (shpI_n (by omega))) ?_
      refine r_icmp_geN (tgt := 69) dX7_shipLot_42 (by decide) (by (first | omega | (have := hL.st; have hin : inS g l 0 ≤ g (90 + 13 * l + 1) := cnt_le _ _; omega) | (have := sW_lt (g (402 + 2 * (200 * l + u))); omega))) (by (first | omega | (have := hL.st; have hin : inS g l 0 ≤ g (90 + 13 * l + 1) := cnt_le _ _; omega) | (have := sW_lt (g (402 + 2 * (200 * l + u))); omega))) (fun h42 => ?_) (fun h42 => ?_)
      · refine r_aload_n dX7_shipLot_69 rfl 2 rfl ?_
        refine r_iconst (v := nI 3) dX7_shipLot_70 (by decide) ?_
        refine r_putI (ci := 7) (k := 3) dX7_shipLot_71 fw_X7_shipLot_108 (hx.1.lo hl24 hAl).2.1 rfl rfl rfl ?_
        refine Wx.gx ((hx.L (f := 3) hl24 hAl (by decide))) (fun T_1 (hx_1 : OX S w A T_1 w k o A (up1 c (90 + 13 * l + 2) (3))) => ?_)
        refine r_iload_n dX7_shipLot_74 rfl 3 rfl ?_
        obtain rfl : u = g (90 + 13 * l + 1) := by omega
        exact r_iret (ty := .int) dX7_shipLot_75 rfl rfl ⟨rfl, w, A, _, hx_1, Rel.status hP (by rw [hg0]; exact hl) (by decide), (fun z hz9 => hal z (by rw [up1_n (by omega), hg0] at hz9; exact hz9))⟩
      · refine r_aload_n dX7_shipLot_45 rfl 2 rfl ?_
        refine r_getR (ci := 7) (k := 11) (b := A l + 2) dX7_shipLot_46 fr_X7_137 (hx.1.lo hl24 hAl).2.1 rfl (hx.1.lo hl24 hAl).2.2.1.2.1 ?_
        refine r_iload dX7_shipLot_49 4 rfl ?_
        refine r_iald dX7_shipLot_51 (hx.1.lo hl24 hAl).2.2.2.2.1.1 (by rw [show zN T (A l + 2) = 200 from (hx.1.lo hl24 hAl).2.2.2.2.1.2]; exact vp_in_nI (by (first | omega | (have := hL.st; have hin : inS g l 0 ≤ g (90 + 13 * l + 1) := cnt_le _ _; omega) | (have := sW_lt (g (402 + 2 * (200 * l + u))); omega))) (by decide)) ?_
        refine Wx.top (congrArg (zA _ _) (nI_clamp (by (first | omega | (have := hL.st; have hin : inS g l 0 ≤ g (90 + 13 * l + 1) := cnt_le _ _; omega) | (have := sW_lt (g (402 + 2 * (200 * l + u))); omega))))) ?_
        refine Wx.top (hx.1.u0 (u := u) hl24 hAl (by (first | omega | (have := hL.st; have hin : inS g l 0 ≤ g (90 + 13 * l + 1) := cnt_le _ _; omega) | (have := sW_lt (g (402 + 2 * (200 * l + u))); omega)))) ?_
        refine Wx.topN (hLu.u0 (u := u) (by (first | omega | (have := hL.st; have hin : inS g l 0 ≤ g (90 + 13 * l + 1) := cnt_le _ _; omega) | (have := sW_lt (g (402 + 2 * (200 * l + u))); omega)))) ?_
        refine Wx.topN (show sW ((shpI g l u) (402 + 2 * (200 * l + u))) = sW (g (402 + 2 * (200 * l + u))) from congrArg (fun z => sW (z)) (shpI_n (by omega))) ?_
        refine r_if_neN (tgt := 63) dX7_shipLot_52 (by decide) (by (first | omega | (have := hL.st; have hin : inS g l 0 ≤ g (90 + 13 * l + 1) := cnt_le _ _; omega) | (have := sW_lt (g (402 + 2 * (200 * l + u))); omega))) (fun h52 => ?_) (fun h52 => ?_)
        · refine r_iincN (k := 1) (lv' := [(4, .int (nI (u + 1))), (0, .ref (o)), (1, .int (nI (l))), (2, .ref (A l)), (3, .int (nI (inS g l 0)))]) dX7_shipLot_63 (by decide) 4 rfl (by decide) rfl ?_
          refine r_goto (tgt := 36) dX7_shipLot_66 (by decide) ?_
          refine Wx.sub [1, 2, 3, 4, 0] rfl ?_
          exact next _ _ (by omega) ⟨_, hx, (by rw [shpI_f h52]; exact hP), rfl⟩
        · refine r_aload_n dX7_shipLot_55 rfl 2 rfl ?_
          refine r_getR (ci := 7) (k := 11) (b := A l + 2) dX7_shipLot_56 fr_X7_137 (hx.1.lo hl24 hAl).2.1 rfl (hx.1.lo hl24 hAl).2.2.1.2.1 ?_
          refine r_iload dX7_shipLot_59 4 rfl ?_
          refine r_iconst (v := nI 4) dX7_shipLot_61 (by decide) ?_
          refine r_iast dX7_shipLot_62 (hx.1.lo hl24 hAl).2.2.2.2.1.1 (by rw [show zN T (A l + 2) = 200 from (hx.1.lo hl24 hAl).2.2.2.2.1.2]; exact vp_in_nI (by (first | omega | (have := hL.st; have hin : inS g l 0 ≤ g (90 + 13 * l + 1) := cnt_le _ _; omega) | (have := sW_lt (g (402 + 2 * (200 * l + u))); omega))) (by decide)) ?_
          refine Wx.st' (S' := uA T (A l + 2) (u) (nI (4))) (by rw [nI_clamp (by (first | omega | (have := hL.st; have hin : inS g l 0 ≤ g (90 + 13 * l + 1) := cnt_le _ _; omega) | (have := sW_lt (g (402 + 2 * (200 * l + u))); omega)))]) ?_
          refine Wx.gx ((hx.U (f := 0) (u := u) hl24 hAl (by (first | omega | (have := hL.st; have hin : inS g l 0 ≤ g (90 + 13 * l + 1) := cnt_le _ _; omega) | (have := sW_lt (g (402 + 2 * (200 * l + u))); omega))) (by decide))) (fun T_2 (hx_2 : OX S w A T_2 w k o A (up1 c (402 + 8 * (200 * l + u)) (4))) => ?_)
          refine r_iincN (k := 1) (lv' := [(4, .int (nI (u + 1))), (0, .ref (o)), (1, .int (nI (l))), (2, .ref (A l)), (3, .int (nI (inS g l 0)))]) dX7_shipLot_63 (by decide) 4 rfl (by decide) rfl ?_
          refine r_goto (tgt := 36) dX7_shipLot_66 (by decide) ?_
          refine Wx.sub [1, 2, 3, 4, 0] rfl ?_
          exact next _ _ (by omega) ⟨_, hx_2, (by rw [shpI_t h52]; exact Rel.bec hP (by rw [shpI_n (by omega)]; exact hl) (by rw [shpI_n (by omega)]; omega) (by rw [shpI_n (by omega), h52]; decide) (by decide) (by decide)), rfl⟩
    · exact absurd (Or.inr h27) hok
set_option maxRecDepth 4000 in
set_option maxHeartbeats 400000 in
theorem o_ship_2 {G : GI} {S : Hp} {w : Nat → Nat} {k o : Nat} {A c g : Nat → Nat} {N : Nat} (h : OR S w k o A c) (hr : Rel c g N) (hal : ∀ l, l < g 0 → A l ≠ 0) {l : Nat} (hl : l < g 0) (hok : ¬ g (90 + 13 * l + 2) = 1 ∨ inS g l 0 = 0) : Fn m_X7_shipLot G [.ref (o), .int (nI (l))] S (some (.int (-3))) S := by
  refine Cn.of rfl (by decide) (Nat.le_of_ble_eq_true rfl) (fun hN hM => ?_)
  show Wx _ G _ 0 [(0, .ref (o)), (1, .int (nI (l)))] [] _
  have hx := OX.refl h
  have h24 := hr.n24
  have hl24 : l < 24 := by omega
  have hAl := hal l hl
  have hL := hr.lot hl
  have hz := hL.z
  refine r_aload_n dX7_shipLot_0 rfl 0 rfl ?_
  refine r_iload_n dX7_shipLot_1 rfl 1 rfl ?_
  refine r_fnV (M2 := m_X7_lotAt) (As := [.int (nI (l))]) (rest := []) (v := some (.ref (A l))) dX7_shipLot_2 cc_X7_shipLot_105 rfl rfl rfl (Nat.le_of_ble_eq_true rfl) hx.1.1.1 rfl rfl (by decide) (o_lotAt hx.1 hr hal (l := l) (by (first | omega | (have := hL.st; have hin : inS g l 0 ≤ g (90 + 13 * l + 1) := cnt_le _ _; omega)))) rfl ?_
  refine r_astore_n (lv' := [(2, .ref (A l)), (0, .ref (o)), (1, .int (nI (l)))]) dX7_shipLot_5 rfl (by decide) rfl ?_
  refine r_aload_n dX7_shipLot_6 rfl 0 rfl ?_
  refine r_ifnonnull (tgt := 12) dX7_shipLot_7 (by decide) ?_
  refine r_aload_n dX7_shipLot_12 rfl 0 rfl ?_
  refine r_iconst (v := nI 0) dX7_shipLot_13 (by decide) ?_
  refine r_fnV (M2 := m_X5_unitsIn) (As := [.int (nI (0))]) (rest := []) (v := some (.int (nI (inS g l 0)))) dX7_shipLot_14 cc_X7_shipLot_127 rfl rfl rfl (Nat.le_of_ble_eq_true rfl) (hx.1.lo hl24 hAl).2.1 rfl rfl (by decide) (o_unitsIn hx.1 hr hal (l := l) (by (first | omega | (have := hL.st; have hin : inS g l 0 ≤ g (90 + 13 * l + 1) := cnt_le _ _; omega))) (by (first | omega | (have := hL.st; have hin : inS g l 0 ≤ g (90 + 13 * l + 1) := cnt_le _ _; omega)))) rfl ?_
  refine r_istore_n (lv' := [(3, .int (nI (inS g l 0))), (2, .ref (A l)), (0, .ref (o)), (1, .int (nI (l)))]) dX7_shipLot_17 rfl (by decide) rfl ?_
  refine r_aload_n dX7_shipLot_18 rfl 1 rfl ?_
  refine r_getI (ci := 7) (k := 3) dX7_shipLot_19 fr_X7_108 (hx.1.lo hl24 hAl).2.1 rfl ?_
  refine Wx.top (hx.1.l3 hl24 hAl) ?_
  refine Wx.topN (hL.h (f := 2) (by decide)) ?_
  refine r_iconst (v := nI 1) dX7_shipLot_22 (by decide) ?_
  refine r_icmp_neN (tgt := 30) dX7_shipLot_23 (by decide) (by (first | omega | (have := hL.st; have hin : inS g l 0 ≤ g (90 + 13 * l + 1) := cnt_le _ _; omega))) (by (first | omega | (have := hL.st; have hin : inS g l 0 ≤ g (90 + 13 * l + 1) := cnt_le _ _; omega))) (fun h23 => ?_) (fun h23 => ?_)
  · refine r_bipush (v := nI 4294967293) dX7_shipLot_30 (by decide) ?_
    exact r_iret (ty := .int) dX7_shipLot_32 rfl rfl ⟨congrArg (fun x => Sum.inl (some (Value.int x))) (by decide : nI 4294967293 = -3), rfl⟩
  · refine r_iload_n dX7_shipLot_26 rfl 0 rfl ?_
    refine r_if_neN (tgt := 33) dX7_shipLot_27 (by decide) (by (first | omega | (have := hL.st; have hin : inS g l 0 ≤ g (90 + 13 * l + 1) := cnt_le _ _; omega))) (fun h27 => ?_) (fun h27 => ?_)
    · exact absurd hok (fun q9 => q9.elim (fun q => q h23) h27)
    · refine r_bipush (v := nI 4294967293) dX7_shipLot_30 (by decide) ?_
      exact r_iret (ty := .int) dX7_shipLot_32 rfl rfl ⟨congrArg (fun x => Sum.inl (some (Value.int x))) (by decide : nI 4294967293 = -3), rfl⟩
set_option maxRecDepth 4000 in
set_option maxHeartbeats 400000 in
theorem o_ship_1 {G : GI} {S : Hp} {w : Nat → Nat} {k o : Nat} {A c g : Nat → Nat} {N : Nat} (h : OR S w k o A c) (hr : Rel c g N) (hal : ∀ l, l < g 0 → A l ≠ 0) {x : Int32} (hno : ¬ vp_in x (g 0)) : Fn m_X7_shipLot G [.ref (o), .int (x)] S (some (.int (-1))) S := by
  refine Cn.of rfl (by decide) (Nat.le_of_ble_eq_true rfl) (fun hN hM => ?_)
  show Wx _ G _ 0 [(0, .ref (o)), (1, .int (x))] [] _
  have hx := OX.refl h
  have h24 := hr.n24
  refine r_aload_n dX7_shipLot_0 rfl 0 rfl ?_
  refine r_iload_n dX7_shipLot_1 rfl 1 rfl ?_
  refine r_fnV (M2 := m_X7_lotAt) (As := [.int (x)]) (rest := []) (v := some (.null)) dX7_shipLot_2 cc_X7_shipLot_105 rfl rfl rfl (Nat.le_of_ble_eq_true rfl) hx.1.1.1 rfl rfl (by decide) (o_lotAt_no hx.1 hr hal hno) rfl ?_
  refine r_astore_nN (lv' := [(2, .null), (0, .ref (o)), (1, .int (x))]) dX7_shipLot_5 rfl (by decide) rfl ?_
  refine r_aload_nN dX7_shipLot_6 rfl 0 rfl ?_
  refine r_ifnonnullN dX7_shipLot_7 ?_
  refine r_iconst (v := nI 4294967295) dX7_shipLot_10 (by decide) ?_
  exact r_iret (ty := .int) dX7_shipLot_11 rfl rfl ⟨congrArg (fun x => Sum.inl (some (Value.int x))) nI_m1, rfl⟩
set_option maxRecDepth 4000 in
set_option maxHeartbeats 400000 in
theorem o_sort_1 {G : GI} {S : Hp} {w : Nat → Nat} {k o : Nat} {A c g : Nat → Nat} {N : Nat} (h : OR S w k o A c) (hr : Rel c g N) (hal : ∀ l, l < g 0 → A l ≠ 0) {x : Int32} (hno : ¬ vp_in x (g 0)) : Fn m_X7_sortLot G [.ref (o), .int (x)] S (some (.int (-1))) S := by
  refine Cn.of rfl (by decide) (Nat.le_of_ble_eq_true rfl) (fun hN hM => ?_)
  show Wx _ G _ 0 [(0, .ref (o)), (1, .int (x))] [] _
  have hx := OX.refl h
  have h24 := hr.n24
  refine r_aload_n dX7_sortLot_0 rfl 0 rfl ?_
  refine r_iload_n dX7_sortLot_1 rfl 1 rfl ?_
  refine r_fnV (M2 := m_X7_lotAt) (As := [.int (x)]) (rest := []) (v := some (.null)) dX7_sortLot_2 cc_X7_sortLot_105 rfl rfl rfl (Nat.le_of_ble_eq_true rfl) hx.1.1.1 rfl rfl (by decide) (o_lotAt_no hx.1 hr hal hno) rfl ?_
  refine r_astore_nN (lv' := [(2, .null), (0, .ref (o)), (1, .int (x))]) dX7_sortLot_5 rfl (by decide) rfl ?_
  refine r_aload_nN dX7_sortLot_6 rfl 0 rfl ?_
  refine r_ifnonnullN dX7_sortLot_7 ?_
  refine r_iconst (v := nI 4294967295) dX7_sortLot_10 (by decide) ?_
  exact r_iret (ty := .int) dX7_sortLot_11 rfl rfl ⟨congrArg (fun x => Sum.inl (some (Value.int x))) nI_m1, rfl⟩
set_option maxRecDepth 4000 in
set_option maxHeartbeats 400000 in
theorem o_inspect_1 {G : GI} {S : Hp} {w : Nat → Nat} {k o : Nat} {A c g : Nat → Nat} {N : Nat} (h : OR S w k o A c) (hr : Rel c g N) (hal : ∀ l, l < g 0 → A l ≠ 0) {x : Int32} (hno : ¬ vp_in x (g 0)) : Fn m_X7_inspectLot G [.ref (o), .int (x)] S (some (.int (-1))) S := by
  refine Cn.of rfl (by decide) (Nat.le_of_ble_eq_true rfl) (fun hN hM => ?_)
  show Wx _ G _ 0 [(0, .ref (o)), (1, .int (x))] [] _
  have hx := OX.refl h
  have h24 := hr.n24
  refine r_aload_n dX7_inspectLot_0 rfl 0 rfl ?_
  refine r_iload_n dX7_inspectLot_1 rfl 1 rfl ?_
  refine r_fnV (M2 := m_X7_lotAt) (As := [.int (x)]) (rest := []) (v := some (.null)) dX7_inspectLot_2 cc_X7_inspectLot_105 rfl rfl rfl (Nat.le_of_ble_eq_true rfl) hx.1.1.1 rfl rfl (by decide) (o_lotAt_no hx.1 hr hal hno) rfl ?_
  refine r_astore_nN (lv' := [(2, .null), (0, .ref (o)), (1, .int (x))]) dX7_inspectLot_5 rfl (by decide) rfl ?_
  refine r_aload_nN dX7_inspectLot_6 rfl 0 rfl ?_
  refine r_ifnonnullN dX7_inspectLot_7 ?_
  refine r_iconst (v := nI 4294967295) dX7_inspectLot_10 (by decide) ?_
  exact r_iret (ty := .int) dX7_inspectLot_11 rfl rfl ⟨congrArg (fun x => Sum.inl (some (Value.int x))) nI_m1, rfl⟩
set_option maxRecDepth 4000 in
set_option maxHeartbeats 400000 in
theorem o_sort_2 {G : GI} {S : Hp} {w : Nat → Nat} {k o : Nat} {A c g : Nat → Nat} {N : Nat} (h : OR S w k o A c) (hr : Rel c g N) (hal : ∀ l, l < g 0 → A l ≠ 0) {l : Nat} (hl : l < g 0) (hok : ¬ g (90 + 13 * l + 2) = 2) : Fn m_X7_sortLot G [.ref (o), .int (nI (l))] S (some (.int (-3))) S := by
  refine Cn.of rfl (by decide) (Nat.le_of_ble_eq_true rfl) (fun hN hM => ?_)
  show Wx _ G _ 0 [(0, .ref (o)), (1, .int (nI (l)))] [] _
  have hx := OX.refl h
  have h24 := hr.n24
  have hl24 : l < 24 := by omega
  have hAl := hal l hl
  have hL := hr.lot hl
  have hz := hL.z
  have hpr := hL.pr
  refine r_aload_n dX7_sortLot_0 rfl 0 rfl ?_
  refine r_iload_n dX7_sortLot_1 rfl 1 rfl ?_
  refine r_fnV (M2 := m_X7_lotAt) (As := [.int (nI (l))]) (rest := []) (v := some (.ref (A l))) dX7_sortLot_2 cc_X7_sortLot_105 rfl rfl rfl (Nat.le_of_ble_eq_true rfl) hx.1.1.1 rfl rfl (by decide) (o_lotAt hx.1 hr hal (l := l) (by (first | omega | (have := hL.st; have := hL.pr; omega)))) rfl ?_
  refine r_astore_n (lv' := [(2, .ref (A l)), (0, .ref (o)), (1, .int (nI (l)))]) dX7_sortLot_5 rfl (by decide) rfl ?_
  refine r_aload_n dX7_sortLot_6 rfl 0 rfl ?_
  refine r_ifnonnull (tgt := 12) dX7_sortLot_7 (by decide) ?_
  refine r_aload_n dX7_sortLot_12 rfl 1 rfl ?_
  refine r_aload_n dX7_sortLot_13 rfl 0 rfl ?_
  refine r_getI (ci := 7) (k := 0) dX7_sortLot_14 fr_X7_72 (hx.1.lo hl24 hAl).2.1 rfl ?_
  refine Wx.top (hx.1.l0 hl24 hAl) ?_
  refine Wx.topN (hL.h (f := 0) (by decide)) ?_
  refine r_fnV (M2 := m_X7_productAt) (As := [.int (nI (g (90 + 13 * l + 0)))]) (rest := []) (v := some (.ref (o + 12 + (g (90 + 13 * l + 0))))) dX7_sortLot_17 cc_X7_sortLot_75 rfl rfl rfl (Nat.le_of_ble_eq_true rfl) hx.1.1.1 rfl rfl (by decide) (k_productAt hx.1.1 (by (first | omega | (have := hL.st; have := hL.pr; omega)))) rfl ?_
  refine r_astore_n (lv' := [(3, .ref (o + 12 + (g (90 + 13 * l + 0)))), (2, .ref (A l)), (0, .ref (o)), (1, .int (nI (l)))]) dX7_sortLot_20 rfl (by decide) rfl ?_
  refine r_aload_n dX7_sortLot_21 rfl 0 rfl ?_
  refine r_ifnull dX7_sortLot_22 ?_
  refine r_aload_n dX7_sortLot_25 rfl 1 rfl ?_
  refine r_getI (ci := 7) (k := 3) dX7_sortLot_26 fr_X7_108 (hx.1.lo hl24 hAl).2.1 rfl ?_
  refine Wx.top (hx.1.l3 hl24 hAl) ?_
  refine Wx.topN (hL.h (f := 2) (by decide)) ?_
  refine r_iconst (v := nI 2) dX7_sortLot_29 (by decide) ?_
  refine r_icmp_eqN (tgt := 36) dX7_sortLot_30 (by decide) (by (first | omega | (have := hL.st; have := hL.pr; omega))) (by (first | omega | (have := hL.st; have := hL.pr; omega))) (fun h30 => ?_) (fun h30 => ?_)
  · exact absurd h30 hok
  · refine r_bipush (v := nI 4294967293) dX7_sortLot_33 (by decide) ?_
    exact r_iret (ty := .int) dX7_sortLot_35 rfl rfl ⟨congrArg (fun x => Sum.inl (some (Value.int x))) (by decide : nI 4294967293 = -3), rfl⟩
/-- a count of the office goes up -/
theorem Rel.cnt2 {c g : Nat → Nat} {N i : Nat} (hr : Rel c g N) (hi : i = 1 ∨ i = 2) : Rel (up1 c i (g i + 1)) (up1 g i (g i + 1)) (N + 1) := by
  have hc : ∀ j, j ≠ i → up1 c i (g i + 1) j = c j := fun j h => up1_n h
  have hg : ∀ j, j ≠ i → up1 g i (g i + 1) j = g j := fun j h => up1_n h
  have g1 := hr.g1
  have g2 := hr.g2
  refine Rel.head (Nat.le_succ N) (fun j h1 _ => hc j (by omega)) (fun j h1 => hg j (by omega)) (hg 0 (by omega)) ⟨fun j hj => ?_, ?_, ?_, ?_⟩ (fun j hj => ?_) (fun p hp => HdP.congr hp (Nat.le_succ N) (fun j h1 h2 => hc j (by omega)) (fun j h1 h2 => hg j (by omega)) (hr.p hp)) (fun j hj => ?_) (fun p hp => ?_) hr
  · by_cases e : j = i
    · rw [e, up1_s, up1_s]
    · rw [hc j e, hg j e]; exact hr.1.2.1 j hj
  · rw [hg 3 (by omega)]; exact hr.g3
  · by_cases e : i = 1
    · subst e; rw [up1_s]; omega
    · rw [hg 1 (by omega)]; omega
  · by_cases e : i = 2
    · subst e; rw [up1_s]; omega
    · rw [hg 2 (by omega)]; omega
  · obtain ⟨r1, r2, r3, r4⟩ := hr.2.1 j hj
    refine ⟨fun f hf => by rw [hc _ (by omega), hg _ (by omega)]; exact r1 f hf, ?_⟩
    rw [hg _ (by omega), hg _ (by omega), hg _ (by omega)]; exact ⟨r2, r3, by omega⟩
  · rw [hc _ (by omega), hg _ (by omega)]; exact ⟨(hr.2.2.2.1 j hj).1, Nat.le_succ_of_le (hr.2.2.2.1 j hj).2⟩
  · rw [hg _ (by omega)]; exact Nat.le_refl _
theorem Rel.cmpl {c g : Nat → Nat} {N l u : Nat} (hr : Rel c g N) (hl : l < g 0) (hu : u < g (90 + 13 * l + 1)) (h4 : sW (g (402 + 2 * (200 * l + u))) = 4) (hf : fld 9 1 (g (402 + 2 * (200 * l + u))) = 0) : Rel (up1 (up1 c (402 + 8 * (200 * l + u) + 5) 1) 2 (g 2 + 1)) (up1 (up1 g (402 + 2 * (200 * l + u)) (g (402 + 2 * (200 * l + u)) ||| 512)) 2 (g 2 + 1)) (N + 1) := by
  have hL := hr.lot hl
  obtain ⟨w1, w2, w3, w4⟩ := hL.wu hu
  have e : g (402 + 2 * (200 * l + u)) ||| 512 = g (402 + 2 * (200 * l + u)) + 512 := cpl hf
  obtain ⟨a1, a2, a3, a4, a5⟩ := add512 hf
  have hlt : g (402 + 2 * (200 * l + u)) + 512 < 2 ^ 18 := by
    rw [← e]; exact Nat.or_lt_two_pow w1 (by decide)
  have hb : ∀ q, bW (g (402 + 2 * (200 * l + u)) + 512) q = bW (g (402 + 2 * (200 * l + u))) q := fun q => by unfold bW; rw [a2]
  have h1 : Rel (up1 c (402 + 8 * (200 * l + u) + 5) 1) (up1 g (402 + 2 * (200 * l + u)) (g (402 + 2 * (200 * l + u)) ||| 512)) N := by
    rw [e]
    refine Rel.unit hr hl hu (by rw [h4]; decide) (by rw [a3, h4]; decide) (fun i _ hi => up1_n (by omega)) ⟨?_, ?_, ?_, ?_, ?_⟩ hlt (by rw [a4]; exact w2) (by rw [a3]; exact w3) (fun q hq => ?_)
    · rw [up1_n (by omega), a3]; exact hL.u0 hu
    · rw [up1_n (by omega), a2]; exact hL.u1 hu
    · rw [up1_n (by omega), a4]; exact hL.u2 hu
    · rw [up1_n (by omega), frW_congr a5]; exact hL.u3 hu
    · rw [up1_s, a1]
    · rw [hb, a5 q hq]
      exact ⟨(w4 q hq).1, (w4 q hq).2.1, fun a b => ⟨a, b⟩, fun a => a⟩
  have e2 : up1 g (402 + 2 * (200 * l + u)) (g (402 + 2 * (200 * l + u)) ||| 512) 2 = g 2 := up1_n (by omega)
  have h2 := Rel.cnt2 h1 (i := 2) (Or.inr rfl)
  rw [e2] at h2
  exact h2
theorem and15 {a : Nat} : a % 16 &&& 15 = a % 16 := by
  rw [show (15 : Nat) = 2 ^ 4 - 1 from rfl, Nat.and_two_pow_sub_one_eq_mod]
  exact Nat.mod_mod_of_dvd a (by decide)
theorem OFn.args {M : MI} {G : GI} {av av' : List Value} {S : Hp} {w : Nat → Nat} {k o : Nat} {A : Nat → Nat} {v : Option Value} {c : Nat → Nat} (e : av = av') (h : OFn M G av' S w k o A v c) : OFn M G av S w k o A v c := e ▸ h
/-- a row whose ways, defects and parts are the same has the same origins -/
theorem Org.sim {g g' : Nat → Nat} {q : Nat} (hy : ∀ l u, l < 24 → u < 200 → yW (g' (402 + 2 * (200 * l + u))) q = yW (g (402 + 2 * (200 * l + u))) q) (hb : ∀ l u, l < 24 → u < 200 → bW (g' (402 + 2 * (200 * l + u))) q = bW (g (402 + 2 * (200 * l + u))) q) (hp : ∀ l u, l < 24 → u < 200 → g' (402 + 2 * (200 * l + u) + 1) = g (402 + 2 * (200 * l + u) + 1)) (hh : ∀ l j, l < 24 → 8 ≤ j → j < 13 → g' (90 + 13 * l + j) = g (90 + 13 * l + j)) : ∀ {n l u l' u' : Nat}, Org g q n l u l' u' → Org g' q n l u l' u' ∧ cauV g' q l' u' = cauV g q l' u'
  | 0, l, u, l', u', o => by
    obtain ⟨h1, h2, h3, rfl, rfl⟩ := o
    refine ⟨⟨h1, h2, by rw [hy l u h1 h2]; exact h3, rfl, rfl⟩, ?_⟩
    unfold cauV
    rw [hy l u h1 h2, hh l 9 h1 (by decide) (by decide)]
  | n + 1, l, u, l', u', o => by
    obtain ⟨h1, h2, h3, i, hi, hpt, hf, hn, ho⟩ := o
    obtain ⟨r1, r2⟩ := Org.sim hy hb hp hh ho
    have e1 : ∀ j, j < 3 → g' (90 + 13 * l + (10 + j)) = g (90 + 13 * l + (10 + j)) := fun j hj => hh l (10 + j) h1 (by omega) (by omega)
    have e2 := hp l u h1 h2
    refine ⟨⟨h1, h2, by rw [hy l u h1 h2]; exact h3, i, hi, fun j hj => ?_, fun j hj => ?_, ?_, ?_⟩, r2⟩
    · rw [e1 j (by omega), e2]; exact hpt j hj
    · obtain ⟨p1, p2⟩ := hpt j (by omega)
      rw [e1 j (by omega), e2, hb _ _ (by omega) p2]; exact hf j hj
    · obtain ⟨p1, p2⟩ := hpt i (Nat.le_refl i)
      rw [e1 i hi, e2, hb _ _ (by omega) p2]; exact hn
    · rw [e1 i hi, e2]; exact r1
theorem CauC.sim {g g' : Nat → Nat} {l u ks : Nat} {cc : Nat → Nat} (hd : g' (402 + 2 * (200 * l + u)) % 16 = g (402 + 2 * (200 * l + u)) % 16) (hy : ∀ q l u, q < 4 → l < 24 → u < 200 → yW (g' (402 + 2 * (200 * l + u))) q = yW (g (402 + 2 * (200 * l + u))) q) (hb : ∀ q l u, q < 4 → l < 24 → u < 200 → bW (g' (402 + 2 * (200 * l + u))) q = bW (g (402 + 2 * (200 * l + u))) q) (hp : ∀ l u, l < 24 → u < 200 → g' (402 + 2 * (200 * l + u) + 1) = g (402 + 2 * (200 * l + u) + 1)) (hh : ∀ l j, l < 24 → 8 ≤ j → j < 13 → g' (90 + 13 * l + j) = g (90 + 13 * l + j)) (h : CauC g l u ks cc) : CauC g' l u ks cc :=
  ⟨h.1, fun q hq hb9 => by
    rw [hd] at hb9
    obtain ⟨n, l', u', ho, he⟩ := h.2 q hq hb9
    obtain ⟨r1, r2⟩ := Org.sim (hy q · · hq) (hb q · · hq) hp hh ho
    exact ⟨n, l', u', r1, he.trans r2.symm⟩⟩
theorem blmI_cpl {g cc : Nat → Nat} {l u ks v z : Nat} (hv : v % 16 = g (402 + 2 * (200 * l + u)) % 16) (h6 : ∀ q, cc q ≤ 6) : ∀ q, q ≤ 4 → blmI (up1 (up1 g (402 + 2 * (200 * l + u)) v) 2 z) cc l u ks q = up1 (up1 (blmI g cc l u ks q) (402 + 2 * (200 * l + u)) v) 2 z
  | 0, _ => rfl
  | q + 1, hq => by
    have ih := blmI_cpl (ks := ks) (z := z) hv h6 q (by omega)
    have hd : up1 (up1 g (402 + 2 * (200 * l + u)) v) 2 z (402 + 2 * (200 * l + u)) % 16 = g (402 + 2 * (200 * l + u)) % 16 := by rw [up1_n (by omega), up1_s]; exact hv
    have := h6 q
    by_cases c : (g (402 + 2 * (200 * l + u)) % 16 &&& ks) / 2 ^ q % 2 = 1
    · rw [blmI_t c, blmI_t (by rw [hd]; exact c), ih, up1_n (f := up1 _ _ _) (i := 2) (by omega), up1_n (f := blmI g cc l u ks q) (by omega)]
      funext i
      by_cases e1 : i = 62 + 4 * cc q + q
      · rw [e1, up1_s, up1_n (by omega), up1_n (by omega), up1_s]
      · rw [up1_n e1]
        by_cases e2 : i = 2
        · rw [e2, up1_s, up1_s]
        · rw [up1_n e2, up1_n e2]
          by_cases e3 : i = 402 + 2 * (200 * l + u)
          · rw [e3, up1_s, up1_s]
          · rw [up1_n e3, up1_n e3, up1_n e1]
    · rw [blmI_f c, blmI_f (by rw [hd]; exact c), ih]
set_option maxRecDepth 4000 in
set_option maxHeartbeats 400000 in
theorem ch_complain {G : GI} {S : Hp} {w : Nat → Nat} {k o : Nat} {A c g : Nat → Nat} {N : Nat} (h : OR S w k o A c) (hr : Rel c g N) (hal : ∀ l, l < g 0 → A l ≠ 0) {l : Nat} (hl : l < g 0) {u : Nat} (hu : u < g (90 + 13 * l + 1)) {cc : Nat → Nat} (hok : ¬ (¬ sW (g (402 + 2 * (200 * l + u))) = 4 ∨ g (402 + 2 * (200 * l + u)) / 2 ^ 9 % 2 = 1)) (hd : ¬ g (402 + 2 * (200 * l + u)) % 16 = 0) (hcc : CauC g l u 15 cc) : OCh m_X7_putDownComplaint G [.ref (o), .int (nI (l)), .int (nI (u))] S w k o A (some (.int (nI (g 2 + 1)))) (blmG (up1 (up1 g (402 + 2 * (200 * l + u)) (g (402 + 2 * (200 * l + u)) ||| 512)) 2 (g 2 + 1)) cc l u 15) (N + 1 + 4) := by
  refine Cn.of rfl (by decide) (Nat.le_of_ble_eq_true rfl) (fun hN hM => ?_)
  show Wx _ G _ 0 [(0, .ref (o)), (1, .int (nI (l))), (2, .int (nI (u)))] [] _
  have hx := OX.refl h
  have h24 := hr.n24
  have hl24 : l < 24 := by omega
  have hAl := hal l hl
  have hL := hr.lot hl
  have hz := hL.z
  have h4 : sW (g (402 + 2 * (200 * l + u))) = 4 := Classical.not_not.mp fun q9 => hok (Or.inl q9)
  have hf0 : fld 9 1 (g (402 + 2 * (200 * l + u))) = 0 := by
    have h1 := fld_lt 9 1 (g (402 + 2 * (200 * l + u)))
    have h2 : ¬ fld 9 1 (g (402 + 2 * (200 * l + u))) = 1 := fun q9 => hok (Or.inr q9)
    omega
  refine r_aload_n dX7_putDownComplaint_0 rfl 0 rfl ?_
  refine r_iload_n dX7_putDownComplaint_1 rfl 1 rfl ?_
  refine r_fnV (M2 := m_X7_lotAt) (As := [.int (nI (l))]) (rest := []) (v := some (.ref (A l))) dX7_putDownComplaint_2 cc_X7_putDownComplaint_105 rfl rfl rfl (Nat.le_of_ble_eq_true rfl) hx.1.1.1 rfl rfl (by decide) (o_lotAt hx.1 hr hal (l := l) (by (first | omega | (have := sW_lt (g (402 + 2 * (200 * l + u))); have := fld_lt 9 1 (g (402 + 2 * (200 * l + u))); omega)))) rfl ?_
  refine r_astore_n (lv' := [(3, .ref (A l)), (0, .ref (o)), (1, .int (nI (l))), (2, .int (nI (u)))]) dX7_putDownComplaint_5 rfl (by decide) rfl ?_
  refine r_aload_n dX7_putDownComplaint_6 rfl 0 rfl ?_
  refine r_ifnull dX7_putDownComplaint_7 ?_
  refine r_aload_n dX7_putDownComplaint_10 rfl 0 rfl ?_
  refine r_iload_n dX7_putDownComplaint_11 rfl 3 rfl ?_
  refine r_fnV (M2 := m_X5_has) (As := [.int (nI (u))]) (rest := []) (v := some (.int (nI (1)))) dX7_putDownComplaint_12 cc_X7_putDownComplaint_213 rfl rfl rfl (Nat.le_of_ble_eq_true rfl) (hx.1.lo hl24 hAl).2.1 rfl rfl (by decide) (o_has hx.1 hr hal (l := l) (by (first | omega | (have := sW_lt (g (402 + 2 * (200 * l + u))); have := fld_lt 9 1 (g (402 + 2 * (200 * l + u))); omega))) (by (first | omega | (have := sW_lt (g (402 + 2 * (200 * l + u))); have := fld_lt 9 1 (g (402 + 2 * (200 * l + u))); omega)))) rfl ?_
  refine r_if_neN (tgt := 20) dX7_putDownComplaint_15 (by decide) (by (first | omega | (have := sW_lt (g (402 + 2 * (200 * l + u))); have := fld_lt 9 1 (g (402 + 2 * (200 * l + u))); omega))) (fun zz15 => ?_) (fun zz15 => ?_)
  · refine r_aload_n dX7_putDownComplaint_20 rfl 0 rfl ?_
    refine r_getR (ci := 7) (k := 11) (b := A l + 2) dX7_putDownComplaint_21 fr_X7_137 (hx.1.lo hl24 hAl).2.1 rfl (hx.1.lo hl24 hAl).2.2.1.2.1 ?_
    refine r_iload_n dX7_putDownComplaint_24 rfl 3 rfl ?_
    refine r_iald dX7_putDownComplaint_25 (hx.1.lo hl24 hAl).2.2.2.2.1.1 (by rw [show zN S (A l + 2) = 200 from (hx.1.lo hl24 hAl).2.2.2.2.1.2]; exact vp_in_nI (by (first | omega | (have := sW_lt (g (402 + 2 * (200 * l + u))); have := fld_lt 9 1 (g (402 + 2 * (200 * l + u))); omega))) (by decide)) ?_
    refine Wx.top (congrArg (zA _ _) (nI_clamp (by (first | omega | (have := sW_lt (g (402 + 2 * (200 * l + u))); have := fld_lt 9 1 (g (402 + 2 * (200 * l + u))); omega))))) ?_
    refine Wx.top (hx.1.u0 (u := u) hl24 hAl (by (first | omega | (have := sW_lt (g (402 + 2 * (200 * l + u))); have := fld_lt 9 1 (g (402 + 2 * (200 * l + u))); omega)))) ?_
    refine Wx.topN (hL.u0 (u := u) (by (first | omega | (have := sW_lt (g (402 + 2 * (200 * l + u))); have := fld_lt 9 1 (g (402 + 2 * (200 * l + u))); omega)))) ?_
    refine r_iconst (v := nI 4) dX7_putDownComplaint_26 (by decide) ?_
    refine r_icmp_neN (tgt := 39) dX7_putDownComplaint_27 (by decide) (by (first | omega | (have := sW_lt (g (402 + 2 * (200 * l + u))); have := fld_lt 9 1 (g (402 + 2 * (200 * l + u))); omega))) (by (first | omega | (have := sW_lt (g (402 + 2 * (200 * l + u))); have := fld_lt 9 1 (g (402 + 2 * (200 * l + u))); omega))) (fun h27 => ?_) (fun h27 => ?_)
    · exact absurd h4 h27
    · refine r_aload_n dX7_putDownComplaint_30 rfl 0 rfl ?_
      refine r_getR (ci := 7) (k := 16) (b := A l + 7) dX7_putDownComplaint_31 fr_X7_217 (hx.1.lo hl24 hAl).2.1 rfl (hx.1.lo hl24 hAl).2.2.1.2.2.2.2.2.2 ?_
      refine r_iload_n dX7_putDownComplaint_34 rfl 3 rfl ?_
      refine r_iald dX7_putDownComplaint_35 (hx.1.lo hl24 hAl).2.2.2.2.2.2.2.2.2.1 (by rw [show zN S (A l + 7) = 200 from (hx.1.lo hl24 hAl).2.2.2.2.2.2.2.2.2.2]; exact vp_in_nI (by (first | omega | (have := sW_lt (g (402 + 2 * (200 * l + u))); have := fld_lt 9 1 (g (402 + 2 * (200 * l + u))); omega))) (by decide)) ?_
      refine Wx.top (congrArg (zA _ _) (nI_clamp (by (first | omega | (have := sW_lt (g (402 + 2 * (200 * l + u))); have := fld_lt 9 1 (g (402 + 2 * (200 * l + u))); omega))))) ?_
      refine Wx.top (hx.1.u5 (u := u) hl24 hAl (by (first | omega | (have := sW_lt (g (402 + 2 * (200 * l + u))); have := fld_lt 9 1 (g (402 + 2 * (200 * l + u))); omega)))) ?_
      refine Wx.topN (hL.u5 (u := u) (by (first | omega | (have := sW_lt (g (402 + 2 * (200 * l + u))); have := fld_lt 9 1 (g (402 + 2 * (200 * l + u))); omega)))) ?_
      refine r_if_eqN (tgt := 42) dX7_putDownComplaint_36 (by decide) (by (first | omega | (have := sW_lt (g (402 + 2 * (200 * l + u))); have := fld_lt 9 1 (g (402 + 2 * (200 * l + u))); omega))) (fun h36 => ?_) (fun h36 => ?_)
      · refine r_aload_n dX7_putDownComplaint_42 rfl 0 rfl ?_
        refine r_getR (ci := 7) (k := 12) (b := A l + 3) dX7_putDownComplaint_43 fr_X7_147 (hx.1.lo hl24 hAl).2.1 rfl (hx.1.lo hl24 hAl).2.2.1.2.2.1 ?_
        refine r_iload_n dX7_putDownComplaint_46 rfl 3 rfl ?_
        refine r_iald dX7_putDownComplaint_47 (hx.1.lo hl24 hAl).2.2.2.2.2.1.1 (by rw [show zN S (A l + 3) = 200 from (hx.1.lo hl24 hAl).2.2.2.2.2.1.2]; exact vp_in_nI (by (first | omega | (have := sW_lt (g (402 + 2 * (200 * l + u))); have := fld_lt 9 1 (g (402 + 2 * (200 * l + u))); omega))) (by decide)) ?_
        refine Wx.top (congrArg (zA _ _) (nI_clamp (by (first | omega | (have := sW_lt (g (402 + 2 * (200 * l + u))); have := fld_lt 9 1 (g (402 + 2 * (200 * l + u))); omega))))) ?_
        refine Wx.top (hx.1.u1 (u := u) hl24 hAl (by (first | omega | (have := sW_lt (g (402 + 2 * (200 * l + u))); have := fld_lt 9 1 (g (402 + 2 * (200 * l + u))); omega)))) ?_
        refine Wx.topN (hL.u1 (u := u) (by (first | omega | (have := sW_lt (g (402 + 2 * (200 * l + u))); have := fld_lt 9 1 (g (402 + 2 * (200 * l + u))); omega)))) ?_
        refine r_if_neN (tgt := 54) dX7_putDownComplaint_48 (by decide) (by (first | omega | (have := sW_lt (g (402 + 2 * (200 * l + u))); have := fld_lt 9 1 (g (402 + 2 * (200 * l + u))); omega))) (fun h48 => ?_) (fun h48 => ?_)
        · refine r_aload_n dX7_putDownComplaint_54 rfl 0 rfl ?_
          refine r_getR (ci := 7) (k := 16) (b := A l + 7) dX7_putDownComplaint_55 fr_X7_217 (hx.1.lo hl24 hAl).2.1 rfl (hx.1.lo hl24 hAl).2.2.1.2.2.2.2.2.2 ?_
          refine r_iload_n dX7_putDownComplaint_58 rfl 3 rfl ?_
          refine r_iconst (v := nI 1) dX7_putDownComplaint_59 (by decide) ?_
          refine r_iast dX7_putDownComplaint_60 (hx.1.lo hl24 hAl).2.2.2.2.2.2.2.2.2.1 (by rw [show zN S (A l + 7) = 200 from (hx.1.lo hl24 hAl).2.2.2.2.2.2.2.2.2.2]; exact vp_in_nI (by (first | omega | (have := sW_lt (g (402 + 2 * (200 * l + u))); have := fld_lt 9 1 (g (402 + 2 * (200 * l + u))); omega))) (by decide)) ?_
          refine Wx.st' (S' := uA S (A l + 7) (u) (nI (1))) (by rw [nI_clamp (by (first | omega | (have := sW_lt (g (402 + 2 * (200 * l + u))); have := fld_lt 9 1 (g (402 + 2 * (200 * l + u))); omega)))]) ?_
          refine Wx.gx ((hx.U (f := 5) (u := u) hl24 hAl (by (first | omega | (have := sW_lt (g (402 + 2 * (200 * l + u))); have := fld_lt 9 1 (g (402 + 2 * (200 * l + u))); omega))) (by decide))) (fun T (hx : OX S w A T w k o A (up1 c (402 + 8 * (200 * l + u) + 5) (1))) => ?_)
          refine r_aload_n dX7_putDownComplaint_61 rfl 1 rfl ?_
          refine r_dup dX7_putDownComplaint_62 rfl ?_
          refine r_getI (ci := 9) (k := 6) dX7_putDownComplaint_63 fr_X7_65 hx.1.1.1 rfl ?_
          refine Wx.top hx.1.o2 ?_
          refine Wx.topN (up1_n (by (first | omega | (have := sW_lt (g (402 + 2 * (200 * l + u))); have := fld_lt 9 1 (g (402 + 2 * (200 * l + u))); omega)))) ?_
          refine Wx.topN hr.c2 ?_
          refine r_iconst (v := nI 1) dX7_putDownComplaint_66 (by decide) ?_
          refine r_iaddN dX7_putDownComplaint_67 ?_
          refine r_putI (ci := 9) (k := 6) dX7_putDownComplaint_68 fw_X7_putDownComplaint_65 hx.1.1.1 rfl rfl rfl ?_
          refine Wx.gx (hx.O2) (fun T_1 (hx_1 : OX S w A T_1 w k o A (up1 (up1 c (402 + 8 * (200 * l + u) + 5) (1)) (2) (g 2 + 1))) => ?_)
          refine r_aload_n dX7_putDownComplaint_71 rfl 1 rfl ?_
          refine r_iload_n dX7_putDownComplaint_72 rfl 2 rfl ?_
          refine r_iload_n dX7_putDownComplaint_73 rfl 3 rfl ?_
          refine r_aload_n dX7_putDownComplaint_74 rfl 0 rfl ?_
          refine r_getR (ci := 7) (k := 12) (b := A l + 3) dX7_putDownComplaint_75 fr_X7_147 (hx_1.1.lo hl24 hAl).2.1 rfl (hx_1.1.lo hl24 hAl).2.2.1.2.2.1 ?_
          refine r_iload_n dX7_putDownComplaint_78 rfl 3 rfl ?_
          refine r_iald dX7_putDownComplaint_79 (hx_1.1.lo hl24 hAl).2.2.2.2.2.1.1 (by rw [show zN T_1 (A l + 3) = 200 from (hx_1.1.lo hl24 hAl).2.2.2.2.2.1.2]; exact vp_in_nI (by (first | omega | (have := sW_lt (g (402 + 2 * (200 * l + u))); have := fld_lt 9 1 (g (402 + 2 * (200 * l + u))); omega))) (by decide)) ?_
          refine Wx.top (congrArg (zA _ _) (nI_clamp (by (first | omega | (have := sW_lt (g (402 + 2 * (200 * l + u))); have := fld_lt 9 1 (g (402 + 2 * (200 * l + u))); omega))))) ?_
          refine Wx.top (hx_1.1.u1 (u := u) hl24 hAl (by (first | omega | (have := sW_lt (g (402 + 2 * (200 * l + u))); have := fld_lt 9 1 (g (402 + 2 * (200 * l + u))); omega)))) ?_
          refine Wx.topN (up1_n (by (first | omega | (have := sW_lt (g (402 + 2 * (200 * l + u))); have := fld_lt 9 1 (g (402 + 2 * (200 * l + u))); omega)))) ?_
          refine Wx.topN (up1_n (by (first | omega | (have := sW_lt (g (402 + 2 * (200 * l + u))); have := fld_lt 9 1 (g (402 + 2 * (200 * l + u))); omega)))) ?_
          refine Wx.topN (hL.u1 (u := u) (by (first | omega | (have := sW_lt (g (402 + 2 * (200 * l + u))); have := fld_lt 9 1 (g (402 + 2 * (200 * l + u))); omega)))) ?_
          have hrc := Rel.cmpl hr hl hu h4 hf0
          have hg9 : ∀ i, i ≠ 2 → i ≠ 402 + 2 * (200 * l + u) → (up1 (up1 g (402 + 2 * (200 * l + u)) (g (402 + 2 * (200 * l + u)) ||| 512)) 2 (g 2 + 1)) i = g i := fun i h1 h2 => by rw [up1_n h1, up1_n h2]
          have hgu : (up1 (up1 g (402 + 2 * (200 * l + u)) (g (402 + 2 * (200 * l + u)) ||| 512)) 2 (g 2 + 1)) (402 + 2 * (200 * l + u)) % 16 = g (402 + 2 * (200 * l + u)) % 16 := by rw [up1_n (by omega), up1_s, cpl hf0]; exact (add512 hf0).2.1
          have hcc2 : CauC (up1 (up1 g (402 + 2 * (200 * l + u)) (g (402 + 2 * (200 * l + u)) ||| 512)) 2 (g 2 + 1)) l u 15 cc := by
            obtain ⟨a1, a2, a3, a4, a5⟩ := add512 hf0
            have ey : ∀ a b, b < 200 → (up1 (up1 g (402 + 2 * (200 * l + u)) (g (402 + 2 * (200 * l + u)) ||| 512)) 2 (g 2 + 1)) (402 + 2 * (200 * a + b)) = g (402 + 2 * (200 * a + b)) ∨ ((up1 (up1 g (402 + 2 * (200 * l + u)) (g (402 + 2 * (200 * l + u)) ||| 512)) 2 (g 2 + 1)) (402 + 2 * (200 * a + b)) = g (402 + 2 * (200 * l + u)) + 512 ∧ 402 + 2 * (200 * a + b) = 402 + 2 * (200 * l + u)) := fun a b _ => by
              by_cases e : 402 + 2 * (200 * a + b) = 402 + 2 * (200 * l + u)
              · refine Or.inr ⟨?_, e⟩
                rw [e, up1_n (by omega), up1_s]; exact cpl hf0
              · exact Or.inl (hg9 _ (by omega) e)
            refine CauC.sim hgu (fun q a b hq _ hb => ?_) (fun q a b hq _ hb => ?_) (fun a b _ _ => hg9 _ (by omega) (by omega)) (fun a j _ _ _ => hg9 _ (by omega) (by omega)) hcc
            · rcases ey a b hb with e | ⟨e, e2⟩
              · rw [e]
              · rw [e, e2]; exact a5 q hq
            · rcases ey a b hb with e | ⟨e, e2⟩
              · rw [e]
              · rw [e, e2]; unfold bW; rw [a2]
          have hcg : (up1 (up1 c (402 + 8 * (200 * l + u) + 5) (1)) (2) (g 2 + 1)) = up1 (up1 c (402 + 8 * (200 * l + u) + 5) 1) 2 (g 2 + 1) := rfl
          refine r_ofV (M2 := m_X7_blameDefects) (As := [.int (nI (l)), .int (nI (u)), .int (nI (g (402 + 2 * (200 * l + u)) % 16))]) (rest := []) (v := none) dX7_putDownComplaint_80 cc_X7_putDownComplaint_183 rfl rfl rfl (Nat.le_of_ble_eq_true rfl) hx_1.1.1.1 rfl rfl (by decide) hx_1 (OFn.args (by rw [hgu, and15]) (o_blame hx_1.1 hrc (fun z hz9 => hal z (by rw [hg9 0 (by omega) (by omega)] at hz9; exact hz9)) (l := l) (by rw [hg9 0 (by omega) (by omega)]; exact hl) (u := u) (by rw [hg9 _ (by omega) (by omega)]; exact hu) (by decide) hcc2)) rfl (fun T_2 (hx_2 : OX S w A T_2 w k o A (mrg (up1 (up1 c (402 + 8 * (200 * l + u) + 5) (1)) (2) (g 2 + 1)) (blmG (up1 (up1 g (402 + 2 * (200 * l + u)) (g (402 + 2 * (200 * l + u)) ||| 512)) 2 (g 2 + 1)) cc l u 15))) => ?_)
          refine r_aload_n dX7_putDownComplaint_83 rfl 1 rfl ?_
          refine r_getI (ci := 9) (k := 6) dX7_putDownComplaint_84 fr_X7_65 hx_2.1.1.1 rfl ?_
          refine Wx.top hx_2.1.o2 ?_
          refine Wx.topN (mrg_n (by decide)) ?_
          refine Wx.topN up1_s ?_
          exact r_iret (ty := .int) dX7_putDownComplaint_87 rfl rfl ⟨rfl, w, A, _, hx_2, Rel.blm (Nat.le_add_right _ 4) (fun i hi => blmG_n hcc.1 hi) (blmI_le (fun j hj => hrc.bb hj) 4) hrc, (fun z hz9 => hal z (by rw [blmG_n hcc.1 (by omega), hg9 0 (by omega) (by omega)] at hz9; exact hz9))⟩
        · exact absurd h48 hd
      · exact absurd hf0 h36
  · exact absurd zz15 (by decide)
