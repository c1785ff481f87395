/-! THE CLASS CARRIES A COMMAND OUT -/
set_option maxRecDepth 4000 in
set_option maxHeartbeats 400000 in
theorem x_carry_0 {G : GI} {F : Nat → Prop} {S0 S : Hp} {w : Nat → Nat} {x : Nat} {K : Nat → Nat} {E : Nat → Nat → Nat} {A c : Nat → Nat → Nat} {bx bu : Nat} (h : XF F S0 S w x K E A c bx bu) (hk0 : K 0 < 11) (hK : K 11 = gK G 1 0 + 1) {v0 v1 v2 : Nat} (e0 : E (1000 + 0) 53 = v0) (e1 : E (1000 + 1) 53 = v1) (e2 : E (1000 + 2) 53 = v2) {v : Int32} {g' : Nat → Nat} {N' : Nat} (hop : OCh m_X7_setMachine G [.ref (Pl x (K 0)), .int (nI (v0)), .int (nI (v1)), .int (nI (v2))] S w (K 0) (Pl x (K 0)) (A (K 0)) (some (.int v)) g' N') : Cn m_X12_carryOut G [.ref x] S (fun r T => r = .inl (some (.int v)) ∧ ∃ w' A' c', XF F S0 T w' x K E (up1 A (K 0) A') (up1 c (K 0) c') bx bu ∧ Hol A' c' g' N') := by
  refine Cn.of rfl (by decide) (Nat.le_of_ble_eq_true rfl) (fun hN hM => ?_)
  show Wx _ G _ 0 [(0, .ref (x))] [] _
  refine r_aload_n dX12_carryOut_0 rfl 0 rfl ?_
  refine r_getR (ci := 13) (k := 8) (b := x + 51) dX12_carryOut_1 fr_X12_35 h.1.t0 rfl h.1.p424 ?_
  refine r_getR (ci := 5) (k := 5) (b := gK G 1 0) dX12_carryOut_4 fr_X12_379 h.1.t51 rfl (h.1.p165.trans ((congrArg wdP hK).trans wdP_s)) ?_
  refine r_astore_n (lv' := [(1, .ref (gK G 1 0)), (0, .ref (x))]) dX12_carryOut_7 rfl (by decide) rfl ?_
  refine r_aload_n dX12_carryOut_8 rfl 0 rfl ?_
  refine r_ifnonnull (tgt := 14) dX12_carryOut_9 (by decide) ?_
  refine r_aload_n dX12_carryOut_14 rfl 1 rfl ?_
  refine r_getR (ci := 13) (k := 8) (b := x + 51) dX12_carryOut_15 fr_X12_35 h.1.t0 rfl h.1.p424 ?_
  refine r_getR (ci := 5) (k := 6) (b := x + 53) dX12_carryOut_18 fr_X12_383 h.1.t51 rfl h.1.p166 ?_
  refine r_astore_n (lv' := [(2, .ref (x + 53)), (1, .ref (gK G 1 0)), (0, .ref (x))]) dX12_carryOut_21 rfl (by decide) rfl ?_
  refine r_gets (C := "LotInspector$1") (n := "$SwitchMap$LotInspector$Word") (d := "[I") (v := .ref (gK G 0 2)) (fun U h => h.2.1.2.2.2.2.1) dX12_carryOut_22 (sg6 86 rfl rfl) ?_
  refine r_aload_n dX12_carryOut_25 rfl 1 rfl ?_
  refine r_ordinal (k := 0) (by decide) dX12_carryOut_26 (by decide) ml_ordinal (Nat.le_of_ble_eq_true rfl) ?_
  refine r_ialdT (fun U h => h.2.1.2.2.2.2.2.1) dX12_carryOut_29 (vp_in_nI (by decide) (by decide)) ?_
  refine Wx.top (x := swMap (nI 0).toNatClampNeg) (y := nI 1) (by decide) ?_
  refine r_tableIn (off := 50) (tgt := 80) dX12_carryOut_30 (by decide) (by decide) rfl (by decide) ?_
  refine r_aload_n dX12_carryOut_80 rfl 2 rfl ?_
  refine r_getR (ci := 13) (k := 0) (b := Pl x (K 0)) dX12_carryOut_81 fr_X12_10 h.1.t0 rfl h.1.p416 ?_
  refine r_aload_n dX12_carryOut_84 rfl 0 rfl ?_
  refine r_iconst (v := nI 0) dX12_carryOut_85 (by decide) ?_
  refine r_iald dX12_carryOut_86 h.1.t53 (by rw [show zN S (x + 53) = 6 from h.1.n53]; exact vp_in_nI (by omega) (by decide)) ?_
  refine Wx.top (congrArg (zA _ _) (nI_clamp (by omega))) ?_
  refine Wx.top (h.1.a (i := 0) (by decide)) ?_
  refine Wx.topN e0 ?_
  refine r_aload_n dX12_carryOut_87 rfl 0 rfl ?_
  refine r_iconst (v := nI 1) dX12_carryOut_88 (by decide) ?_
  refine r_iald dX12_carryOut_89 h.1.t53 (by rw [show zN S (x + 53) = 6 from h.1.n53]; exact vp_in_nI (by omega) (by decide)) ?_
  refine Wx.top (congrArg (zA _ _) (nI_clamp (by omega))) ?_
  refine Wx.top (h.1.a (i := 1) (by decide)) ?_
  refine Wx.topN e1 ?_
  refine r_aload_n dX12_carryOut_90 rfl 0 rfl ?_
  refine r_iconst (v := nI 2) dX12_carryOut_91 (by decide) ?_
  refine r_iald dX12_carryOut_92 h.1.t53 (by rw [show zN S (x + 53) = 6 from h.1.n53]; exact vp_in_nI (by omega) (by decide)) ?_
  refine Wx.top (congrArg (zA _ _) (nI_clamp (by omega))) ?_
  refine Wx.top (h.1.a (i := 2) (by decide)) ?_
  refine Wx.topN e2 ?_
  refine r_callV (M2 := m_X7_setMachine) (As := [.int (nI (v0)), .int (nI (v1)), .int (nI (v2))]) (rest := []) dX12_carryOut_93 cc_X12_carryOut_71 rfl rfl rfl (Nat.le_of_ble_eq_true rfl) (h.1.off' hk0).1.1 rfl rfl (by decide) hop (fun v9 T1 hq => ?_) (fun E9 T9 hq => by obtain ⟨hq, -⟩ := hq; cases hq)
  obtain ⟨hv9, w', A', c', hox, hrl, hal⟩ := hq
  cases hv9
  exact r_iret (ty := .int) dX12_carryOut_96 rfl rfl ⟨rfl, w', A', c', h.off hk0 hox, hrl, hal⟩
set_option maxRecDepth 4000 in
set_option maxHeartbeats 400000 in
theorem x_carry_1 {G : GI} {F : Nat → Prop} {S0 S : Hp} {w : Nat → Nat} {x : Nat} {K : Nat → Nat} {E : Nat → Nat → Nat} {A c : Nat → Nat → Nat} {bx bu : Nat} (h : XF F S0 S w x K E A c bx bu) (hk0 : K 0 < 11) (hK : K 11 = gK G 1 1 + 1) {v0 v1 v2 v3 : Nat} (e0 : E (1000 + 0) 53 = v0) (e1 : E (1000 + 1) 53 = v1) (e2 : E (1000 + 2) 53 = v2) (e3 : E (1000 + 3) 53 = v3) {v : Int32} {g' : Nat → Nat} {N' : Nat} (hop : OCh m_X7_setProduct G [.ref (Pl x (K 0)), .int (nI (v0)), .int (nI (v1)), .int (nI (v2)), .int (nI (v3))] S w (K 0) (Pl x (K 0)) (A (K 0)) (some (.int v)) g' N') : Cn m_X12_carryOut G [.ref x] S (fun r T => r = .inl (some (.int v)) ∧ ∃ w' A' c', XF F S0 T w' x K E (up1 A (K 0) A') (up1 c (K 0) c') bx bu ∧ Hol A' c' g' N') := by
  refine Cn.of rfl (by decide) (Nat.le_of_ble_eq_true rfl) (fun hN hM => ?_)
  show Wx _ G _ 0 [(0, .ref (x))] [] _
  refine r_aload_n dX12_carryOut_0 rfl 0 rfl ?_
  refine r_getR (ci := 13) (k := 8) (b := x + 51) dX12_carryOut_1 fr_X12_35 h.1.t0 rfl h.1.p424 ?_
  refine r_getR (ci := 5) (k := 5) (b := gK G 1 1) dX12_carryOut_4 fr_X12_379 h.1.t51 rfl (h.1.p165.trans ((congrArg wdP hK).trans wdP_s)) ?_
  refine r_astore_n (lv' := [(1, .ref (gK G 1 1)), (0, .ref (x))]) dX12_carryOut_7 rfl (by decide) rfl ?_
  refine r_aload_n dX12_carryOut_8 rfl 0 rfl ?_
  refine r_ifnonnull (tgt := 14) dX12_carryOut_9 (by decide) ?_
  refine r_aload_n dX12_carryOut_14 rfl 1 rfl ?_
  refine r_getR (ci := 13) (k := 8) (b := x + 51) dX12_carryOut_15 fr_X12_35 h.1.t0 rfl h.1.p424 ?_
  refine r_getR (ci := 5) (k := 6) (b := x + 53) dX12_carryOut_18 fr_X12_383 h.1.t51 rfl h.1.p166 ?_
  refine r_astore_n (lv' := [(2, .ref (x + 53)), (1, .ref (gK G 1 1)), (0, .ref (x))]) dX12_carryOut_21 rfl (by decide) rfl ?_
  refine r_gets (C := "LotInspector$1") (n := "$SwitchMap$LotInspector$Word") (d := "[I") (v := .ref (gK G 0 2)) (fun U h => h.2.1.2.2.2.2.1) dX12_carryOut_22 (sg6 86 rfl rfl) ?_
  refine r_aload_n dX12_carryOut_25 rfl 1 rfl ?_
  refine r_ordinal (k := 1) (by decide) dX12_carryOut_26 (by decide) ml_ordinal (Nat.le_of_ble_eq_true rfl) ?_
  refine r_ialdT (fun U h => h.2.1.2.2.2.2.2.1) dX12_carryOut_29 (vp_in_nI (by decide) (by decide)) ?_
  refine Wx.top (x := swMap (nI 1).toNatClampNeg) (y := nI 2) (by decide) ?_
  refine r_tableIn (off := 67) (tgt := 97) dX12_carryOut_30 (by decide) (by decide) rfl (by decide) ?_
  refine r_aload_n dX12_carryOut_97 rfl 2 rfl ?_
  refine r_getR (ci := 13) (k := 0) (b := Pl x (K 0)) dX12_carryOut_98 fr_X12_10 h.1.t0 rfl h.1.p416 ?_
  refine r_aload_n dX12_carryOut_101 rfl 0 rfl ?_
  refine r_iconst (v := nI 0) dX12_carryOut_102 (by decide) ?_
  refine r_iald dX12_carryOut_103 h.1.t53 (by rw [show zN S (x + 53) = 6 from h.1.n53]; exact vp_in_nI (by omega) (by decide)) ?_
  refine Wx.top (congrArg (zA _ _) (nI_clamp (by omega))) ?_
  refine Wx.top (h.1.a (i := 0) (by decide)) ?_
  refine Wx.topN e0 ?_
  refine r_aload_n dX12_carryOut_104 rfl 0 rfl ?_
  refine r_iconst (v := nI 1) dX12_carryOut_105 (by decide) ?_
  refine r_iald dX12_carryOut_106 h.1.t53 (by rw [show zN S (x + 53) = 6 from h.1.n53]; exact vp_in_nI (by omega) (by decide)) ?_
  refine Wx.top (congrArg (zA _ _) (nI_clamp (by omega))) ?_
  refine Wx.top (h.1.a (i := 1) (by decide)) ?_
  refine Wx.topN e1 ?_
  refine r_aload_n dX12_carryOut_107 rfl 0 rfl ?_
  refine r_iconst (v := nI 2) dX12_carryOut_108 (by decide) ?_
  refine r_iald dX12_carryOut_109 h.1.t53 (by rw [show zN S (x + 53) = 6 from h.1.n53]; exact vp_in_nI (by omega) (by decide)) ?_
  refine Wx.top (congrArg (zA _ _) (nI_clamp (by omega))) ?_
  refine Wx.top (h.1.a (i := 2) (by decide)) ?_
  refine Wx.topN e2 ?_
  refine r_aload_n dX12_carryOut_110 rfl 0 rfl ?_
  refine r_iconst (v := nI 3) dX12_carryOut_111 (by decide) ?_
  refine r_iald dX12_carryOut_112 h.1.t53 (by rw [show zN S (x + 53) = 6 from h.1.n53]; exact vp_in_nI (by omega) (by decide)) ?_
  refine Wx.top (congrArg (zA _ _) (nI_clamp (by omega))) ?_
  refine Wx.top (h.1.a (i := 3) (by decide)) ?_
  refine Wx.topN e3 ?_
  refine r_callV (M2 := m_X7_setProduct) (As := [.int (nI (v0)), .int (nI (v1)), .int (nI (v2)), .int (nI (v3))]) (rest := []) dX12_carryOut_113 cc_X12_carryOut_92 rfl rfl rfl (Nat.le_of_ble_eq_true rfl) (h.1.off' hk0).1.1 rfl rfl (by decide) hop (fun v9 T1 hq => ?_) (fun E9 T9 hq => by obtain ⟨hq, -⟩ := hq; cases hq)
  obtain ⟨hv9, w', A', c', hox, hrl, hal⟩ := hq
  cases hv9
  exact r_iret (ty := .int) dX12_carryOut_116 rfl rfl ⟨rfl, w', A', c', h.off hk0 hox, hrl, hal⟩
set_option maxRecDepth 4000 in
set_option maxHeartbeats 400000 in
theorem x_carry_2 {G : GI} {F : Nat → Prop} {S0 S : Hp} {w : Nat → Nat} {x : Nat} {K : Nat → Nat} {E : Nat → Nat → Nat} {A c : Nat → Nat → Nat} {bx bu : Nat} (h : XF F S0 S w x K E A c bx bu) (hk0 : K 0 < 11) (hK : K 11 = gK G 1 2 + 1) {v0 v1 v2 : Nat} (e0 : E (1000 + 0) 53 = v0) (e1 : E (1000 + 1) 53 = v1) (e2 : E (1000 + 2) 53 = v2) {v : Int32} {g' : Nat → Nat} {N' : Nat} (hop : OCh m_X7_makeRaw G [.ref (Pl x (K 0)), .int (nI (v0)), .int (nI (v1)), .int (nI (v2))] S w (K 0) (Pl x (K 0)) (A (K 0)) (some (.int v)) g' N') : Cn m_X12_carryOut G [.ref x] S (fun r T => r = .inl (some (.int v)) ∧ ∃ w' A' c', XF F S0 T w' x K E (up1 A (K 0) A') (up1 c (K 0) c') bx bu ∧ Hol A' c' g' N') := by
  refine Cn.of rfl (by decide) (Nat.le_of_ble_eq_true rfl) (fun hN hM => ?_)
  show Wx _ G _ 0 [(0, .ref (x))] [] _
  refine r_aload_n dX12_carryOut_0 rfl 0 rfl ?_
  refine r_getR (ci := 13) (k := 8) (b := x + 51) dX12_carryOut_1 fr_X12_35 h.1.t0 rfl h.1.p424 ?_
  refine r_getR (ci := 5) (k := 5) (b := gK G 1 2) dX12_carryOut_4 fr_X12_379 h.1.t51 rfl (h.1.p165.trans ((congrArg wdP hK).trans wdP_s)) ?_
  refine r_astore_n (lv' := [(1, .ref (gK G 1 2)), (0, .ref (x))]) dX12_carryOut_7 rfl (by decide) rfl ?_
  refine r_aload_n dX12_carryOut_8 rfl 0 rfl ?_
  refine r_ifnonnull (tgt := 14) dX12_carryOut_9 (by decide) ?_
  refine r_aload_n dX12_carryOut_14 rfl 1 rfl ?_
  refine r_getR (ci := 13) (k := 8) (b := x + 51) dX12_carryOut_15 fr_X12_35 h.1.t0 rfl h.1.p424 ?_
  refine r_getR (ci := 5) (k := 6) (b := x + 53) dX12_carryOut_18 fr_X12_383 h.1.t51 rfl h.1.p166 ?_
  refine r_astore_n (lv' := [(2, .ref (x + 53)), (1, .ref (gK G 1 2)), (0, .ref (x))]) dX12_carryOut_21 rfl (by decide) rfl ?_
  refine r_gets (C := "LotInspector$1") (n := "$SwitchMap$LotInspector$Word") (d := "[I") (v := .ref (gK G 0 2)) (fun U h => h.2.1.2.2.2.2.1) dX12_carryOut_22 (sg6 86 rfl rfl) ?_
  refine r_aload_n dX12_carryOut_25 rfl 1 rfl ?_
  refine r_ordinal (k := 2) (by decide) dX12_carryOut_26 (by decide) ml_ordinal (Nat.le_of_ble_eq_true rfl) ?_
  refine r_ialdT (fun U h => h.2.1.2.2.2.2.2.1) dX12_carryOut_29 (vp_in_nI (by decide) (by decide)) ?_
  refine Wx.top (x := swMap (nI 2).toNatClampNeg) (y := nI 3) (by decide) ?_
  refine r_tableIn (off := 87) (tgt := 117) dX12_carryOut_30 (by decide) (by decide) rfl (by decide) ?_
  refine r_aload_n dX12_carryOut_117 rfl 2 rfl ?_
  refine r_getR (ci := 13) (k := 0) (b := Pl x (K 0)) dX12_carryOut_118 fr_X12_10 h.1.t0 rfl h.1.p416 ?_
  refine r_aload_n dX12_carryOut_121 rfl 0 rfl ?_
  refine r_iconst (v := nI 0) dX12_carryOut_122 (by decide) ?_
  refine r_iald dX12_carryOut_123 h.1.t53 (by rw [show zN S (x + 53) = 6 from h.1.n53]; exact vp_in_nI (by omega) (by decide)) ?_
  refine Wx.top (congrArg (zA _ _) (nI_clamp (by omega))) ?_
  refine Wx.top (h.1.a (i := 0) (by decide)) ?_
  refine Wx.topN e0 ?_
  refine r_aload_n dX12_carryOut_124 rfl 0 rfl ?_
  refine r_iconst (v := nI 1) dX12_carryOut_125 (by decide) ?_
  refine r_iald dX12_carryOut_126 h.1.t53 (by rw [show zN S (x + 53) = 6 from h.1.n53]; exact vp_in_nI (by omega) (by decide)) ?_
  refine Wx.top (congrArg (zA _ _) (nI_clamp (by omega))) ?_
  refine Wx.top (h.1.a (i := 1) (by decide)) ?_
  refine Wx.topN e1 ?_
  refine r_aload_n dX12_carryOut_127 rfl 0 rfl ?_
  refine r_iconst (v := nI 2) dX12_carryOut_128 (by decide) ?_
  refine r_iald dX12_carryOut_129 h.1.t53 (by rw [show zN S (x + 53) = 6 from h.1.n53]; exact vp_in_nI (by omega) (by decide)) ?_
  refine Wx.top (congrArg (zA _ _) (nI_clamp (by omega))) ?_
  refine Wx.top (h.1.a (i := 2) (by decide)) ?_
  refine Wx.topN e2 ?_
  refine r_callV (M2 := m_X7_makeRaw) (As := [.int (nI (v0)), .int (nI (v1)), .int (nI (v2))]) (rest := []) dX12_carryOut_130 cc_X12_carryOut_133 rfl rfl rfl (Nat.le_of_ble_eq_true rfl) (h.1.off' hk0).1.1 rfl rfl (by decide) hop (fun v9 T1 hq => ?_) (fun E9 T9 hq => by obtain ⟨hq, -⟩ := hq; cases hq)
  obtain ⟨hv9, w', A', c', hox, hrl, hal⟩ := hq
  cases hv9
  exact r_iret (ty := .int) dX12_carryOut_133 rfl rfl ⟨rfl, w', A', c', h.off hk0 hox, hrl, hal⟩
set_option maxRecDepth 4000 in
set_option maxHeartbeats 400000 in
theorem x_carry_3 {G : GI} {F : Nat → Prop} {S0 S : Hp} {w : Nat → Nat} {x : Nat} {K : Nat → Nat} {E : Nat → Nat → Nat} {A c : Nat → Nat → Nat} {bx bu : Nat} (h : XF F S0 S w x K E A c bx bu) (hk0 : K 0 < 11) (hK : K 11 = gK G 1 3 + 1) {v0 v1 v2 v3 v4 v5 : Nat} (e0 : E (1000 + 0) 53 = v0) (e1 : E (1000 + 1) 53 = v1) (e2 : E (1000 + 2) 53 = v2) (e3 : E (1000 + 3) 53 = v3) (e4 : E (1000 + 4) 53 = v4) (e5 : E (1000 + 5) 53 = v5) {v : Int32} {g' : Nat → Nat} {N' : Nat} (hop : OCh m_X7_assemble G [.ref (Pl x (K 0)), .int (nI (v0)), .int (nI (v1)), .int (nI (v2)), .int (nI (v3)), .int (nI (v4)), .int (nI (v5))] S w (K 0) (Pl x (K 0)) (A (K 0)) (some (.int v)) g' N') : Cn m_X12_carryOut G [.ref x] S (fun r T => r = .inl (some (.int v)) ∧ ∃ w' A' c', XF F S0 T w' x K E (up1 A (K 0) A') (up1 c (K 0) c') bx bu ∧ Hol A' c' g' N') := by
  refine Cn.of rfl (by decide) (Nat.le_of_ble_eq_true rfl) (fun hN hM => ?_)
  show Wx _ G _ 0 [(0, .ref (x))] [] _
  refine r_aload_n dX12_carryOut_0 rfl 0 rfl ?_
  refine r_getR (ci := 13) (k := 8) (b := x + 51) dX12_carryOut_1 fr_X12_35 h.1.t0 rfl h.1.p424 ?_
  refine r_getR (ci := 5) (k := 5) (b := gK G 1 3) dX12_carryOut_4 fr_X12_379 h.1.t51 rfl (h.1.p165.trans ((congrArg wdP hK).trans wdP_s)) ?_
  refine r_astore_n (lv' := [(1, .ref (gK G 1 3)), (0, .ref (x))]) dX12_carryOut_7 rfl (by decide) rfl ?_
  refine r_aload_n dX12_carryOut_8 rfl 0 rfl ?_
  refine r_ifnonnull (tgt := 14) dX12_carryOut_9 (by decide) ?_
  refine r_aload_n dX12_carryOut_14 rfl 1 rfl ?_
  refine r_getR (ci := 13) (k := 8) (b := x + 51) dX12_carryOut_15 fr_X12_35 h.1.t0 rfl h.1.p424 ?_
  refine r_getR (ci := 5) (k := 6) (b := x + 53) dX12_carryOut_18 fr_X12_383 h.1.t51 rfl h.1.p166 ?_
  refine r_astore_n (lv' := [(2, .ref (x + 53)), (1, .ref (gK G 1 3)), (0, .ref (x))]) dX12_carryOut_21 rfl (by decide) rfl ?_
  refine r_gets (C := "LotInspector$1") (n := "$SwitchMap$LotInspector$Word") (d := "[I") (v := .ref (gK G 0 2)) (fun U h => h.2.1.2.2.2.2.1) dX12_carryOut_22 (sg6 86 rfl rfl) ?_
  refine r_aload_n dX12_carryOut_25 rfl 1 rfl ?_
  refine r_ordinal (k := 3) (by decide) dX12_carryOut_26 (by decide) ml_ordinal (Nat.le_of_ble_eq_true rfl) ?_
  refine r_ialdT (fun U h => h.2.1.2.2.2.2.2.1) dX12_carryOut_29 (vp_in_nI (by decide) (by decide)) ?_
  refine Wx.top (x := swMap (nI 3).toNatClampNeg) (y := nI 4) (by decide) ?_
  refine r_tableIn (off := 104) (tgt := 134) dX12_carryOut_30 (by decide) (by decide) rfl (by decide) ?_
  refine r_aload_n dX12_carryOut_134 rfl 2 rfl ?_
  refine r_getR (ci := 13) (k := 0) (b := Pl x (K 0)) dX12_carryOut_135 fr_X12_10 h.1.t0 rfl h.1.p416 ?_
  refine r_aload_n dX12_carryOut_138 rfl 0 rfl ?_
  refine r_iconst (v := nI 0) dX12_carryOut_139 (by decide) ?_
  refine r_iald dX12_carryOut_140 h.1.t53 (by rw [show zN S (x + 53) = 6 from h.1.n53]; exact vp_in_nI (by omega) (by decide)) ?_
  refine Wx.top (congrArg (zA _ _) (nI_clamp (by omega))) ?_
  refine Wx.top (h.1.a (i := 0) (by decide)) ?_
  refine Wx.topN e0 ?_
  refine r_aload_n dX12_carryOut_141 rfl 0 rfl ?_
  refine r_iconst (v := nI 1) dX12_carryOut_142 (by decide) ?_
  refine r_iald dX12_carryOut_143 h.1.t53 (by rw [show zN S (x + 53) = 6 from h.1.n53]; exact vp_in_nI (by omega) (by decide)) ?_
  refine Wx.top (congrArg (zA _ _) (nI_clamp (by omega))) ?_
  refine Wx.top (h.1.a (i := 1) (by decide)) ?_
  refine Wx.topN e1 ?_
  refine r_aload_n dX12_carryOut_144 rfl 0 rfl ?_
  refine r_iconst (v := nI 2) dX12_carryOut_145 (by decide) ?_
  refine r_iald dX12_carryOut_146 h.1.t53 (by rw [show zN S (x + 53) = 6 from h.1.n53]; exact vp_in_nI (by omega) (by decide)) ?_
  refine Wx.top (congrArg (zA _ _) (nI_clamp (by omega))) ?_
  refine Wx.top (h.1.a (i := 2) (by decide)) ?_
  refine Wx.topN e2 ?_
  refine r_aload_n dX12_carryOut_147 rfl 0 rfl ?_
  refine r_iconst (v := nI 3) dX12_carryOut_148 (by decide) ?_
  refine r_iald dX12_carryOut_149 h.1.t53 (by rw [show zN S (x + 53) = 6 from h.1.n53]; exact vp_in_nI (by omega) (by decide)) ?_
  refine Wx.top (congrArg (zA _ _) (nI_clamp (by omega))) ?_
  refine Wx.top (h.1.a (i := 3) (by decide)) ?_
  refine Wx.topN e3 ?_
  refine r_aload_n dX12_carryOut_150 rfl 0 rfl ?_
  refine r_iconst (v := nI 4) dX12_carryOut_151 (by decide) ?_
  refine r_iald dX12_carryOut_152 h.1.t53 (by rw [show zN S (x + 53) = 6 from h.1.n53]; exact vp_in_nI (by omega) (by decide)) ?_
  refine Wx.top (congrArg (zA _ _) (nI_clamp (by omega))) ?_
  refine Wx.top (h.1.a (i := 4) (by decide)) ?_
  refine Wx.topN e4 ?_
  refine r_aload_n dX12_carryOut_153 rfl 0 rfl ?_
  refine r_iconst (v := nI 5) dX12_carryOut_154 (by decide) ?_
  refine r_iald dX12_carryOut_155 h.1.t53 (by rw [show zN S (x + 53) = 6 from h.1.n53]; exact vp_in_nI (by omega) (by decide)) ?_
  refine Wx.top (congrArg (zA _ _) (nI_clamp (by omega))) ?_
  refine Wx.top (h.1.a (i := 5) (by decide)) ?_
  refine Wx.topN e5 ?_
  refine r_callV (M2 := m_X7_assemble) (As := [.int (nI (v0)), .int (nI (v1)), .int (nI (v2)), .int (nI (v3)), .int (nI (v4)), .int (nI (v5))]) (rest := []) dX12_carryOut_156 cc_X12_carryOut_136 rfl rfl rfl (Nat.le_of_ble_eq_true rfl) (h.1.off' hk0).1.1 rfl rfl (by decide) hop (fun v9 T1 hq => ?_) (fun E9 T9 hq => by obtain ⟨hq, -⟩ := hq; cases hq)
  obtain ⟨hv9, w', A', c', hox, hrl, hal⟩ := hq
  cases hv9
  exact r_iret (ty := .int) dX12_carryOut_159 rfl rfl ⟨rfl, w', A', c', h.off hk0 hox, hrl, hal⟩
set_option maxRecDepth 4000 in
set_option maxHeartbeats 400000 in
theorem x_carry_4 {G : GI} {F : Nat → Prop} {S0 S : Hp} {w : Nat → Nat} {x : Nat} {K : Nat → Nat} {E : Nat → Nat → Nat} {A c : Nat → Nat → Nat} {bx bu : Nat} (h : XF F S0 S w x K E A c bx bu) (hk0 : K 0 < 11) (hK : K 11 = gK G 1 4 + 1) {v0 : Nat} (e0 : E (1000 + 0) 53 = v0) {v : Int32} {g' : Nat → Nat} {N' : Nat} (hop : OCh m_X7_inspectLot G [.ref (Pl x (K 0)), .int (nI (v0))] S w (K 0) (Pl x (K 0)) (A (K 0)) (some (.int v)) g' N') : Cn m_X12_carryOut G [.ref x] S (fun r T => r = .inl (some (.int v)) ∧ ∃ w' A' c', XF F S0 T w' x K E (up1 A (K 0) A') (up1 c (K 0) c') bx bu ∧ Hol A' c' g' N') := by
  refine Cn.of rfl (by decide) (Nat.le_of_ble_eq_true rfl) (fun hN hM => ?_)
  show Wx _ G _ 0 [(0, .ref (x))] [] _
  refine r_aload_n dX12_carryOut_0 rfl 0 rfl ?_
  refine r_getR (ci := 13) (k := 8) (b := x + 51) dX12_carryOut_1 fr_X12_35 h.1.t0 rfl h.1.p424 ?_
  refine r_getR (ci := 5) (k := 5) (b := gK G 1 4) dX12_carryOut_4 fr_X12_379 h.1.t51 rfl (h.1.p165.trans ((congrArg wdP hK).trans wdP_s)) ?_
  refine r_astore_n (lv' := [(1, .ref (gK G 1 4)), (0, .ref (x))]) dX12_carryOut_7 rfl (by decide) rfl ?_
  refine r_aload_n dX12_carryOut_8 rfl 0 rfl ?_
  refine r_ifnonnull (tgt := 14) dX12_carryOut_9 (by decide) ?_
  refine r_aload_n dX12_carryOut_14 rfl 1 rfl ?_
  refine r_getR (ci := 13) (k := 8) (b := x + 51) dX12_carryOut_15 fr_X12_35 h.1.t0 rfl h.1.p424 ?_
  refine r_getR (ci := 5) (k := 6) (b := x + 53) dX12_carryOut_18 fr_X12_383 h.1.t51 rfl h.1.p166 ?_
  refine r_astore_n (lv' := [(2, .ref (x + 53)), (1, .ref (gK G 1 4)), (0, .ref (x))]) dX12_carryOut_21 rfl (by decide) rfl ?_
  refine r_gets (C := "LotInspector$1") (n := "$SwitchMap$LotInspector$Word") (d := "[I") (v := .ref (gK G 0 2)) (fun U h => h.2.1.2.2.2.2.1) dX12_carryOut_22 (sg6 86 rfl rfl) ?_
  refine r_aload_n dX12_carryOut_25 rfl 1 rfl ?_
  refine r_ordinal (k := 4) (by decide) dX12_carryOut_26 (by decide) ml_ordinal (Nat.le_of_ble_eq_true rfl) ?_
  refine r_ialdT (fun U h => h.2.1.2.2.2.2.2.1) dX12_carryOut_29 (vp_in_nI (by decide) (by decide)) ?_
  refine Wx.top (x := swMap (nI 4).toNatClampNeg) (y := nI 5) (by decide) ?_
  refine r_tableIn (off := 130) (tgt := 160) dX12_carryOut_30 (by decide) (by decide) rfl (by decide) ?_
  refine r_aload_n dX12_carryOut_160 rfl 2 rfl ?_
  refine r_getR (ci := 13) (k := 0) (b := Pl x (K 0)) dX12_carryOut_161 fr_X12_10 h.1.t0 rfl h.1.p416 ?_
  refine r_aload_n dX12_carryOut_164 rfl 0 rfl ?_
  refine r_iconst (v := nI 0) dX12_carryOut_165 (by decide) ?_
  refine r_iald dX12_carryOut_166 h.1.t53 (by rw [show zN S (x + 53) = 6 from h.1.n53]; exact vp_in_nI (by omega) (by decide)) ?_
  refine Wx.top (congrArg (zA _ _) (nI_clamp (by omega))) ?_
  refine Wx.top (h.1.a (i := 0) (by decide)) ?_
  refine Wx.topN e0 ?_
  refine r_callV (M2 := m_X7_inspectLot) (As := [.int (nI (v0))]) (rest := []) dX12_carryOut_167 cc_X12_carryOut_140 rfl rfl rfl (Nat.le_of_ble_eq_true rfl) (h.1.off' hk0).1.1 rfl rfl (by decide) hop (fun v9 T1 hq => ?_) (fun E9 T9 hq => by obtain ⟨hq, -⟩ := hq; cases hq)
  obtain ⟨hv9, w', A', c', hox, hrl, hal⟩ := hq
  cases hv9
  exact r_iret (ty := .int) dX12_carryOut_170 rfl rfl ⟨rfl, w', A', c', h.off hk0 hox, hrl, hal⟩
set_option maxRecDepth 4000 in
set_option maxHeartbeats 400000 in
theorem x_carry_5 {G : GI} {F : Nat → Prop} {S0 S : Hp} {w : Nat → Nat} {x : Nat} {K : Nat → Nat} {E : Nat → Nat → Nat} {A c : Nat → Nat → Nat} {bx bu : Nat} (h : XF F S0 S w x K E A c bx bu) (hk0 : K 0 < 11) (hK : K 11 = gK G 1 5 + 1) {v0 : Nat} (e0 : E (1000 + 0) 53 = v0) {v : Int32} {g' : Nat → Nat} {N' : Nat} (hop : OCh m_X7_sortLot G [.ref (Pl x (K 0)), .int (nI (v0))] S w (K 0) (Pl x (K 0)) (A (K 0)) (some (.int v)) g' N') : Cn m_X12_carryOut G [.ref x] S (fun r T => r = .inl (some (.int v)) ∧ ∃ w' A' c', XF F S0 T w' x K E (up1 A (K 0) A') (up1 c (K 0) c') bx bu ∧ Hol A' c' g' N') := by
  refine Cn.of rfl (by decide) (Nat.le_of_ble_eq_true rfl) (fun hN hM => ?_)
  show Wx _ G _ 0 [(0, .ref (x))] [] _
  refine r_aload_n dX12_carryOut_0 rfl 0 rfl ?_
  refine r_getR (ci := 13) (k := 8) (b := x + 51) dX12_carryOut_1 fr_X12_35 h.1.t0 rfl h.1.p424 ?_
  refine r_getR (ci := 5) (k := 5) (b := gK G 1 5) dX12_carryOut_4 fr_X12_379 h.1.t51 rfl (h.1.p165.trans ((congrArg wdP hK).trans wdP_s)) ?_
  refine r_astore_n (lv' := [(1, .ref (gK G 1 5)), (0, .ref (x))]) dX12_carryOut_7 rfl (by decide) rfl ?_
  refine r_aload_n dX12_carryOut_8 rfl 0 rfl ?_
  refine r_ifnonnull (tgt := 14) dX12_carryOut_9 (by decide) ?_
  refine r_aload_n dX12_carryOut_14 rfl 1 rfl ?_
  refine r_getR (ci := 13) (k := 8) (b := x + 51) dX12_carryOut_15 fr_X12_35 h.1.t0 rfl h.1.p424 ?_
  refine r_getR (ci := 5) (k := 6) (b := x + 53) dX12_carryOut_18 fr_X12_383 h.1.t51 rfl h.1.p166 ?_
  refine r_astore_n (lv' := [(2, .ref (x + 53)), (1, .ref (gK G 1 5)), (0, .ref (x))]) dX12_carryOut_21 rfl (by decide) rfl ?_
  refine r_gets (C := "LotInspector$1") (n := "$SwitchMap$LotInspector$Word") (d := "[I") (v := .ref (gK G 0 2)) (fun U h => h.2.1.2.2.2.2.1) dX12_carryOut_22 (sg6 86 rfl rfl) ?_
  refine r_aload_n dX12_carryOut_25 rfl 1 rfl ?_
  refine r_ordinal (k := 5) (by decide) dX12_carryOut_26 (by decide) ml_ordinal (Nat.le_of_ble_eq_true rfl) ?_
  refine r_ialdT (fun U h => h.2.1.2.2.2.2.2.1) dX12_carryOut_29 (vp_in_nI (by decide) (by decide)) ?_
  refine Wx.top (x := swMap (nI 5).toNatClampNeg) (y := nI 6) (by decide) ?_
  refine r_tableIn (off := 141) (tgt := 171) dX12_carryOut_30 (by decide) (by decide) rfl (by decide) ?_
  refine r_aload_n dX12_carryOut_171 rfl 2 rfl ?_
  refine r_getR (ci := 13) (k := 0) (b := Pl x (K 0)) dX12_carryOut_172 fr_X12_10 h.1.t0 rfl h.1.p416 ?_
  refine r_aload_n dX12_carryOut_175 rfl 0 rfl ?_
  refine r_iconst (v := nI 0) dX12_carryOut_176 (by decide) ?_
  refine r_iald dX12_carryOut_177 h.1.t53 (by rw [show zN S (x + 53) = 6 from h.1.n53]; exact vp_in_nI (by omega) (by decide)) ?_
  refine Wx.top (congrArg (zA _ _) (nI_clamp (by omega))) ?_
  refine Wx.top (h.1.a (i := 0) (by decide)) ?_
  refine Wx.topN e0 ?_
  refine r_callV (M2 := m_X7_sortLot) (As := [.int (nI (v0))]) (rest := []) dX12_carryOut_178 cc_X12_carryOut_143 rfl rfl rfl (Nat.le_of_ble_eq_true rfl) (h.1.off' hk0).1.1 rfl rfl (by decide) hop (fun v9 T1 hq => ?_) (fun E9 T9 hq => by obtain ⟨hq, -⟩ := hq; cases hq)
  obtain ⟨hv9, w', A', c', hox, hrl, hal⟩ := hq
  cases hv9
  exact r_iret (ty := .int) dX12_carryOut_181 rfl rfl ⟨rfl, w', A', c', h.off hk0 hox, hrl, hal⟩
set_option maxRecDepth 4000 in
set_option maxHeartbeats 400000 in
theorem x_carry_6 {G : GI} {F : Nat → Prop} {S0 S : Hp} {w : Nat → Nat} {x : Nat} {K : Nat → Nat} {E : Nat → Nat → Nat} {A c : Nat → Nat → Nat} {bx bu : Nat} (h : XF F S0 S w x K E A c bx bu) (hk0 : K 0 < 11) (hK : K 11 = gK G 1 6 + 1) {v0 : Nat} (e0 : E (1000 + 0) 53 = v0) {v : Int32} {g' : Nat → Nat} {N' : Nat} (hop : OCh m_X7_shipLot G [.ref (Pl x (K 0)), .int (nI (v0))] S w (K 0) (Pl x (K 0)) (A (K 0)) (some (.int v)) g' N') : Cn m_X12_carryOut G [.ref x] S (fun r T => r = .inl (some (.int v)) ∧ ∃ w' A' c', XF F S0 T w' x K E (up1 A (K 0) A') (up1 c (K 0) c') bx bu ∧ Hol A' c' g' N') := by
  refine Cn.of rfl (by decide) (Nat.le_of_ble_eq_true rfl) (fun hN hM => ?_)
  show Wx _ G _ 0 [(0, .ref (x))] [] _
  refine r_aload_n dX12_carryOut_0 rfl 0 rfl ?_
  refine r_getR (ci := 13) (k := 8) (b := x + 51) dX12_carryOut_1 fr_X12_35 h.1.t0 rfl h.1.p424 ?_
  refine r_getR (ci := 5) (k := 5) (b := gK G 1 6) dX12_carryOut_4 fr_X12_379 h.1.t51 rfl (h.1.p165.trans ((congrArg wdP hK).trans wdP_s)) ?_
  refine r_astore_n (lv' := [(1, .ref (gK G 1 6)), (0, .ref (x))]) dX12_carryOut_7 rfl (by decide) rfl ?_
  refine r_aload_n dX12_carryOut_8 rfl 0 rfl ?_
  refine r_ifnonnull (tgt := 14) dX12_carryOut_9 (by decide) ?_
  refine r_aload_n dX12_carryOut_14 rfl 1 rfl ?_
  refine r_getR (ci := 13) (k := 8) (b := x + 51) dX12_carryOut_15 fr_X12_35 h.1.t0 rfl h.1.p424 ?_
  refine r_getR (ci := 5) (k := 6) (b := x + 53) dX12_carryOut_18 fr_X12_383 h.1.t51 rfl h.1.p166 ?_
  refine r_astore_n (lv' := [(2, .ref (x + 53)), (1, .ref (gK G 1 6)), (0, .ref (x))]) dX12_carryOut_21 rfl (by decide) rfl ?_
  refine r_gets (C := "LotInspector$1") (n := "$SwitchMap$LotInspector$Word") (d := "[I") (v := .ref (gK G 0 2)) (fun U h => h.2.1.2.2.2.2.1) dX12_carryOut_22 (sg6 86 rfl rfl) ?_
  refine r_aload_n dX12_carryOut_25 rfl 1 rfl ?_
  refine r_ordinal (k := 6) (by decide) dX12_carryOut_26 (by decide) ml_ordinal (Nat.le_of_ble_eq_true rfl) ?_
  refine r_ialdT (fun U h => h.2.1.2.2.2.2.2.1) dX12_carryOut_29 (vp_in_nI (by decide) (by decide)) ?_
  refine Wx.top (x := swMap (nI 6).toNatClampNeg) (y := nI 7) (by decide) ?_
  refine r_tableIn (off := 152) (tgt := 182) dX12_carryOut_30 (by decide) (by decide) rfl (by decide) ?_
  refine r_aload_n dX12_carryOut_182 rfl 2 rfl ?_
  refine r_getR (ci := 13) (k := 0) (b := Pl x (K 0)) dX12_carryOut_183 fr_X12_10 h.1.t0 rfl h.1.p416 ?_
  refine r_aload_n dX12_carryOut_186 rfl 0 rfl ?_
  refine r_iconst (v := nI 0) dX12_carryOut_187 (by decide) ?_
  refine r_iald dX12_carryOut_188 h.1.t53 (by rw [show zN S (x + 53) = 6 from h.1.n53]; exact vp_in_nI (by omega) (by decide)) ?_
  refine Wx.top (congrArg (zA _ _) (nI_clamp (by omega))) ?_
  refine Wx.top (h.1.a (i := 0) (by decide)) ?_
  refine Wx.topN e0 ?_
  refine r_callV (M2 := m_X7_shipLot) (As := [.int (nI (v0))]) (rest := []) dX12_carryOut_189 cc_X12_carryOut_146 rfl rfl rfl (Nat.le_of_ble_eq_true rfl) (h.1.off' hk0).1.1 rfl rfl (by decide) hop (fun v9 T1 hq => ?_) (fun E9 T9 hq => by obtain ⟨hq, -⟩ := hq; cases hq)
  obtain ⟨hv9, w', A', c', hox, hrl, hal⟩ := hq
  cases hv9
  exact r_iret (ty := .int) dX12_carryOut_192 rfl rfl ⟨rfl, w', A', c', h.off hk0 hox, hrl, hal⟩
set_option maxRecDepth 4000 in
set_option maxHeartbeats 400000 in
theorem x_carry_7 {G : GI} {F : Nat → Prop} {S0 S : Hp} {w : Nat → Nat} {x : Nat} {K : Nat → Nat} {E : Nat → Nat → Nat} {A c : Nat → Nat → Nat} {bx bu : Nat} (h : XF F S0 S w x K E A c bx bu) (hk0 : K 0 < 11) (hK : K 11 = gK G 1 7 + 1) {v0 : Nat} (e0 : E (1000 + 0) 53 = v0) {v : Int32} {g' : Nat → Nat} {N' : Nat} (hop : OCh m_X7_releaseProduct G [.ref (Pl x (K 0)), .int (nI (v0))] S w (K 0) (Pl x (K 0)) (A (K 0)) (some (.int v)) g' N') : Cn m_X12_carryOut G [.ref x] S (fun r T => r = .inl (some (.int v)) ∧ ∃ w' A' c', XF F S0 T w' x K E (up1 A (K 0) A') (up1 c (K 0) c') bx bu ∧ Hol A' c' g' N') := by
  refine Cn.of rfl (by decide) (Nat.le_of_ble_eq_true rfl) (fun hN hM => ?_)
  show Wx _ G _ 0 [(0, .ref (x))] [] _
  refine r_aload_n dX12_carryOut_0 rfl 0 rfl ?_
  refine r_getR (ci := 13) (k := 8) (b := x + 51) dX12_carryOut_1 fr_X12_35 h.1.t0 rfl h.1.p424 ?_
  refine r_getR (ci := 5) (k := 5) (b := gK G 1 7) dX12_carryOut_4 fr_X12_379 h.1.t51 rfl (h.1.p165.trans ((congrArg wdP hK).trans wdP_s)) ?_
  refine r_astore_n (lv' := [(1, .ref (gK G 1 7)), (0, .ref (x))]) dX12_carryOut_7 rfl (by decide) rfl ?_
  refine r_aload_n dX12_carryOut_8 rfl 0 rfl ?_
  refine r_ifnonnull (tgt := 14) dX12_carryOut_9 (by decide) ?_
  refine r_aload_n dX12_carryOut_14 rfl 1 rfl ?_
  refine r_getR (ci := 13) (k := 8) (b := x + 51) dX12_carryOut_15 fr_X12_35 h.1.t0 rfl h.1.p424 ?_
  refine r_getR (ci := 5) (k := 6) (b := x + 53) dX12_carryOut_18 fr_X12_383 h.1.t51 rfl h.1.p166 ?_
  refine r_astore_n (lv' := [(2, .ref (x + 53)), (1, .ref (gK G 1 7)), (0, .ref (x))]) dX12_carryOut_21 rfl (by decide) rfl ?_
  refine r_gets (C := "LotInspector$1") (n := "$SwitchMap$LotInspector$Word") (d := "[I") (v := .ref (gK G 0 2)) (fun U h => h.2.1.2.2.2.2.1) dX12_carryOut_22 (sg6 86 rfl rfl) ?_
  refine r_aload_n dX12_carryOut_25 rfl 1 rfl ?_
  refine r_ordinal (k := 7) (by decide) dX12_carryOut_26 (by decide) ml_ordinal (Nat.le_of_ble_eq_true rfl) ?_
  refine r_ialdT (fun U h => h.2.1.2.2.2.2.2.1) dX12_carryOut_29 (vp_in_nI (by decide) (by decide)) ?_
  refine Wx.top (x := swMap (nI 7).toNatClampNeg) (y := nI 8) (by decide) ?_
  refine r_tableIn (off := 163) (tgt := 193) dX12_carryOut_30 (by decide) (by decide) rfl (by decide) ?_
  refine r_aload_n dX12_carryOut_193 rfl 2 rfl ?_
  refine r_getR (ci := 13) (k := 0) (b := Pl x (K 0)) dX12_carryOut_194 fr_X12_10 h.1.t0 rfl h.1.p416 ?_
  refine r_aload_n dX12_carryOut_197 rfl 0 rfl ?_
  refine r_iconst (v := nI 0) dX12_carryOut_198 (by decide) ?_
  refine r_iald dX12_carryOut_199 h.1.t53 (by rw [show zN S (x + 53) = 6 from h.1.n53]; exact vp_in_nI (by omega) (by decide)) ?_
  refine Wx.top (congrArg (zA _ _) (nI_clamp (by omega))) ?_
  refine Wx.top (h.1.a (i := 0) (by decide)) ?_
  refine Wx.topN e0 ?_
  refine r_callV (M2 := m_X7_releaseProduct) (As := [.int (nI (v0))]) (rest := []) dX12_carryOut_200 cc_X12_carryOut_127 rfl rfl rfl (Nat.le_of_ble_eq_true rfl) (h.1.off' hk0).1.1 rfl rfl (by decide) hop (fun v9 T1 hq => ?_) (fun E9 T9 hq => by obtain ⟨hq, -⟩ := hq; cases hq)
  obtain ⟨hv9, w', A', c', hox, hrl, hal⟩ := hq
  cases hv9
  exact r_iret (ty := .int) dX12_carryOut_203 rfl rfl ⟨rfl, w', A', c', h.off hk0 hox, hrl, hal⟩
set_option maxRecDepth 4000 in
set_option maxHeartbeats 400000 in
theorem x_carry_8 {G : GI} {F : Nat → Prop} {S0 S : Hp} {w : Nat → Nat} {x : Nat} {K : Nat → Nat} {E : Nat → Nat → Nat} {A c : Nat → Nat → Nat} {bx bu : Nat} (h : XF F S0 S w x K E A c bx bu) (hk0 : K 0 < 11) (hK : K 11 = gK G 1 8 + 1) {v0 : Nat} (e0 : E (1000 + 0) 53 = v0) {v : Int32} {g' : Nat → Nat} {N' : Nat} (hop : OCh m_X7_setSeed G [.ref (Pl x (K 0)), .int (nI (v0))] S w (K 0) (Pl x (K 0)) (A (K 0)) (some (.int v)) g' N') : Cn m_X12_carryOut G [.ref x] S (fun r T => r = .inl (some (.int v)) ∧ ∃ w' A' c', XF F S0 T w' x K E (up1 A (K 0) A') (up1 c (K 0) c') bx bu ∧ Hol A' c' g' N') := by
  refine Cn.of rfl (by decide) (Nat.le_of_ble_eq_true rfl) (fun hN hM => ?_)
  show Wx _ G _ 0 [(0, .ref (x))] [] _
  refine r_aload_n dX12_carryOut_0 rfl 0 rfl ?_
  refine r_getR (ci := 13) (k := 8) (b := x + 51) dX12_carryOut_1 fr_X12_35 h.1.t0 rfl h.1.p424 ?_
  refine r_getR (ci := 5) (k := 5) (b := gK G 1 8) dX12_carryOut_4 fr_X12_379 h.1.t51 rfl (h.1.p165.trans ((congrArg wdP hK).trans wdP_s)) ?_
  refine r_astore_n (lv' := [(1, .ref (gK G 1 8)), (0, .ref (x))]) dX12_carryOut_7 rfl (by decide) rfl ?_
  refine r_aload_n dX12_carryOut_8 rfl 0 rfl ?_
  refine r_ifnonnull (tgt := 14) dX12_carryOut_9 (by decide) ?_
  refine r_aload_n dX12_carryOut_14 rfl 1 rfl ?_
  refine r_getR (ci := 13) (k := 8) (b := x + 51) dX12_carryOut_15 fr_X12_35 h.1.t0 rfl h.1.p424 ?_
  refine r_getR (ci := 5) (k := 6) (b := x + 53) dX12_carryOut_18 fr_X12_383 h.1.t51 rfl h.1.p166 ?_
  refine r_astore_n (lv' := [(2, .ref (x + 53)), (1, .ref (gK G 1 8)), (0, .ref (x))]) dX12_carryOut_21 rfl (by decide) rfl ?_
  refine r_gets (C := "LotInspector$1") (n := "$SwitchMap$LotInspector$Word") (d := "[I") (v := .ref (gK G 0 2)) (fun U h => h.2.1.2.2.2.2.1) dX12_carryOut_22 (sg6 86 rfl rfl) ?_
  refine r_aload_n dX12_carryOut_25 rfl 1 rfl ?_
  refine r_ordinal (k := 8) (by decide) dX12_carryOut_26 (by decide) ml_ordinal (Nat.le_of_ble_eq_true rfl) ?_
  refine r_ialdT (fun U h => h.2.1.2.2.2.2.2.1) dX12_carryOut_29 (vp_in_nI (by decide) (by decide)) ?_
  refine Wx.top (x := swMap (nI 8).toNatClampNeg) (y := nI 9) (by decide) ?_
  refine r_tableIn (off := 174) (tgt := 204) dX12_carryOut_30 (by decide) (by decide) rfl (by decide) ?_
  refine r_aload_n dX12_carryOut_204 rfl 2 rfl ?_
  refine r_getR (ci := 13) (k := 0) (b := Pl x (K 0)) dX12_carryOut_205 fr_X12_10 h.1.t0 rfl h.1.p416 ?_
  refine r_aload_n dX12_carryOut_208 rfl 0 rfl ?_
  refine r_iconst (v := nI 0) dX12_carryOut_209 (by decide) ?_
  refine r_iald dX12_carryOut_210 h.1.t53 (by rw [show zN S (x + 53) = 6 from h.1.n53]; exact vp_in_nI (by omega) (by decide)) ?_
  refine Wx.top (congrArg (zA _ _) (nI_clamp (by omega))) ?_
  refine Wx.top (h.1.a (i := 0) (by decide)) ?_
  refine Wx.topN e0 ?_
  refine r_callV (M2 := m_X7_setSeed) (As := [.int (nI (v0))]) (rest := []) dX12_carryOut_211 cc_X12_carryOut_130 rfl rfl rfl (Nat.le_of_ble_eq_true rfl) (h.1.off' hk0).1.1 rfl rfl (by decide) hop (fun v9 T1 hq => ?_) (fun E9 T9 hq => by obtain ⟨hq, -⟩ := hq; cases hq)
  obtain ⟨hv9, w', A', c', hox, hrl, hal⟩ := hq
  cases hv9
  exact r_iret (ty := .int) dX12_carryOut_214 rfl rfl ⟨rfl, w', A', c', h.off hk0 hox, hrl, hal⟩
