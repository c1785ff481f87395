/-! AFTERWARDS -/
set_option maxRecDepth 4000 in
set_option maxHeartbeats 400000 in
theorem s_after_1 {G : GI} {F : Nat → Prop} {S : Hp} {x bx bu : Nat} {D : Nat → Nat → Nat} {g : Nat → Nat} {N ps : Nat} {gq : Nat → Nat → Nat} {ik : Nat} {gk : Nat → Nat} (h : CSt F S x bx bu D g N ps gq ik gk) (h1 : bx + 1 ≤ gN G) (h2 : bu + 6 ≤ gM G) {y : Int32} (hy : ¬ vp_in y 4) {z z2 : Int32} : Cn m_X12_afterwards G [.ref (x), .int (y), .int (z), .int (z2)] S (fun r T => r = .inr "java/lang/IndexOutOfBoundsException" ∧ CSt F T x (bx + 1) (bu + 6) D g N ps gq ik gk ∧ FrF F S T) := by
  refine Cn.of rfl (by decide) (Nat.le_of_ble_eq_true rfl) (fun hN hM => ?_)
  show Wx _ G _ 0 [(0, .ref (x)), (1, .int (y)), (2, .int (z)), (3, .int (z2))] [] _
  obtain ⟨w, K, E, A, c, hX, hp, hr, hD, ⟨np, hnp, e1, e2, hps, hq⟩, ⟨e3, hik, hk⟩, hF⟩ := h
  have h : XF F S S w x K E A c bx bu := ⟨hX, FrF.rfl, hF⟩
  have hk0 : K 0 < 11 := (hp 0 (by decide)).1
  have n01 : K 0 ≠ K 1 := hp.ne (by decide) (by decide) (by decide)
  have n02 : K 0 ≠ 2 := (hp 0 (by decide)).2.1
  refine r_aload_n dX12_afterwards_0 rfl 0 rfl ?_
  refine r_iload_n dX12_afterwards_1 rfl 1 rfl ?_
  exact r_ftV (M2 := m_X12_existingProduct) (As := [.int (y)]) (rest := []) dX12_afterwards_2 cc_X12_afterwards_96 rfl rfl rfl (Nat.le_of_ble_eq_true rfl) h.1.t0 rfl rfl (by decide) (f_prod_no h.1.t0 h.1.p416 (h.1.off' hk0) hr.1 hr.2 (h.hc1 h1) (h.hu6 h2) hy) rfl (fun y u h1 h2 => ⟨rfl, ⟨w, K, E, A, c, (h.X h1 h2).1, hp, hr, hD, ⟨np, hnp, e1, e2, hps, hq⟩, ⟨e3, hik, hk⟩, hF⟩, (h.X h1 h2).2.1⟩)
set_option maxRecDepth 4000 in
set_option maxHeartbeats 400000 in
theorem s_after_2 {G : GI} {F : Nat → Prop} {S : Hp} {x bx bu : Nat} {D : Nat → Nat → Nat} {g : Nat → Nat} {N ps : Nat} {gq : Nat → Nat → Nat} {ik : Nat} {gk : Nat → Nat} (h : CSt F S x bx bu D g N ps gq ik gk) (h1 : bx + 1 ≤ gN G) (h2 : bu + 6 ≤ gM G) {p : Nat} (hp4 : p < 4) {z : Int32} (hz : ¬ vp_in z 201) {z2 : Int32} : Cn m_X12_afterwards G [.ref (x), .int (nI (p)), .int (z), .int (z2)] S (fun r T => r = .inr "java/lang/IllegalArgumentException" ∧ CSt F T x (bx + 1) (bu + 6) D g N ps gq ik gk ∧ FrF F S T) := by
  refine Cn.of rfl (by decide) (Nat.le_of_ble_eq_true rfl) (fun hN hM => ?_)
  show Wx _ G _ 0 [(0, .ref (x)), (1, .int (nI (p))), (2, .int (z)), (3, .int (z2))] [] _
  obtain ⟨w, K, E, A, c, hX, hp, hr, hD, ⟨np, hnp, e1, e2, hps, hq⟩, ⟨e3, hik, hk⟩, hF⟩ := h
  have h : XF F S S w x K E A c bx bu := ⟨hX, FrF.rfl, hF⟩
  have hk0 : K 0 < 11 := (hp 0 (by decide)).1
  have n01 : K 0 ≠ K 1 := hp.ne (by decide) (by decide) (by decide)
  have n02 : K 0 ≠ 2 := (hp 0 (by decide)).2.1
  have hP := hr.1.p hp4
  have hPb := hP.b
  have hPm := hP.m
  refine r_aload_n dX12_afterwards_0 rfl 0 rfl ?_
  refine r_iload_n dX12_afterwards_1 rfl 1 rfl ?_
  refine r_fnV (M2 := m_X12_existingProduct) (As := [.int (nI (p))]) (rest := []) (v := some (.ref (Pl x (K 0) + 12 + p))) dX12_afterwards_2 cc_X12_afterwards_96 rfl rfl rfl (Nat.le_of_ble_eq_true rfl) h.1.t0 rfl rfl (by decide) (f_prod h.1.t0 h.1.p416 (h.1.off' hk0) hr.1 hr.2 hp4) rfl ?_
  refine r_astore (lv' := [(4, .ref (Pl x (K 0) + 12 + p)), (0, .ref (x)), (1, .int (nI (p))), (2, .int (z)), (3, .int (z2))]) dX12_afterwards_5 (by decide) rfl ?_
  refine r_iload_n dX12_afterwards_7 rfl 3 rfl ?_
  refine r_if_lt (tgt := 29) dX12_afterwards_8 (by decide) (fun h8 => ?_) (fun h8 => ?_)
  · exact r_throw (ft_IA (by decide)) rfl dX12_afterwards_29 dX12_afterwards_32 dX12_afterwards_33 dX12_afterwards_36 (by decide) (h.hc1 h1) (h.hu6 h2) (fun y u h1 h2 h3 h4 => ⟨rfl, ⟨w, K, E, A, c, (h.X ⟨h1, h2⟩ ⟨h3, h4⟩).1, hp, hr, hD, ⟨np, hnp, e1, e2, hps, hq⟩, ⟨e3, hik, hk⟩, hF⟩, (h.X ⟨h1, h2⟩ ⟨h3, h4⟩).2.1⟩)
  · refine r_iload_n dX12_afterwards_11 rfl 3 rfl ?_
    refine r_sipush (v := nI 200) dX12_afterwards_12 (by decide) ?_
    refine r_icmp_gt (tgt := 29) dX12_afterwards_15 (by decide) (fun h15 => ?_) (fun h15 => ?_)
    · exact r_throw (ft_IA (by decide)) rfl dX12_afterwards_29 dX12_afterwards_32 dX12_afterwards_33 dX12_afterwards_36 (by decide) (h.hc1 h1) (h.hu6 h2) (fun y u h1 h2 h3 h4 => ⟨rfl, ⟨w, K, E, A, c, (h.X ⟨h1, h2⟩ ⟨h3, h4⟩).1, hp, hr, hD, ⟨np, hnp, e1, e2, hps, hq⟩, ⟨e3, hik, hk⟩, hF⟩, (h.X ⟨h1, h2⟩ ⟨h3, h4⟩).2.1⟩)
    · exact absurd (vp_le (n := 200) (by decide) h8 (Int32.not_lt.mp h15)) hz
set_option maxRecDepth 4000 in
set_option maxHeartbeats 400000 in
theorem s_after_3 {G : GI} {F : Nat → Prop} {S : Hp} {x bx bu : Nat} {D : Nat → Nat → Nat} {g : Nat → Nat} {N ps : Nat} {gq : Nat → Nat → Nat} {ik : Nat} {gk : Nat → Nat} (h : CSt F S x bx bu D g N ps gq ik gk) (h1 : bx + 1 ≤ gN G) (h2 : bu + 6 ≤ gM G) {p : Nat} (hp4 : p < 4) {f : Nat} (hf : f ≤ 200) {z : Int32} (hz : ¬ vp_in z 201) : Cn m_X12_afterwards G [.ref (x), .int (nI (p)), .int (nI (f)), .int (z)] S (fun r T => r = .inr "java/lang/IllegalArgumentException" ∧ CSt F T x (bx + 1) (bu + 6) D g N ps gq ik gk ∧ FrF F S T) := by
  refine Cn.of rfl (by decide) (Nat.le_of_ble_eq_true rfl) (fun hN hM => ?_)
  show Wx _ G _ 0 [(0, .ref (x)), (1, .int (nI (p))), (2, .int (nI (f))), (3, .int (z))] [] _
  obtain ⟨w, K, E, A, c, hX, hp, hr, hD, ⟨np, hnp, e1, e2, hps, hq⟩, ⟨e3, hik, hk⟩, hF⟩ := h
  have h : XF F S S w x K E A c bx bu := ⟨hX, FrF.rfl, hF⟩
  have hk0 : K 0 < 11 := (hp 0 (by decide)).1
  have n01 : K 0 ≠ K 1 := hp.ne (by decide) (by decide) (by decide)
  have n02 : K 0 ≠ 2 := (hp 0 (by decide)).2.1
  have hP := hr.1.p hp4
  have hPb := hP.b
  have hPm := hP.m
  refine r_aload_n dX12_afterwards_0 rfl 0 rfl ?_
  refine r_iload_n dX12_afterwards_1 rfl 1 rfl ?_
  refine r_fnV (M2 := m_X12_existingProduct) (As := [.int (nI (p))]) (rest := []) (v := some (.ref (Pl x (K 0) + 12 + p))) dX12_afterwards_2 cc_X12_afterwards_96 rfl rfl rfl (Nat.le_of_ble_eq_true rfl) h.1.t0 rfl rfl (by decide) (f_prod h.1.t0 h.1.p416 (h.1.off' hk0) hr.1 hr.2 hp4) rfl ?_
  refine r_astore (lv' := [(4, .ref (Pl x (K 0) + 12 + p)), (0, .ref (x)), (1, .int (nI (p))), (2, .int (nI (f))), (3, .int (z))]) dX12_afterwards_5 (by decide) rfl ?_
  refine r_iload_n dX12_afterwards_7 rfl 3 rfl ?_
  refine r_if_ltN (tgt := 29) dX12_afterwards_8 (by decide) (by omega) ?_
  refine r_iload_n dX12_afterwards_11 rfl 3 rfl ?_
  refine r_sipush (v := nI 200) dX12_afterwards_12 (by decide) ?_
  refine r_icmp_gtN (tgt := 29) dX12_afterwards_15 (by decide) (by omega) (by omega) (fun h15 => ?_) (fun h15 => ?_)
  · exact absurd h15 (by omega)
  · refine r_iload_n dX12_afterwards_18 rfl 4 rfl ?_
    refine r_if_lt (tgt := 29) dX12_afterwards_19 (by decide) (fun h19 => ?_) (fun h19 => ?_)
    · exact r_throw (ft_IA (by decide)) rfl dX12_afterwards_29 dX12_afterwards_32 dX12_afterwards_33 dX12_afterwards_36 (by decide) (h.hc1 h1) (h.hu6 h2) (fun y u h1 h2 h3 h4 => ⟨rfl, ⟨w, K, E, A, c, (h.X ⟨h1, h2⟩ ⟨h3, h4⟩).1, hp, hr, hD, ⟨np, hnp, e1, e2, hps, hq⟩, ⟨e3, hik, hk⟩, hF⟩, (h.X ⟨h1, h2⟩ ⟨h3, h4⟩).2.1⟩)
    · refine r_iload_n dX12_afterwards_22 rfl 4 rfl ?_
      refine r_sipush (v := nI 200) dX12_afterwards_23 (by decide) ?_
      refine r_icmp_le (tgt := 37) dX12_afterwards_26 (by decide) (fun h26 => ?_) (fun h26 => ?_)
      · exact absurd (vp_le (n := 200) (by decide) h19 h26) hz
      · exact r_throw (ft_IA (by decide)) rfl dX12_afterwards_29 dX12_afterwards_32 dX12_afterwards_33 dX12_afterwards_36 (by decide) (h.hc1 h1) (h.hu6 h2) (fun y u h1 h2 h3 h4 => ⟨rfl, ⟨w, K, E, A, c, (h.X ⟨h1, h2⟩ ⟨h3, h4⟩).1, hp, hr, hD, ⟨np, hnp, e1, e2, hps, hq⟩, ⟨e3, hik, hk⟩, hF⟩, (h.X ⟨h1, h2⟩ ⟨h3, h4⟩).2.1⟩)
set_option maxRecDepth 4000 in
set_option maxHeartbeats 400000 in
theorem s_after_4 {G : GI} {F : Nat → Prop} {S : Hp} {x bx bu : Nat} {D : Nat → Nat → Nat} {g : Nat → Nat} {N ps : Nat} {gq : Nat → Nat → Nat} {ik : Nat} {gk : Nat → Nat} (h : CSt F S x bx bu D g N ps gq ik gk) (h1 : bx + 1 ≤ gN G) (h2 : bu + 6 ≤ gM G) {p f al : Nat} (hp4 : p < 4) (hf : f ≤ 200) (hal : al ≤ 200) (h3 : g (22 + 10 * p + 3) = 3) : Cn m_X12_afterwards G [.ref (x), .int (nI (p)), .int (nI (f)), .int (nI (al))] S (fun r T => r = .inr "java/lang/IllegalStateException" ∧ CSt F T x (bx + 1) (bu + 6) D g N ps gq ik gk ∧ FrF F S T) := by
  refine Cn.of rfl (by decide) (Nat.le_of_ble_eq_true rfl) (fun hN hM => ?_)
  show Wx _ G _ 0 [(0, .ref (x)), (1, .int (nI (p))), (2, .int (nI (f))), (3, .int (nI (al)))] [] _
  obtain ⟨w, K, E, A, c, hX, hp, hr, hD, ⟨np, hnp, e1, e2, hps, hq⟩, ⟨e3, hik, hk⟩, hF⟩ := h
  have h : XF F S S w x K E A c bx bu := ⟨hX, FrF.rfl, hF⟩
  have hk0 : K 0 < 11 := (hp 0 (by decide)).1
  have n01 : K 0 ≠ K 1 := hp.ne (by decide) (by decide) (by decide)
  have n02 : K 0 ≠ 2 := (hp 0 (by decide)).2.1
  have hP := hr.1.p hp4
  have hPb := hP.b
  have hPm := hP.m
  refine r_aload_n dX12_afterwards_0 rfl 0 rfl ?_
  refine r_iload_n dX12_afterwards_1 rfl 1 rfl ?_
  refine r_fnV (M2 := m_X12_existingProduct) (As := [.int (nI (p))]) (rest := []) (v := some (.ref (Pl x (K 0) + 12 + p))) dX12_afterwards_2 cc_X12_afterwards_96 rfl rfl rfl (Nat.le_of_ble_eq_true rfl) h.1.t0 rfl rfl (by decide) (f_prod h.1.t0 h.1.p416 (h.1.off' hk0) hr.1 hr.2 hp4) rfl ?_
  refine r_astore (lv' := [(4, .ref (Pl x (K 0) + 12 + p)), (0, .ref (x)), (1, .int (nI (p))), (2, .int (nI (f))), (3, .int (nI (al)))]) dX12_afterwards_5 (by decide) rfl ?_
  refine r_iload_n dX12_afterwards_7 rfl 3 rfl ?_
  refine r_if_ltN (tgt := 29) dX12_afterwards_8 (by decide) (by omega) ?_
  refine r_iload_n dX12_afterwards_11 rfl 3 rfl ?_
  refine r_sipush (v := nI 200) dX12_afterwards_12 (by decide) ?_
  refine r_icmp_gtN (tgt := 29) dX12_afterwards_15 (by decide) (by omega) (by omega) (fun h15 => ?_) (fun h15 => ?_)
  · exact absurd h15 (by omega)
  · refine r_iload_n dX12_afterwards_18 rfl 4 rfl ?_
    refine r_if_ltN (tgt := 29) dX12_afterwards_19 (by decide) (by omega) ?_
    refine r_iload_n dX12_afterwards_22 rfl 4 rfl ?_
    refine r_sipush (v := nI 200) dX12_afterwards_23 (by decide) ?_
    refine r_icmp_leN (tgt := 37) dX12_afterwards_26 (by decide) (by omega) (by omega) (fun h26 => ?_) (fun h26 => ?_)
    · refine r_aload dX12_afterwards_37 0 rfl ?_
      refine r_getI (ci := 10) (k := 3) dX12_afterwards_39 fr_X12_113 ((h.1.off' hk0).1.2.2.2.2.2.2.2.2 p hp4 |>.2) rfl ?_
      refine Wx.top ((h.1.off' hk0).p3 hp4) ?_
      refine Wx.topN (hP.cf (f := 3) (by decide)) ?_
      refine r_iconst (v := nI 3) dX12_afterwards_42 (by decide) ?_
      refine r_icmp_neN (tgt := 54) dX12_afterwards_43 (by decide) (by omega) (by omega) (fun h43 => ?_) (fun h43 => ?_)
      · exact absurd h3 h43
      · exact r_throw (ft_IS (by decide)) rfl dX12_afterwards_46 dX12_afterwards_49 dX12_afterwards_50 dX12_afterwards_53 (by decide) (h.hc1 h1) (h.hu6 h2) (fun y u h1 h2 h3 h4 => ⟨rfl, ⟨w, K, E, A, c, (h.X ⟨h1, h2⟩ ⟨h3, h4⟩).1, hp, hr, hD, ⟨np, hnp, e1, e2, hps, hq⟩, ⟨e3, hik, hk⟩, hF⟩, (h.X ⟨h1, h2⟩ ⟨h3, h4⟩).2.1⟩)
    · exact absurd h26 (by omega)
set_option maxRecDepth 4000 in
set_option maxHeartbeats 400000 in
theorem s_after_0 {G : GI} {F : Nat → Prop} {S : Hp} {x bx bu : Nat} {D : Nat → Nat → Nat} {g : Nat → Nat} {N ps : Nat} {gq : Nat → Nat → Nat} {ik : Nat} {gk : Nat → Nat} (h : CSt F S x bx bu D g N ps gq ik gk) {p f al : Nat} (hp4 : p < 4) (hf : f ≤ 200) (hal : al ≤ 200) (h3 : ¬ g (22 + 10 * p + 3) = 3) : Cn m_X12_afterwards G [.ref x, .int (nI p), .int (nI f), .int (nI al)] S (fun r T => r = .inl (some (.int (nI (sevB g (22 + 10 * p) f al)))) ∧ CSt F T x bx bu D g N ps gq ik gk ∧ FrF F S T) := by
  refine Cn.of rfl (by decide) (Nat.le_of_ble_eq_true rfl) (fun hN hM => ?_)
  show Wx _ G _ 0 [(0, .ref (x)), (1, .int (nI (p))), (2, .int (nI (f))), (3, .int (nI (al)))] [] _
  obtain ⟨w, K, E, A, c, hX, hp, hr, hD, ⟨np, hnp, e1, e2, hps, hq⟩, ⟨e3, hik, hk⟩, hF⟩ := h
  have h : XF F S S w x K E A c bx bu := ⟨hX, FrF.rfl, hF⟩
  have hk0 : K 0 < 11 := (hp 0 (by decide)).1
  have n01 : K 0 ≠ K 1 := hp.ne (by decide) (by decide) (by decide)
  have n02 : K 0 ≠ 2 := (hp 0 (by decide)).2.1
  have hP := hr.1.p hp4
  have hPb := hP.b
  have hPm := hP.m
  obtain ⟨x3, x4, x5, x6, hrm, hx3, -⟩ := Rel.rem (f := f) (al := al) hr.1 hp4 h3
  refine r_aload_n dX12_afterwards_0 rfl 0 rfl ?_
  refine r_iload_n dX12_afterwards_1 rfl 1 rfl ?_
  refine r_fnV (M2 := m_X12_existingProduct) (As := [.int (nI (p))]) (rest := []) (v := some (.ref (Pl x (K 0) + 12 + p))) dX12_afterwards_2 cc_X12_afterwards_96 rfl rfl rfl (Nat.le_of_ble_eq_true rfl) h.1.t0 rfl rfl (by decide) (f_prod h.1.t0 h.1.p416 (h.1.off' hk0) hr.1 hr.2 hp4) rfl ?_
  refine r_astore (lv' := [(4, .ref (Pl x (K 0) + 12 + p)), (0, .ref (x)), (1, .int (nI (p))), (2, .int (nI (f))), (3, .int (nI (al)))]) dX12_afterwards_5 (by decide) rfl ?_
  refine r_iload_n dX12_afterwards_7 rfl 3 rfl ?_
  refine r_if_ltN (tgt := 29) dX12_afterwards_8 (by decide) (by omega) ?_
  refine r_iload_n dX12_afterwards_11 rfl 3 rfl ?_
  refine r_sipush (v := nI 200) dX12_afterwards_12 (by decide) ?_
  refine r_icmp_gtN (tgt := 29) dX12_afterwards_15 (by decide) (by omega) (by omega) (fun h15 => ?_) (fun h15 => ?_)
  · exact absurd h15 (by omega)
  · refine r_iload_n dX12_afterwards_18 rfl 4 rfl ?_
    refine r_if_ltN (tgt := 29) dX12_afterwards_19 (by decide) (by omega) ?_
    refine r_iload_n dX12_afterwards_22 rfl 4 rfl ?_
    refine r_sipush (v := nI 200) dX12_afterwards_23 (by decide) ?_
    refine r_icmp_leN (tgt := 37) dX12_afterwards_26 (by decide) (by omega) (by omega) (fun h26 => ?_) (fun h26 => ?_)
    · refine r_aload dX12_afterwards_37 0 rfl ?_
      refine r_getI (ci := 10) (k := 3) dX12_afterwards_39 fr_X12_113 ((h.1.off' hk0).1.2.2.2.2.2.2.2.2 p hp4 |>.2) rfl ?_
      refine Wx.top ((h.1.off' hk0).p3 hp4) ?_
      refine Wx.topN (hP.cf (f := 3) (by decide)) ?_
      refine r_iconst (v := nI 3) dX12_afterwards_42 (by decide) ?_
      refine r_icmp_neN (tgt := 54) dX12_afterwards_43 (by decide) (by omega) (by omega) (fun h43 => ?_) (fun h43 => ?_)
      · refine r_aload_n dX12_afterwards_54 rfl 1 rfl ?_
        refine r_getR (ci := 13) (k := 12) (b := x + 61) dX12_afterwards_55 fr_X12_63 h.1.t0 rfl h.1.p428 ?_
        refine r_aload dX12_afterwards_58 0 rfl ?_
        refine r_fnV (M2 := m_X8_copyFrom) (As := [.ref (Pl x (K 0) + 12 + p)]) (rest := []) (v := none) dX12_afterwards_60 cc_X12_afterwards_119 rfl rfl rfl (Nat.le_of_ble_eq_true rfl) h.1.t61 rfl rfl (by decide) (k_copyProduct h.1.t61 ((h.1.off' hk0).1.2.2.2.2.2.2.2.2 p hp4 |>.2)) rfl ?_
        rw [(h.1.off' hk0).p0 hp4, (h.1.off' hk0).p1 hp4, (h.1.off' hk0).p2 hp4, (h.1.off' hk0).p3 hp4, (h.1.off' hk0).p4 hp4, (h.1.off' hk0).p5 hp4, (h.1.off' hk0).p6 hp4, (h.1.off' hk0).p7 hp4, (h.1.off' hk0).p8 hp4]
        refine Wx.gp (fun T => XF F S T w x K (up2 (up2 (up2 (up2 (up2 (up2 (up2 (up2 (up2 E 320 (61) (c (K 0) (22 + 10 * p))) 321 (61) (c (K 0) (22 + 10 * p + 1))) 322 (61) (c (K 0) (22 + 10 * p + 2))) 323 (61) (c (K 0) (22 + 10 * p + 3))) 324 (61) (c (K 0) (22 + 10 * p + 4))) 325 (61) (c (K 0) (22 + 10 * p + 5))) 326 (61) (c (K 0) (22 + 10 * p + 6))) 327 (61) (c (K 0) (22 + 10 * p + 8))) 328 (61) (c (K 0) (22 + 10 * p + 9))) A c bx bu) ((((((((((h.I (a := 61) (f := 320) (by decide) (by decide) (by decide)).I (a := 61) (f := 321) (by decide) (by decide) (by decide)).I (a := 61) (f := 322) (by decide) (by decide) (by decide)).I (a := 61) (f := 323) (by decide) (by decide) (by decide)).I (a := 61) (f := 324) (by decide) (by decide) (by decide)).I (a := 61) (f := 325) (by decide) (by decide) (by decide)).I (a := 61) (f := 326) (by decide) (by decide) (by decide)).I (a := 61) (f := 327) (by decide) (by decide) (by decide)).I (a := 61) (f := 328) (by decide) (by decide) (by decide))) (fun T (hx : XF F S T w x K (up2 (up2 (up2 (up2 (up2 (up2 (up2 (up2 (up2 E 320 (61) (c (K 0) (22 + 10 * p))) 321 (61) (c (K 0) (22 + 10 * p + 1))) 322 (61) (c (K 0) (22 + 10 * p + 2))) 323 (61) (c (K 0) (22 + 10 * p + 3))) 324 (61) (c (K 0) (22 + 10 * p + 4))) 325 (61) (c (K 0) (22 + 10 * p + 5))) 326 (61) (c (K 0) (22 + 10 * p + 6))) 327 (61) (c (K 0) (22 + 10 * p + 8))) 328 (61) (c (K 0) (22 + 10 * p + 9))) A c bx bu) => ?_)
        refine r_aload_n dX12_afterwards_63 rfl 1 rfl ?_
        refine r_getR (ci := 13) (k := 12) (b := x + 61) dX12_afterwards_64 fr_X12_63 hx.1.t0 rfl hx.1.p428 ?_
        refine r_iload_n dX12_afterwards_67 rfl 3 rfl ?_
        refine r_iload_n dX12_afterwards_68 rfl 4 rfl ?_
        refine r_fnV (M2 := m_X8_remember) (As := [.int (nI (f)), .int (nI (al))]) (rest := []) (v := none) dX12_afterwards_69 cc_X12_afterwards_123 rfl rfl rfl (Nat.le_of_ble_eq_true rfl) hx.1.t61 rfl rfl (by decide) (p_rem (q3 := g (22 + 10 * p + 3)) (q4 := g (22 + 10 * p + 4)) (q5 := g (22 + 10 * p + 5)) (q6 := c (K 0) (22 + 10 * p + 6)) hx.1.t61 ((hx.1.i (a := 61) (f := 323) (by decide) (by decide)).trans (congrArg nI (by rw [u2_n (by decide), u2_n (by decide), u2_n (by decide), u2_n (by decide), u2_n (by decide), u2_s]; exact hP.cf (f := 3) (by decide)))) ((hx.1.i (a := 61) (f := 324) (by decide) (by decide)).trans (congrArg nI (by rw [u2_n (by decide), u2_n (by decide), u2_n (by decide), u2_n (by decide), u2_s]; exact hP.cf (f := 4) (by decide)))) ((hx.1.i (a := 61) (f := 325) (by decide) (by decide)).trans (congrArg nI (by rw [u2_n (by decide), u2_n (by decide), u2_n (by decide), u2_s]; exact hP.cf (f := 5) (by decide)))) ((hx.1.i (a := 61) (f := 326) (by decide) (by decide)).trans (congrArg nI (by rw [u2_n (by decide), u2_n (by decide), u2_s]))) (by omega) (by omega) (by omega) (Nat.lt_of_lt_of_le hPm.2.1 (Nat.pow_le_pow_right (by decide) hPm.1)) hf hal) rfl ?_
        rw [hrm]
        refine Wx.gp (fun T => XF F S T w x K (up2 (up2 (up2 (up2 (up2 (up2 (up2 (up2 (up2 (up2 (up2 (up2 (up2 E 320 (61) (c (K 0) (22 + 10 * p))) 321 (61) (c (K 0) (22 + 10 * p + 1))) 322 (61) (c (K 0) (22 + 10 * p + 2))) 323 (61) (c (K 0) (22 + 10 * p + 3))) 324 (61) (c (K 0) (22 + 10 * p + 4))) 325 (61) (c (K 0) (22 + 10 * p + 5))) 326 (61) (c (K 0) (22 + 10 * p + 6))) 327 (61) (c (K 0) (22 + 10 * p + 8))) 328 (61) (c (K 0) (22 + 10 * p + 9))) 323 (61) (x3)) 324 (61) (x4)) 325 (61) (x5)) 326 (61) (x6)) A c bx bu) (((((hx.I (a := 61) (f := 323) (by decide) (by decide) (by decide)).I (a := 61) (f := 324) (by decide) (by decide) (by decide)).I (a := 61) (f := 325) (by decide) (by decide) (by decide)).I (a := 61) (f := 326) (by decide) (by decide) (by decide))) (fun T_1 (hx_1 : XF F S T_1 w x K (up2 (up2 (up2 (up2 (up2 (up2 (up2 (up2 (up2 (up2 (up2 (up2 (up2 E 320 (61) (c (K 0) (22 + 10 * p))) 321 (61) (c (K 0) (22 + 10 * p + 1))) 322 (61) (c (K 0) (22 + 10 * p + 2))) 323 (61) (c (K 0) (22 + 10 * p + 3))) 324 (61) (c (K 0) (22 + 10 * p + 4))) 325 (61) (c (K 0) (22 + 10 * p + 5))) 326 (61) (c (K 0) (22 + 10 * p + 6))) 327 (61) (c (K 0) (22 + 10 * p + 8))) 328 (61) (c (K 0) (22 + 10 * p + 9))) 323 (61) (x3)) 324 (61) (x4)) 325 (61) (x5)) 326 (61) (x6)) A c bx bu) => ?_)
        refine r_aload_n dX12_afterwards_72 rfl 1 rfl ?_
        refine r_getR (ci := 13) (k := 12) (b := x + 61) dX12_afterwards_73 fr_X12_63 hx_1.1.t0 rfl hx_1.1.p428 ?_
        refine r_getI (ci := 10) (k := 3) dX12_afterwards_76 fr_X12_113 hx_1.1.t61 rfl ?_
        refine Wx.top (hx_1.1.i (f := 323) (by decide) (by decide)) ?_
        refine Wx.topN (u2_n (by omega)) ?_
        refine Wx.topN (u2_n (by omega)) ?_
        refine Wx.topN (u2_n (by omega)) ?_
        refine Wx.topN u2_s ?_
        have hD9 : ∀ f a, (a = 52 ∨ a = 55 ∨ a = 56 ∨ 190 ≤ a ∨ a = 51 ∧ (f = 161 ∨ f = 163)) → (up2 (up2 (up2 (up2 (up2 (up2 (up2 (up2 (up2 (up2 (up2 (up2 (up2 E 320 (61) (c (K 0) (22 + 10 * p))) 321 (61) (c (K 0) (22 + 10 * p + 1))) 322 (61) (c (K 0) (22 + 10 * p + 2))) 323 (61) (c (K 0) (22 + 10 * p + 3))) 324 (61) (c (K 0) (22 + 10 * p + 4))) 325 (61) (c (K 0) (22 + 10 * p + 5))) 326 (61) (c (K 0) (22 + 10 * p + 6))) 327 (61) (c (K 0) (22 + 10 * p + 8))) 328 (61) (c (K 0) (22 + 10 * p + 9))) 323 (61) (x3)) 324 (61) (x4)) 325 (61) (x5)) 326 (61) (x6)) f a = D f a := fun f a ha => by
          rw [u2_n (by omega), u2_n (by omega), u2_n (by omega), u2_n (by omega), u2_n (by omega), u2_n (by omega), u2_n (by omega), u2_n (by omega), u2_n (by omega), u2_n (by omega), u2_n (by omega), u2_n (by omega), u2_n (by omega)]; exact hD f a ha
        exact r_iret (ty := .int) dX12_afterwards_79 rfl rfl ⟨congrArg (fun z => Sum.inl (some (Value.int (nI z)))) hx3, ⟨w, K, _, A, c, hx_1.1, hp, hr, hD9, ⟨np, hnp, (by rw [u2_n (by decide), u2_n (by decide), u2_n (by decide), u2_n (by decide), u2_n (by decide), u2_n (by decide), u2_n (by decide), u2_n (by decide), u2_n (by decide), u2_n (by decide), u2_n (by decide), u2_n (by decide), u2_n (by decide)]; exact e1), (by rw [u2_n (by decide), u2_n (by decide), u2_n (by decide), u2_n (by decide), u2_n (by decide), u2_n (by decide), u2_n (by decide), u2_n (by decide), u2_n (by decide), u2_n (by decide), u2_n (by decide), u2_n (by decide), u2_n (by decide)]; exact e2), hps, hq⟩, ⟨(by rw [u2_n (by decide), u2_n (by decide), u2_n (by decide), u2_n (by decide), u2_n (by decide), u2_n (by decide), u2_n (by decide), u2_n (by decide), u2_n (by decide), u2_n (by decide), u2_n (by decide), u2_n (by decide), u2_n (by decide)]; exact e3), hik, hk⟩, hx_1.2.2⟩, hx_1.2.1⟩
      · exact absurd h43 h3
    · exact absurd h26 (by omega)
