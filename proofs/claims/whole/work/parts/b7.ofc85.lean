/-! STEPS OF THE LAW: the share found, the chance -/
set_option maxRecDepth 4000 in
set_option maxHeartbeats 400000 in
theorem f_found_s {G : GI} {S : Hp} {w : Nat → Nat} {k o : Nat} {A c g : Nat → Nat} {N : Nat} {x : Nat} (hxt : zT S x = 14) (hxo : zP S 416 x = some o) (h : OR S w k o A c) (hr : Rel c g N) (hal : ∀ l, l < g 0 → A l ≠ 0) {p : Nat} (hp : p < 4) (hNb : g (22 + 10 * p + 8) ≤ 16777216) (h0 : ¬ g (22 + 10 * p + 8) = 0) : Fn m_X12_foundShare G [.ref (x), .int (nI (p))] S (some (.long ((FP.ddiv (FP.i2d (nI (g (22 + 10 * p + 9)))) (FP.i2d (nI (g (22 + 10 * p + 8))))).toInt64))) S := by
  refine Cn.of rfl (by decide) (Nat.le_of_ble_eq_true rfl) (fun hN hM => ?_)
  show Wx _ G _ 0 [(0, .ref (x)), (1, .int (nI (p)))] [] _
  have hx := OX.refl h
  have h24 := hr.n24
  have hP := hr.p hp
  have hPb := hP.b
  have hPm := hP.m
  have hPs := hP.s
  have hsh := shD (a := g (22 + 10 * p + 9)) (b := g (22 + 10 * p + 8)) hPs.1 (by omega) (by omega)
  refine r_aload_n dX12_foundShare_0 rfl 0 rfl ?_
  refine r_iload_n dX12_foundShare_1 rfl 1 rfl ?_
  refine r_fnV (M2 := m_X12_existingProduct) (As := [.int (nI (p))]) (rest := []) (v := some (.ref (o + 12 + p))) dX12_foundShare_2 cc_X12_foundShare_96 rfl rfl rfl (Nat.le_of_ble_eq_true rfl) hxt rfl rfl (by decide) (f_prod hxt hxo h hr hal (by omega)) rfl ?_
  refine r_astore_n (lv' := [(2, .ref (o + 12 + p)), (0, .ref (x)), (1, .int (nI (p)))]) dX12_foundShare_5 rfl (by decide) rfl ?_
  refine r_aload_n dX12_foundShare_6 rfl 0 rfl ?_
  refine r_getI (ci := 10) (k := 7) dX12_foundShare_7 fr_X12_256 (hx.1.1.2.2.2.2.2.2.2.2 p (by omega)).2 rfl ?_
  refine Wx.top (hx.1.p7 (i := p) (by omega)) ?_
  refine Wx.topN (hr.p (p := p) (by omega)).c8 ?_
  refine r_if_neN (tgt := 21) dX12_foundShare_10 (by decide) (by omega) (fun h10 => ?_) (fun h10 => ?_)
  · refine r_aload_n dX12_foundShare_21 rfl 0 rfl ?_
    refine r_getI (ci := 10) (k := 8) dX12_foundShare_22 fr_X12_259 (hx.1.1.2.2.2.2.2.2.2.2 p (by omega)).2 rfl ?_
    refine Wx.top (hx.1.p8 (i := p) (by omega)) ?_
    refine Wx.topN (hr.p (p := p) (by omega)).c9 ?_
    refine r_i2d dX12_foundShare_25 ?_
    refine r_aload_n dX12_foundShare_26 rfl 0 rfl ?_
    refine r_getI (ci := 10) (k := 7) dX12_foundShare_27 fr_X12_256 (hx.1.1.2.2.2.2.2.2.2.2 p (by omega)).2 rfl ?_
    refine Wx.top (hx.1.p7 (i := p) (by omega)) ?_
    refine Wx.topN (hr.p (p := p) (by omega)).c8 ?_
    refine r_i2d dX12_foundShare_30 ?_
    refine r_ddiv dX12_foundShare_31 hsh.1.nn ?_
    refine r_fnS (M2 := m_X1_ofDouble) (As := [.double (FP.ddiv (FP.i2d (nI (g (22 + 10 * p + 9)))) (FP.i2d (nI (g (22 + 10 * p + 8)))))]) (rest := []) (v := some (.long ((FP.ddiv (FP.i2d (nI (g (22 + 10 * p + 9)))) (FP.i2d (nI (g (22 + 10 * p + 8))))).toInt64))) dX12_foundShare_32 cc_X12_foundShare_200 rfl rfl rfl (Nat.le_of_ble_eq_true rfl) (k_ofDouble hsh.2.2 hsh.2.1) rfl ?_
    exact r_lret dX12_foundShare_35 rfl ⟨rfl, rfl⟩
  · exact absurd h10 h0
theorem s_chance_0 {G : GI} {F : Nat → Prop} {S : Hp} {x bx bu : Nat} {D : Nat → Nat → Nat} {g : Nat → Nat} {N ps : Nat} {gq : Nat → Nat → Nat} {ik : Nat} {gk : Nat → Nat} (h : CSt F S x bx bu D g N ps gq ik gk) {l v : Nat} (hl : l < g 0) (hv : v < 3) (h0 : ¬ inS g l 0 = 0) : Cn m_X12_chance G [.ref x, .int (nI l), .int (nI v)] S (fun r T => r = .inl (some (.long ((smC (inS g l 0) (badN g l) (smpN (inS g l 0) v) (Nat.min (alwN (smpN (inS g l 0) v) (g (22 + 10 * g (90 + 13 * l + 0))) v) (smpN (inS g l 0) v) + 1)).toInt64))) ∧ CSt F T x bx bu D g N ps gq ik gk ∧ FrF F S T) := by
  obtain ⟨w, K, E, A, c, hX, hp, hr, hD, hq, hk, hF⟩ := h
  have hk0 : K 0 < 11 := (hp 0 (by decide)).1
  have hxf : XF F S S w x K E A c bx bu := ⟨hX, FrF.rfl, hF⟩
  refine Cn.mono (fun r T hq2 => ?_) (f_chance_0 hX.t0 hX.p416 (hX.off' hk0) hr.1 hr.2 hX.p427 hX.t59 hX.p128 hX.t60 hX.n60 hl hv h0)
  obtain ⟨hv2, rfl⟩ := hq2
  have hx2 := hxf.one (K' := K) (E' := E) (a0 := x + 60) (hxf.wo (a := 60) (by decide)) (S' := dR S (x + 60) (rwC 33 (inS g l 0) (badN g l) (smpN (inS g l 0) v) (zD S (x + 60)))) rfl rfl (fun b hb => same_dR hb) (hX.one (a := x + 60) (hX.wm (a := 60) (by decide)) rfl rfl rfl rfl (fun b hb => same_dR hb) hX.1)
  exact ⟨hv2, ⟨w, K, E, A, c, hx2.1, hp, hr, hD, hq, hk, hx2.2.2⟩, hx2.2.1⟩
theorem j_foundShare {G : GI} {S : Hp} {x m b a0 : Nat} {inp : Nat → Int32} {n B0 U0 k : Nat} (h : JS S x m b a0 inp n B0 U0 k) (h1 : B0 + k + 1 ≤ gN G) (h2 : U0 + 6 * k + 6 ≤ gM G) (hk : k < 130000) {y0 : Int32} : CnH m_L_foundShare G [.ref x, .int y0, .ref b] S (WOL m_X13_foundShare G [.int y0] x m b a0 inp n B0 U0 k) := by
  obtain ⟨T, V, g, od, N, ps, gq, ik, gk, D, pv, cap, pp, bx, bu, rfl, hs, hc, ⟨hps, hkv, hdv⟩, ⟨hpm, hpd⟩, hb, ⟨hB, hU⟩, hN, h8⟩ := h
  have hbF : LF m b a0 pv b := Or.inr (Or.inr (Or.inl rfl))
  obtain ⟨c0, hr⟩ := hc.rel
  have h24 := hr.n24
  have hbw := hr.wb
  by_cases h0 : vp_in y0 4
  · obtain ⟨p, hp, rfl⟩ := vp_in_of h0 (by decide)
    have hP := hr.p hp
    have hs8 := (h8 p hp).1
    have h8b : g (22 + 10 * p + 8) < 2147480000 := by omega
    by_cases h3 : g (22 + 10 * p + 8) = 0
    · refine CnH.mono (fun r U hq => ?_) (l_foundShare hc.t0 (hc.ft (by omega) (by omega) fun o A c a1 a2 w k a3 r1 r2 a4 a5 => f_found_2 a1 a2 a3 a4 a5 r1 r2 hp (by omega) h3) (fun o T' hq => ?_))
      · rcases hq with ⟨v1, T1, ⟨e, -⟩, -⟩ | ⟨⟨e, -⟩, -⟩ | ⟨⟨e, hc2, hf⟩, rfl⟩
        · cases e
        · exact absurd (Sum.inr.inj e) (by decide)
        · exact ⟨2, by decide, rfl, js_lk hs hc2 hf hpm hpd hb ⟨by omega, by omega⟩ (by omega) (h8.q (by omega)) (by decide) (fun T3 hs3 hpm3 => Cn.mono (fun r U hq => by obtain ⟨hv, rfl⟩ := hq; exact ⟨_, _, od, hv, rfl, up2_s, hps.cg (up2_n (by omega)) (fun i => up2_n (by omega)), hkv.cg (up2_n (by omega)) (fun i => up2_n (by omega)), hdv.cg (fun i => up2_n (by omega)) (fun i => up2_n (by omega)) (up2_n (by omega)) (up2_n (by omega))⟩) (q_foundShare_2 (V := V) (g := g) (od := od) hs3 hp h8b h3))⟩
      · obtain ⟨rfl, hc2, hf⟩ := hq
        exact ⟨⟨(hf b hbF).1.1.trans hb.2.1.1, (hf b hbF).1.2.trans hb.2.1.2⟩, Or.inr (Or.inr (rfl))⟩
    · have hsh := (shD hP.s.1 (Nat.pos_of_ne_zero h3) (by omega)).1
      refine CnH.mono (fun r U hq => ?_) (l_foundShare hc.t0 (hc.fn fun o A c a1 a2 w k a3 a4 a5 => f_found_s a1 a2 a3 a4 a5 hp (by omega) h3) (fun o T' hq => ?_))
      · rcases hq with ⟨v1, T1, ⟨e, hc2, hf⟩, rfl, rfl⟩ | ⟨⟨e, -⟩, -⟩ | ⟨⟨e, -⟩, -⟩
        · cases e
          exact ⟨0, by decide, rfl, js_l0 hs hc2 hf hpm hpd hb ⟨by omega, by omega⟩ (by omega) (h8.q (by omega)) (fun T3 hs3 hpm3 => Cn.mono (fun r U hq => by obtain ⟨hv, rfl⟩ := hq; exact ⟨_, _, od, hv, rfl, up2_s, rfl, hps.cg (up2_n (by omega)) (fun i => up2_n (by omega)), hkv.cg (up2_n (by omega)) (fun i => up2_n (by omega)), hdv.cg (fun i => up2_n (by omega)) (fun i => up2_n (by omega)) (up2_n (by omega)) (up2_n (by omega))⟩) (q_foundShare_0 (V := V) (g := g) (od := od) hs3 hp h8b h3 hsh.nn hsh.eq))⟩
        · cases e
        · cases e
      · obtain ⟨rfl, hc2, hf⟩ := hq
        exact ⟨⟨(hf b hbF).1.1.trans hb.2.1.1, (hf b hbF).1.2.trans hb.2.1.2⟩, Or.inl ⟨_, rfl⟩⟩
  · refine CnH.mono (fun r U hq => ?_) (l_foundShare hc.t0 (hc.ft (by omega) (by omega) fun o A c a1 a2 w k a3 r1 r2 a4 a5 => f_found_1 a1 a2 a3 a4 a5 r1 r2 h0) (fun o T' hq => ?_))
    · rcases hq with ⟨v1, T1, ⟨e, -⟩, -⟩ | ⟨⟨e, hc2, hf⟩, rfl⟩ | ⟨⟨e, -⟩, -⟩
      · cases e
      · exact ⟨1, by decide, rfl, js_lk hs hc2 hf hpm hpd hb ⟨by omega, by omega⟩ (by omega) (h8.q (by omega)) (by decide) (fun T3 hs3 hpm3 => Cn.mono (fun r U hq => by obtain ⟨hv, rfl⟩ := hq; exact ⟨_, _, od, hv, rfl, up2_s, hps.cg (up2_n (by omega)) (fun i => up2_n (by omega)), hkv.cg (up2_n (by omega)) (fun i => up2_n (by omega)), hdv.cg (fun i => up2_n (by omega)) (fun i => up2_n (by omega)) (up2_n (by omega)) (up2_n (by omega))⟩) (q_foundShare_1 (V := V) (g := g) (od := od) hs3 h0))⟩
      · exact absurd (Sum.inr.inj e) (by decide)
    · obtain ⟨rfl, hc2, hf⟩ := hq
      exact ⟨⟨(hf b hbF).1.1.trans hb.2.1.1, (hf b hbF).1.2.trans hb.2.1.2⟩, Or.inr (Or.inl rfl)⟩
theorem j_chance {G : GI} {S : Hp} {x m b a0 : Nat} {inp : Nat → Int32} {n B0 U0 k : Nat} (h : JS S x m b a0 inp n B0 U0 k) (h1 : B0 + k + 1 ≤ gN G) (h2 : U0 + 6 * k + 6 ≤ gM G) (hk : k < 130000) {y0 y1 : Int32} : CnH m_L_chance G [.ref x, .int y0, .int y1, .ref b] S (WOL m_X13_chance G [.int y0, .int y1] x m b a0 inp n B0 U0 k) := by
  obtain ⟨T, V, g, od, N, ps, gq, ik, gk, D, pv, cap, pp, bx, bu, rfl, hs, hc, ⟨hps, hkv, hdv⟩, ⟨hpm, hpd⟩, hb, ⟨hB, hU⟩, hN, h8⟩ := h
  have hbF : LF m b a0 pv b := Or.inr (Or.inr (Or.inl rfl))
  obtain ⟨c0, hr⟩ := hc.rel
  have h24 := hr.n24
  have hbw := hr.wb
  by_cases h0 : vp_in y0 (g 0)
  · obtain ⟨l, hl, rfl⟩ := vp_in_of h0 (by omega)
    have hL := hr.lot hl
    have hz := hL.z
    have hpr := hL.pr
    have h15 := (hr.p hpr).b.2.1
    have hlim := (hr.p hpr).b.1
    by_cases h3 : vp_in y1 3
    · obtain ⟨v, hv, rfl⟩ := vp_in_of h3 (by decide)
      by_cases h5 : inS g l 0 = 0
      · refine CnH.mono (fun r U hq => ?_) (l_chance hc.t0 (hc.ft (by omega) (by omega) fun o A c a1 a2 w k a3 r1 r2 a4 a5 => f_chance_3 a1 a2 a3 a4 a5 r1 r2 hl hv h5) (fun o T' hq => ?_))
        · rcases hq with ⟨v1, T1, ⟨e, -⟩, -⟩ | ⟨⟨e, -⟩, -⟩ | ⟨⟨e, -⟩, -⟩ | ⟨⟨e, hc2, hf⟩, rfl⟩
          · cases e
          · exact absurd (Sum.inr.inj e) (by decide)
          · exact absurd (Sum.inr.inj e) (by decide)
          · exact ⟨3, by decide, rfl, js_lk hs hc2 hf hpm hpd hb ⟨by omega, by omega⟩ (by omega) (h8.q (by omega)) (by decide) (fun T3 hs3 hpm3 => Cn.mono (fun r U hq => by obtain ⟨hv2, rfl⟩ := hq; exact ⟨_, _, od, hv2, rfl, up2_s, hps.cg (up2_n (by omega)) (fun i => up2_n (by omega)), hkv.cg (up2_n (by omega)) (fun i => up2_n (by omega)), hdv.cg (fun i => up2_n (by omega)) (fun i => up2_n (by omega)) (up2_n (by omega)) (up2_n (by omega))⟩) (q_chance_3 (V := V) (g := g) (od := od) hs3 h24 hbw hl hz hv h5))⟩
        · obtain ⟨rfl, hc2, hf⟩ := hq
          exact ⟨⟨(hf b hbF).1.1.trans hb.2.1.1, (hf b hbF).1.2.trans hb.2.1.2⟩, Or.inr (Or.inr (Or.inr (rfl)))⟩
      · refine CnH.mono (fun r U hq => ?_) (l_chance hc.t0 (s_chance_0 hc hl hv h5) (fun o T' hq => ?_))
        · rcases hq with ⟨v1, T1, ⟨e, hc2, hf⟩, rfl, rfl⟩ | ⟨⟨e, -⟩, -⟩ | ⟨⟨e, -⟩, -⟩ | ⟨⟨e, -⟩, -⟩
          · cases e
            exact ⟨0, by decide, rfl, js_l0 hs (hc2) hf hpm (hpd) hb ⟨by omega, by omega⟩ (by omega) (h8.q (by omega)) (fun T3 hs3 hpm3 => Cn.mono (fun r U hq => by obtain ⟨hv2, rfl⟩ := hq; exact ⟨_, _, _, hv2, rfl, up2_s, rfl, hps.cg (up2_n (by omega)) (fun i => up2_n (by omega)), hkv.cg (up2_n (by omega)) (fun i => up2_n (by omega)), hdv.cg (fun i => up2_n (by omega)) (fun i => up2_n (by omega)) (up2_n (by omega)) (up2_n (by omega))⟩) (q_chance_0 (V := V) (g := g) (od := od) hs3 h24 hbw hl hz hpr h15 hlim hv h5))⟩
          · cases e
          · cases e
          · cases e
        · obtain ⟨rfl, hc2, hf⟩ := hq
          exact ⟨⟨(hf b hbF).1.1.trans hb.2.1.1, (hf b hbF).1.2.trans hb.2.1.2⟩, Or.inl ⟨_, rfl⟩⟩
    · refine CnH.mono (fun r U hq => ?_) (l_chance hc.t0 (hc.ft (by omega) (by omega) fun o A c a1 a2 w k a3 r1 r2 a4 a5 => f_chance_2 a1 a2 a3 a4 a5 r1 r2 hl h3) (fun o T' hq => ?_))
      · rcases hq with ⟨v1, T1, ⟨e, -⟩, -⟩ | ⟨⟨e, -⟩, -⟩ | ⟨⟨e, hc2, hf⟩, rfl⟩ | ⟨⟨e, -⟩, -⟩
        · cases e
        · exact absurd (Sum.inr.inj e) (by decide)
        · exact ⟨2, by decide, rfl, js_lk hs hc2 hf hpm hpd hb ⟨by omega, by omega⟩ (by omega) (h8.q (by omega)) (by decide) (fun T3 hs3 hpm3 => Cn.mono (fun r U hq => by obtain ⟨hv, rfl⟩ := hq; exact ⟨_, _, od, hv, rfl, up2_s, hps.cg (up2_n (by omega)) (fun i => up2_n (by omega)), hkv.cg (up2_n (by omega)) (fun i => up2_n (by omega)), hdv.cg (fun i => up2_n (by omega)) (fun i => up2_n (by omega)) (up2_n (by omega)) (up2_n (by omega))⟩) (q_chance_2 (V := V) (g := g) (od := od) hs3 h24 hl h3))⟩
        · exact absurd (Sum.inr.inj e) (by decide)
      · obtain ⟨rfl, hc2, hf⟩ := hq
        exact ⟨⟨(hf b hbF).1.1.trans hb.2.1.1, (hf b hbF).1.2.trans hb.2.1.2⟩, Or.inr (Or.inr (Or.inl rfl))⟩
  · refine CnH.mono (fun r U hq => ?_) (l_chance hc.t0 (hc.ft (by omega) (by omega) fun o A c a1 a2 w k a3 r1 r2 a4 a5 => f_chance_1 a1 a2 a3 a4 a5 r1 r2 h0) (fun o T' hq => ?_))
    · rcases hq with ⟨v1, T1, ⟨e, -⟩, -⟩ | ⟨⟨e, hc2, hf⟩, rfl⟩ | ⟨⟨e, -⟩, -⟩ | ⟨⟨e, -⟩, -⟩
      · cases e
      · exact ⟨1, by decide, rfl, js_lk hs hc2 hf hpm hpd hb ⟨by omega, by omega⟩ (by omega) (h8.q (by omega)) (by decide) (fun T3 hs3 hpm3 => Cn.mono (fun r U hq => by obtain ⟨hv, rfl⟩ := hq; exact ⟨_, _, od, hv, rfl, up2_s, hps.cg (up2_n (by omega)) (fun i => up2_n (by omega)), hkv.cg (up2_n (by omega)) (fun i => up2_n (by omega)), hdv.cg (fun i => up2_n (by omega)) (fun i => up2_n (by omega)) (up2_n (by omega)) (up2_n (by omega))⟩) (q_chance_1 (V := V) (g := g) (od := od) hs3 h24 h0))⟩
      · exact absurd (Sum.inr.inj e) (by decide)
      · exact absurd (Sum.inr.inj e) (by decide)
    · obtain ⟨rfl, hc2, hf⟩ := hq
      exact ⟨⟨(hf b hbF).1.1.trans hb.2.1.1, (hf b hbF).1.2.trans hb.2.1.2⟩, Or.inr (Or.inl rfl)⟩
