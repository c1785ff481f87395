/-! STEPS OF THE LAW: tables, shares, places -/
theorem j_table {G : GI} {S : Hp} {x m b a0 : Nat} {inp : Nat → Int32} {n B0 U0 k : Nat} (h : JS S x m b a0 inp n B0 U0 k) (h1 : B0 + k + 1 ≤ gN G) (h2 : U0 + 6 * k + 6 ≤ gM G) (hk : k < 130000) {y0 y1 y2 y3 : Int32} (hz01 : y3 = nI 0 ∨ y3 = nI 1) : CnH m_L_table G [.ref x, .int y0, .int y1, .int y2, .int y3, .ref b] S (WO m_X13_table G [.int y0, .int y1, .int y2, .int y3] x m b a0 inp n B0 U0 k) := by
  obtain ⟨T, V, g, od, N, ps, gq, ik, gk, D, pv, cap, pp, bx, bu, rfl, hs, hc, ⟨hps, hkv, hdv⟩, ⟨hpm, hpd⟩, hb, ⟨hB, hU⟩, hN, h8⟩ := h
  have hbF : LF m b a0 pv b := Or.inr (Or.inr (Or.inl rfl))
  obtain ⟨c0, hr⟩ := hc.rel
  have h24 := hr.n24
  have hbw := hr.wb
  by_cases h0 : vp_in y0 4
  · obtain ⟨p, hp, rfl⟩ := vp_in_of h0 (by decide)
    have hB := (hr.p hp).b
    by_cases h3 : nI 1 ≤ y1 ∧ y1 ≤ nI 200
    · obtain ⟨q, hq0, hq, rfl⟩ := in200 h3
      by_cases h4 : vp_in y2 3
      · obtain ⟨v, hv, rfl⟩ := vp_in_of h4 (by decide)
        rcases hz01 with rfl | rfl
        · refine CnH.mono (fun r U hq => ?_) (l_table hc.t0 (hc.fn fun o A c a1 a2 w k a3 a4 a5 => f_table_b a1 a2 a3 a4 a5 hp hq0 hq hv) (fun o T' hq => ?_))
          · rcases hq with ⟨v1, T1, ⟨e, hc2, hf⟩, rfl, rfl⟩ | ⟨⟨e, -⟩, -⟩ | ⟨⟨e, -⟩, -⟩
            · cases e
              exact ⟨0, by decide, rfl, js_g0 hs hc2 hf hpm hpd hb ⟨by omega, by omega⟩ (by omega) (h8.q (by omega)) (fun T3 hs3 hpm3 => Cn.mono (fun r U hq => by obtain ⟨hv2, rfl⟩ := hq; exact ⟨_, _, od, hv2, rfl, up2_s, rfl, hps.cg (up2_n (by omega)) (fun i => up2_n (by omega)), hkv.cg (up2_n (by omega)) (fun i => up2_n (by omega)), hdv.cg (fun i => up2_n (by omega)) (fun i => up2_n (by omega)) (up2_n (by omega)) (up2_n (by omega))⟩) (q_table_b (V := V) (g := g) (od := od) hs3 hp hq0 hq hv hB.1))⟩
            · cases e
            · cases e
          · obtain ⟨rfl, hc2, hf⟩ := hq
            exact ⟨⟨(hf b hbF).1.1.trans hb.2.1.1, (hf b hbF).1.2.trans hb.2.1.2⟩, Or.inl ⟨_, rfl⟩⟩
        · refine CnH.mono (fun r U hq => ?_) (l_table hc.t0 (hc.fn fun o A c a1 a2 w k a3 a4 a5 => f_table_a a1 a2 a3 a4 a5 hp hq0 hq hv) (fun o T' hq => ?_))
          · rcases hq with ⟨v1, T1, ⟨e, hc2, hf⟩, rfl, rfl⟩ | ⟨⟨e, -⟩, -⟩ | ⟨⟨e, -⟩, -⟩
            · cases e
              exact ⟨0, by decide, rfl, js_g0 hs hc2 hf hpm hpd hb ⟨by omega, by omega⟩ (by omega) (h8.q (by omega)) (fun T3 hs3 hpm3 => Cn.mono (fun r U hq => by obtain ⟨hv2, rfl⟩ := hq; exact ⟨_, _, od, hv2, rfl, up2_s, rfl, hps.cg (up2_n (by omega)) (fun i => up2_n (by omega)), hkv.cg (up2_n (by omega)) (fun i => up2_n (by omega)), hdv.cg (fun i => up2_n (by omega)) (fun i => up2_n (by omega)) (up2_n (by omega)) (up2_n (by omega))⟩) (q_table_a (V := V) (g := g) (od := od) hs3 hp hq0 hq hv))⟩
            · cases e
            · cases e
          · obtain ⟨rfl, hc2, hf⟩ := hq
            exact ⟨⟨(hf b hbF).1.1.trans hb.2.1.1, (hf b hbF).1.2.trans hb.2.1.2⟩, Or.inl ⟨_, rfl⟩⟩
      · refine CnH.mono (fun r U hq => ?_) (l_table hc.t0 (hc.ft (by omega) (by omega) fun o A c a1 a2 w k a3 r1 r2 a4 a5 => f_table_3 a1 a2 a3 a4 a5 r1 r2 hp hq0 hq h4) (fun o T' hq => ?_))
        · rcases hq with ⟨v1, T1, ⟨e, -⟩, -⟩ | ⟨⟨e, -⟩, -⟩ | ⟨⟨e, hc2, hf⟩, rfl⟩
          · cases e
          · exact absurd (Sum.inr.inj e) (by decide)
          · exact ⟨2, by decide, rfl, js_gk hs hc2 hf hpm hpd hb ⟨by omega, by omega⟩ (by omega) (h8.q (by omega)) (by decide) (fun T3 hs3 hpm3 => Cn.mono (fun r U hq => by obtain ⟨hv, rfl⟩ := hq; exact ⟨_, _, od, hv, rfl, up2_s, hps.cg (up2_n (by omega)) (fun i => up2_n (by omega)), hkv.cg (up2_n (by omega)) (fun i => up2_n (by omega)), hdv.cg (fun i => up2_n (by omega)) (fun i => up2_n (by omega)) (up2_n (by omega)) (up2_n (by omega))⟩) (q_table_3 (V := V) (g := g) (od := od) hs3 hp hq0 hq h4))⟩
        · obtain ⟨rfl, hc2, hf⟩ := hq
          exact ⟨⟨(hf b hbF).1.1.trans hb.2.1.1, (hf b hbF).1.2.trans hb.2.1.2⟩, Or.inr (Or.inr (rfl))⟩
    · refine CnH.mono (fun r U hq => ?_) (l_table hc.t0 (hc.ft (by omega) (by omega) fun o A c a1 a2 w k a3 r1 r2 a4 a5 => f_table_2 a1 a2 a3 a4 a5 r1 r2 hp h3) (fun o T' hq => ?_))
      · rcases hq with ⟨v1, T1, ⟨e, -⟩, -⟩ | ⟨⟨e, -⟩, -⟩ | ⟨⟨e, hc2, hf⟩, rfl⟩
        · cases e
        · exact absurd (Sum.inr.inj e) (by decide)
        · exact ⟨2, by decide, rfl, js_gk hs hc2 hf hpm hpd hb ⟨by omega, by omega⟩ (by omega) (h8.q (by omega)) (by decide) (fun T3 hs3 hpm3 => Cn.mono (fun r U hq => by obtain ⟨hv, rfl⟩ := hq; exact ⟨_, _, od, hv, rfl, up2_s, hps.cg (up2_n (by omega)) (fun i => up2_n (by omega)), hkv.cg (up2_n (by omega)) (fun i => up2_n (by omega)), hdv.cg (fun i => up2_n (by omega)) (fun i => up2_n (by omega)) (up2_n (by omega)) (up2_n (by omega))⟩) (q_table_2 (V := V) (g := g) (od := od) hs3 hp h3))⟩
      · obtain ⟨rfl, hc2, hf⟩ := hq
        exact ⟨⟨(hf b hbF).1.1.trans hb.2.1.1, (hf b hbF).1.2.trans hb.2.1.2⟩, Or.inr (Or.inr (rfl))⟩
  · refine CnH.mono (fun r U hq => ?_) (l_table hc.t0 (hc.ft (by omega) (by omega) fun o A c a1 a2 w k a3 r1 r2 a4 a5 => f_table_1 a1 a2 a3 a4 a5 r1 r2 h0) (fun o T' hq => ?_))
    · rcases hq with ⟨v1, T1, ⟨e, -⟩, -⟩ | ⟨⟨e, hc2, hf⟩, rfl⟩ | ⟨⟨e, -⟩, -⟩
      · cases e
      · exact ⟨1, by decide, rfl, js_gk hs hc2 hf hpm hpd hb ⟨by omega, by omega⟩ (by omega) (h8.q (by omega)) (by decide) (fun T3 hs3 hpm3 => Cn.mono (fun r U hq => by obtain ⟨hv, rfl⟩ := hq; exact ⟨_, _, od, hv, rfl, up2_s, hps.cg (up2_n (by omega)) (fun i => up2_n (by omega)), hkv.cg (up2_n (by omega)) (fun i => up2_n (by omega)), hdv.cg (fun i => up2_n (by omega)) (fun i => up2_n (by omega)) (up2_n (by omega)) (up2_n (by omega))⟩) (q_table_1 (V := V) (g := g) (od := od) hs3 h0))⟩
      · exact absurd (Sum.inr.inj e) (by decide)
    · obtain ⟨rfl, hc2, hf⟩ := hq
      exact ⟨⟨(hf b hbF).1.1.trans hb.2.1.1, (hf b hbF).1.2.trans hb.2.1.2⟩, Or.inr (Or.inl rfl)⟩
theorem j_outgoing {G : GI} {S : Hp} {x m b a0 : Nat} {inp : Nat → Int32} {n B0 U0 k : Nat} (h : JS S x m b a0 inp n B0 U0 k) (h1 : B0 + k + 1 ≤ gN G) (h2 : U0 + 6 * k + 6 ≤ gM G) (hk : k < 130000) {y0 : Int32} : CnH m_L_outgoing G [.ref x, .int y0, .ref b] S (WO m_X13_outgoing G [.int y0] x m b a0 inp n B0 U0 k) := by
  obtain ⟨T, V, g, od, N, ps, gq, ik, gk, D, pv, cap, pp, bx, bu, rfl, hs, hc, ⟨hps, hkv, hdv⟩, ⟨hpm, hpd⟩, hb, ⟨hB, hU⟩, hN, h8⟩ := h
  have hbF : LF m b a0 pv b := Or.inr (Or.inr (Or.inl rfl))
  obtain ⟨c0, hr⟩ := hc.rel
  have h24 := hr.n24
  have hbw := hr.wb
  have hzz : ∀ l, l < g 0 → g (90 + 13 * l + 1) ≤ 200 ∧ g (90 + 13 * l + 0) < 4 := fun l hl => ⟨(hr.lot hl).z, (hr.lot hl).pr⟩
  by_cases h0 : vp_in y0 4
  · obtain ⟨p, hp, rfl⟩ := vp_in_of h0 (by decide)
    have hk15 := (hr.p hp).b.2.1
    have hsl := shp_le (p := p) (n := g 0) (fun i hi => (hzz i hi).1)
    by_cases h3 : sumN (shpN g p) (g 0) = 0
    · refine CnH.mono (fun r U hq => ?_) (l_outgoing hc.t0 (hc.ft (by omega) (by omega) fun o A c a1 a2 w k a3 r1 r2 a4 a5 => f_outgo_2 a1 a2 a3 a4 a5 r1 r2 hp h3) (fun o T' hq => ?_))
      · rcases hq with ⟨v1, T1, ⟨e, -⟩, -⟩ | ⟨⟨e, -⟩, -⟩ | ⟨⟨e, hc2, hf⟩, rfl⟩
        · cases e
        · exact absurd (Sum.inr.inj e) (by decide)
        · exact ⟨2, by decide, rfl, js_gk hs hc2 hf hpm hpd hb ⟨by omega, by omega⟩ (by omega) (h8.q (by omega)) (by decide) (fun T3 hs3 hpm3 => Cn.mono (fun r U hq => by obtain ⟨hv, rfl⟩ := hq; exact ⟨_, _, od, hv, rfl, up2_s, hps.cg ((up2_n (by omega)).trans (up2_n (by omega))) (fun i => (up2_n (by omega)).trans (up2_n (by omega))), hkv.cg ((up2_n (by omega)).trans (up2_n (by omega))) (fun i => (up2_n (by omega)).trans (up2_n (by omega))), hdv.cg (fun i => (up2_n (by omega)).trans (up2_n (by omega))) (fun i => (up2_n (by omega)).trans (up2_n (by omega))) ((up2_n (by omega)).trans (up2_n (by omega))) ((up2_n (by omega)).trans (up2_n (by omega)))⟩) (q_outgoing_2 (V := V) (g := g) (od := od) hs3 h24 hbw hp hzz hk15 h3))⟩
      · obtain ⟨rfl, hc2, hf⟩ := hq
        exact ⟨⟨(hf b hbF).1.1.trans hb.2.1.1, (hf b hbF).1.2.trans hb.2.1.2⟩, Or.inr (Or.inr (rfl))⟩
    · have hsh := (shF (bds_le (g := g) (p := p) (n := g 0)) (Nat.pos_of_ne_zero h3) (by omega)).1
      refine CnH.mono (fun r U hq => ?_) (l_outgoing hc.t0 (hc.fn fun o A c a1 a2 w k a3 a4 a5 => f_outgo_0 a1 a2 a3 a4 a5 hp h3) (fun o T' hq => ?_))
      · rcases hq with ⟨v1, T1, ⟨e, hc2, hf⟩, rfl, rfl⟩ | ⟨⟨e, -⟩, -⟩ | ⟨⟨e, -⟩, -⟩
        · cases e
          exact ⟨0, by decide, rfl, js_g0 hs hc2 hf hpm hpd hb ⟨by omega, by omega⟩ (by omega) (h8.q (by omega)) (fun T3 hs3 hpm3 => Cn.mono (fun r U hq => by obtain ⟨hv, rfl⟩ := hq; exact ⟨_, _, od, hv, rfl, up2_s, rfl, hps.cg (up2_n (by omega)) (fun i => up2_n (by omega)), hkv.cg (up2_n (by omega)) (fun i => up2_n (by omega)), hdv.cg (fun i => up2_n (by omega)) (fun i => up2_n (by omega)) (up2_n (by omega)) (up2_n (by omega))⟩) (q_outgoing_0 (V := V) (g := g) (od := od) hs3 h24 hbw hp hzz hk15 h3 hsh.nn hsh.eq))⟩
        · cases e
        · cases e
      · obtain ⟨rfl, hc2, hf⟩ := hq
        exact ⟨⟨(hf b hbF).1.1.trans hb.2.1.1, (hf b hbF).1.2.trans hb.2.1.2⟩, Or.inl ⟨_, rfl⟩⟩
  · refine CnH.mono (fun r U hq => ?_) (l_outgoing hc.t0 (hc.ft (by omega) (by omega) fun o A c a1 a2 w k a3 r1 r2 a4 a5 => f_outgo_1 a1 a2 a3 a4 a5 r1 r2 h0) (fun o T' hq => ?_))
    · rcases hq with ⟨v1, T1, ⟨e, -⟩, -⟩ | ⟨⟨e, hc2, hf⟩, rfl⟩ | ⟨⟨e, -⟩, -⟩
      · cases e
      · exact ⟨1, by decide, rfl, js_gk hs hc2 hf hpm hpd hb ⟨by omega, by omega⟩ (by omega) (h8.q (by omega)) (by decide) (fun T3 hs3 hpm3 => Cn.mono (fun r U hq => by obtain ⟨hv, rfl⟩ := hq; exact ⟨_, _, od, hv, rfl, up2_s, hps.cg (up2_n (by omega)) (fun i => up2_n (by omega)), hkv.cg (up2_n (by omega)) (fun i => up2_n (by omega)), hdv.cg (fun i => up2_n (by omega)) (fun i => up2_n (by omega)) (up2_n (by omega)) (up2_n (by omega))⟩) (q_outgoing_1 (V := V) (g := g) (od := od) hs3 h0))⟩
      · exact absurd (Sum.inr.inj e) (by decide)
    · obtain ⟨rfl, hc2, hf⟩ := hq
      exact ⟨⟨(hf b hbF).1.1.trans hb.2.1.1, (hf b hbF).1.2.trans hb.2.1.2⟩, Or.inr (Or.inl rfl)⟩
theorem j_whereabouts {G : GI} {S : Hp} {x m b a0 : Nat} {inp : Nat → Int32} {n B0 U0 k : Nat} (h : JS S x m b a0 inp n B0 U0 k) (h1 : B0 + k + 1 ≤ gN G) (h2 : U0 + 6 * k + 6 ≤ gM G) (hk : k < 130000) {y0 y1 : Int32} : CnH m_L_whereabouts G [.ref x, .int y0, .int y1, .ref b] S (WO m_X13_whereabouts G [.int y0, .int y1] x m b a0 inp n B0 U0 k) := by
  obtain ⟨T, V, g, od, N, ps, gq, ik, gk, D, pv, cap, pp, bx, bu, rfl, hs, hc, ⟨hps, hkv, hdv⟩, ⟨hpm, hpd⟩, hb, ⟨hB, hU⟩, hN, h8⟩ := h
  have hbF : LF m b a0 pv b := Or.inr (Or.inr (Or.inl rfl))
  obtain ⟨c0, hr⟩ := hc.rel
  have h24 := hr.n24
  have hbw := hr.wb
  have hzz : ∀ l, l < g 0 → 0 < g (90 + 13 * l + 1) ∧ g (90 + 13 * l + 1) ≤ 200 := fun l hl => ⟨(hr.lot hl).z0, (hr.lot hl).z⟩
  have h88 : ∀ l, l < g 0 → g (90 + 13 * l + 8) ≤ 3 ∧ ∀ k, k < g (90 + 13 * l + 8) → g (90 + 13 * l + (10 + k)) < l := fun l hl => ⟨(hr.lot hl).pc, fun k hk => (hr.lot hl).pt hk⟩
  by_cases h0 : vp_in y0 (g 0)
  · obtain ⟨l, hl, rfl⟩ := vp_in_of h0 (by omega)
    have hz := (hr.lot hl).z
    by_cases h3 : vp_in y1 (g (90 + 13 * l + 1))
    · obtain ⟨u, hu, rfl⟩ := vp_in_of h3 (by omega)
      obtain ⟨n9, l', u', ho, hn9⟩ := hr.out 24 l u (by omega) hl hu
      refine CnH.mono (fun r U hq => ?_) (l_whereabouts hc.t0 (hc.fn fun o A c a1 a2 w k a3 a4 a5 => f_where_0 a1 a2 a3 a4 a5 hl hu ho hn9) (fun o T' hq => ?_))
      · rcases hq with ⟨v1, T1, ⟨e, hc2, hf⟩, rfl, rfl⟩ | ⟨⟨e, -⟩, -⟩
        · cases e
          exact ⟨0, by decide, rfl, js_g0 hs hc2 hf hpm hpd hb ⟨by omega, by omega⟩ (by omega) (h8.q (by omega)) (fun T3 hs3 hpm3 => Cn.mono (fun r U hq => by obtain ⟨hv, rfl⟩ := hq; exact ⟨_, _, od, hv, rfl, up2_s, rfl, hps.cg (up2_n (by omega)) (fun i => up2_n (by omega)), hkv.cg (up2_n (by omega)) (fun i => up2_n (by omega)), hdv.cg (fun i => up2_n (by omega)) (fun i => up2_n (by omega)) (up2_n (by omega)) (up2_n (by omega))⟩) (q_whereabouts_0 (V := V) (g := g) (od := od) hs3 h24 hbw hzz h88 ho))⟩
        · cases e
      · obtain ⟨rfl, hc2, hf⟩ := hq
        exact ⟨⟨(hf b hbF).1.1.trans hb.2.1.1, (hf b hbF).1.2.trans hb.2.1.2⟩, Or.inl ⟨_, rfl⟩⟩
    · refine CnH.mono (fun r U hq => ?_) (l_whereabouts hc.t0 (hc.ft (by omega) (by omega) fun o A c a1 a2 w k a3 r1 r2 a4 a5 => f_where_1b a1 a2 a3 a4 a5 r1 r2 hl h3) (fun o T' hq => ?_))
      · rcases hq with ⟨v1, T1, ⟨e, -⟩, -⟩ | ⟨⟨e, hc2, hf⟩, rfl⟩
        · cases e
        · exact ⟨1, by decide, rfl, js_gk hs hc2 hf hpm hpd hb ⟨by omega, by omega⟩ (by omega) (h8.q (by omega)) (by decide) (fun T3 hs3 hpm3 => Cn.mono (fun r U hq => by obtain ⟨hv, rfl⟩ := hq; exact ⟨_, _, od, hv, rfl, up2_s, hps.cg (up2_n (by omega)) (fun i => up2_n (by omega)), hkv.cg (up2_n (by omega)) (fun i => up2_n (by omega)), hdv.cg (fun i => up2_n (by omega)) (fun i => up2_n (by omega)) (up2_n (by omega)) (up2_n (by omega))⟩) (q_whereabouts_1b (V := V) (g := g) (od := od) hs3 h24 hl hz h3))⟩
      · obtain ⟨rfl, hc2, hf⟩ := hq
        exact ⟨⟨(hf b hbF).1.1.trans hb.2.1.1, (hf b hbF).1.2.trans hb.2.1.2⟩, Or.inr (rfl)⟩
  · refine CnH.mono (fun r U hq => ?_) (l_whereabouts hc.t0 (hc.ft (by omega) (by omega) fun o A c a1 a2 w k a3 r1 r2 a4 a5 => f_where_1a a1 a2 a3 a4 a5 r1 r2 h0) (fun o T' hq => ?_))
    · rcases hq with ⟨v1, T1, ⟨e, -⟩, -⟩ | ⟨⟨e, hc2, hf⟩, rfl⟩
      · cases e
      · exact ⟨1, by decide, rfl, js_gk hs hc2 hf hpm hpd hb ⟨by omega, by omega⟩ (by omega) (h8.q (by omega)) (by decide) (fun T3 hs3 hpm3 => Cn.mono (fun r U hq => by obtain ⟨hv, rfl⟩ := hq; exact ⟨_, _, od, hv, rfl, up2_s, hps.cg (up2_n (by omega)) (fun i => up2_n (by omega)), hkv.cg (up2_n (by omega)) (fun i => up2_n (by omega)), hdv.cg (fun i => up2_n (by omega)) (fun i => up2_n (by omega)) (up2_n (by omega)) (up2_n (by omega))⟩) (q_whereabouts_1a (V := V) (g := g) (od := od) hs3 h24 h0))⟩
    · obtain ⟨rfl, hc2, hf⟩ := hq
      exact ⟨⟨(hf b hbF).1.1.trans hb.2.1.1, (hf b hbF).1.2.trans hb.2.1.2⟩, Or.inr (rfl)⟩
theorem j_afterwards {G : GI} {S : Hp} {x m b a0 : Nat} {inp : Nat → Int32} {n B0 U0 k : Nat} (h : JS S x m b a0 inp n B0 U0 k) (h1 : B0 + k + 1 ≤ gN G) (h2 : U0 + 6 * k + 6 ≤ gM G) (hk : k < 130000) {y0 y1 y2 : Int32} : CnH m_L_afterwards G [.ref x, .int y0, .int y1, .int y2, .ref b] S (WO m_X13_afterwards G [.int y0, .int y1, .int y2] x m b a0 inp n B0 U0 k) := by
  obtain ⟨T, V, g, od, N, ps, gq, ik, gk, D, pv, cap, pp, bx, bu, rfl, hs, hc, ⟨hps, hkv, hdv⟩, ⟨hpm, hpd⟩, hb, ⟨hB, hU⟩, hN, h8⟩ := h
  have hbF : LF m b a0 pv b := Or.inr (Or.inr (Or.inl rfl))
  obtain ⟨c0, hr⟩ := hc.rel
  have h24 := hr.n24
  have hbw := hr.wb
  by_cases h0 : vp_in y0 4
  · obtain ⟨p, hp, rfl⟩ := vp_in_of h0 (by decide)
    have hB := (hr.p hp).b
    have hM := (hr.p hp).m
    have e3 := hB.2.2.2.1
    have e4 : g (22 + 10 * p + 4) ≤ 15 := Nat.le_trans hB.2.2.2.2.1 (by decide)
    have e5 : g (22 + 10 * p + 5) < 2147480000 := by omega
    have e6 : g (22 + 10 * p + 6) < 2147480000 := by rw [← hM.2.2.1]; exact Nat.lt_of_le_of_lt (onesK_le _ _) (by decide)
    have e7 : g (22 + 10 * p + 7) < 32 := by omega
    by_cases h3 : vp_in y1 201
    · obtain ⟨f, hf, rfl⟩ := vp_in_of h3 (by decide)
      have hf2 : f ≤ 200 := by omega
      by_cases h4 : vp_in y2 201
      · obtain ⟨a, ha, rfl⟩ := vp_in_of h4 (by decide)
        have ha2 : a ≤ 200 := by omega
        by_cases h5 : g (22 + 10 * p + 3) = 3
        · refine CnH.mono (fun r U hq => ?_) (l_afterwards hc.t0 (s_after_4 hc (by omega) (by omega) hp hf2 ha2 h5) (fun o T' hq => ?_))
          · rcases hq with ⟨v1, T1, ⟨e, -⟩, -⟩ | ⟨⟨e, -⟩, -⟩ | ⟨⟨e, -⟩, -⟩ | ⟨⟨e, hc2, hf⟩, rfl⟩
            · cases e
            · exact absurd (Sum.inr.inj e) (by decide)
            · exact absurd (Sum.inr.inj e) (by decide)
            · exact ⟨3, by decide, rfl, js_gk hs hc2 hf hpm hpd hb ⟨by omega, by omega⟩ (by omega) (h8.q (by omega)) (by decide) (fun T3 hs3 hpm3 => Cn.mono (fun r U hq => by obtain ⟨hv, rfl⟩ := hq; exact ⟨_, _, od, hv, rfl, up2_s, hps.cg (up2_n (by omega)) (fun i => up2_n (by omega)), hkv.cg (up2_n (by omega)) (fun i => up2_n (by omega)), hdv.cg (fun i => up2_n (by omega)) (fun i => up2_n (by omega)) (up2_n (by omega)) (up2_n (by omega))⟩) (q_afterwards_4 (V := V) (g := g) (od := od) hs3 hp hf2 ha2 e3 e4 e5 e6 e7 h5))⟩
          · obtain ⟨rfl, hc2, hf⟩ := hq
            exact ⟨⟨(hf b hbF).1.1.trans hb.2.1.1, (hf b hbF).1.2.trans hb.2.1.2⟩, Or.inr (Or.inr (Or.inr (rfl)))⟩
        · refine CnH.mono (fun r U hq => ?_) (l_afterwards hc.t0 (s_after_0 hc hp hf2 ha2 h5) (fun o T' hq => ?_))
          · rcases hq with ⟨v1, T1, ⟨e, hc2, hf⟩, rfl, rfl⟩ | ⟨⟨e, -⟩, -⟩ | ⟨⟨e, -⟩, -⟩ | ⟨⟨e, -⟩, -⟩
            · cases e
              exact ⟨0, by decide, rfl, js_g0 hs (hc2) hf hpm (hpd) hb ⟨by omega, by omega⟩ (by omega) (h8.q (by omega)) (fun T3 hs3 hpm3 => Cn.mono (fun r U hq => by obtain ⟨hv, rfl⟩ := hq; exact ⟨_, _, od, hv, rfl, up2_s, rfl, hps.cg (up2_n (by omega)) (fun i => up2_n (by omega)), hkv.cg (up2_n (by omega)) (fun i => up2_n (by omega)), hdv.cg (fun i => up2_n (by omega)) (fun i => up2_n (by omega)) (up2_n (by omega)) (up2_n (by omega))⟩) (q_afterwards_0 (V := V) (g := g) (od := od) hs3 hp hf2 ha2 e3 e4 e5 e6 e7 h5))⟩
            · cases e
            · cases e
            · cases e
          · obtain ⟨rfl, hc2, hf⟩ := hq
            exact ⟨⟨(hf b hbF).1.1.trans hb.2.1.1, (hf b hbF).1.2.trans hb.2.1.2⟩, Or.inl ⟨_, rfl⟩⟩
      · refine CnH.mono (fun r U hq => ?_) (l_afterwards hc.t0 (s_after_3 hc (by omega) (by omega) hp hf2 h4) (fun o T' hq => ?_))
        · rcases hq with ⟨v1, T1, ⟨e, -⟩, -⟩ | ⟨⟨e, -⟩, -⟩ | ⟨⟨e, hc2, hf⟩, rfl⟩ | ⟨⟨e, -⟩, -⟩
          · cases e
          · exact absurd (Sum.inr.inj e) (by decide)
          · exact ⟨2, by decide, rfl, js_gk hs hc2 hf hpm hpd hb ⟨by omega, by omega⟩ (by omega) (h8.q (by omega)) (by decide) (fun T3 hs3 hpm3 => Cn.mono (fun r U hq => by obtain ⟨hv, rfl⟩ := hq; exact ⟨_, _, od, hv, rfl, up2_s, hps.cg (up2_n (by omega)) (fun i => up2_n (by omega)), hkv.cg (up2_n (by omega)) (fun i => up2_n (by omega)), hdv.cg (fun i => up2_n (by omega)) (fun i => up2_n (by omega)) (up2_n (by omega)) (up2_n (by omega))⟩) (q_afterwards_3 (V := V) (g := g) (od := od) hs3 hp hf2 h4))⟩
          · exact absurd (Sum.inr.inj e) (by decide)
        · obtain ⟨rfl, hc2, hf⟩ := hq
          exact ⟨⟨(hf b hbF).1.1.trans hb.2.1.1, (hf b hbF).1.2.trans hb.2.1.2⟩, Or.inr (Or.inr (Or.inl rfl))⟩
    · refine CnH.mono (fun r U hq => ?_) (l_afterwards hc.t0 (s_after_2 hc (by omega) (by omega) hp h3) (fun o T' hq => ?_))
      · rcases hq with ⟨v1, T1, ⟨e, -⟩, -⟩ | ⟨⟨e, -⟩, -⟩ | ⟨⟨e, hc2, hf⟩, rfl⟩ | ⟨⟨e, -⟩, -⟩
        · cases e
        · exact absurd (Sum.inr.inj e) (by decide)
        · exact ⟨2, by decide, rfl, js_gk hs hc2 hf hpm hpd hb ⟨by omega, by omega⟩ (by omega) (h8.q (by omega)) (by decide) (fun T3 hs3 hpm3 => Cn.mono (fun r U hq => by obtain ⟨hv, rfl⟩ := hq; exact ⟨_, _, od, hv, rfl, up2_s, hps.cg (up2_n (by omega)) (fun i => up2_n (by omega)), hkv.cg (up2_n (by omega)) (fun i => up2_n (by omega)), hdv.cg (fun i => up2_n (by omega)) (fun i => up2_n (by omega)) (up2_n (by omega)) (up2_n (by omega))⟩) (q_afterwards_2 (V := V) (g := g) (od := od) hs3 hp h3))⟩
        · exact absurd (Sum.inr.inj e) (by decide)
      · obtain ⟨rfl, hc2, hf⟩ := hq
        exact ⟨⟨(hf b hbF).1.1.trans hb.2.1.1, (hf b hbF).1.2.trans hb.2.1.2⟩, Or.inr (Or.inr (Or.inl rfl))⟩
  · refine CnH.mono (fun r U hq => ?_) (l_afterwards hc.t0 (s_after_1 hc (by omega) (by omega) h0) (fun o T' hq => ?_))
    · rcases hq with ⟨v1, T1, ⟨e, -⟩, -⟩ | ⟨⟨e, hc2, hf⟩, rfl⟩ | ⟨⟨e, -⟩, -⟩ | ⟨⟨e, -⟩, -⟩
      · cases e
      · exact ⟨1, by decide, rfl, js_gk hs hc2 hf hpm hpd hb ⟨by omega, by omega⟩ (by omega) (h8.q (by omega)) (by decide) (fun T3 hs3 hpm3 => Cn.mono (fun r U hq => by obtain ⟨hv, rfl⟩ := hq; exact ⟨_, _, od, hv, rfl, up2_s, hps.cg (up2_n (by omega)) (fun i => up2_n (by omega)), hkv.cg (up2_n (by omega)) (fun i => up2_n (by omega)), hdv.cg (fun i => up2_n (by omega)) (fun i => up2_n (by omega)) (up2_n (by omega)) (up2_n (by omega))⟩) (q_afterwards_1 (V := V) (g := g) (od := od) hs3 h0))⟩
      · exact absurd (Sum.inr.inj e) (by decide)
      · exact absurd (Sum.inr.inj e) (by decide)
    · obtain ⟨rfl, hc2, hf⟩ := hq
      exact ⟨⟨(hf b hbF).1.1.trans hb.2.1.1, (hf b hbF).1.2.trans hb.2.1.2⟩, Or.inr (Or.inl rfl)⟩
