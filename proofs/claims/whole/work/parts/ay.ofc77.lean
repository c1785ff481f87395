/-! STEPS OF THE LAW: changes -/
theorem j_machine {G : GI} {S : Hp} {x m b a0 : Nat} {inp : Nat → Int32} {n B0 U0 k : Nat} (h : JS S x m b a0 inp n B0 U0 k) (h1 : B0 + k + 1 ≤ gN G) (h2 : U0 + 6 * k + 6 ≤ gM G) (hk : k < 130000) {y0 y1 y2 : Int32} : CnH m_L_machine G [.ref x, .int y0, .int y1, .int y2, .ref b] S (WO m_X13_machine G [.int y0, .int y1, .int y2] x m b a0 inp n B0 U0 k) := by
  obtain ⟨T, V, g, od, N, ps, gq, ik, gk, D, pv, cap, pp, bx, bu, rfl, hs, hc, ⟨hps, hkv, hdv⟩, ⟨hpm, hpd⟩, hb, ⟨hB, hU⟩, hN, h8⟩ := h
  have hbF : LF m b a0 pv b := Or.inr (Or.inr (Or.inl rfl))
  obtain ⟨c, hr⟩ := hc.rel
  rcases pr_machine hr (by omega) y0 y1 y2 with ⟨v, g', N', hO, -, -, hP⟩ | ⟨kv, code, hL, hX, -, hX2⟩
  · refine CnH.mono (fun r U hq => ?_) (l_machine hc.t0 (s_machine hc (by omega) (by omega) hO.1 hO.2.1 (fun T w k o A c a1 a2 a3 => hO.2.2.2 G T w k o A c a1 a2 a3)) (fun o T' hq => ?_))
    · rcases hq with ⟨v1, T1, ⟨e, hc2, hf⟩, rfl, rfl⟩ | ⟨⟨e, -⟩, -⟩ | ⟨⟨e, -⟩, -⟩
      · cases e
        refine ⟨0, by decide, rfl, js_g0 hs hc2 hf hpm hpd hb ⟨by omega, by omega⟩ (by have := hO.2.2.1.1; omega) (h8.push (Nat.le_refl _) (fun p hp => by have := hO.2.2.1.2 p hp; omega)) (fun T3 hs3 hpm3 => ?_)⟩
        obtain ⟨V2, hch, hps2, hEP⟩ := push1 (V := up2 V 0 6 (nI 0)) (g := g) (od := od) (G := G) hs3 (hps.cg (up2_n (by omega)) (fun i => up2_n (by omega))) hr.n24
        refine Cn.mono (fun r U hq => ?_) (hP G T3 m V od V2 hs3 hch)
        obtain ⟨hv, V', hEN, rfl⟩ := hq
        exact ⟨nI v, V', od, hv, rfl, (hEN 0 6 (by decide) (by omega)).trans ((hEP 0 6 (by decide) (by omega)).trans up2_s), rfl, hps2.cg (hEN 0 5 (by decide) (by omega)) (fun i => (hEN 4 i (by decide) (by omega))), hkv.cg ((hEN 0 3 (by decide) (by omega)).trans ((hEP 0 3 (by decide) (by omega)).trans (up2_n (by omega)))) (fun i => ((hEN 2 i (by decide) (by omega)).trans ((hEP 2 i (by decide) (by omega)).trans (up2_n (by omega))))), hdv.cg (fun i => ((hEN 8 i (by decide) (by omega)).trans ((hEP 8 i (by decide) (by omega)).trans (up2_n (by omega))))) (fun i => ((hEN 9 i (by decide) (by omega)).trans ((hEP 9 i (by decide) (by omega)).trans (up2_n (by omega))))) ((hEN 0 14 (by decide) (by omega)).trans ((hEP 0 14 (by decide) (by omega)).trans (up2_n (by omega)))) ((hEN 0 15 (by decide) (by omega)).trans ((hEP 0 15 (by decide) (by omega)).trans (up2_n (by omega))))⟩
      · cases e
      · cases e
    · obtain ⟨rfl, hc2, hf⟩ := hq
      exact ⟨⟨(hf b hbF).1.1.trans hb.2.1.1, (hf b hbF).1.2.trans hb.2.1.2⟩, Or.inl ⟨_, rfl⟩⟩
  · unfold L_a at hL
    rcases hL with ⟨rfl, rfl⟩ | ⟨rfl, rfl⟩
    · refine CnH.mono (fun r U hq => ?_) (l_machine hc.t0 (s_machine_no hc (by omega) (by omega) (fun T a1 a2 => x_end1 a1 a2) (fun T w k o A c a1 a2 a3 => hX G T w k o A c a1 a2 a3)) (fun o T' hq => ?_))
      · rcases hq with ⟨v1, T1, ⟨e, -⟩, -⟩ | ⟨⟨e, hc2, hf⟩, rfl⟩ | ⟨⟨e, -⟩, -⟩
        · cases e
        · exact ⟨1, by decide, rfl, js_gk hs hc2 hf hpm hpd hb ⟨by omega, by omega⟩ (by omega) (h8.q (by omega)) (by decide) (fun T3 hs3 hpm3 => Cn.mono (fun r U hq => by obtain ⟨hv, rfl⟩ := hq; exact ⟨nI 0, up2 V 0 6 (nI 1), od, hv, rfl, up2_s, hps.cg (up2_n (by omega)) (fun i => up2_n (by omega)), hkv.cg (up2_n (by omega)) (fun i => up2_n (by omega)), hdv.cg (fun i => up2_n (by omega)) (fun i => up2_n (by omega)) (up2_n (by omega)) (up2_n (by omega))⟩) (hX2 G T3 m V od hs3))⟩
        · exact absurd (Sum.inr.inj e) (by decide)
      · obtain ⟨rfl, hc2, hf⟩ := hq
        exact ⟨⟨(hf b hbF).1.1.trans hb.2.1.1, (hf b hbF).1.2.trans hb.2.1.2⟩, Or.inr (Or.inl rfl)⟩
    · refine CnH.mono (fun r U hq => ?_) (l_machine hc.t0 (s_machine_no hc (by omega) (by omega) (fun T a1 a2 => x_end2 a1 a2) (fun T w k o A c a1 a2 a3 => hX G T w k o A c a1 a2 a3)) (fun o T' hq => ?_))
      · rcases hq with ⟨v1, T1, ⟨e, -⟩, -⟩ | ⟨⟨e, -⟩, -⟩ | ⟨⟨e, hc2, hf⟩, rfl⟩
        · cases e
        · exact absurd (Sum.inr.inj e) (by decide)
        · exact ⟨2, by decide, rfl, js_gk hs hc2 hf hpm hpd hb ⟨by omega, by omega⟩ (by omega) (h8.q (by omega)) (by decide) (fun T3 hs3 hpm3 => Cn.mono (fun r U hq => by obtain ⟨hv, rfl⟩ := hq; exact ⟨nI 0, up2 V 0 6 (nI 2), od, hv, rfl, up2_s, hps.cg (up2_n (by omega)) (fun i => up2_n (by omega)), hkv.cg (up2_n (by omega)) (fun i => up2_n (by omega)), hdv.cg (fun i => up2_n (by omega)) (fun i => up2_n (by omega)) (up2_n (by omega)) (up2_n (by omega))⟩) (hX2 G T3 m V od hs3))⟩
      · obtain ⟨rfl, hc2, hf⟩ := hq
        exact ⟨⟨(hf b hbF).1.1.trans hb.2.1.1, (hf b hbF).1.2.trans hb.2.1.2⟩, Or.inr (Or.inr (rfl))⟩
theorem j_product {G : GI} {S : Hp} {x m b a0 : Nat} {inp : Nat → Int32} {n B0 U0 k : Nat} (h : JS S x m b a0 inp n B0 U0 k) (h1 : B0 + k + 1 ≤ gN G) (h2 : U0 + 6 * k + 6 ≤ gM G) (hk : k < 130000) {y0 y1 y2 y3 : Int32} : CnH m_L_product G [.ref x, .int y0, .int y1, .int y2, .int y3, .ref b] S (WO m_X13_product G [.int y0, .int y1, .int y2, .int y3] x m b a0 inp n B0 U0 k) := by
  obtain ⟨T, V, g, od, N, ps, gq, ik, gk, D, pv, cap, pp, bx, bu, rfl, hs, hc, ⟨hps, hkv, hdv⟩, ⟨hpm, hpd⟩, hb, ⟨hB, hU⟩, hN, h8⟩ := h
  have hbF : LF m b a0 pv b := Or.inr (Or.inr (Or.inl rfl))
  obtain ⟨c, hr⟩ := hc.rel
  rcases pr_product hr (by omega) y0 y1 y2 y3 with ⟨v, g', N', hO, -, -, hP⟩ | ⟨kv, code, hL, hX, -, hX2⟩
  · refine CnH.mono (fun r U hq => ?_) (l_product hc.t0 (s_product hc (by omega) (by omega) hO.1 hO.2.1 (fun T w k o A c a1 a2 a3 => hO.2.2.2 G T w k o A c a1 a2 a3)) (fun o T' hq => ?_))
    · rcases hq with ⟨v1, T1, ⟨e, hc2, hf⟩, rfl, rfl⟩ | ⟨⟨e, -⟩, -⟩ | ⟨⟨e, -⟩, -⟩
      · cases e
        refine ⟨0, by decide, rfl, js_g0 hs hc2 hf hpm hpd hb ⟨by omega, by omega⟩ (by have := hO.2.2.1.1; omega) (h8.push (Nat.le_refl _) (fun p hp => by have := hO.2.2.1.2 p hp; omega)) (fun T3 hs3 hpm3 => ?_)⟩
        obtain ⟨V2, hch, hps2, hEP⟩ := push1 (V := up2 V 0 6 (nI 0)) (g := g) (od := od) (G := G) hs3 (hps.cg (up2_n (by omega)) (fun i => up2_n (by omega))) hr.n24
        refine Cn.mono (fun r U hq => ?_) (hP G T3 m V od V2 hs3 hch)
        obtain ⟨hv, V', hEN, rfl⟩ := hq
        exact ⟨nI v, V', od, hv, rfl, (hEN 0 6 (by decide) (by omega)).trans ((hEP 0 6 (by decide) (by omega)).trans up2_s), rfl, hps2.cg (hEN 0 5 (by decide) (by omega)) (fun i => (hEN 4 i (by decide) (by omega))), hkv.cg ((hEN 0 3 (by decide) (by omega)).trans ((hEP 0 3 (by decide) (by omega)).trans (up2_n (by omega)))) (fun i => ((hEN 2 i (by decide) (by omega)).trans ((hEP 2 i (by decide) (by omega)).trans (up2_n (by omega))))), hdv.cg (fun i => ((hEN 8 i (by decide) (by omega)).trans ((hEP 8 i (by decide) (by omega)).trans (up2_n (by omega))))) (fun i => ((hEN 9 i (by decide) (by omega)).trans ((hEP 9 i (by decide) (by omega)).trans (up2_n (by omega))))) ((hEN 0 14 (by decide) (by omega)).trans ((hEP 0 14 (by decide) (by omega)).trans (up2_n (by omega)))) ((hEN 0 15 (by decide) (by omega)).trans ((hEP 0 15 (by decide) (by omega)).trans (up2_n (by omega))))⟩
      · cases e
      · cases e
    · obtain ⟨rfl, hc2, hf⟩ := hq
      exact ⟨⟨(hf b hbF).1.1.trans hb.2.1.1, (hf b hbF).1.2.trans hb.2.1.2⟩, Or.inl ⟨_, rfl⟩⟩
  · unfold L_a at hL
    rcases hL with ⟨rfl, rfl⟩ | ⟨rfl, rfl⟩
    · refine CnH.mono (fun r U hq => ?_) (l_product hc.t0 (s_product_no hc (by omega) (by omega) (fun T a1 a2 => x_end1 a1 a2) (fun T w k o A c a1 a2 a3 => hX G T w k o A c a1 a2 a3)) (fun o T' hq => ?_))
      · rcases hq with ⟨v1, T1, ⟨e, -⟩, -⟩ | ⟨⟨e, hc2, hf⟩, rfl⟩ | ⟨⟨e, -⟩, -⟩
        · cases e
        · exact ⟨1, by decide, rfl, js_gk hs hc2 hf hpm hpd hb ⟨by omega, by omega⟩ (by omega) (h8.q (by omega)) (by decide) (fun T3 hs3 hpm3 => Cn.mono (fun r U hq => by obtain ⟨hv, rfl⟩ := hq; exact ⟨nI 0, up2 V 0 6 (nI 1), od, hv, rfl, up2_s, hps.cg (up2_n (by omega)) (fun i => up2_n (by omega)), hkv.cg (up2_n (by omega)) (fun i => up2_n (by omega)), hdv.cg (fun i => up2_n (by omega)) (fun i => up2_n (by omega)) (up2_n (by omega)) (up2_n (by omega))⟩) (hX2 G T3 m V od hs3))⟩
        · exact absurd (Sum.inr.inj e) (by decide)
      · obtain ⟨rfl, hc2, hf⟩ := hq
        exact ⟨⟨(hf b hbF).1.1.trans hb.2.1.1, (hf b hbF).1.2.trans hb.2.1.2⟩, Or.inr (Or.inl rfl)⟩
    · refine CnH.mono (fun r U hq => ?_) (l_product hc.t0 (s_product_no hc (by omega) (by omega) (fun T a1 a2 => x_end2 a1 a2) (fun T w k o A c a1 a2 a3 => hX G T w k o A c a1 a2 a3)) (fun o T' hq => ?_))
      · rcases hq with ⟨v1, T1, ⟨e, -⟩, -⟩ | ⟨⟨e, -⟩, -⟩ | ⟨⟨e, hc2, hf⟩, rfl⟩
        · cases e
        · exact absurd (Sum.inr.inj e) (by decide)
        · exact ⟨2, by decide, rfl, js_gk hs hc2 hf hpm hpd hb ⟨by omega, by omega⟩ (by omega) (h8.q (by omega)) (by decide) (fun T3 hs3 hpm3 => Cn.mono (fun r U hq => by obtain ⟨hv, rfl⟩ := hq; exact ⟨nI 0, up2 V 0 6 (nI 2), od, hv, rfl, up2_s, hps.cg (up2_n (by omega)) (fun i => up2_n (by omega)), hkv.cg (up2_n (by omega)) (fun i => up2_n (by omega)), hdv.cg (fun i => up2_n (by omega)) (fun i => up2_n (by omega)) (up2_n (by omega)) (up2_n (by omega))⟩) (hX2 G T3 m V od hs3))⟩
      · obtain ⟨rfl, hc2, hf⟩ := hq
        exact ⟨⟨(hf b hbF).1.1.trans hb.2.1.1, (hf b hbF).1.2.trans hb.2.1.2⟩, Or.inr (Or.inr (rfl))⟩
theorem j_release {G : GI} {S : Hp} {x m b a0 : Nat} {inp : Nat → Int32} {n B0 U0 k : Nat} (h : JS S x m b a0 inp n B0 U0 k) (h1 : B0 + k + 1 ≤ gN G) (h2 : U0 + 6 * k + 6 ≤ gM G) (hk : k < 130000) {y0 : Int32} : CnH m_L_release G [.ref x, .int y0, .ref b] S (WO m_X13_release G [.int y0] x m b a0 inp n B0 U0 k) := by
  obtain ⟨T, V, g, od, N, ps, gq, ik, gk, D, pv, cap, pp, bx, bu, rfl, hs, hc, ⟨hps, hkv, hdv⟩, ⟨hpm, hpd⟩, hb, ⟨hB, hU⟩, hN, h8⟩ := h
  have hbF : LF m b a0 pv b := Or.inr (Or.inr (Or.inl rfl))
  obtain ⟨c, hr⟩ := hc.rel
  rcases pr_release hr (by omega) y0 with ⟨v, g', N', hO, -, -, hP⟩ | ⟨kv, code, hL, hX, -, hX2⟩
  · refine CnH.mono (fun r U hq => ?_) (l_release hc.t0 (s_release hc (by omega) (by omega) hO.1 hO.2.1 (fun T w k o A c a1 a2 a3 => hO.2.2.2 G T w k o A c a1 a2 a3)) (fun o T' hq => ?_))
    · rcases hq with ⟨v1, T1, ⟨e, hc2, hf⟩, rfl, rfl⟩ | ⟨⟨e, -⟩, -⟩ | ⟨⟨e, -⟩, -⟩
      · cases e
        refine ⟨0, by decide, rfl, js_g0 hs hc2 hf hpm hpd hb ⟨by omega, by omega⟩ (by have := hO.2.2.1.1; omega) (h8.push (Nat.le_refl _) (fun p hp => by have := hO.2.2.1.2 p hp; omega)) (fun T3 hs3 hpm3 => ?_)⟩
        obtain ⟨V2, hch, hps2, hEP⟩ := push1 (V := up2 V 0 6 (nI 0)) (g := g) (od := od) (G := G) hs3 (hps.cg (up2_n (by omega)) (fun i => up2_n (by omega))) hr.n24
        refine Cn.mono (fun r U hq => ?_) (hP G T3 m V od V2 hs3 hch)
        obtain ⟨hv, V', hEN, rfl⟩ := hq
        exact ⟨nI v, V', od, hv, rfl, (hEN 0 6 (by decide) (by omega)).trans ((hEP 0 6 (by decide) (by omega)).trans up2_s), rfl, hps2.cg (hEN 0 5 (by decide) (by omega)) (fun i => (hEN 4 i (by decide) (by omega))), hkv.cg ((hEN 0 3 (by decide) (by omega)).trans ((hEP 0 3 (by decide) (by omega)).trans (up2_n (by omega)))) (fun i => ((hEN 2 i (by decide) (by omega)).trans ((hEP 2 i (by decide) (by omega)).trans (up2_n (by omega))))), hdv.cg (fun i => ((hEN 8 i (by decide) (by omega)).trans ((hEP 8 i (by decide) (by omega)).trans (up2_n (by omega))))) (fun i => ((hEN 9 i (by decide) (by omega)).trans ((hEP 9 i (by decide) (by omega)).trans (up2_n (by omega))))) ((hEN 0 14 (by decide) (by omega)).trans ((hEP 0 14 (by decide) (by omega)).trans (up2_n (by omega)))) ((hEN 0 15 (by decide) (by omega)).trans ((hEP 0 15 (by decide) (by omega)).trans (up2_n (by omega))))⟩
      · cases e
      · cases e
    · obtain ⟨rfl, hc2, hf⟩ := hq
      exact ⟨⟨(hf b hbF).1.1.trans hb.2.1.1, (hf b hbF).1.2.trans hb.2.1.2⟩, Or.inl ⟨_, rfl⟩⟩
  · unfold L_b at hL
    rcases hL with ⟨rfl, rfl⟩ | ⟨rfl, rfl⟩
    · refine CnH.mono (fun r U hq => ?_) (l_release hc.t0 (s_release_no hc (by omega) (by omega) (fun T a1 a2 => x_end1 a1 a2) (fun T w k o A c a1 a2 a3 => hX G T w k o A c a1 a2 a3)) (fun o T' hq => ?_))
      · rcases hq with ⟨v1, T1, ⟨e, -⟩, -⟩ | ⟨⟨e, hc2, hf⟩, rfl⟩ | ⟨⟨e, -⟩, -⟩
        · cases e
        · exact ⟨1, by decide, rfl, js_gk hs hc2 hf hpm hpd hb ⟨by omega, by omega⟩ (by omega) (h8.q (by omega)) (by decide) (fun T3 hs3 hpm3 => Cn.mono (fun r U hq => by obtain ⟨hv, rfl⟩ := hq; exact ⟨nI 0, up2 V 0 6 (nI 1), od, hv, rfl, up2_s, hps.cg (up2_n (by omega)) (fun i => up2_n (by omega)), hkv.cg (up2_n (by omega)) (fun i => up2_n (by omega)), hdv.cg (fun i => up2_n (by omega)) (fun i => up2_n (by omega)) (up2_n (by omega)) (up2_n (by omega))⟩) (hX2 G T3 m V od hs3))⟩
        · exact absurd (Sum.inr.inj e) (by decide)
      · obtain ⟨rfl, hc2, hf⟩ := hq
        exact ⟨⟨(hf b hbF).1.1.trans hb.2.1.1, (hf b hbF).1.2.trans hb.2.1.2⟩, Or.inr (Or.inl rfl)⟩
    · refine CnH.mono (fun r U hq => ?_) (l_release hc.t0 (s_release_no hc (by omega) (by omega) (fun T a1 a2 => x_end3 a1 a2) (fun T w k o A c a1 a2 a3 => hX G T w k o A c a1 a2 a3)) (fun o T' hq => ?_))
      · rcases hq with ⟨v1, T1, ⟨e, -⟩, -⟩ | ⟨⟨e, -⟩, -⟩ | ⟨⟨e, hc2, hf⟩, rfl⟩
        · cases e
        · exact absurd (Sum.inr.inj e) (by decide)
        · exact ⟨2, by decide, rfl, js_gk hs hc2 hf hpm hpd hb ⟨by omega, by omega⟩ (by omega) (h8.q (by omega)) (by decide) (fun T3 hs3 hpm3 => Cn.mono (fun r U hq => by obtain ⟨hv, rfl⟩ := hq; exact ⟨nI 0, up2 V 0 6 (nI 2), od, hv, rfl, up2_s, hps.cg (up2_n (by omega)) (fun i => up2_n (by omega)), hkv.cg (up2_n (by omega)) (fun i => up2_n (by omega)), hdv.cg (fun i => up2_n (by omega)) (fun i => up2_n (by omega)) (up2_n (by omega)) (up2_n (by omega))⟩) (hX2 G T3 m V od hs3))⟩
      · obtain ⟨rfl, hc2, hf⟩ := hq
        exact ⟨⟨(hf b hbF).1.1.trans hb.2.1.1, (hf b hbF).1.2.trans hb.2.1.2⟩, Or.inr (Or.inr (rfl))⟩
theorem j_seed {G : GI} {S : Hp} {x m b a0 : Nat} {inp : Nat → Int32} {n B0 U0 k : Nat} (h : JS S x m b a0 inp n B0 U0 k) (h1 : B0 + k + 1 ≤ gN G) (h2 : U0 + 6 * k + 6 ≤ gM G) (hk : k < 130000) {y0 : Int32} : CnH m_L_seed G [.ref x, .int y0, .ref b] S (WO m_X13_seed G [.int y0] x m b a0 inp n B0 U0 k) := by
  obtain ⟨T, V, g, od, N, ps, gq, ik, gk, D, pv, cap, pp, bx, bu, rfl, hs, hc, ⟨hps, hkv, hdv⟩, ⟨hpm, hpd⟩, hb, ⟨hB, hU⟩, hN, h8⟩ := h
  have hbF : LF m b a0 pv b := Or.inr (Or.inr (Or.inl rfl))
  obtain ⟨c, hr⟩ := hc.rel
  rcases pr_seed hr (by omega) y0 with ⟨v, g', N', hO, -, -, hP⟩ | ⟨kv, code, hL, hX, -, hX2⟩
  · refine CnH.mono (fun r U hq => ?_) (l_seed hc.t0 (s_seed hc (by omega) (by omega) hO.1 hO.2.1 (fun T w k o A c a1 a2 a3 => hO.2.2.2 G T w k o A c a1 a2 a3)) (fun o T' hq => ?_))
    · rcases hq with ⟨v1, T1, ⟨e, hc2, hf⟩, rfl, rfl⟩ | ⟨⟨e, -⟩, -⟩
      · cases e
        refine ⟨0, by decide, rfl, js_g0 hs hc2 hf hpm hpd hb ⟨by omega, by omega⟩ (by have := hO.2.2.1.1; omega) (h8.push (Nat.le_refl _) (fun p hp => by have := hO.2.2.1.2 p hp; omega)) (fun T3 hs3 hpm3 => ?_)⟩
        obtain ⟨V2, hch, hps2, hEP⟩ := push1 (V := up2 V 0 6 (nI 0)) (g := g) (od := od) (G := G) hs3 (hps.cg (up2_n (by omega)) (fun i => up2_n (by omega))) hr.n24
        refine Cn.mono (fun r U hq => ?_) (hP G T3 m V od V2 hs3 hch)
        obtain ⟨hv, V', hEN, rfl⟩ := hq
        exact ⟨nI v, V', od, hv, rfl, (hEN 0 6 (by decide) (by omega)).trans ((hEP 0 6 (by decide) (by omega)).trans up2_s), rfl, hps2.cg (hEN 0 5 (by decide) (by omega)) (fun i => (hEN 4 i (by decide) (by omega))), hkv.cg ((hEN 0 3 (by decide) (by omega)).trans ((hEP 0 3 (by decide) (by omega)).trans (up2_n (by omega)))) (fun i => ((hEN 2 i (by decide) (by omega)).trans ((hEP 2 i (by decide) (by omega)).trans (up2_n (by omega))))), hdv.cg (fun i => ((hEN 8 i (by decide) (by omega)).trans ((hEP 8 i (by decide) (by omega)).trans (up2_n (by omega))))) (fun i => ((hEN 9 i (by decide) (by omega)).trans ((hEP 9 i (by decide) (by omega)).trans (up2_n (by omega))))) ((hEN 0 14 (by decide) (by omega)).trans ((hEP 0 14 (by decide) (by omega)).trans (up2_n (by omega)))) ((hEN 0 15 (by decide) (by omega)).trans ((hEP 0 15 (by decide) (by omega)).trans (up2_n (by omega))))⟩
      · cases e
    · obtain ⟨rfl, hc2, hf⟩ := hq
      exact ⟨⟨(hf b hbF).1.1.trans hb.2.1.1, (hf b hbF).1.2.trans hb.2.1.2⟩, Or.inl ⟨_, rfl⟩⟩
  · obtain ⟨rfl, rfl⟩ := hL
    refine CnH.mono (fun r U hq => ?_) (l_seed hc.t0 (s_seed_no hc (by omega) (by omega) (fun T a1 a2 => x_end2 a1 a2) (fun T w k o A c a1 a2 a3 => hX G T w k o A c a1 a2 a3)) (fun o T' hq => ?_))
    · rcases hq with ⟨v1, T1, ⟨e, -⟩, -⟩ | ⟨⟨e, hc2, hf⟩, rfl⟩
      · cases e
      · exact ⟨1, by decide, rfl, js_gk hs hc2 hf hpm hpd hb ⟨by omega, by omega⟩ (by omega) (h8.q (by omega)) (by decide) (fun T3 hs3 hpm3 => Cn.mono (fun r U hq => by obtain ⟨hv, rfl⟩ := hq; exact ⟨nI 0, up2 V 0 6 (nI 1), od, hv, rfl, up2_s, hps.cg (up2_n (by omega)) (fun i => up2_n (by omega)), hkv.cg (up2_n (by omega)) (fun i => up2_n (by omega)), hdv.cg (fun i => up2_n (by omega)) (fun i => up2_n (by omega)) (up2_n (by omega)) (up2_n (by omega))⟩) (hX2 G T3 m V od hs3))⟩
    · obtain ⟨rfl, hc2, hf⟩ := hq
      exact ⟨⟨(hf b hbF).1.1.trans hb.2.1.1, (hf b hbF).1.2.trans hb.2.1.2⟩, Or.inr (rfl)⟩
theorem j_raw {G : GI} {S : Hp} {x m b a0 : Nat} {inp : Nat → Int32} {n B0 U0 k : Nat} (h : JS S x m b a0 inp n B0 U0 k) (h1 : B0 + k + 1 ≤ gN G) (h2 : U0 + 6 * k + 6 ≤ gM G) (hk : k < 130000) {y0 y1 y2 : Int32} : CnH m_L_raw G [.ref x, .int y0, .int y1, .int y2, .ref b] S (WO m_X13_raw G [.int y0, .int y1, .int y2] x m b a0 inp n B0 U0 k) := by
  obtain ⟨T, V, g, od, N, ps, gq, ik, gk, D, pv, cap, pp, bx, bu, rfl, hs, hc, ⟨hps, hkv, hdv⟩, ⟨hpm, hpd⟩, hb, ⟨hB, hU⟩, hN, h8⟩ := h
  have hbF : LF m b a0 pv b := Or.inr (Or.inr (Or.inl rfl))
  obtain ⟨c, hr⟩ := hc.rel
  rcases pr_raw hr (by omega) y0 y1 y2 with ⟨v, g', N', hO, -, -, hP⟩ | ⟨kv, code, hL, hX, -, hX2⟩
  · refine CnH.mono (fun r U hq => ?_) (l_raw hc.t0 (s_raw hc (by omega) (by omega) hO.1 hO.2.1 (fun T w k o A c a1 a2 a3 => hO.2.2.2 G T w k o A c a1 a2 a3)) (fun o T' hq => ?_))
    · rcases hq with ⟨v1, T1, ⟨e, hc2, hf⟩, rfl, rfl⟩ | ⟨⟨e, -⟩, -⟩ | ⟨⟨e, -⟩, -⟩ | ⟨⟨e, -⟩, -⟩
      · cases e
        refine ⟨0, by decide, rfl, js_g0 hs hc2 hf hpm hpd hb ⟨by omega, by omega⟩ (by have := hO.2.2.1.1; omega) (h8.push (Nat.le_refl _) (fun p hp => by have := hO.2.2.1.2 p hp; omega)) (fun T3 hs3 hpm3 => ?_)⟩
        obtain ⟨V2, hch, hps2, hEP⟩ := push1 (V := up2 V 0 6 (nI 0)) (g := g) (od := od) (G := G) hs3 (hps.cg (up2_n (by omega)) (fun i => up2_n (by omega))) hr.n24
        refine Cn.mono (fun r U hq => ?_) (hP G T3 m V od V2 hs3 hch)
        obtain ⟨hv, V', hEN, rfl⟩ := hq
        exact ⟨nI v, V', od, hv, rfl, (hEN 0 6 (by decide) (by omega)).trans ((hEP 0 6 (by decide) (by omega)).trans up2_s), rfl, hps2.cg (hEN 0 5 (by decide) (by omega)) (fun i => (hEN 4 i (by decide) (by omega))), hkv.cg ((hEN 0 3 (by decide) (by omega)).trans ((hEP 0 3 (by decide) (by omega)).trans (up2_n (by omega)))) (fun i => ((hEN 2 i (by decide) (by omega)).trans ((hEP 2 i (by decide) (by omega)).trans (up2_n (by omega))))), hdv.cg (fun i => ((hEN 8 i (by decide) (by omega)).trans ((hEP 8 i (by decide) (by omega)).trans (up2_n (by omega))))) (fun i => ((hEN 9 i (by decide) (by omega)).trans ((hEP 9 i (by decide) (by omega)).trans (up2_n (by omega))))) ((hEN 0 14 (by decide) (by omega)).trans ((hEP 0 14 (by decide) (by omega)).trans (up2_n (by omega)))) ((hEN 0 15 (by decide) (by omega)).trans ((hEP 0 15 (by decide) (by omega)).trans (up2_n (by omega))))⟩
      · cases e
      · cases e
      · cases e
    · obtain ⟨rfl, hc2, hf⟩ := hq
      exact ⟨⟨(hf b hbF).1.1.trans hb.2.1.1, (hf b hbF).1.2.trans hb.2.1.2⟩, Or.inl ⟨_, rfl⟩⟩
  · unfold L_c at hL
    rcases hL with ⟨rfl, rfl⟩ | ⟨rfl, rfl⟩ | ⟨rfl, rfl⟩
    · refine CnH.mono (fun r U hq => ?_) (l_raw hc.t0 (s_raw_no hc (by omega) (by omega) (fun T a1 a2 => x_end1 a1 a2) (fun T w k o A c a1 a2 a3 => hX G T w k o A c a1 a2 a3)) (fun o T' hq => ?_))
      · rcases hq with ⟨v1, T1, ⟨e, -⟩, -⟩ | ⟨⟨e, hc2, hf⟩, rfl⟩ | ⟨⟨e, -⟩, -⟩ | ⟨⟨e, -⟩, -⟩
        · cases e
        · exact ⟨1, by decide, rfl, js_gk hs hc2 hf hpm hpd hb ⟨by omega, by omega⟩ (by omega) (h8.q (by omega)) (by decide) (fun T3 hs3 hpm3 => Cn.mono (fun r U hq => by obtain ⟨hv, rfl⟩ := hq; exact ⟨nI 0, up2 V 0 6 (nI 1), od, hv, rfl, up2_s, hps.cg (up2_n (by omega)) (fun i => up2_n (by omega)), hkv.cg (up2_n (by omega)) (fun i => up2_n (by omega)), hdv.cg (fun i => up2_n (by omega)) (fun i => up2_n (by omega)) (up2_n (by omega)) (up2_n (by omega))⟩) (hX2 G T3 m V od hs3))⟩
        · exact absurd (Sum.inr.inj e) (by decide)
        · exact absurd (Sum.inr.inj e) (by decide)
      · obtain ⟨rfl, hc2, hf⟩ := hq
        exact ⟨⟨(hf b hbF).1.1.trans hb.2.1.1, (hf b hbF).1.2.trans hb.2.1.2⟩, Or.inr (Or.inl rfl)⟩
    · refine CnH.mono (fun r U hq => ?_) (l_raw hc.t0 (s_raw_no hc (by omega) (by omega) (fun T a1 a2 => x_end2 a1 a2) (fun T w k o A c a1 a2 a3 => hX G T w k o A c a1 a2 a3)) (fun o T' hq => ?_))
      · rcases hq with ⟨v1, T1, ⟨e, -⟩, -⟩ | ⟨⟨e, -⟩, -⟩ | ⟨⟨e, hc2, hf⟩, rfl⟩ | ⟨⟨e, -⟩, -⟩
        · cases e
        · exact absurd (Sum.inr.inj e) (by decide)
        · exact ⟨2, by decide, rfl, js_gk hs hc2 hf hpm hpd hb ⟨by omega, by omega⟩ (by omega) (h8.q (by omega)) (by decide) (fun T3 hs3 hpm3 => Cn.mono (fun r U hq => by obtain ⟨hv, rfl⟩ := hq; exact ⟨nI 0, up2 V 0 6 (nI 2), od, hv, rfl, up2_s, hps.cg (up2_n (by omega)) (fun i => up2_n (by omega)), hkv.cg (up2_n (by omega)) (fun i => up2_n (by omega)), hdv.cg (fun i => up2_n (by omega)) (fun i => up2_n (by omega)) (up2_n (by omega)) (up2_n (by omega))⟩) (hX2 G T3 m V od hs3))⟩
        · exact absurd (Sum.inr.inj e) (by decide)
      · obtain ⟨rfl, hc2, hf⟩ := hq
        exact ⟨⟨(hf b hbF).1.1.trans hb.2.1.1, (hf b hbF).1.2.trans hb.2.1.2⟩, Or.inr (Or.inr (Or.inl rfl))⟩
    · refine CnH.mono (fun r U hq => ?_) (l_raw hc.t0 (s_raw_no hc (by omega) (by omega) (fun T a1 a2 => x_end3 a1 a2) (fun T w k o A c a1 a2 a3 => hX G T w k o A c a1 a2 a3)) (fun o T' hq => ?_))
      · rcases hq with ⟨v1, T1, ⟨e, -⟩, -⟩ | ⟨⟨e, -⟩, -⟩ | ⟨⟨e, -⟩, -⟩ | ⟨⟨e, hc2, hf⟩, rfl⟩
        · cases e
        · exact absurd (Sum.inr.inj e) (by decide)
        · exact absurd (Sum.inr.inj e) (by decide)
        · exact ⟨3, by decide, rfl, js_gk hs hc2 hf hpm hpd hb ⟨by omega, by omega⟩ (by omega) (h8.q (by omega)) (by decide) (fun T3 hs3 hpm3 => Cn.mono (fun r U hq => by obtain ⟨hv, rfl⟩ := hq; exact ⟨nI 0, up2 V 0 6 (nI 3), od, hv, rfl, up2_s, hps.cg (up2_n (by omega)) (fun i => up2_n (by omega)), hkv.cg (up2_n (by omega)) (fun i => up2_n (by omega)), hdv.cg (fun i => up2_n (by omega)) (fun i => up2_n (by omega)) (up2_n (by omega)) (up2_n (by omega))⟩) (hX2 G T3 m V od hs3))⟩
      · obtain ⟨rfl, hc2, hf⟩ := hq
        exact ⟨⟨(hf b hbF).1.1.trans hb.2.1.1, (hf b hbF).1.2.trans hb.2.1.2⟩, Or.inr (Or.inr (Or.inr (rfl)))⟩
theorem j_make {G : GI} {S : Hp} {x m b a0 : Nat} {inp : Nat → Int32} {n B0 U0 k : Nat} (h : JS S x m b a0 inp n B0 U0 k) (h1 : B0 + k + 1 ≤ gN G) (h2 : U0 + 6 * k + 6 ≤ gM G) (hk : k < 130000) {y0 y1 y2 y3 y4 y5 : Int32} : CnH m_L_make G [.ref x, .int y0, .int y1, .int y2, .int y3, .int y4, .int y5, .ref b] S (WO m_X13_make G [.int y0, .int y1, .int y2, .int y3, .int y4, .int y5] x m b a0 inp n B0 U0 k) := by
  obtain ⟨T, V, g, od, N, ps, gq, ik, gk, D, pv, cap, pp, bx, bu, rfl, hs, hc, ⟨hps, hkv, hdv⟩, ⟨hpm, hpd⟩, hb, ⟨hB, hU⟩, hN, h8⟩ := h
  have hbF : LF m b a0 pv b := Or.inr (Or.inr (Or.inl rfl))
  obtain ⟨c, hr⟩ := hc.rel
  rcases pr_make hr (by omega) y0 y1 y2 y3 y4 y5 with ⟨v, g', N', hO, -, -, hP⟩ | ⟨kv, code, hL, hX, -, hX2⟩
  · refine CnH.mono (fun r U hq => ?_) (l_make hc.t0 (s_make hc (by omega) (by omega) hO.1 hO.2.1 (fun T w k o A c a1 a2 a3 => hO.2.2.2 G T w k o A c a1 a2 a3)) (fun o T' hq => ?_))
    · rcases hq with ⟨v1, T1, ⟨e, hc2, hf⟩, rfl, rfl⟩ | ⟨⟨e, -⟩, -⟩ | ⟨⟨e, -⟩, -⟩ | ⟨⟨e, -⟩, -⟩
      · cases e
        refine ⟨0, by decide, rfl, js_g0 hs hc2 hf hpm hpd hb ⟨by omega, by omega⟩ (by have := hO.2.2.1.1; omega) (h8.push (Nat.le_refl _) (fun p hp => by have := hO.2.2.1.2 p hp; omega)) (fun T3 hs3 hpm3 => ?_)⟩
        obtain ⟨V2, hch, hps2, hEP⟩ := push1 (V := up2 V 0 6 (nI 0)) (g := g) (od := od) (G := G) hs3 (hps.cg (up2_n (by omega)) (fun i => up2_n (by omega))) hr.n24
        refine Cn.mono (fun r U hq => ?_) (hP G T3 m V od V2 hs3 hch)
        obtain ⟨hv, V', hEN, rfl⟩ := hq
        exact ⟨nI v, V', od, hv, rfl, (hEN 0 6 (by decide) (by omega)).trans ((hEP 0 6 (by decide) (by omega)).trans up2_s), rfl, hps2.cg (hEN 0 5 (by decide) (by omega)) (fun i => (hEN 4 i (by decide) (by omega))), hkv.cg ((hEN 0 3 (by decide) (by omega)).trans ((hEP 0 3 (by decide) (by omega)).trans (up2_n (by omega)))) (fun i => ((hEN 2 i (by decide) (by omega)).trans ((hEP 2 i (by decide) (by omega)).trans (up2_n (by omega))))), hdv.cg (fun i => ((hEN 8 i (by decide) (by omega)).trans ((hEP 8 i (by decide) (by omega)).trans (up2_n (by omega))))) (fun i => ((hEN 9 i (by decide) (by omega)).trans ((hEP 9 i (by decide) (by omega)).trans (up2_n (by omega))))) ((hEN 0 14 (by decide) (by omega)).trans ((hEP 0 14 (by decide) (by omega)).trans (up2_n (by omega)))) ((hEN 0 15 (by decide) (by omega)).trans ((hEP 0 15 (by decide) (by omega)).trans (up2_n (by omega))))⟩
      · cases e
      · cases e
      · cases e
    · obtain ⟨rfl, hc2, hf⟩ := hq
      exact ⟨⟨(hf b hbF).1.1.trans hb.2.1.1, (hf b hbF).1.2.trans hb.2.1.2⟩, Or.inl ⟨_, rfl⟩⟩
  · unfold L_c at hL
    rcases hL with ⟨rfl, rfl⟩ | ⟨rfl, rfl⟩ | ⟨rfl, rfl⟩
    · refine CnH.mono (fun r U hq => ?_) (l_make hc.t0 (s_make_no hc (by omega) (by omega) (fun T a1 a2 => x_end1 a1 a2) (fun T w k o A c a1 a2 a3 => hX G T w k o A c a1 a2 a3)) (fun o T' hq => ?_))
      · rcases hq with ⟨v1, T1, ⟨e, -⟩, -⟩ | ⟨⟨e, hc2, hf⟩, rfl⟩ | ⟨⟨e, -⟩, -⟩ | ⟨⟨e, -⟩, -⟩
        · cases e
        · exact ⟨1, by decide, rfl, js_gk hs hc2 hf hpm hpd hb ⟨by omega, by omega⟩ (by omega) (h8.q (by omega)) (by decide) (fun T3 hs3 hpm3 => Cn.mono (fun r U hq => by obtain ⟨hv, rfl⟩ := hq; exact ⟨nI 0, up2 V 0 6 (nI 1), od, hv, rfl, up2_s, hps.cg (up2_n (by omega)) (fun i => up2_n (by omega)), hkv.cg (up2_n (by omega)) (fun i => up2_n (by omega)), hdv.cg (fun i => up2_n (by omega)) (fun i => up2_n (by omega)) (up2_n (by omega)) (up2_n (by omega))⟩) (hX2 G T3 m V od hs3))⟩
        · exact absurd (Sum.inr.inj e) (by decide)
        · exact absurd (Sum.inr.inj e) (by decide)
      · obtain ⟨rfl, hc2, hf⟩ := hq
        exact ⟨⟨(hf b hbF).1.1.trans hb.2.1.1, (hf b hbF).1.2.trans hb.2.1.2⟩, Or.inr (Or.inl rfl)⟩
    · refine CnH.mono (fun r U hq => ?_) (l_make hc.t0 (s_make_no hc (by omega) (by omega) (fun T a1 a2 => x_end2 a1 a2) (fun T w k o A c a1 a2 a3 => hX G T w k o A c a1 a2 a3)) (fun o T' hq => ?_))
      · rcases hq with ⟨v1, T1, ⟨e, -⟩, -⟩ | ⟨⟨e, -⟩, -⟩ | ⟨⟨e, hc2, hf⟩, rfl⟩ | ⟨⟨e, -⟩, -⟩
        · cases e
        · exact absurd (Sum.inr.inj e) (by decide)
        · exact ⟨2, by decide, rfl, js_gk hs hc2 hf hpm hpd hb ⟨by omega, by omega⟩ (by omega) (h8.q (by omega)) (by decide) (fun T3 hs3 hpm3 => Cn.mono (fun r U hq => by obtain ⟨hv, rfl⟩ := hq; exact ⟨nI 0, up2 V 0 6 (nI 2), od, hv, rfl, up2_s, hps.cg (up2_n (by omega)) (fun i => up2_n (by omega)), hkv.cg (up2_n (by omega)) (fun i => up2_n (by omega)), hdv.cg (fun i => up2_n (by omega)) (fun i => up2_n (by omega)) (up2_n (by omega)) (up2_n (by omega))⟩) (hX2 G T3 m V od hs3))⟩
        · exact absurd (Sum.inr.inj e) (by decide)
      · obtain ⟨rfl, hc2, hf⟩ := hq
        exact ⟨⟨(hf b hbF).1.1.trans hb.2.1.1, (hf b hbF).1.2.trans hb.2.1.2⟩, Or.inr (Or.inr (Or.inl rfl))⟩
    · refine CnH.mono (fun r U hq => ?_) (l_make hc.t0 (s_make_no hc (by omega) (by omega) (fun T a1 a2 => x_end3 a1 a2) (fun T w k o A c a1 a2 a3 => hX G T w k o A c a1 a2 a3)) (fun o T' hq => ?_))
      · rcases hq with ⟨v1, T1, ⟨e, -⟩, -⟩ | ⟨⟨e, -⟩, -⟩ | ⟨⟨e, -⟩, -⟩ | ⟨⟨e, hc2, hf⟩, rfl⟩
        · cases e
        · exact absurd (Sum.inr.inj e) (by decide)
        · exact absurd (Sum.inr.inj e) (by decide)
        · exact ⟨3, by decide, rfl, js_gk hs hc2 hf hpm hpd hb ⟨by omega, by omega⟩ (by omega) (h8.q (by omega)) (by decide) (fun T3 hs3 hpm3 => Cn.mono (fun r U hq => by obtain ⟨hv, rfl⟩ := hq; exact ⟨nI 0, up2 V 0 6 (nI 3), od, hv, rfl, up2_s, hps.cg (up2_n (by omega)) (fun i => up2_n (by omega)), hkv.cg (up2_n (by omega)) (fun i => up2_n (by omega)), hdv.cg (fun i => up2_n (by omega)) (fun i => up2_n (by omega)) (up2_n (by omega)) (up2_n (by omega))⟩) (hX2 G T3 m V od hs3))⟩
      · obtain ⟨rfl, hc2, hf⟩ := hq
        exact ⟨⟨(hf b hbF).1.1.trans hb.2.1.1, (hf b hbF).1.2.trans hb.2.1.2⟩, Or.inr (Or.inr (Or.inr (rfl)))⟩
theorem j_inspect {G : GI} {S : Hp} {x m b a0 : Nat} {inp : Nat → Int32} {n B0 U0 k : Nat} (h : JS S x m b a0 inp n B0 U0 k) (h1 : B0 + k + 1 ≤ gN G) (h2 : U0 + 6 * k + 6 ≤ gM G) (hk : k < 130000) {y0 : Int32} : CnH m_L_inspect G [.ref x, .int y0, .ref b] S (WO m_X13_inspect G [.int y0] x m b a0 inp n B0 U0 k) := by
  obtain ⟨T, V, g, od, N, ps, gq, ik, gk, D, pv, cap, pp, bx, bu, rfl, hs, hc, ⟨hps, hkv, hdv⟩, ⟨hpm, hpd⟩, hb, ⟨hB, hU⟩, hN, h8⟩ := h
  have hbF : LF m b a0 pv b := Or.inr (Or.inr (Or.inl rfl))
  obtain ⟨c, hr⟩ := hc.rel
  rcases pr_inspect hr (by omega) y0 with ⟨v, g', N', hO, -, -, hP⟩ | ⟨kv, code, hL, hX, -, hX2⟩
  · refine CnH.mono (fun r U hq => ?_) (l_inspect hc.t0 (s_inspect hc (by omega) (by omega) hO.1 hO.2.1 (fun T w k o A c a1 a2 a3 => hO.2.2.2 G T w k o A c a1 a2 a3)) (fun o T' hq => ?_))
    · rcases hq with ⟨v1, T1, ⟨e, hc2, hf⟩, rfl, rfl⟩ | ⟨⟨e, -⟩, -⟩ | ⟨⟨e, -⟩, -⟩
      · cases e
        refine ⟨0, by decide, rfl, js_g0 hs hc2 hf hpm hpd hb ⟨by omega, by omega⟩ (by have := hO.2.2.1.1; omega) (h8.push (Nat.le_refl _) (fun p hp => by have := hO.2.2.1.2 p hp; omega)) (fun T3 hs3 hpm3 => ?_)⟩
        obtain ⟨V2, hch, hps2, hEP⟩ := push1 (V := up2 V 0 6 (nI 0)) (g := g) (od := od) (G := G) hs3 (hps.cg (up2_n (by omega)) (fun i => up2_n (by omega))) hr.n24
        refine Cn.mono (fun r U hq => ?_) (hP G T3 m V od V2 hs3 hch)
        obtain ⟨hv, V', hEN, rfl⟩ := hq
        exact ⟨nI v, V', od, hv, rfl, (hEN 0 6 (by decide) (by omega)).trans ((hEP 0 6 (by decide) (by omega)).trans up2_s), rfl, hps2.cg (hEN 0 5 (by decide) (by omega)) (fun i => (hEN 4 i (by decide) (by omega))), hkv.cg ((hEN 0 3 (by decide) (by omega)).trans ((hEP 0 3 (by decide) (by omega)).trans (up2_n (by omega)))) (fun i => ((hEN 2 i (by decide) (by omega)).trans ((hEP 2 i (by decide) (by omega)).trans (up2_n (by omega))))), hdv.cg (fun i => ((hEN 8 i (by decide) (by omega)).trans ((hEP 8 i (by decide) (by omega)).trans (up2_n (by omega))))) (fun i => ((hEN 9 i (by decide) (by omega)).trans ((hEP 9 i (by decide) (by omega)).trans (up2_n (by omega))))) ((hEN 0 14 (by decide) (by omega)).trans ((hEP 0 14 (by decide) (by omega)).trans (up2_n (by omega)))) ((hEN 0 15 (by decide) (by omega)).trans ((hEP 0 15 (by decide) (by omega)).trans (up2_n (by omega))))⟩
      · cases e
      · cases e
    · obtain ⟨rfl, hc2, hf⟩ := hq
      exact ⟨⟨(hf b hbF).1.1.trans hb.2.1.1, (hf b hbF).1.2.trans hb.2.1.2⟩, Or.inl ⟨_, rfl⟩⟩
  · unfold L_b at hL
    rcases hL with ⟨rfl, rfl⟩ | ⟨rfl, rfl⟩
    · refine CnH.mono (fun r U hq => ?_) (l_inspect hc.t0 (s_inspect_no hc (by omega) (by omega) (fun T a1 a2 => x_end1 a1 a2) (fun T w k o A c a1 a2 a3 => hX G T w k o A c a1 a2 a3)) (fun o T' hq => ?_))
      · rcases hq with ⟨v1, T1, ⟨e, -⟩, -⟩ | ⟨⟨e, hc2, hf⟩, rfl⟩ | ⟨⟨e, -⟩, -⟩
        · cases e
        · exact ⟨1, by decide, rfl, js_gk hs hc2 hf hpm hpd hb ⟨by omega, by omega⟩ (by omega) (h8.q (by omega)) (by decide) (fun T3 hs3 hpm3 => Cn.mono (fun r U hq => by obtain ⟨hv, rfl⟩ := hq; exact ⟨nI 0, up2 V 0 6 (nI 1), od, hv, rfl, up2_s, hps.cg (up2_n (by omega)) (fun i => up2_n (by omega)), hkv.cg (up2_n (by omega)) (fun i => up2_n (by omega)), hdv.cg (fun i => up2_n (by omega)) (fun i => up2_n (by omega)) (up2_n (by omega)) (up2_n (by omega))⟩) (hX2 G T3 m V od hs3))⟩
        · exact absurd (Sum.inr.inj e) (by decide)
      · obtain ⟨rfl, hc2, hf⟩ := hq
        exact ⟨⟨(hf b hbF).1.1.trans hb.2.1.1, (hf b hbF).1.2.trans hb.2.1.2⟩, Or.inr (Or.inl rfl)⟩
    · refine CnH.mono (fun r U hq => ?_) (l_inspect hc.t0 (s_inspect_no hc (by omega) (by omega) (fun T a1 a2 => x_end3 a1 a2) (fun T w k o A c a1 a2 a3 => hX G T w k o A c a1 a2 a3)) (fun o T' hq => ?_))
      · rcases hq with ⟨v1, T1, ⟨e, -⟩, -⟩ | ⟨⟨e, -⟩, -⟩ | ⟨⟨e, hc2, hf⟩, rfl⟩
        · cases e
        · exact absurd (Sum.inr.inj e) (by decide)
        · exact ⟨2, by decide, rfl, js_gk hs hc2 hf hpm hpd hb ⟨by omega, by omega⟩ (by omega) (h8.q (by omega)) (by decide) (fun T3 hs3 hpm3 => Cn.mono (fun r U hq => by obtain ⟨hv, rfl⟩ := hq; exact ⟨nI 0, up2 V 0 6 (nI 2), od, hv, rfl, up2_s, hps.cg (up2_n (by omega)) (fun i => up2_n (by omega)), hkv.cg (up2_n (by omega)) (fun i => up2_n (by omega)), hdv.cg (fun i => up2_n (by omega)) (fun i => up2_n (by omega)) (up2_n (by omega)) (up2_n (by omega))⟩) (hX2 G T3 m V od hs3))⟩
      · obtain ⟨rfl, hc2, hf⟩ := hq
        exact ⟨⟨(hf b hbF).1.1.trans hb.2.1.1, (hf b hbF).1.2.trans hb.2.1.2⟩, Or.inr (Or.inr (rfl))⟩
theorem j_sort {G : GI} {S : Hp} {x m b a0 : Nat} {inp : Nat → Int32} {n B0 U0 k : Nat} (h : JS S x m b a0 inp n B0 U0 k) (h1 : B0 + k + 1 ≤ gN G) (h2 : U0 + 6 * k + 6 ≤ gM G) (hk : k < 130000) {y0 : Int32} : CnH m_L_sort G [.ref x, .int y0, .ref b] S (WO m_X13_sort G [.int y0] x m b a0 inp n B0 U0 k) := by
  obtain ⟨T, V, g, od, N, ps, gq, ik, gk, D, pv, cap, pp, bx, bu, rfl, hs, hc, ⟨hps, hkv, hdv⟩, ⟨hpm, hpd⟩, hb, ⟨hB, hU⟩, hN, h8⟩ := h
  have hbF : LF m b a0 pv b := Or.inr (Or.inr (Or.inl rfl))
  obtain ⟨c, hr⟩ := hc.rel
  rcases pr_sort hr (by omega) y0 with ⟨v, g', N', hO, -, -, hP⟩ | ⟨kv, code, hL, hX, -, hX2⟩
  · refine CnH.mono (fun r U hq => ?_) (l_sort hc.t0 (s_sort hc (by omega) (by omega) hO.1 hO.2.1 (fun T w k o A c a1 a2 a3 => hO.2.2.2 G T w k o A c a1 a2 a3)) (fun o T' hq => ?_))
    · rcases hq with ⟨v1, T1, ⟨e, hc2, hf⟩, rfl, rfl⟩ | ⟨⟨e, -⟩, -⟩ | ⟨⟨e, -⟩, -⟩
      · cases e
        refine ⟨0, by decide, rfl, js_g0 hs hc2 hf hpm hpd hb ⟨by omega, by omega⟩ (by have := hO.2.2.1.1; omega) (h8.push (Nat.le_refl _) (fun p hp => by have := hO.2.2.1.2 p hp; omega)) (fun T3 hs3 hpm3 => ?_)⟩
        obtain ⟨V2, hch, hps2, hEP⟩ := push1 (V := up2 V 0 6 (nI 0)) (g := g) (od := od) (G := G) hs3 (hps.cg (up2_n (by omega)) (fun i => up2_n (by omega))) hr.n24
        refine Cn.mono (fun r U hq => ?_) (hP G T3 m V od V2 hs3 hch)
        obtain ⟨hv, V', hEN, rfl⟩ := hq
        exact ⟨nI v, V', od, hv, rfl, (hEN 0 6 (by decide) (by omega)).trans ((hEP 0 6 (by decide) (by omega)).trans up2_s), rfl, hps2.cg (hEN 0 5 (by decide) (by omega)) (fun i => (hEN 4 i (by decide) (by omega))), hkv.cg ((hEN 0 3 (by decide) (by omega)).trans ((hEP 0 3 (by decide) (by omega)).trans (up2_n (by omega)))) (fun i => ((hEN 2 i (by decide) (by omega)).trans ((hEP 2 i (by decide) (by omega)).trans (up2_n (by omega))))), hdv.cg (fun i => ((hEN 8 i (by decide) (by omega)).trans ((hEP 8 i (by decide) (by omega)).trans (up2_n (by omega))))) (fun i => ((hEN 9 i (by decide) (by omega)).trans ((hEP 9 i (by decide) (by omega)).trans (up2_n (by omega))))) ((hEN 0 14 (by decide) (by omega)).trans ((hEP 0 14 (by decide) (by omega)).trans (up2_n (by omega)))) ((hEN 0 15 (by decide) (by omega)).trans ((hEP 0 15 (by decide) (by omega)).trans (up2_n (by omega))))⟩
      · cases e
      · cases e
    · obtain ⟨rfl, hc2, hf⟩ := hq
      exact ⟨⟨(hf b hbF).1.1.trans hb.2.1.1, (hf b hbF).1.2.trans hb.2.1.2⟩, Or.inl ⟨_, rfl⟩⟩
  · unfold L_b at hL
    rcases hL with ⟨rfl, rfl⟩ | ⟨rfl, rfl⟩
    · refine CnH.mono (fun r U hq => ?_) (l_sort hc.t0 (s_sort_no hc (by omega) (by omega) (fun T a1 a2 => x_end1 a1 a2) (fun T w k o A c a1 a2 a3 => hX G T w k o A c a1 a2 a3)) (fun o T' hq => ?_))
      · rcases hq with ⟨v1, T1, ⟨e, -⟩, -⟩ | ⟨⟨e, hc2, hf⟩, rfl⟩ | ⟨⟨e, -⟩, -⟩
        · cases e
        · exact ⟨1, by decide, rfl, js_gk hs hc2 hf hpm hpd hb ⟨by omega, by omega⟩ (by omega) (h8.q (by omega)) (by decide) (fun T3 hs3 hpm3 => Cn.mono (fun r U hq => by obtain ⟨hv, rfl⟩ := hq; exact ⟨nI 0, up2 V 0 6 (nI 1), od, hv, rfl, up2_s, hps.cg (up2_n (by omega)) (fun i => up2_n (by omega)), hkv.cg (up2_n (by omega)) (fun i => up2_n (by omega)), hdv.cg (fun i => up2_n (by omega)) (fun i => up2_n (by omega)) (up2_n (by omega)) (up2_n (by omega))⟩) (hX2 G T3 m V od hs3))⟩
        · exact absurd (Sum.inr.inj e) (by decide)
      · obtain ⟨rfl, hc2, hf⟩ := hq
        exact ⟨⟨(hf b hbF).1.1.trans hb.2.1.1, (hf b hbF).1.2.trans hb.2.1.2⟩, Or.inr (Or.inl rfl)⟩
    · refine CnH.mono (fun r U hq => ?_) (l_sort hc.t0 (s_sort_no hc (by omega) (by omega) (fun T a1 a2 => x_end3 a1 a2) (fun T w k o A c a1 a2 a3 => hX G T w k o A c a1 a2 a3)) (fun o T' hq => ?_))
      · rcases hq with ⟨v1, T1, ⟨e, -⟩, -⟩ | ⟨⟨e, -⟩, -⟩ | ⟨⟨e, hc2, hf⟩, rfl⟩
        · cases e
        · exact absurd (Sum.inr.inj e) (by decide)
        · exact ⟨2, by decide, rfl, js_gk hs hc2 hf hpm hpd hb ⟨by omega, by omega⟩ (by omega) (h8.q (by omega)) (by decide) (fun T3 hs3 hpm3 => Cn.mono (fun r U hq => by obtain ⟨hv, rfl⟩ := hq; exact ⟨nI 0, up2 V 0 6 (nI 2), od, hv, rfl, up2_s, hps.cg (up2_n (by omega)) (fun i => up2_n (by omega)), hkv.cg (up2_n (by omega)) (fun i => up2_n (by omega)), hdv.cg (fun i => up2_n (by omega)) (fun i => up2_n (by omega)) (up2_n (by omega)) (up2_n (by omega))⟩) (hX2 G T3 m V od hs3))⟩
      · obtain ⟨rfl, hc2, hf⟩ := hq
        exact ⟨⟨(hf b hbF).1.1.trans hb.2.1.1, (hf b hbF).1.2.trans hb.2.1.2⟩, Or.inr (Or.inr (rfl))⟩
theorem j_ship {G : GI} {S : Hp} {x m b a0 : Nat} {inp : Nat → Int32} {n B0 U0 k : Nat} (h : JS S x m b a0 inp n B0 U0 k) (h1 : B0 + k + 1 ≤ gN G) (h2 : U0 + 6 * k + 6 ≤ gM G) (hk : k < 130000) {y0 : Int32} : CnH m_L_ship G [.ref x, .int y0, .ref b] S (WO m_X13_ship G [.int y0] x m b a0 inp n B0 U0 k) := by
  obtain ⟨T, V, g, od, N, ps, gq, ik, gk, D, pv, cap, pp, bx, bu, rfl, hs, hc, ⟨hps, hkv, hdv⟩, ⟨hpm, hpd⟩, hb, ⟨hB, hU⟩, hN, h8⟩ := h
  have hbF : LF m b a0 pv b := Or.inr (Or.inr (Or.inl rfl))
  obtain ⟨c, hr⟩ := hc.rel
  rcases pr_ship hr (by omega) y0 with ⟨v, g', N', hO, -, -, hP⟩ | ⟨kv, code, hL, hX, -, hX2⟩
  · refine CnH.mono (fun r U hq => ?_) (l_ship hc.t0 (s_ship hc (by omega) (by omega) hO.1 hO.2.1 (fun T w k o A c a1 a2 a3 => hO.2.2.2 G T w k o A c a1 a2 a3)) (fun o T' hq => ?_))
    · rcases hq with ⟨v1, T1, ⟨e, hc2, hf⟩, rfl, rfl⟩ | ⟨⟨e, -⟩, -⟩ | ⟨⟨e, -⟩, -⟩
      · cases e
        refine ⟨0, by decide, rfl, js_g0 hs hc2 hf hpm hpd hb ⟨by omega, by omega⟩ (by have := hO.2.2.1.1; omega) (h8.push (Nat.le_refl _) (fun p hp => by have := hO.2.2.1.2 p hp; omega)) (fun T3 hs3 hpm3 => ?_)⟩
        obtain ⟨V2, hch, hps2, hEP⟩ := push1 (V := up2 V 0 6 (nI 0)) (g := g) (od := od) (G := G) hs3 (hps.cg (up2_n (by omega)) (fun i => up2_n (by omega))) hr.n24
        refine Cn.mono (fun r U hq => ?_) (hP G T3 m V od V2 hs3 hch)
        obtain ⟨hv, V', hEN, rfl⟩ := hq
        exact ⟨nI v, V', od, hv, rfl, (hEN 0 6 (by decide) (by omega)).trans ((hEP 0 6 (by decide) (by omega)).trans up2_s), rfl, hps2.cg (hEN 0 5 (by decide) (by omega)) (fun i => (hEN 4 i (by decide) (by omega))), hkv.cg ((hEN 0 3 (by decide) (by omega)).trans ((hEP 0 3 (by decide) (by omega)).trans (up2_n (by omega)))) (fun i => ((hEN 2 i (by decide) (by omega)).trans ((hEP 2 i (by decide) (by omega)).trans (up2_n (by omega))))), hdv.cg (fun i => ((hEN 8 i (by decide) (by omega)).trans ((hEP 8 i (by decide) (by omega)).trans (up2_n (by omega))))) (fun i => ((hEN 9 i (by decide) (by omega)).trans ((hEP 9 i (by decide) (by omega)).trans (up2_n (by omega))))) ((hEN 0 14 (by decide) (by omega)).trans ((hEP 0 14 (by decide) (by omega)).trans (up2_n (by omega)))) ((hEN 0 15 (by decide) (by omega)).trans ((hEP 0 15 (by decide) (by omega)).trans (up2_n (by omega))))⟩
      · cases e
      · cases e
    · obtain ⟨rfl, hc2, hf⟩ := hq
      exact ⟨⟨(hf b hbF).1.1.trans hb.2.1.1, (hf b hbF).1.2.trans hb.2.1.2⟩, Or.inl ⟨_, rfl⟩⟩
  · unfold L_b at hL
    rcases hL with ⟨rfl, rfl⟩ | ⟨rfl, rfl⟩
    · refine CnH.mono (fun r U hq => ?_) (l_ship hc.t0 (s_ship_no hc (by omega) (by omega) (fun T a1 a2 => x_end1 a1 a2) (fun T w k o A c a1 a2 a3 => hX G T w k o A c a1 a2 a3)) (fun o T' hq => ?_))
      · rcases hq with ⟨v1, T1, ⟨e, -⟩, -⟩ | ⟨⟨e, hc2, hf⟩, rfl⟩ | ⟨⟨e, -⟩, -⟩
        · cases e
        · exact ⟨1, by decide, rfl, js_gk hs hc2 hf hpm hpd hb ⟨by omega, by omega⟩ (by omega) (h8.q (by omega)) (by decide) (fun T3 hs3 hpm3 => Cn.mono (fun r U hq => by obtain ⟨hv, rfl⟩ := hq; exact ⟨nI 0, up2 V 0 6 (nI 1), od, hv, rfl, up2_s, hps.cg (up2_n (by omega)) (fun i => up2_n (by omega)), hkv.cg (up2_n (by omega)) (fun i => up2_n (by omega)), hdv.cg (fun i => up2_n (by omega)) (fun i => up2_n (by omega)) (up2_n (by omega)) (up2_n (by omega))⟩) (hX2 G T3 m V od hs3))⟩
        · exact absurd (Sum.inr.inj e) (by decide)
      · obtain ⟨rfl, hc2, hf⟩ := hq
        exact ⟨⟨(hf b hbF).1.1.trans hb.2.1.1, (hf b hbF).1.2.trans hb.2.1.2⟩, Or.inr (Or.inl rfl)⟩
    · refine CnH.mono (fun r U hq => ?_) (l_ship hc.t0 (s_ship_no hc (by omega) (by omega) (fun T a1 a2 => x_end3 a1 a2) (fun T w k o A c a1 a2 a3 => hX G T w k o A c a1 a2 a3)) (fun o T' hq => ?_))
      · rcases hq with ⟨v1, T1, ⟨e, -⟩, -⟩ | ⟨⟨e, -⟩, -⟩ | ⟨⟨e, hc2, hf⟩, rfl⟩
        · cases e
        · exact absurd (Sum.inr.inj e) (by decide)
        · exact ⟨2, by decide, rfl, js_gk hs hc2 hf hpm hpd hb ⟨by omega, by omega⟩ (by omega) (h8.q (by omega)) (by decide) (fun T3 hs3 hpm3 => Cn.mono (fun r U hq => by obtain ⟨hv, rfl⟩ := hq; exact ⟨nI 0, up2 V 0 6 (nI 2), od, hv, rfl, up2_s, hps.cg (up2_n (by omega)) (fun i => up2_n (by omega)), hkv.cg (up2_n (by omega)) (fun i => up2_n (by omega)), hdv.cg (fun i => up2_n (by omega)) (fun i => up2_n (by omega)) (up2_n (by omega)) (up2_n (by omega))⟩) (hX2 G T3 m V od hs3))⟩
      · obtain ⟨rfl, hc2, hf⟩ := hq
        exact ⟨⟨(hf b hbF).1.1.trans hb.2.1.1, (hf b hbF).1.2.trans hb.2.1.2⟩, Or.inr (Or.inr (rfl))⟩
theorem j_complain {G : GI} {S : Hp} {x m b a0 : Nat} {inp : Nat → Int32} {n B0 U0 k : Nat} (h : JS S x m b a0 inp n B0 U0 k) (h1 : B0 + k + 1 ≤ gN G) (h2 : U0 + 6 * k + 6 ≤ gM G) (hk : k < 130000) {y0 y1 : Int32} : CnH m_L_complain G [.ref x, .int y0, .int y1, .ref b] S (WO m_X13_complain G [.int y0, .int y1] x m b a0 inp n B0 U0 k) := by
  obtain ⟨T, V, g, od, N, ps, gq, ik, gk, D, pv, cap, pp, bx, bu, rfl, hs, hc, ⟨hps, hkv, hdv⟩, ⟨hpm, hpd⟩, hb, ⟨hB, hU⟩, hN, h8⟩ := h
  have hbF : LF m b a0 pv b := Or.inr (Or.inr (Or.inl rfl))
  obtain ⟨c, hr⟩ := hc.rel
  rcases pr_complain hr (by omega) y0 y1 with ⟨v, g', N', hO, -, -, hP⟩ | ⟨kv, code, hL, hX, -, hX2⟩
  · refine CnH.mono (fun r U hq => ?_) (l_complain hc.t0 (s_complain hc (by omega) (by omega) hO.1 hO.2.1 (fun T w k o A c a1 a2 a3 => hO.2.2.2 G T w k o A c a1 a2 a3)) (fun o T' hq => ?_))
    · rcases hq with ⟨v1, T1, ⟨e, hc2, hf⟩, rfl, rfl⟩ | ⟨⟨e, -⟩, -⟩ | ⟨⟨e, -⟩, -⟩ | ⟨⟨e, -⟩, -⟩
      · cases e
        refine ⟨0, by decide, rfl, js_g0 hs hc2 hf hpm hpd hb ⟨by omega, by omega⟩ (by have := hO.2.2.1.1; omega) (h8.push (Nat.le_refl _) (fun p hp => by have := hO.2.2.1.2 p hp; omega)) (fun T3 hs3 hpm3 => ?_)⟩
        obtain ⟨V2, hch, hps2, hEP⟩ := push1 (V := up2 V 0 6 (nI 0)) (g := g) (od := od) (G := G) hs3 (hps.cg (up2_n (by omega)) (fun i => up2_n (by omega))) hr.n24
        refine Cn.mono (fun r U hq => ?_) (hP G T3 m V od V2 hs3 hch)
        obtain ⟨hv, V', hEN, rfl⟩ := hq
        exact ⟨nI v, V', od, hv, rfl, (hEN 0 6 (by decide) (by omega)).trans ((hEP 0 6 (by decide) (by omega)).trans up2_s), rfl, hps2.cg (hEN 0 5 (by decide) (by omega)) (fun i => (hEN 4 i (by decide) (by omega))), hkv.cg ((hEN 0 3 (by decide) (by omega)).trans ((hEP 0 3 (by decide) (by omega)).trans (up2_n (by omega)))) (fun i => ((hEN 2 i (by decide) (by omega)).trans ((hEP 2 i (by decide) (by omega)).trans (up2_n (by omega))))), hdv.cg (fun i => ((hEN 8 i (by decide) (by omega)).trans ((hEP 8 i (by decide) (by omega)).trans (up2_n (by omega))))) (fun i => ((hEN 9 i (by decide) (by omega)).trans ((hEP 9 i (by decide) (by omega)).trans (up2_n (by omega))))) ((hEN 0 14 (by decide) (by omega)).trans ((hEP 0 14 (by decide) (by omega)).trans (up2_n (by omega)))) ((hEN 0 15 (by decide) (by omega)).trans ((hEP 0 15 (by decide) (by omega)).trans (up2_n (by omega))))⟩
      · cases e
      · cases e
      · cases e
    · obtain ⟨rfl, hc2, hf⟩ := hq
      exact ⟨⟨(hf b hbF).1.1.trans hb.2.1.1, (hf b hbF).1.2.trans hb.2.1.2⟩, Or.inl ⟨_, rfl⟩⟩
  · unfold L_d at hL
    rcases hL with ⟨rfl, rfl⟩ | ⟨rfl, rfl⟩ | ⟨rfl, rfl⟩
    · refine CnH.mono (fun r U hq => ?_) (l_complain hc.t0 (s_complain_no hc (by omega) (by omega) (fun T a1 a2 => x_end1 a1 a2) (fun T w k o A c a1 a2 a3 => hX G T w k o A c a1 a2 a3)) (fun o T' hq => ?_))
      · rcases hq with ⟨v1, T1, ⟨e, -⟩, -⟩ | ⟨⟨e, hc2, hf⟩, rfl⟩ | ⟨⟨e, -⟩, -⟩ | ⟨⟨e, -⟩, -⟩
        · cases e
        · exact ⟨1, by decide, rfl, js_gk hs hc2 hf hpm hpd hb ⟨by omega, by omega⟩ (by omega) (h8.q (by omega)) (by decide) (fun T3 hs3 hpm3 => Cn.mono (fun r U hq => by obtain ⟨hv, rfl⟩ := hq; exact ⟨nI 0, up2 V 0 6 (nI 1), od, hv, rfl, up2_s, hps.cg (up2_n (by omega)) (fun i => up2_n (by omega)), hkv.cg (up2_n (by omega)) (fun i => up2_n (by omega)), hdv.cg (fun i => up2_n (by omega)) (fun i => up2_n (by omega)) (up2_n (by omega)) (up2_n (by omega))⟩) (hX2 G T3 m V od hs3))⟩
        · exact absurd (Sum.inr.inj e) (by decide)
        · exact absurd (Sum.inr.inj e) (by decide)
      · obtain ⟨rfl, hc2, hf⟩ := hq
        exact ⟨⟨(hf b hbF).1.1.trans hb.2.1.1, (hf b hbF).1.2.trans hb.2.1.2⟩, Or.inr (Or.inl rfl)⟩
    · refine CnH.mono (fun r U hq => ?_) (l_complain hc.t0 (s_complain_no hc (by omega) (by omega) (fun T a1 a2 => x_end3 a1 a2) (fun T w k o A c a1 a2 a3 => hX G T w k o A c a1 a2 a3)) (fun o T' hq => ?_))
      · rcases hq with ⟨v1, T1, ⟨e, -⟩, -⟩ | ⟨⟨e, -⟩, -⟩ | ⟨⟨e, hc2, hf⟩, rfl⟩ | ⟨⟨e, -⟩, -⟩
        · cases e
        · exact absurd (Sum.inr.inj e) (by decide)
        · exact ⟨2, by decide, rfl, js_gk hs hc2 hf hpm hpd hb ⟨by omega, by omega⟩ (by omega) (h8.q (by omega)) (by decide) (fun T3 hs3 hpm3 => Cn.mono (fun r U hq => by obtain ⟨hv, rfl⟩ := hq; exact ⟨nI 0, up2 V 0 6 (nI 2), od, hv, rfl, up2_s, hps.cg (up2_n (by omega)) (fun i => up2_n (by omega)), hkv.cg (up2_n (by omega)) (fun i => up2_n (by omega)), hdv.cg (fun i => up2_n (by omega)) (fun i => up2_n (by omega)) (up2_n (by omega)) (up2_n (by omega))⟩) (hX2 G T3 m V od hs3))⟩
        · exact absurd (Sum.inr.inj e) (by decide)
      · obtain ⟨rfl, hc2, hf⟩ := hq
        exact ⟨⟨(hf b hbF).1.1.trans hb.2.1.1, (hf b hbF).1.2.trans hb.2.1.2⟩, Or.inr (Or.inr (Or.inl rfl))⟩
    · refine CnH.mono (fun r U hq => ?_) (l_complain hc.t0 (s_complain_no hc (by omega) (by omega) (fun T a1 a2 => x_end4 a1 a2) (fun T w k o A c a1 a2 a3 => hX G T w k o A c a1 a2 a3)) (fun o T' hq => ?_))
      · rcases hq with ⟨v1, T1, ⟨e, -⟩, -⟩ | ⟨⟨e, -⟩, -⟩ | ⟨⟨e, -⟩, -⟩ | ⟨⟨e, hc2, hf⟩, rfl⟩
        · cases e
        · exact absurd (Sum.inr.inj e) (by decide)
        · exact absurd (Sum.inr.inj e) (by decide)
        · exact ⟨3, by decide, rfl, js_gk hs hc2 hf hpm hpd hb ⟨by omega, by omega⟩ (by omega) (h8.q (by omega)) (by decide) (fun T3 hs3 hpm3 => Cn.mono (fun r U hq => by obtain ⟨hv, rfl⟩ := hq; exact ⟨nI 0, up2 V 0 6 (nI 3), od, hv, rfl, up2_s, hps.cg (up2_n (by omega)) (fun i => up2_n (by omega)), hkv.cg (up2_n (by omega)) (fun i => up2_n (by omega)), hdv.cg (fun i => up2_n (by omega)) (fun i => up2_n (by omega)) (up2_n (by omega)) (up2_n (by omega))⟩) (hX2 G T3 m V od hs3))⟩
      · obtain ⟨rfl, hc2, hf⟩ := hq
        exact ⟨⟨(hf b hbF).1.1.trans hb.2.1.1, (hf b hbF).1.2.trans hb.2.1.2⟩, Or.inr (Or.inr (Or.inr (rfl)))⟩
