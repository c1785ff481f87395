/-! STEPS OF THE LAW: traces, what is kept in a drawer -/
theorem DV.kp {V V' : RVal} {D D' : Nat → Nat → Nat} {d c : Nat} {z : Nat → Nat} (h : DV V D) (hc : c < 5) (eD : ∀ f a, ¬ (f = 193 ∧ a = 190 + 5 * d) → ¬ (f = 1000 + c ∧ 190 + 5 * d + 1 ≤ a ∧ a ≤ 190 + 5 * d + 4) → D' f a = D f a) (ek : ∀ k, k < 4 → D' (1000 + c) (190 + 5 * d + (1 + k)) = z k) (e193 : D' 193 (190 + 5 * d) = c + 1) (eV : ∀ j i, ¬ (j = 8 ∧ (i = 22 * d + 1 ∨ 22 * d + 2 + 4 * c ≤ i ∧ i ≤ 22 * d + 2 + 4 * c + 3)) → ¬ (j = 0 ∧ i = 6) → V' j i = V j i) (vk : ∀ k, k < 4 → V' 8 (22 * d + 2 + 4 * c + k) = nI (z k)) (v1 : V' 8 (22 * d + 1) = nI (c + 1)) : DV V' D' := by
  refine ⟨fun d2 hd2 => ?_, ⟨?_, ?_, fun i hi => ?_⟩, ?_⟩
  · obtain ⟨a1, a2, a3, a4, a5⟩ := h.1 d2 hd2
    by_cases e : d2 = d
    · subst e
      refine ⟨by rw [eV _ _ (by omega) (by omega), eD _ _ (by omega) (by omega)]; exact a1, by rw [eD _ _ (by omega) (by omega)]; exact a2, by rw [v1, e193], by omega, fun i k hi hk => ?_⟩
      by_cases e2 : i = c
      · subst e2
        rw [vk k hk, ek k hk]
      · rw [eV _ _ (by omega) (by omega), eD _ _ (by omega) (by omega)]; exact a5 i k hi hk
    · exact ⟨by rw [eV _ _ (by omega) (by omega), eD _ _ (by omega) (by omega)]; exact a1, by rw [eD _ _ (by omega) (by omega)]; exact a2, by rw [eV _ _ (by omega) (by omega), eD _ _ (by omega) (by omega)]; exact a3, by rw [eD _ _ (by omega) (by omega)]; exact a4, fun i k hi hk => by rw [eV _ _ (by omega) (by omega), eD _ _ (by omega) (by omega)]; exact a5 i k hi hk⟩
  · rw [eV _ _ (by omega) (by omega), eD _ _ (by omega) (by omega)]; exact h.2.1.1
  · rw [eD _ _ (by omega) (by omega)]; exact h.2.1.2.1
  · rw [eD _ _ (by omega) (by omega)] at hi
    rw [eV _ _ (by omega) (by omega), eD _ _ (by omega) (by omega)]
    exact h.2.1.2.2 i hi
  · rw [eV _ _ (by omega) (by omega), eD _ _ (by omega) (by omega)]; exact h.2.2
theorem four {P : Nat → Prop} (h0 : P 0) (h1 : P 1) (h2 : P 2) (h3 : P 3) : ∀ k, k < 4 → P k := fun k hk => by
  obtain rfl | rfl | rfl | rfl : k = 0 ∨ k = 1 ∨ k = 2 ∨ k = 3 := by omega
  · exact h0
  · exact h1
  · exact h2
  · exact h3
theorem j_trace {G : GI} {S : Hp} {x m b a0 : Nat} {inp : Nat → Int32} {n B0 U0 k : Nat} (h : JS S x m b a0 inp n B0 U0 k) (h1 : B0 + k + 1 ≤ gN G) (h2 : U0 + 6 * k + 6 ≤ gM G) (hk : k < 130000) {y0 y1 y2 y3 : Int32} (hz01 : y3 = nI 0 ∨ y3 = nI 1) : CnH m_L_trace G [.ref x, .int y0, .int y1, .int y2, .int y3, .ref b] S (WO m_X13_trace G [.int y0, .int y1, .int y2, .int y3] x m b a0 inp n B0 U0 k) := by
  obtain ⟨T, V, g, od, N, ps, gq, ik, gk, D, pv, cap, pp, bx, bu, rfl, hs, hc, ⟨hps, hkv, hdv⟩, ⟨hpm, hpd⟩, hb, ⟨hB, hU⟩, hN, h8⟩ := h
  have hbF : LF m b a0 pv b := Or.inr (Or.inr (Or.inl rfl))
  obtain ⟨c0, hr⟩ := hc.rel
  have h24 := hr.n24
  have hbw := hr.wb
  by_cases h0 : vp_in y0 (g 0)
  · obtain ⟨l, hl, rfl⟩ := vp_in_of h0 (by omega)
    have hz := (hr.lot hl).z
    by_cases h3 : vp_in y1 (g (90 + 13 * l + 1))
    · obtain ⟨u, hu, rfl⟩ := vp_in_of h3 (by omega)
      by_cases h4 : vp_in y2 4
      · obtain ⟨q, hq, rfl⟩ := vp_in_of h4 (by decide)
        by_cases hd : bW (g (402 + 2 * (200 * l + u))) q = 0
        · refine CnH.mono (fun r U hq => ?_) (l_trace hc.t0 (hc.ft (by omega) (by omega) fun o A c a1 a2 w k a3 r1 r2 a4 a5 => f_trace_3 a1 a2 a3 a4 a5 r1 r2 hl hu hq hd) (fun o T' hq => ?_))
          · rcases hq with ⟨v1, T1, ⟨e, -⟩, -⟩ | ⟨⟨e, -⟩, -⟩ | ⟨⟨e, -⟩, -⟩ | ⟨⟨e, hc2, hf⟩, rfl⟩
            · cases e
            · exact absurd (Sum.inr.inj e) (by decide)
            · exact absurd (Sum.inr.inj e) (by decide)
            · exact ⟨3, by decide, rfl, js_gk hs hc2 hf hpm hpd hb ⟨by omega, by omega⟩ (by omega) (h8.q (by omega)) (by decide) (fun T3 hs3 hpm3 => Cn.mono (fun r U hq => by obtain ⟨hv, rfl⟩ := hq; exact ⟨_, _, od, hv, rfl, up2_s, hps.cg (up2_n (by omega)) (fun i => up2_n (by omega)), hkv.cg (up2_n (by omega)) (fun i => up2_n (by omega)), hdv.cg (fun i => up2_n (by omega)) (fun i => up2_n (by omega)) (up2_n (by omega)) (up2_n (by omega))⟩) (q_trace_3 (V := V) (g := g) (od := od) hs3 h24 hbw hl hz hu hq hd))⟩
          · obtain ⟨rfl, hc2, hf⟩ := hq
            exact ⟨⟨(hf b hbF).1.1.trans hb.2.1.1, (hf b hbF).1.2.trans hb.2.1.2⟩, Or.inr (Or.inr (Or.inr (rfl)))⟩
        · have hd1 : bW (g (402 + 2 * (200 * l + u))) q = 1 := by unfold bW at hd ⊢; omega
          obtain ⟨n9, l', u', ho, hn9, hl', hu'⟩ := hr.org hq l l u (Nat.le_refl _) hl hu hd1
          rcases hz01 with rfl | rfl
          · refine CnH.mono (fun r U hq => ?_) (l_trace hc.t0 (hc.fn fun o A c a1 a2 w k a3 a4 a5 => f_trace_b a1 a2 a3 a4 a5 hl hu hq hd ho (by omega) hl' hu') (fun o T' hq => ?_))
            · rcases hq with ⟨v1, T1, ⟨e, hc2, hf⟩, rfl, rfl⟩ | ⟨⟨e, -⟩, -⟩ | ⟨⟨e, -⟩, -⟩ | ⟨⟨e, -⟩, -⟩
              · cases e
                exact ⟨0, by decide, rfl, js_g0 hs (hc2) hf hpm (hpd) hb ⟨by omega, by omega⟩ (by omega) (h8.q (by omega)) (fun T3 hs3 hpm3 => Cn.mono (fun r U hq => by obtain ⟨hv, rfl⟩ := hq; exact ⟨_, _, od, hv, rfl, (up2_n (by omega)).trans ((up2_n (by omega)).trans up2_s), rfl, hps.cg ((up2_n (by omega)).trans ((up2_n (by omega)).trans (up2_n (by omega)))) (fun i => (up2_n (by omega)).trans ((up2_n (by omega)).trans (up2_n (by omega)))), hkv.cg ((up2_n (by omega)).trans ((up2_n (by omega)).trans (up2_n (by omega)))) (fun i => (up2_n (by omega)).trans ((up2_n (by omega)).trans (up2_n (by omega)))), hdv.cg (fun i => (up2_n (by omega)).trans ((up2_n (by omega)).trans (up2_n (by omega)))) (fun i => (up2_n (by omega)).trans ((up2_n (by omega)).trans (up2_n (by omega)))) ((up2_n (by omega)).trans ((up2_n (by omega)).trans (up2_n (by omega)))) ((up2_n (by omega)).trans ((up2_n (by omega)).trans (up2_n (by omega))))⟩) (q_trace_b (V := V) (g := g) (od := od) hs3 h24 hbw hl hz hu hq hd ho))⟩
              · cases e
              · cases e
              · cases e
            · obtain ⟨rfl, hc2, hf⟩ := hq
              exact ⟨⟨(hf b hbF).1.1.trans hb.2.1.1, (hf b hbF).1.2.trans hb.2.1.2⟩, Or.inl ⟨_, rfl⟩⟩
          · refine CnH.mono (fun r U hq => ?_) (l_trace hc.t0 (hc.fn fun o A c a1 a2 w k a3 a4 a5 => f_trace_a a1 a2 a3 a4 a5 hl hu hq hd ho (by omega) hl' hu') (fun o T' hq => ?_))
            · rcases hq with ⟨v1, T1, ⟨e, hc2, hf⟩, rfl, rfl⟩ | ⟨⟨e, -⟩, -⟩ | ⟨⟨e, -⟩, -⟩ | ⟨⟨e, -⟩, -⟩
              · cases e
                exact ⟨0, by decide, rfl, js_g0 hs (hc2) hf hpm (hpd) hb ⟨by omega, by omega⟩ (by omega) (h8.q (by omega)) (fun T3 hs3 hpm3 => Cn.mono (fun r U hq => by obtain ⟨hv, x9, y9, rfl⟩ := hq; exact ⟨_, _, od, hv, rfl, (up2_n (by omega)).trans ((up2_n (by omega)).trans up2_s), rfl, hps.cg ((up2_n (by omega)).trans ((up2_n (by omega)).trans (up2_n (by omega)))) (fun i => (up2_n (by omega)).trans ((up2_n (by omega)).trans (up2_n (by omega)))), hkv.cg ((up2_n (by omega)).trans ((up2_n (by omega)).trans (up2_n (by omega)))) (fun i => (up2_n (by omega)).trans ((up2_n (by omega)).trans (up2_n (by omega)))), hdv.cg (fun i => (up2_n (by omega)).trans ((up2_n (by omega)).trans (up2_n (by omega)))) (fun i => (up2_n (by omega)).trans ((up2_n (by omega)).trans (up2_n (by omega)))) ((up2_n (by omega)).trans ((up2_n (by omega)).trans (up2_n (by omega)))) ((up2_n (by omega)).trans ((up2_n (by omega)).trans (up2_n (by omega))))⟩) (q_trace_a (V := V) (g := g) (od := od) hs3 h24 hbw hl hz hu hq hd ho))⟩
              · cases e
              · cases e
              · cases e
            · obtain ⟨rfl, hc2, hf⟩ := hq
              exact ⟨⟨(hf b hbF).1.1.trans hb.2.1.1, (hf b hbF).1.2.trans hb.2.1.2⟩, Or.inl ⟨_, rfl⟩⟩
      · refine CnH.mono (fun r U hq => ?_) (l_trace hc.t0 (hc.ft (by omega) (by omega) fun o A c a1 a2 w k a3 r1 r2 a4 a5 => f_trace_2 a1 a2 a3 a4 a5 r1 r2 hl hu h4) (fun o T' hq => ?_))
        · rcases hq with ⟨v1, T1, ⟨e, -⟩, -⟩ | ⟨⟨e, -⟩, -⟩ | ⟨⟨e, hc2, hf⟩, rfl⟩ | ⟨⟨e, -⟩, -⟩
          · cases e
          · exact absurd (Sum.inr.inj e) (by decide)
          · exact ⟨2, by decide, rfl, js_gk hs hc2 hf hpm hpd hb ⟨by omega, by omega⟩ (by omega) (h8.q (by omega)) (by decide) (fun T3 hs3 hpm3 => Cn.mono (fun r U hq => by obtain ⟨hv, rfl⟩ := hq; exact ⟨_, _, od, hv, rfl, up2_s, hps.cg (up2_n (by omega)) (fun i => up2_n (by omega)), hkv.cg (up2_n (by omega)) (fun i => up2_n (by omega)), hdv.cg (fun i => up2_n (by omega)) (fun i => up2_n (by omega)) (up2_n (by omega)) (up2_n (by omega))⟩) (q_trace_2 (V := V) (g := g) (od := od) hs3 h24 hbw hl hz hu h4))⟩
          · exact absurd (Sum.inr.inj e) (by decide)
        · obtain ⟨rfl, hc2, hf⟩ := hq
          exact ⟨⟨(hf b hbF).1.1.trans hb.2.1.1, (hf b hbF).1.2.trans hb.2.1.2⟩, Or.inr (Or.inr (Or.inl rfl))⟩
    · refine CnH.mono (fun r U hq => ?_) (l_trace hc.t0 (hc.ft (by omega) (by omega) fun o A c a1 a2 w k a3 r1 r2 a4 a5 => f_trace_1b a1 a2 a3 a4 a5 r1 r2 hl h3) (fun o T' hq => ?_))
      · rcases hq with ⟨v1, T1, ⟨e, -⟩, -⟩ | ⟨⟨e, hc2, hf⟩, rfl⟩ | ⟨⟨e, -⟩, -⟩ | ⟨⟨e, -⟩, -⟩
        · cases e
        · exact ⟨1, by decide, rfl, js_gk hs hc2 hf hpm hpd hb ⟨by omega, by omega⟩ (by omega) (h8.q (by omega)) (by decide) (fun T3 hs3 hpm3 => Cn.mono (fun r U hq => by obtain ⟨hv, rfl⟩ := hq; exact ⟨_, _, od, hv, rfl, up2_s, hps.cg (up2_n (by omega)) (fun i => up2_n (by omega)), hkv.cg (up2_n (by omega)) (fun i => up2_n (by omega)), hdv.cg (fun i => up2_n (by omega)) (fun i => up2_n (by omega)) (up2_n (by omega)) (up2_n (by omega))⟩) (q_trace_1b (V := V) (g := g) (od := od) hs3 h24 hl hz h3))⟩
        · exact absurd (Sum.inr.inj e) (by decide)
        · exact absurd (Sum.inr.inj e) (by decide)
      · obtain ⟨rfl, hc2, hf⟩ := hq
        exact ⟨⟨(hf b hbF).1.1.trans hb.2.1.1, (hf b hbF).1.2.trans hb.2.1.2⟩, Or.inr (Or.inl rfl)⟩
  · refine CnH.mono (fun r U hq => ?_) (l_trace hc.t0 (hc.ft (by omega) (by omega) fun o A c a1 a2 w k a3 r1 r2 a4 a5 => f_trace_1a a1 a2 a3 a4 a5 r1 r2 h0) (fun o T' hq => ?_))
    · rcases hq with ⟨v1, T1, ⟨e, -⟩, -⟩ | ⟨⟨e, hc2, hf⟩, rfl⟩ | ⟨⟨e, -⟩, -⟩ | ⟨⟨e, -⟩, -⟩
      · cases e
      · exact ⟨1, by decide, rfl, js_gk hs hc2 hf hpm hpd hb ⟨by omega, by omega⟩ (by omega) (h8.q (by omega)) (by decide) (fun T3 hs3 hpm3 => Cn.mono (fun r U hq => by obtain ⟨hv, rfl⟩ := hq; exact ⟨_, _, od, hv, rfl, up2_s, hps.cg (up2_n (by omega)) (fun i => up2_n (by omega)), hkv.cg (up2_n (by omega)) (fun i => up2_n (by omega)), hdv.cg (fun i => up2_n (by omega)) (fun i => up2_n (by omega)) (up2_n (by omega)) (up2_n (by omega))⟩) (q_trace_1a (V := V) (g := g) (od := od) hs3 h24 h0))⟩
      · exact absurd (Sum.inr.inj e) (by decide)
      · exact absurd (Sum.inr.inj e) (by decide)
    · obtain ⟨rfl, hc2, hf⟩ := hq
      exact ⟨⟨(hf b hbF).1.1.trans hb.2.1.1, (hf b hbF).1.2.trans hb.2.1.2⟩, Or.inr (Or.inl rfl)⟩
theorem j_keep {G : GI} {S : Hp} {x m b a0 : Nat} {inp : Nat → Int32} {n B0 U0 k : Nat} (h : JS S x m b a0 inp n B0 U0 k) (h1 : B0 + k + 1 ≤ gN G) (h2 : U0 + 6 * k + 6 ≤ gM G) (hk : k < 130000) {y0 y1 y2 : Int32} : CnH m_L_keep G [.ref x, .int y0, .int y1, .int y2, .ref b] S (WO m_X13_keep G [.int y0, .int y1, .int y2] x m b a0 inp n B0 U0 k) := by
  obtain ⟨T, V, g, od, N, ps, gq, ik, gk, D, pv, cap, pp, bx, bu, rfl, hs, hc, ⟨hps, hkv, hdv⟩, ⟨hpm, hpd⟩, hb, ⟨hB, hU⟩, hN, h8⟩ := h
  have hbF : LF m b a0 pv b := Or.inr (Or.inr (Or.inl rfl))
  obtain ⟨c0, hr⟩ := hc.rel
  have h24 := hr.n24
  have hbw := hr.wb
  by_cases h0 : vp_in y0 4
  · obtain ⟨d, hd, rfl⟩ := vp_in_of h0 (by decide)
    have hdr := hdv.1 d hd
    by_cases h3 : vp_in y1 (g 0)
    · obtain ⟨l, hl, rfl⟩ := vp_in_of h3 (by omega)
      have hL := hr.lot hl
      have hz := hL.z
      have hpr := hL.pr
      have h15 := (hr.p hpr).b.2.1
      by_cases h4 : vp_in y2 (g (90 + 13 * l + 1))
      · obtain ⟨u, hu, rfl⟩ := vp_in_of h4 (by omega)
        by_cases h5 : D 193 (190 + 5 * d) = 5
        · refine CnH.mono (fun r U hq => ?_) (l_keep hc.t0 (s_keep_2 hc (by omega) (by omega) hd rfl hdr.2.2.2.1 hl hu h5) (fun o T' hq => ?_))
          · rcases hq with ⟨v1, T1, ⟨e, -⟩, -⟩ | ⟨⟨e, -⟩, -⟩ | ⟨⟨e, hc2, hf⟩, rfl⟩ | ⟨⟨e, -⟩, -⟩
            · cases e
            · exact absurd (Sum.inr.inj e) (by decide)
            · exact ⟨2, by decide, rfl, js_gk hs hc2 hf hpm hpd hb ⟨by omega, by omega⟩ (by omega) (h8.q (by omega)) (by decide) (fun T3 hs3 hpm3 => Cn.mono (fun r U hq => by obtain ⟨hv, rfl⟩ := hq; exact ⟨_, _, od, hv, rfl, up2_s, hps.cg (up2_n (by omega)) (fun i => up2_n (by omega)), hkv.cg (up2_n (by omega)) (fun i => up2_n (by omega)), hdv.cg (fun i => up2_n (by omega)) (fun i => up2_n (by omega)) (up2_n (by omega)) (up2_n (by omega))⟩) (c_keep_2 (V := V) (g := g) (od := od) hs3 h24 hbw hl hz hu hpr h15 hd hdr.2.2.1 hdr.2.2.2.1 hdr.1 hdr.2.1 h5))⟩
            · exact absurd (Sum.inr.inj e) (by decide)
          · obtain ⟨rfl, hc2, hf⟩ := hq
            exact ⟨⟨(hf b hbF).1.1.trans hb.2.1.1, (hf b hbF).1.2.trans hb.2.1.2⟩, Or.inr (Or.inr (Or.inl rfl))⟩
        · have hn5 := hdr.2.2.2.1
          by_cases h6 : fitP g (D 192 (190 + 5 * d)) l u
          · refine CnH.mono (fun r U hq => ?_) (l_keep hc.t0 (s_keep_0 hc hd rfl hdr.2.2.2.1 rfl hdr.2.1 hl hu h5 h6) (fun o T' hq => ?_))
            · rcases hq with ⟨v1, T1, ⟨e, hc2, hf⟩, rfl, rfl⟩ | ⟨⟨e, -⟩, -⟩ | ⟨⟨e, -⟩, -⟩ | ⟨⟨e, -⟩, -⟩
              · cases e
                exact ⟨0, by decide, rfl, js_g0 hs (hc2) hf hpm ((((((hpd.up (by omega) (by omega)).up (by omega) (by omega)).up (by omega) (by omega)).up (by omega) (by omega)).up (by omega) (by omega))) hb ⟨by rw [u2_n (by omega), u2_n (by omega), u2_n (by omega), u2_n (by omega), u2_n (by omega)]; omega, by rw [u2_n (by omega), u2_n (by omega), u2_n (by omega), u2_n (by omega), u2_n (by omega)]; omega⟩ (by omega) (h8.q (by rw [u2_n (by omega), u2_n (by omega), u2_n (by omega), u2_n (by omega), u2_n (by omega)]; omega)) (fun T3 hs3 hpm3 => Cn.mono (fun r U hq => by obtain ⟨hv, rfl⟩ := hq; exact ⟨_, _, od, hv, rfl, (up2_n (by omega)).trans ((up2_n (by omega)).trans ((up2_n (by omega)).trans ((up2_n (by omega)).trans ((up2_n (by omega)).trans (up2_s))))), rfl, hps.cg ((up2_n (by omega)).trans ((up2_n (by omega)).trans ((up2_n (by omega)).trans ((up2_n (by omega)).trans ((up2_n (by omega)).trans (up2_n (by omega))))))) (fun i => (up2_n (by omega)).trans ((up2_n (by omega)).trans ((up2_n (by omega)).trans ((up2_n (by omega)).trans ((up2_n (by omega)).trans (up2_n (by omega))))))), hkv.cg ((up2_n (by omega)).trans ((up2_n (by omega)).trans ((up2_n (by omega)).trans ((up2_n (by omega)).trans ((up2_n (by omega)).trans (up2_n (by omega))))))) (fun i => (up2_n (by omega)).trans ((up2_n (by omega)).trans ((up2_n (by omega)).trans ((up2_n (by omega)).trans ((up2_n (by omega)).trans (up2_n (by omega))))))), hdv.kp (d := d) (c := D 193 (190 + 5 * d)) (z := (fun k => if k = 0 then l else if k = 1 then u else if k = 2 then g (402 + 2 * (200 * l + u)) % 16 else rW (g (402 + 2 * (200 * l + u))))) (by omega) (fun f a h1 h2 => (u2_n (by omega)).trans ((u2_n (by omega)).trans ((u2_n (by omega)).trans ((u2_n (by omega)).trans (u2_n (by omega)))))) (four ((u2_n (by omega)).trans ((u2_n (by omega)).trans ((u2_n (by omega)).trans ((u2_n (by omega)).trans (u2_s))))) ((u2_n (by omega)).trans ((u2_n (by omega)).trans ((u2_n (by omega)).trans (u2_s)))) ((u2_n (by omega)).trans ((u2_n (by omega)).trans (u2_s))) ((u2_n (by omega)).trans (u2_s))) u2_s (fun j i h1 h2 => (up2_n (by omega)).trans ((up2_n (by omega)).trans ((up2_n (by omega)).trans ((up2_n (by omega)).trans ((up2_n (by omega)).trans (up2_n (by omega))))))) (four ((up2_n (by omega)).trans ((up2_n (by omega)).trans ((up2_n (by omega)).trans ((up2_n (by omega)).trans (up2_s))))) ((up2_n (by omega)).trans ((up2_n (by omega)).trans ((up2_n (by omega)).trans (up2_s)))) ((up2_n (by omega)).trans ((up2_n (by omega)).trans (up2_s))) ((up2_n (by omega)).trans (up2_s))) up2_s⟩) (c_keep_0 (V := V) (g := g) (od := od) hs3 h24 hbw hl hz hu hpr h15 hd hdr.2.2.1 hdr.2.2.2.1 hdr.1 hdr.2.1 h5 h6))⟩
              · cases e
              · cases e
              · cases e
            · obtain ⟨rfl, hc2, hf⟩ := hq
              exact ⟨⟨(hf b hbF).1.1.trans hb.2.1.1, (hf b hbF).1.2.trans hb.2.1.2⟩, Or.inl ⟨_, rfl⟩⟩
          · refine CnH.mono (fun r U hq => ?_) (l_keep hc.t0 (s_keep_3 hc (by omega) (by omega) hd rfl hdr.2.2.2.1 rfl hdr.2.1 hl hu h5 h6) (fun o T' hq => ?_))
            · rcases hq with ⟨v1, T1, ⟨e, -⟩, -⟩ | ⟨⟨e, -⟩, -⟩ | ⟨⟨e, -⟩, -⟩ | ⟨⟨e, hc2, hf⟩, rfl⟩
              · cases e
              · exact absurd (Sum.inr.inj e) (by decide)
              · exact absurd (Sum.inr.inj e) (by decide)
              · exact ⟨3, by decide, rfl, js_gk hs hc2 hf hpm hpd hb ⟨by omega, by omega⟩ (by omega) (h8.q (by omega)) (by decide) (fun T3 hs3 hpm3 => Cn.mono (fun r U hq => by obtain ⟨hv, rfl⟩ := hq; exact ⟨_, _, od, hv, rfl, up2_s, hps.cg (up2_n (by omega)) (fun i => up2_n (by omega)), hkv.cg (up2_n (by omega)) (fun i => up2_n (by omega)), hdv.cg (fun i => up2_n (by omega)) (fun i => up2_n (by omega)) (up2_n (by omega)) (up2_n (by omega))⟩) (c_keep_3 (V := V) (g := g) (od := od) hs3 h24 hbw hl hz hu hpr h15 hd hdr.2.2.1 hdr.2.2.2.1 hdr.1 hdr.2.1 h5 h6))⟩
            · obtain ⟨rfl, hc2, hf⟩ := hq
              exact ⟨⟨(hf b hbF).1.1.trans hb.2.1.1, (hf b hbF).1.2.trans hb.2.1.2⟩, Or.inr (Or.inr (Or.inr (rfl)))⟩
      · refine CnH.mono (fun r U hq => ?_) (l_keep hc.t0 (s_keep_1c hc (by omega) (by omega) hd hl h4) (fun o T' hq => ?_))
        · rcases hq with ⟨v1, T1, ⟨e, -⟩, -⟩ | ⟨⟨e, hc2, hf⟩, rfl⟩ | ⟨⟨e, -⟩, -⟩ | ⟨⟨e, -⟩, -⟩
          · cases e
          · exact ⟨1, by decide, rfl, js_gk hs hc2 hf hpm hpd hb ⟨by omega, by omega⟩ (by omega) (h8.q (by omega)) (by decide) (fun T3 hs3 hpm3 => Cn.mono (fun r U hq => by obtain ⟨hv, rfl⟩ := hq; exact ⟨_, _, od, hv, rfl, up2_s, hps.cg (up2_n (by omega)) (fun i => up2_n (by omega)), hkv.cg (up2_n (by omega)) (fun i => up2_n (by omega)), hdv.cg (fun i => up2_n (by omega)) (fun i => up2_n (by omega)) (up2_n (by omega)) (up2_n (by omega))⟩) (c_keep_1c (V := V) (g := g) (od := od) hs3 hd h24 hl hz h4))⟩
          · exact absurd (Sum.inr.inj e) (by decide)
          · exact absurd (Sum.inr.inj e) (by decide)
        · obtain ⟨rfl, hc2, hf⟩ := hq
          exact ⟨⟨(hf b hbF).1.1.trans hb.2.1.1, (hf b hbF).1.2.trans hb.2.1.2⟩, Or.inr (Or.inl rfl)⟩
    · refine CnH.mono (fun r U hq => ?_) (l_keep hc.t0 (s_keep_1b hc (by omega) (by omega) hd h3) (fun o T' hq => ?_))
      · rcases hq with ⟨v1, T1, ⟨e, -⟩, -⟩ | ⟨⟨e, hc2, hf⟩, rfl⟩ | ⟨⟨e, -⟩, -⟩ | ⟨⟨e, -⟩, -⟩
        · cases e
        · exact ⟨1, by decide, rfl, js_gk hs hc2 hf hpm hpd hb ⟨by omega, by omega⟩ (by omega) (h8.q (by omega)) (by decide) (fun T3 hs3 hpm3 => Cn.mono (fun r U hq => by obtain ⟨hv, rfl⟩ := hq; exact ⟨_, _, od, hv, rfl, up2_s, hps.cg (up2_n (by omega)) (fun i => up2_n (by omega)), hkv.cg (up2_n (by omega)) (fun i => up2_n (by omega)), hdv.cg (fun i => up2_n (by omega)) (fun i => up2_n (by omega)) (up2_n (by omega)) (up2_n (by omega))⟩) (c_keep_1b (V := V) (g := g) (od := od) hs3 hd h24 h3))⟩
        · exact absurd (Sum.inr.inj e) (by decide)
        · exact absurd (Sum.inr.inj e) (by decide)
      · obtain ⟨rfl, hc2, hf⟩ := hq
        exact ⟨⟨(hf b hbF).1.1.trans hb.2.1.1, (hf b hbF).1.2.trans hb.2.1.2⟩, Or.inr (Or.inl rfl)⟩
  · refine CnH.mono (fun r U hq => ?_) (l_keep hc.t0 (s_keep_1a hc (by omega) (by omega) h0) (fun o T' hq => ?_))
    · rcases hq with ⟨v1, T1, ⟨e, -⟩, -⟩ | ⟨⟨e, hc2, hf⟩, rfl⟩ | ⟨⟨e, -⟩, -⟩ | ⟨⟨e, -⟩, -⟩
      · cases e
      · exact ⟨1, by decide, rfl, js_gk hs hc2 hf hpm hpd hb ⟨by omega, by omega⟩ (by omega) (h8.q (by omega)) (by decide) (fun T3 hs3 hpm3 => Cn.mono (fun r U hq => by obtain ⟨hv, rfl⟩ := hq; exact ⟨_, _, od, hv, rfl, up2_s, hps.cg (up2_n (by omega)) (fun i => up2_n (by omega)), hkv.cg (up2_n (by omega)) (fun i => up2_n (by omega)), hdv.cg (fun i => up2_n (by omega)) (fun i => up2_n (by omega)) (up2_n (by omega)) (up2_n (by omega))⟩) (c_keep_1a (V := V) (g := g) (od := od) hs3 h0))⟩
      · exact absurd (Sum.inr.inj e) (by decide)
      · exact absurd (Sum.inr.inj e) (by decide)
    · obtain ⟨rfl, hc2, hf⟩ := hq
      exact ⟨⟨(hf b hbF).1.1.trans hb.2.1.1, (hf b hbF).1.2.trans hb.2.1.2⟩, Or.inr (Or.inl rfl)⟩
