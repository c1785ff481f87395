/-! STEPS OF THE LAW: questions -/
theorem m1_of {y : Int32} {n : Nat} (h : -1 ≤ y ∧ y ≤ nI n) (hn : n + 1 < 2 ^ 31) : y = -1 ∨ ∃ k, k < n + 1 ∧ y = nI k := by
  by_cases hy : y < 0
  · refine Or.inl (Int32.toInt_inj.mp ?_)
    have h1 := Int32.le_iff_toInt_le.mp h.1
    have h2 := Int32.lt_iff_toInt_lt.mp hy
    have e1 : (-1 : Int32).toInt = -1 := by decide
    have e2 : (0 : Int32).toInt = 0 := by decide
    rw [e1] at h1
    rw [e2] at h2
    rw [e1]
    omega
  · obtain ⟨k, hk, rfl⟩ := nI_of hy
    have := (nI_leI hk (by omega)).mp h.2
    exact Or.inr ⟨k, by omega, rfl⟩
theorem first_ex {P : Nat → Prop} : ∀ n, (∃ e, e < n ∧ P e ∧ ∀ i, i < e → ¬ P i) ∨ ∀ i, i < n → ¬ P i
  | 0 => Or.inr fun i hi => absurd hi (Nat.not_lt_zero i)
  | n + 1 => by
    rcases first_ex (P := P) n with ⟨e, h1, h2, h3⟩ | h
    · exact Or.inl ⟨e, by omega, h2, h3⟩
    · by_cases hP : P n
      · exact Or.inl ⟨n, by omega, hP, h⟩
      · exact Or.inr fun i hi => by
          by_cases e : i = n
          · rw [e]; exact hP
          · exact h i (by omega)
theorem j_worked {G : GI} {S : Hp} {x m b a0 : Nat} {inp : Nat → Int32} {n B0 U0 k : Nat} (h : JS S x m b a0 inp n B0 U0 k) (h1 : B0 + k + 1 ≤ gN G) (h2 : U0 + 6 * k + 6 ≤ gM G) (hk : k < 130000) {y0 : Int32} : CnH m_L_worked G [.ref x, .int y0, .ref b] S (WO m_X13_worked G [.int y0] x m b a0 inp n B0 U0 k) := by
  obtain ⟨T, V, g, od, N, ps, gq, ik, gk, D, pv, cap, pp, bx, bu, rfl, hs, hc, ⟨hps, hkv, hdv⟩, ⟨hpm, hpd⟩, hb, ⟨hB, hU⟩, hN, h8⟩ := h
  have hbF : LF m b a0 pv b := Or.inr (Or.inr (Or.inl rfl))
  obtain ⟨c0, hr⟩ := hc.rel
  have h24 := hr.n24
  have hbw := hr.wb
  by_cases h0 : vp_in y0 6
  · obtain ⟨a, ha, rfl⟩ := vp_in_of h0 (by decide)
    refine CnH.mono (fun r U hq => ?_) (l_worked hc.t0 (hc.fn fun o A c a1 a2 w k a3 a4 a5 => f_worked_0 a1 a2 a3 a4 a5 ha) (fun o T' hq => ?_))
    · rcases hq with ⟨v1, T1, ⟨e, hc2, hf⟩, rfl, rfl⟩ | ⟨⟨e, -⟩, -⟩
      · cases e
        exact ⟨0, by decide, rfl, js_g0 hs hc2 hf hpm hpd hb ⟨by omega, by omega⟩ (by omega) (h8.q (by omega)) (fun T3 hs3 hpm3 => Cn.mono (fun r U hq => by obtain ⟨hv, rfl⟩ := hq; exact ⟨_, _, od, hv, rfl, up2_s, rfl, hps.cg (up2_n (by omega)) (fun i => up2_n (by omega)), hkv.cg (up2_n (by omega)) (fun i => up2_n (by omega)), hdv.cg (fun i => up2_n (by omega)) (fun i => up2_n (by omega)) (up2_n (by omega)) (up2_n (by omega))⟩) (q_worked_0 (V := V) (g := g) (od := od) hs3 ha))⟩
      · cases e
    · obtain ⟨rfl, hc2, hf⟩ := hq
      exact ⟨⟨(hf b hbF).1.1.trans hb.2.1.1, (hf b hbF).1.2.trans hb.2.1.2⟩, Or.inl ⟨_, rfl⟩⟩
  · refine CnH.mono (fun r U hq => ?_) (l_worked hc.t0 (hc.ft (by omega) (by omega) fun o A c a1 a2 w k a3 r1 r2 a4 a5 => f_worked_1 a1 a2 a3 a4 a5 r1 r2 h0) (fun o T' hq => ?_))
    · rcases hq with ⟨v1, T1, ⟨e, -⟩, -⟩ | ⟨⟨e, hc2, hf⟩, rfl⟩
      · cases e
      · exact ⟨1, by decide, rfl, js_gk hs hc2 hf hpm hpd hb ⟨by omega, by omega⟩ (by omega) (h8.q (by omega)) (by decide) (fun T3 hs3 hpm3 => Cn.mono (fun r U hq => by obtain ⟨hv, rfl⟩ := hq; exact ⟨_, _, od, hv, rfl, up2_s, hps.cg (up2_n (by omega)) (fun i => up2_n (by omega)), hkv.cg (up2_n (by omega)) (fun i => up2_n (by omega)), hdv.cg (fun i => up2_n (by omega)) (fun i => up2_n (by omega)) (up2_n (by omega)) (up2_n (by omega))⟩) (q_worked_1 (V := V) (g := g) (od := od) hs3 h0))⟩
    · obtain ⟨rfl, hc2, hf⟩ := hq
      exact ⟨⟨(hf b hbF).1.1.trans hb.2.1.1, (hf b hbF).1.2.trans hb.2.1.2⟩, Or.inr (rfl)⟩
theorem j_policy {G : GI} {S : Hp} {x m b a0 : Nat} {inp : Nat → Int32} {n B0 U0 k : Nat} (h : JS S x m b a0 inp n B0 U0 k) (h1 : B0 + k + 1 ≤ gN G) (h2 : U0 + 6 * k + 6 ≤ gM G) (hk : k < 130000) {y0 y1 : Int32} : CnH m_L_policy G [.ref x, .int y0, .int y1, .ref b] S (WO m_X13_policy G [.int y0, .int y1] x m b a0 inp n B0 U0 k) := by
  obtain ⟨T, V, g, od, N, ps, gq, ik, gk, D, pv, cap, pp, bx, bu, rfl, hs, hc, ⟨hps, hkv, hdv⟩, ⟨hpm, hpd⟩, hb, ⟨hB, hU⟩, hN, h8⟩ := h
  have hbF : LF m b a0 pv b := Or.inr (Or.inr (Or.inl rfl))
  obtain ⟨c0, hr⟩ := hc.rel
  have h24 := hr.n24
  have hbw := hr.wb
  by_cases h0 : vp_in y0 4
  · obtain ⟨a, ha, rfl⟩ := vp_in_of h0 (by decide)
    by_cases h3 : vp_in y1 7
    · obtain ⟨q, hq, rfl⟩ := vp_in_of h3 (by decide)
      refine CnH.mono (fun r U hq => ?_) (l_policy hc.t0 (hc.fn fun o A c a1 a2 w k a3 a4 a5 => f_policy_0 a1 a2 a3 a4 a5 ha hq) (fun o T' hq => ?_))
      · rcases hq with ⟨v1, T1, ⟨e, hc2, hf⟩, rfl, rfl⟩ | ⟨⟨e, -⟩, -⟩ | ⟨⟨e, -⟩, -⟩
        · cases e
          exact ⟨0, by decide, rfl, js_g0 hs hc2 hf hpm hpd hb ⟨by omega, by omega⟩ (by omega) (h8.q (by omega)) (fun T3 hs3 hpm3 => Cn.mono (fun r U hq => by obtain ⟨hv, rfl⟩ := hq; exact ⟨_, _, od, hv, rfl, up2_s, rfl, hps.cg (up2_n (by omega)) (fun i => up2_n (by omega)), hkv.cg (up2_n (by omega)) (fun i => up2_n (by omega)), hdv.cg (fun i => up2_n (by omega)) (fun i => up2_n (by omega)) (up2_n (by omega)) (up2_n (by omega))⟩) (q_policy_0 (V := V) (g := g) (od := od) hs3 ha hq))⟩
        · cases e
        · cases e
      · obtain ⟨rfl, hc2, hf⟩ := hq
        exact ⟨⟨(hf b hbF).1.1.trans hb.2.1.1, (hf b hbF).1.2.trans hb.2.1.2⟩, Or.inl ⟨_, rfl⟩⟩
    · refine CnH.mono (fun r U hq => ?_) (l_policy hc.t0 (hc.ft (by omega) (by omega) fun o A c a1 a2 w k a3 r1 r2 a4 a5 => f_policy_2 a1 a2 a3 a4 a5 r1 r2 ha h3) (fun o T' hq => ?_))
      · rcases hq with ⟨v1, T1, ⟨e, -⟩, -⟩ | ⟨⟨e, -⟩, -⟩ | ⟨⟨e, hc2, hf⟩, rfl⟩
        · cases e
        · exact absurd (Sum.inr.inj e) (by decide)
        · exact ⟨2, by decide, rfl, js_gk hs hc2 hf hpm hpd hb ⟨by omega, by omega⟩ (by omega) (h8.q (by omega)) (by decide) (fun T3 hs3 hpm3 => Cn.mono (fun r U hq => by obtain ⟨hv, rfl⟩ := hq; exact ⟨_, _, od, hv, rfl, up2_s, hps.cg (up2_n (by omega)) (fun i => up2_n (by omega)), hkv.cg (up2_n (by omega)) (fun i => up2_n (by omega)), hdv.cg (fun i => up2_n (by omega)) (fun i => up2_n (by omega)) (up2_n (by omega)) (up2_n (by omega))⟩) (q_policy_2 (V := V) (g := g) (od := od) hs3 ha h3))⟩
      · obtain ⟨rfl, hc2, hf⟩ := hq
        exact ⟨⟨(hf b hbF).1.1.trans hb.2.1.1, (hf b hbF).1.2.trans hb.2.1.2⟩, Or.inr (Or.inr (rfl))⟩
  · refine CnH.mono (fun r U hq => ?_) (l_policy hc.t0 (hc.ft (by omega) (by omega) fun o A c a1 a2 w k a3 r1 r2 a4 a5 => f_policy_1 a1 a2 a3 a4 a5 r1 r2 h0) (fun o T' hq => ?_))
    · rcases hq with ⟨v1, T1, ⟨e, -⟩, -⟩ | ⟨⟨e, hc2, hf⟩, rfl⟩ | ⟨⟨e, -⟩, -⟩
      · cases e
      · exact ⟨1, by decide, rfl, js_gk hs hc2 hf hpm hpd hb ⟨by omega, by omega⟩ (by omega) (h8.q (by omega)) (by decide) (fun T3 hs3 hpm3 => Cn.mono (fun r U hq => by obtain ⟨hv, rfl⟩ := hq; exact ⟨_, _, od, hv, rfl, up2_s, hps.cg (up2_n (by omega)) (fun i => up2_n (by omega)), hkv.cg (up2_n (by omega)) (fun i => up2_n (by omega)), hdv.cg (fun i => up2_n (by omega)) (fun i => up2_n (by omega)) (up2_n (by omega)) (up2_n (by omega))⟩) (q_policy_1 (V := V) (g := g) (od := od) hs3 h0))⟩
      · exact absurd (Sum.inr.inj e) (by decide)
    · obtain ⟨rfl, hc2, hf⟩ := hq
      exact ⟨⟨(hf b hbF).1.1.trans hb.2.1.1, (hf b hbF).1.2.trans hb.2.1.2⟩, Or.inr (Or.inl rfl)⟩
theorem j_lot {G : GI} {S : Hp} {x m b a0 : Nat} {inp : Nat → Int32} {n B0 U0 k : Nat} (h : JS S x m b a0 inp n B0 U0 k) (h1 : B0 + k + 1 ≤ gN G) (h2 : U0 + 6 * k + 6 ≤ gM G) (hk : k < 130000) {y0 y1 : Int32} : CnH m_L_lot G [.ref x, .int y0, .int y1, .ref b] S (WO m_X13_lot G [.int y0, .int y1] x m b a0 inp n B0 U0 k) := by
  obtain ⟨T, V, g, od, N, ps, gq, ik, gk, D, pv, cap, pp, bx, bu, rfl, hs, hc, ⟨hps, hkv, hdv⟩, ⟨hpm, hpd⟩, hb, ⟨hB, hU⟩, hN, h8⟩ := h
  have hbF : LF m b a0 pv b := Or.inr (Or.inr (Or.inl rfl))
  obtain ⟨c0, hr⟩ := hc.rel
  have h24 := hr.n24
  have hbw := hr.wb
  by_cases h0 : vp_in y0 (g 0)
  · obtain ⟨l, hl, rfl⟩ := vp_in_of h0 (by omega)
    by_cases h3 : vp_in y1 10
    · obtain ⟨q, hq, rfl⟩ := vp_in_of h3 (by decide)
      refine CnH.mono (fun r U hq => ?_) (l_lot hc.t0 (hc.fn fun o A c a1 a2 w k a3 a4 a5 => f_lot_0 a1 a2 a3 a4 a5 hl hq) (fun o T' hq => ?_))
      · rcases hq with ⟨v1, T1, ⟨e, hc2, hf⟩, rfl, rfl⟩ | ⟨⟨e, -⟩, -⟩ | ⟨⟨e, -⟩, -⟩
        · cases e
          exact ⟨0, by decide, rfl, js_g0 hs hc2 hf hpm hpd hb ⟨by omega, by omega⟩ (by omega) (h8.q (by omega)) (fun T3 hs3 hpm3 => Cn.mono (fun r U hq => by obtain ⟨hv, rfl⟩ := hq; exact ⟨_, _, od, hv, rfl, up2_s, rfl, hps.cg (up2_n (by omega)) (fun i => up2_n (by omega)), hkv.cg (up2_n (by omega)) (fun i => up2_n (by omega)), hdv.cg (fun i => up2_n (by omega)) (fun i => up2_n (by omega)) (up2_n (by omega)) (up2_n (by omega))⟩) (q_lot_0 (V := V) (g := g) (od := od) hs3 h24 hl hq))⟩
        · cases e
        · cases e
      · obtain ⟨rfl, hc2, hf⟩ := hq
        exact ⟨⟨(hf b hbF).1.1.trans hb.2.1.1, (hf b hbF).1.2.trans hb.2.1.2⟩, Or.inl ⟨_, rfl⟩⟩
    · refine CnH.mono (fun r U hq => ?_) (l_lot hc.t0 (hc.ft (by omega) (by omega) fun o A c a1 a2 w k a3 r1 r2 a4 a5 => f_lot_2 a1 a2 a3 a4 a5 r1 r2 hl h3) (fun o T' hq => ?_))
      · rcases hq with ⟨v1, T1, ⟨e, -⟩, -⟩ | ⟨⟨e, -⟩, -⟩ | ⟨⟨e, hc2, hf⟩, rfl⟩
        · cases e
        · exact absurd (Sum.inr.inj e) (by decide)
        · exact ⟨2, by decide, rfl, js_gk hs hc2 hf hpm hpd hb ⟨by omega, by omega⟩ (by omega) (h8.q (by omega)) (by decide) (fun T3 hs3 hpm3 => Cn.mono (fun r U hq => by obtain ⟨hv, rfl⟩ := hq; exact ⟨_, _, od, hv, rfl, up2_s, hps.cg (up2_n (by omega)) (fun i => up2_n (by omega)), hkv.cg (up2_n (by omega)) (fun i => up2_n (by omega)), hdv.cg (fun i => up2_n (by omega)) (fun i => up2_n (by omega)) (up2_n (by omega)) (up2_n (by omega))⟩) (q_lot_2 (V := V) (g := g) (od := od) hs3 h24 hl h3))⟩
      · obtain ⟨rfl, hc2, hf⟩ := hq
        exact ⟨⟨(hf b hbF).1.1.trans hb.2.1.1, (hf b hbF).1.2.trans hb.2.1.2⟩, Or.inr (Or.inr (rfl))⟩
  · refine CnH.mono (fun r U hq => ?_) (l_lot hc.t0 (hc.ft (by omega) (by omega) fun o A c a1 a2 w k a3 r1 r2 a4 a5 => f_lot_1 a1 a2 a3 a4 a5 r1 r2 h0) (fun o T' hq => ?_))
    · rcases hq with ⟨v1, T1, ⟨e, -⟩, -⟩ | ⟨⟨e, hc2, hf⟩, rfl⟩ | ⟨⟨e, -⟩, -⟩
      · cases e
      · exact ⟨1, by decide, rfl, js_gk hs hc2 hf hpm hpd hb ⟨by omega, by omega⟩ (by omega) (h8.q (by omega)) (by decide) (fun T3 hs3 hpm3 => Cn.mono (fun r U hq => by obtain ⟨hv, rfl⟩ := hq; exact ⟨_, _, od, hv, rfl, up2_s, hps.cg (up2_n (by omega)) (fun i => up2_n (by omega)), hkv.cg (up2_n (by omega)) (fun i => up2_n (by omega)), hdv.cg (fun i => up2_n (by omega)) (fun i => up2_n (by omega)) (up2_n (by omega)) (up2_n (by omega))⟩) (q_lot_1 (V := V) (g := g) (od := od) hs3 h24 h0))⟩
      · exact absurd (Sum.inr.inj e) (by decide)
    · obtain ⟨rfl, hc2, hf⟩ := hq
      exact ⟨⟨(hf b hbF).1.1.trans hb.2.1.1, (hf b hbF).1.2.trans hb.2.1.2⟩, Or.inr (Or.inl rfl)⟩
theorem j_units {G : GI} {S : Hp} {x m b a0 : Nat} {inp : Nat → Int32} {n B0 U0 k : Nat} (h : JS S x m b a0 inp n B0 U0 k) (h1 : B0 + k + 1 ≤ gN G) (h2 : U0 + 6 * k + 6 ≤ gM G) (hk : k < 130000) {y0 y1 : Int32} : CnH m_L_units G [.ref x, .int y0, .int y1, .ref b] S (WO m_X13_units G [.int y0, .int y1] x m b a0 inp n B0 U0 k) := by
  obtain ⟨T, V, g, od, N, ps, gq, ik, gk, D, pv, cap, pp, bx, bu, rfl, hs, hc, ⟨hps, hkv, hdv⟩, ⟨hpm, hpd⟩, hb, ⟨hB, hU⟩, hN, h8⟩ := h
  have hbF : LF m b a0 pv b := Or.inr (Or.inr (Or.inl rfl))
  obtain ⟨c0, hr⟩ := hc.rel
  have h24 := hr.n24
  have hbw := hr.wb
  by_cases h0 : vp_in y0 (g 0)
  · obtain ⟨l, hl, rfl⟩ := vp_in_of h0 (by omega)
    have hL := hr.lot hl
    have hz := hL.z
    have hpr := hL.pr
    have h15 := (hr.p hpr).b.2.1
    by_cases h3 : (-1) ≤ y1 ∧ y1 ≤ nI 4
    · rcases m1_of h3 (by decide) with rfl | ⟨q, hq, rfl⟩
      · refine CnH.mono (fun r U hq => ?_) (l_units hc.t0 (hc.fn fun o A c a1 a2 w k a3 a4 a5 => f_units_a a1 a2 a3 a4 a5 hl) (fun o T' hq => ?_))
        · rcases hq with ⟨v1, T1, ⟨e, hc2, hf⟩, rfl, rfl⟩ | ⟨⟨e, -⟩, -⟩ | ⟨⟨e, -⟩, -⟩
          · cases e
            exact ⟨0, by decide, rfl, js_g0 hs hc2 hf hpm hpd hb ⟨by omega, by omega⟩ (by omega) (h8.q (by omega)) (fun T3 hs3 hpm3 => Cn.mono (fun r U hq => by obtain ⟨hv, rfl⟩ := hq; exact ⟨_, _, od, hv, rfl, up2_s, rfl, hps.cg (up2_n (by omega)) (fun i => up2_n (by omega)), hkv.cg (up2_n (by omega)) (fun i => up2_n (by omega)), hdv.cg (fun i => up2_n (by omega)) (fun i => up2_n (by omega)) (up2_n (by omega)) (up2_n (by omega))⟩) (q_units_a (V := V) (g := g) (od := od) hs3 h24 hbw hl hz hpr h15))⟩
          · cases e
          · cases e
        · obtain ⟨rfl, hc2, hf⟩ := hq
          exact ⟨⟨(hf b hbF).1.1.trans hb.2.1.1, (hf b hbF).1.2.trans hb.2.1.2⟩, Or.inl ⟨_, rfl⟩⟩
      · refine CnH.mono (fun r U hq => ?_) (l_units hc.t0 (hc.fn fun o A c a1 a2 w k a3 a4 a5 => f_units_b a1 a2 a3 a4 a5 hl hq) (fun o T' hq => ?_))
        · rcases hq with ⟨v1, T1, ⟨e, hc2, hf⟩, rfl, rfl⟩ | ⟨⟨e, -⟩, -⟩ | ⟨⟨e, -⟩, -⟩
          · cases e
            exact ⟨0, by decide, rfl, js_g0 hs hc2 hf hpm hpd hb ⟨by omega, by omega⟩ (by omega) (h8.q (by omega)) (fun T3 hs3 hpm3 => Cn.mono (fun r U hq => by obtain ⟨hv, rfl⟩ := hq; exact ⟨_, _, od, hv, rfl, up2_s, rfl, hps.cg (up2_n (by omega)) (fun i => up2_n (by omega)), hkv.cg (up2_n (by omega)) (fun i => up2_n (by omega)), hdv.cg (fun i => up2_n (by omega)) (fun i => up2_n (by omega)) (up2_n (by omega)) (up2_n (by omega))⟩) (q_units_b (V := V) (g := g) (od := od) hs3 h24 hbw hl hz hq))⟩
          · cases e
          · cases e
        · obtain ⟨rfl, hc2, hf⟩ := hq
          exact ⟨⟨(hf b hbF).1.1.trans hb.2.1.1, (hf b hbF).1.2.trans hb.2.1.2⟩, Or.inl ⟨_, rfl⟩⟩
    · refine CnH.mono (fun r U hq => ?_) (l_units hc.t0 (hc.ft (by omega) (by omega) fun o A c a1 a2 w k a3 r1 r2 a4 a5 => f_units_2 a1 a2 a3 a4 a5 r1 r2 hl h3) (fun o T' hq => ?_))
      · rcases hq with ⟨v1, T1, ⟨e, -⟩, -⟩ | ⟨⟨e, -⟩, -⟩ | ⟨⟨e, hc2, hf⟩, rfl⟩
        · cases e
        · exact absurd (Sum.inr.inj e) (by decide)
        · exact ⟨2, by decide, rfl, js_gk hs hc2 hf hpm hpd hb ⟨by omega, by omega⟩ (by omega) (h8.q (by omega)) (by decide) (fun T3 hs3 hpm3 => Cn.mono (fun r U hq => by obtain ⟨hv, rfl⟩ := hq; exact ⟨_, _, od, hv, rfl, up2_s, hps.cg (up2_n (by omega)) (fun i => up2_n (by omega)), hkv.cg (up2_n (by omega)) (fun i => up2_n (by omega)), hdv.cg (fun i => up2_n (by omega)) (fun i => up2_n (by omega)) (up2_n (by omega)) (up2_n (by omega))⟩) (q_units_2 (V := V) (g := g) (od := od) hs3 h24 hl h3))⟩
      · obtain ⟨rfl, hc2, hf⟩ := hq
        exact ⟨⟨(hf b hbF).1.1.trans hb.2.1.1, (hf b hbF).1.2.trans hb.2.1.2⟩, Or.inr (Or.inr (rfl))⟩
  · refine CnH.mono (fun r U hq => ?_) (l_units hc.t0 (hc.ft (by omega) (by omega) fun o A c a1 a2 w k a3 r1 r2 a4 a5 => f_units_1 a1 a2 a3 a4 a5 r1 r2 h0) (fun o T' hq => ?_))
    · rcases hq with ⟨v1, T1, ⟨e, -⟩, -⟩ | ⟨⟨e, hc2, hf⟩, rfl⟩ | ⟨⟨e, -⟩, -⟩
      · cases e
      · exact ⟨1, by decide, rfl, js_gk hs hc2 hf hpm hpd hb ⟨by omega, by omega⟩ (by omega) (h8.q (by omega)) (by decide) (fun T3 hs3 hpm3 => Cn.mono (fun r U hq => by obtain ⟨hv, rfl⟩ := hq; exact ⟨_, _, od, hv, rfl, up2_s, hps.cg (up2_n (by omega)) (fun i => up2_n (by omega)), hkv.cg (up2_n (by omega)) (fun i => up2_n (by omega)), hdv.cg (fun i => up2_n (by omega)) (fun i => up2_n (by omega)) (up2_n (by omega)) (up2_n (by omega))⟩) (q_units_1 (V := V) (g := g) (od := od) hs3 h24 h0))⟩
      · exact absurd (Sum.inr.inj e) (by decide)
    · obtain ⟨rfl, hc2, hf⟩ := hq
      exact ⟨⟨(hf b hbF).1.1.trans hb.2.1.1, (hf b hbF).1.2.trans hb.2.1.2⟩, Or.inr (Or.inl rfl)⟩
theorem j_unit {G : GI} {S : Hp} {x m b a0 : Nat} {inp : Nat → Int32} {n B0 U0 k : Nat} (h : JS S x m b a0 inp n B0 U0 k) (h1 : B0 + k + 1 ≤ gN G) (h2 : U0 + 6 * k + 6 ≤ gM G) (hk : k < 130000) {y0 y1 y2 : Int32} : CnH m_L_unit G [.ref x, .int y0, .int y1, .int y2, .ref b] S (WO m_X13_unit G [.int y0, .int y1, .int y2] x m b a0 inp n B0 U0 k) := by
  obtain ⟨T, V, g, od, N, ps, gq, ik, gk, D, pv, cap, pp, bx, bu, rfl, hs, hc, ⟨hps, hkv, hdv⟩, ⟨hpm, hpd⟩, hb, ⟨hB, hU⟩, hN, h8⟩ := h
  have hbF : LF m b a0 pv b := Or.inr (Or.inr (Or.inl rfl))
  obtain ⟨c0, hr⟩ := hc.rel
  have h24 := hr.n24
  have hbw := hr.wb
  by_cases h0 : vp_in y0 (g 0)
  · obtain ⟨l, hl, rfl⟩ := vp_in_of h0 (by omega)
    have hL := hr.lot hl
    have hz := hL.z
    have hpr := hL.pr
    have h15 := (hr.p hpr).b.2.1
    by_cases h3 : vp_in y1 (g (90 + 13 * l + 1))
    · obtain ⟨u, hu, rfl⟩ := vp_in_of h3 (by omega)
      by_cases h4 : vp_in y2 4
      · obtain ⟨q, hq, rfl⟩ := vp_in_of h4 (by decide)
        obtain rfl | rfl | rfl | rfl : q = 0 ∨ q = 1 ∨ q = 2 ∨ q = 3 := by omega
        · refine CnH.mono (fun r U hq => ?_) (l_unit hc.t0 (hc.fn fun o A c a1 a2 w k a3 a4 a5 => f_unit_a a1 a2 a3 a4 a5 hl hu) (fun o T' hq => ?_))
          · rcases hq with ⟨v1, T1, ⟨e, hc2, hf⟩, rfl, rfl⟩ | ⟨⟨e, -⟩, -⟩ | ⟨⟨e, -⟩, -⟩
            · cases e
              exact ⟨0, by decide, rfl, js_g0 hs hc2 hf hpm hpd hb ⟨by omega, by omega⟩ (by omega) (h8.q (by omega)) (fun T3 hs3 hpm3 => Cn.mono (fun r U hq => by obtain ⟨hv, rfl⟩ := hq; exact ⟨_, _, od, hv, rfl, up2_s, rfl, hps.cg (up2_n (by omega)) (fun i => up2_n (by omega)), hkv.cg (up2_n (by omega)) (fun i => up2_n (by omega)), hdv.cg (fun i => up2_n (by omega)) (fun i => up2_n (by omega)) (up2_n (by omega)) (up2_n (by omega))⟩) (q_unit_a (V := V) (g := g) (od := od) hs3 h24 hbw hl hz hu))⟩
            · cases e
            · cases e
          · obtain ⟨rfl, hc2, hf⟩ := hq
            exact ⟨⟨(hf b hbF).1.1.trans hb.2.1.1, (hf b hbF).1.2.trans hb.2.1.2⟩, Or.inl ⟨_, rfl⟩⟩
        · refine CnH.mono (fun r U hq => ?_) (l_unit hc.t0 (hc.fn fun o A c a1 a2 w k a3 a4 a5 => f_unit_b a1 a2 a3 a4 a5 hl hu) (fun o T' hq => ?_))
          · rcases hq with ⟨v1, T1, ⟨e, hc2, hf⟩, rfl, rfl⟩ | ⟨⟨e, -⟩, -⟩ | ⟨⟨e, -⟩, -⟩
            · cases e
              exact ⟨0, by decide, rfl, js_g0 hs hc2 hf hpm hpd hb ⟨by omega, by omega⟩ (by omega) (h8.q (by omega)) (fun T3 hs3 hpm3 => Cn.mono (fun r U hq => by obtain ⟨hv, rfl⟩ := hq; exact ⟨_, _, od, hv, rfl, up2_s, rfl, hps.cg (up2_n (by omega)) (fun i => up2_n (by omega)), hkv.cg (up2_n (by omega)) (fun i => up2_n (by omega)), hdv.cg (fun i => up2_n (by omega)) (fun i => up2_n (by omega)) (up2_n (by omega)) (up2_n (by omega))⟩) (q_unit_b (V := V) (g := g) (od := od) hs3 h24 hbw hl hz hu))⟩
            · cases e
            · cases e
          · obtain ⟨rfl, hc2, hf⟩ := hq
            exact ⟨⟨(hf b hbF).1.1.trans hb.2.1.1, (hf b hbF).1.2.trans hb.2.1.2⟩, Or.inl ⟨_, rfl⟩⟩
        · refine CnH.mono (fun r U hq => ?_) (l_unit hc.t0 (hc.fn fun o A c a1 a2 w k a3 a4 a5 => f_unit_c a1 a2 a3 a4 a5 hl hu) (fun o T' hq => ?_))
          · rcases hq with ⟨v1, T1, ⟨e, hc2, hf⟩, rfl, rfl⟩ | ⟨⟨e, -⟩, -⟩ | ⟨⟨e, -⟩, -⟩
            · cases e
              exact ⟨0, by decide, rfl, js_g0 hs hc2 hf hpm hpd hb ⟨by omega, by omega⟩ (by omega) (h8.q (by omega)) (fun T3 hs3 hpm3 => Cn.mono (fun r U hq => by obtain ⟨hv, rfl⟩ := hq; exact ⟨_, _, od, hv, rfl, up2_s, rfl, hps.cg (up2_n (by omega)) (fun i => up2_n (by omega)), hkv.cg (up2_n (by omega)) (fun i => up2_n (by omega)), hdv.cg (fun i => up2_n (by omega)) (fun i => up2_n (by omega)) (up2_n (by omega)) (up2_n (by omega))⟩) (q_unit_c (V := V) (g := g) (od := od) hs3 h24 hbw hl hz hu))⟩
            · cases e
            · cases e
          · obtain ⟨rfl, hc2, hf⟩ := hq
            exact ⟨⟨(hf b hbF).1.1.trans hb.2.1.1, (hf b hbF).1.2.trans hb.2.1.2⟩, Or.inl ⟨_, rfl⟩⟩
        · refine CnH.mono (fun r U hq => ?_) (l_unit hc.t0 (hc.fn fun o A c a1 a2 w k a3 a4 a5 => f_unit_d a1 a2 a3 a4 a5 hl hu) (fun o T' hq => ?_))
          · rcases hq with ⟨v1, T1, ⟨e, hc2, hf⟩, rfl, rfl⟩ | ⟨⟨e, -⟩, -⟩ | ⟨⟨e, -⟩, -⟩
            · cases e
              exact ⟨0, by decide, rfl, js_g0 hs hc2 hf hpm hpd hb ⟨by omega, by omega⟩ (by omega) (h8.q (by omega)) (fun T3 hs3 hpm3 => Cn.mono (fun r U hq => by obtain ⟨hv, rfl⟩ := hq; exact ⟨_, _, od, hv, rfl, up2_s, rfl, hps.cg (up2_n (by omega)) (fun i => up2_n (by omega)), hkv.cg (up2_n (by omega)) (fun i => up2_n (by omega)), hdv.cg (fun i => up2_n (by omega)) (fun i => up2_n (by omega)) (up2_n (by omega)) (up2_n (by omega))⟩) (q_unit_d (V := V) (g := g) (od := od) hs3 h24 hbw hl hz hu hpr h15))⟩
            · cases e
            · cases e
          · obtain ⟨rfl, hc2, hf⟩ := hq
            exact ⟨⟨(hf b hbF).1.1.trans hb.2.1.1, (hf b hbF).1.2.trans hb.2.1.2⟩, Or.inl ⟨_, rfl⟩⟩
      · refine CnH.mono (fun r U hq => ?_) (l_unit hc.t0 (hc.ft (by omega) (by omega) fun o A c a1 a2 w k a3 r1 r2 a4 a5 => f_unit_3 a1 a2 a3 a4 a5 r1 r2 hl hu h4) (fun o T' hq => ?_))
        · rcases hq with ⟨v1, T1, ⟨e, -⟩, -⟩ | ⟨⟨e, -⟩, -⟩ | ⟨⟨e, hc2, hf⟩, rfl⟩
          · cases e
          · exact absurd (Sum.inr.inj e) (by decide)
          · exact ⟨2, by decide, rfl, js_gk hs hc2 hf hpm hpd hb ⟨by omega, by omega⟩ (by omega) (h8.q (by omega)) (by decide) (fun T3 hs3 hpm3 => Cn.mono (fun r U hq => by obtain ⟨hv, rfl⟩ := hq; exact ⟨_, _, od, hv, rfl, up2_s, hps.cg (up2_n (by omega)) (fun i => up2_n (by omega)), hkv.cg (up2_n (by omega)) (fun i => up2_n (by omega)), hdv.cg (fun i => up2_n (by omega)) (fun i => up2_n (by omega)) (up2_n (by omega)) (up2_n (by omega))⟩) (q_unit_3 (V := V) (g := g) (od := od) hs3 h24 hbw hl hz hu h4))⟩
        · obtain ⟨rfl, hc2, hf⟩ := hq
          exact ⟨⟨(hf b hbF).1.1.trans hb.2.1.1, (hf b hbF).1.2.trans hb.2.1.2⟩, Or.inr (Or.inr (rfl))⟩
    · refine CnH.mono (fun r U hq => ?_) (l_unit hc.t0 (hc.ft (by omega) (by omega) fun o A c a1 a2 w k a3 r1 r2 a4 a5 => f_unit_2 a1 a2 a3 a4 a5 r1 r2 hl h3) (fun o T' hq => ?_))
      · rcases hq with ⟨v1, T1, ⟨e, -⟩, -⟩ | ⟨⟨e, hc2, hf⟩, rfl⟩ | ⟨⟨e, -⟩, -⟩
        · cases e
        · exact ⟨1, by decide, rfl, js_gk hs hc2 hf hpm hpd hb ⟨by omega, by omega⟩ (by omega) (h8.q (by omega)) (by decide) (fun T3 hs3 hpm3 => Cn.mono (fun r U hq => by obtain ⟨hv, rfl⟩ := hq; exact ⟨_, _, od, hv, rfl, up2_s, hps.cg (up2_n (by omega)) (fun i => up2_n (by omega)), hkv.cg (up2_n (by omega)) (fun i => up2_n (by omega)), hdv.cg (fun i => up2_n (by omega)) (fun i => up2_n (by omega)) (up2_n (by omega)) (up2_n (by omega))⟩) (q_unit_2 (V := V) (g := g) (od := od) hs3 h24 hl hz h3))⟩
        · exact absurd (Sum.inr.inj e) (by decide)
      · obtain ⟨rfl, hc2, hf⟩ := hq
        exact ⟨⟨(hf b hbF).1.1.trans hb.2.1.1, (hf b hbF).1.2.trans hb.2.1.2⟩, Or.inr (Or.inl rfl)⟩
  · refine CnH.mono (fun r U hq => ?_) (l_unit hc.t0 (hc.ft (by omega) (by omega) fun o A c a1 a2 w k a3 r1 r2 a4 a5 => f_unit_1 a1 a2 a3 a4 a5 r1 r2 h0) (fun o T' hq => ?_))
    · rcases hq with ⟨v1, T1, ⟨e, -⟩, -⟩ | ⟨⟨e, hc2, hf⟩, rfl⟩ | ⟨⟨e, -⟩, -⟩
      · cases e
      · exact ⟨1, by decide, rfl, js_gk hs hc2 hf hpm hpd hb ⟨by omega, by omega⟩ (by omega) (h8.q (by omega)) (by decide) (fun T3 hs3 hpm3 => Cn.mono (fun r U hq => by obtain ⟨hv, rfl⟩ := hq; exact ⟨_, _, od, hv, rfl, up2_s, hps.cg (up2_n (by omega)) (fun i => up2_n (by omega)), hkv.cg (up2_n (by omega)) (fun i => up2_n (by omega)), hdv.cg (fun i => up2_n (by omega)) (fun i => up2_n (by omega)) (up2_n (by omega)) (up2_n (by omega))⟩) (q_unit_1 (V := V) (g := g) (od := od) hs3 h24 h0))⟩
      · exact absurd (Sum.inr.inj e) (by decide)
    · obtain ⟨rfl, hc2, hf⟩ := hq
      exact ⟨⟨(hf b hbF).1.1.trans hb.2.1.1, (hf b hbF).1.2.trans hb.2.1.2⟩, Or.inr (Or.inl rfl)⟩
theorem j_madeOf {G : GI} {S : Hp} {x m b a0 : Nat} {inp : Nat → Int32} {n B0 U0 k : Nat} (h : JS S x m b a0 inp n B0 U0 k) (h1 : B0 + k + 1 ≤ gN G) (h2 : U0 + 6 * k + 6 ≤ gM G) (hk : k < 130000) {y0 y1 y2 : Int32} : CnH m_L_madeOf G [.ref x, .int y0, .int y1, .int y2, .ref b] S (WO m_X13_madeOf G [.int y0, .int y1, .int y2] x m b a0 inp n B0 U0 k) := by
  obtain ⟨T, V, g, od, N, ps, gq, ik, gk, D, pv, cap, pp, bx, bu, rfl, hs, hc, ⟨hps, hkv, hdv⟩, ⟨hpm, hpd⟩, hb, ⟨hB, hU⟩, hN, h8⟩ := h
  have hbF : LF m b a0 pv b := Or.inr (Or.inr (Or.inl rfl))
  obtain ⟨c0, hr⟩ := hc.rel
  have h24 := hr.n24
  have hbw := hr.wb
  by_cases h0 : vp_in y0 (g 0)
  · obtain ⟨l, hl, rfl⟩ := vp_in_of h0 (by omega)
    have hL := hr.lot hl
    have hz := hL.z
    have hpr := hL.pr
    have h15 := (hr.p hpr).b.2.1
    have h8p := hL.pc
    by_cases h3 : vp_in y1 (g (90 + 13 * l + 1))
    · obtain ⟨u, hu, rfl⟩ := vp_in_of h3 (by omega)
      by_cases h4 : vp_in y2 (g (90 + 13 * l + 8))
      · obtain ⟨q, hq, rfl⟩ := vp_in_of h4 (by omega)
        refine CnH.mono (fun r U hq => ?_) (l_madeOf hc.t0 (hc.fn fun o A c a1 a2 w k a3 a4 a5 => f_madeOf_0 a1 a2 a3 a4 a5 hl hu hq) (fun o T' hq => ?_))
        · rcases hq with ⟨v1, T1, ⟨e, hc2, hf⟩, rfl, rfl⟩ | ⟨⟨e, -⟩, -⟩ | ⟨⟨e, -⟩, -⟩
          · cases e
            exact ⟨0, by decide, rfl, js_g0 hs hc2 hf hpm hpd hb ⟨by omega, by omega⟩ (by omega) (h8.q (by omega)) (fun T3 hs3 hpm3 => Cn.mono (fun r U hq => by obtain ⟨hv, rfl⟩ := hq; exact ⟨_, _, od, hv, rfl, up2_s, rfl, hps.cg (up2_n (by omega)) (fun i => up2_n (by omega)), hkv.cg (up2_n (by omega)) (fun i => up2_n (by omega)), hdv.cg (fun i => up2_n (by omega)) (fun i => up2_n (by omega)) (up2_n (by omega)) (up2_n (by omega))⟩) (q_madeOf_0 (V := V) (g := g) (od := od) hs3 h24 hbw hl hz hu h8p hq))⟩
          · cases e
          · cases e
        · obtain ⟨rfl, hc2, hf⟩ := hq
          exact ⟨⟨(hf b hbF).1.1.trans hb.2.1.1, (hf b hbF).1.2.trans hb.2.1.2⟩, Or.inl ⟨_, rfl⟩⟩
      · refine CnH.mono (fun r U hq => ?_) (l_madeOf hc.t0 (hc.ft (by omega) (by omega) fun o A c a1 a2 w k a3 r1 r2 a4 a5 => f_madeOf_2 a1 a2 a3 a4 a5 r1 r2 hl hu h4) (fun o T' hq => ?_))
        · rcases hq with ⟨v1, T1, ⟨e, -⟩, -⟩ | ⟨⟨e, -⟩, -⟩ | ⟨⟨e, hc2, hf⟩, rfl⟩
          · cases e
          · exact absurd (Sum.inr.inj e) (by decide)
          · exact ⟨2, by decide, rfl, js_gk hs hc2 hf hpm hpd hb ⟨by omega, by omega⟩ (by omega) (h8.q (by omega)) (by decide) (fun T3 hs3 hpm3 => Cn.mono (fun r U hq => by obtain ⟨hv, rfl⟩ := hq; exact ⟨_, _, od, hv, rfl, up2_s, hps.cg (up2_n (by omega)) (fun i => up2_n (by omega)), hkv.cg (up2_n (by omega)) (fun i => up2_n (by omega)), hdv.cg (fun i => up2_n (by omega)) (fun i => up2_n (by omega)) (up2_n (by omega)) (up2_n (by omega))⟩) (q_madeOf_2 (V := V) (g := g) (od := od) hs3 h24 hbw hl hz hu h8p h4))⟩
        · obtain ⟨rfl, hc2, hf⟩ := hq
          exact ⟨⟨(hf b hbF).1.1.trans hb.2.1.1, (hf b hbF).1.2.trans hb.2.1.2⟩, Or.inr (Or.inr (rfl))⟩
    · refine CnH.mono (fun r U hq => ?_) (l_madeOf hc.t0 (hc.ft (by omega) (by omega) fun o A c a1 a2 w k a3 r1 r2 a4 a5 => f_madeOf_1b a1 a2 a3 a4 a5 r1 r2 hl h3) (fun o T' hq => ?_))
      · rcases hq with ⟨v1, T1, ⟨e, -⟩, -⟩ | ⟨⟨e, hc2, hf⟩, rfl⟩ | ⟨⟨e, -⟩, -⟩
        · cases e
        · exact ⟨1, by decide, rfl, js_gk hs hc2 hf hpm hpd hb ⟨by omega, by omega⟩ (by omega) (h8.q (by omega)) (by decide) (fun T3 hs3 hpm3 => Cn.mono (fun r U hq => by obtain ⟨hv, rfl⟩ := hq; exact ⟨_, _, od, hv, rfl, up2_s, hps.cg (up2_n (by omega)) (fun i => up2_n (by omega)), hkv.cg (up2_n (by omega)) (fun i => up2_n (by omega)), hdv.cg (fun i => up2_n (by omega)) (fun i => up2_n (by omega)) (up2_n (by omega)) (up2_n (by omega))⟩) (q_madeOf_1b (V := V) (g := g) (od := od) hs3 h24 hl hz h3))⟩
        · exact absurd (Sum.inr.inj e) (by decide)
      · obtain ⟨rfl, hc2, hf⟩ := hq
        exact ⟨⟨(hf b hbF).1.1.trans hb.2.1.1, (hf b hbF).1.2.trans hb.2.1.2⟩, Or.inr (Or.inl rfl)⟩
  · refine CnH.mono (fun r U hq => ?_) (l_madeOf hc.t0 (hc.ft (by omega) (by omega) fun o A c a1 a2 w k a3 r1 r2 a4 a5 => f_madeOf_1 a1 a2 a3 a4 a5 r1 r2 h0) (fun o T' hq => ?_))
    · rcases hq with ⟨v1, T1, ⟨e, -⟩, -⟩ | ⟨⟨e, hc2, hf⟩, rfl⟩ | ⟨⟨e, -⟩, -⟩
      · cases e
      · exact ⟨1, by decide, rfl, js_gk hs hc2 hf hpm hpd hb ⟨by omega, by omega⟩ (by omega) (h8.q (by omega)) (by decide) (fun T3 hs3 hpm3 => Cn.mono (fun r U hq => by obtain ⟨hv, rfl⟩ := hq; exact ⟨_, _, od, hv, rfl, up2_s, hps.cg (up2_n (by omega)) (fun i => up2_n (by omega)), hkv.cg (up2_n (by omega)) (fun i => up2_n (by omega)), hdv.cg (fun i => up2_n (by omega)) (fun i => up2_n (by omega)) (up2_n (by omega)) (up2_n (by omega))⟩) (q_madeOf_1a (V := V) (g := g) (od := od) hs3 h24 h0))⟩
      · exact absurd (Sum.inr.inj e) (by decide)
    · obtain ⟨rfl, hc2, hf⟩ := hq
      exact ⟨⟨(hf b hbF).1.1.trans hb.2.1.1, (hf b hbF).1.2.trans hb.2.1.2⟩, Or.inr (Or.inl rfl)⟩
theorem j_worst {G : GI} {S : Hp} {x m b a0 : Nat} {inp : Nat → Int32} {n B0 U0 k : Nat} (h : JS S x m b a0 inp n B0 U0 k) (h1 : B0 + k + 1 ≤ gN G) (h2 : U0 + 6 * k + 6 ≤ gM G) (hk : k < 130000) {y0 : Int32} : CnH m_L_worst G [.ref x, .int y0, .ref b] S (WO m_X13_worst G [.int y0] x m b a0 inp n B0 U0 k) := by
  obtain ⟨T, V, g, od, N, ps, gq, ik, gk, D, pv, cap, pp, bx, bu, rfl, hs, hc, ⟨hps, hkv, hdv⟩, ⟨hpm, hpd⟩, hb, ⟨hB, hU⟩, hN, h8⟩ := h
  have hbF : LF m b a0 pv b := Or.inr (Or.inr (Or.inl rfl))
  obtain ⟨c0, hr⟩ := hc.rel
  have h24 := hr.n24
  have hbw := hr.wb
  have hbl : ∀ i, i < 28 → g (62 + i) < 2147480000 := fun i hi => by have := hr.bb hi; omega
  rcases first_ex (P := fun i => 0 < g (62 + i) ∧ nI (ahd g i) = y0) 28 with ⟨e, he, ⟨hpos, hra⟩, hno⟩ | hno
  · refine CnH.mono (fun r U hq => ?_) (l_worst hc.t0 (hc.fn fun o A c a1 a2 w k a3 a4 a5 => f_worst_0 a1 a2 a3 a4 a5 (by omega) he hpos hra hno) (fun o T' hq => ?_))
    · rcases hq with ⟨v1, T1, ⟨e9, hc2, hf⟩, rfl, rfl⟩ | ⟨⟨e9, -⟩, -⟩
      · cases e9
        exact ⟨0, by decide, rfl, js_g0 hs hc2 hf hpm hpd hb ⟨by omega, by omega⟩ (by omega) (h8.q (by omega)) (fun T3 hs3 hpm3 => Cn.mono (fun r U hq => by obtain ⟨hv, rfl⟩ := hq; exact ⟨_, _, od, hv, rfl, up2_s, rfl, hps.cg (up2_n (by omega)) (fun i => up2_n (by omega)), hkv.cg (up2_n (by omega)) (fun i => up2_n (by omega)), hdv.cg (fun i => up2_n (by omega)) (fun i => up2_n (by omega)) (up2_n (by omega)) (up2_n (by omega))⟩) (q_worst_0 (V := V) (g := g) (od := od) hs3 hbl he hpos hra hno))⟩
      · cases e9
    · obtain ⟨rfl, hc2, hf⟩ := hq
      exact ⟨⟨(hf b hbF).1.1.trans hb.2.1.1, (hf b hbF).1.2.trans hb.2.1.2⟩, Or.inl ⟨_, rfl⟩⟩
  · refine CnH.mono (fun r U hq => ?_) (l_worst hc.t0 (hc.ft (by omega) (by omega) fun o A c a1 a2 w k a3 r1 r2 a4 a5 => f_worst_1 a1 a2 a3 a4 a5 r1 r2 (by omega) hno) (fun o T' hq => ?_))
    · rcases hq with ⟨v1, T1, ⟨e, -⟩, -⟩ | ⟨⟨e, hc2, hf⟩, rfl⟩
      · cases e
      · exact ⟨1, by decide, rfl, js_gk hs hc2 hf hpm hpd hb ⟨by omega, by omega⟩ (by omega) (h8.q (by omega)) (by decide) (fun T3 hs3 hpm3 => Cn.mono (fun r U hq => by obtain ⟨hv, rfl⟩ := hq; exact ⟨_, _, od, hv, rfl, up2_s, hps.cg ((up2_n (by omega)).trans (up2_n (by omega))) (fun i => (up2_n (by omega)).trans (up2_n (by omega))), hkv.cg ((up2_n (by omega)).trans (up2_n (by omega))) (fun i => (up2_n (by omega)).trans (up2_n (by omega))), hdv.cg (fun i => (up2_n (by omega)).trans (up2_n (by omega))) (fun i => (up2_n (by omega)).trans (up2_n (by omega))) ((up2_n (by omega)).trans (up2_n (by omega))) ((up2_n (by omega)).trans (up2_n (by omega)))⟩) (q_worst_1 (V := V) (g := g) (od := od) hs3 hbl hno))⟩
    · obtain ⟨rfl, hc2, hf⟩ := hq
      exact ⟨⟨(hf b hbF).1.1.trans hb.2.1.1, (hf b hbF).1.2.trans hb.2.1.2⟩, Or.inr (rfl)⟩
