/-! STEPS OF THE LAW: undo, restore, drawers and more -/
theorem CSt.ik2 {F : Nat → Prop} {S : Hp} {x bx bu : Nat} {D : Nat → Nat → Nat} {g : Nat → Nat} {N ps : Nat} {gq : Nat → Nat → Nat} {ik : Nat} {gk : Nat → Nat} (h : CSt F S x bx bu D g N ps gq ik gk) : ik < 2 := by
  obtain ⟨w, K, E, A, c, hX1, hp, hr, hD, hq, hk, hF1⟩ := h
  exact hk.2.1
theorem PsV.undo {V V' : RVal} {ps : Nat} {gq : Nat → Nat → Nat} (h : PsV V ps gq) (h0 : 0 < ps) (e5 : V' 0 5 = nI (ps - 1)) (e4 : ∀ i, V' 4 i = V 4 i) : PsV V' (ps - 1) (fun j => gq (j + 1)) := ⟨e5, by have := h.2.1; omega, fun j hj => ⟨(h.2.2 (j + 1) (by omega)).1, fun i hi => by
  have z := (h.2.2 (j + 1) (by omega)).2 i hi
  have e : ps - 1 - (j + 1) = ps - 1 - 1 - j := by omega
  rw [e] at z
  exact (e4 _).trans z⟩⟩
theorem DV.op' {V V' : RVal} {D D' : Nat → Nat → Nat} {d q : Nat} (h : DV V D) (hq : q < 3) (eD : ∀ f a, ¬ (f = 192 ∧ a = 190 + 5 * d) → ¬ (f = 193 ∧ a = 190 + 5 * d) → D' f a = D f a) (e192 : D' 192 (190 + 5 * d) = q) (e193 : D' 193 (190 + 5 * d) = 0) (eV : ∀ j i, ¬ (j = 8 ∧ (i = 22 * d ∨ i = 22 * d + 1)) → ¬ (j = 0 ∧ i = 6) → V' j i = V j i) (v0 : V' 8 (22 * d) = nI q) (v1 : V' 8 (22 * d + 1) = nI 0) : DV V' D' := by
  refine ⟨fun d2 hd2 => ?_, ⟨?_, ?_, fun i hi => ?_⟩, ?_⟩
  · obtain ⟨a1, a2, a3, a4, a5⟩ := h.1 d2 hd2
    by_cases e : d2 = d
    · subst e
      exact ⟨by rw [v0, e192], by omega, by rw [v1, e193], by omega, fun i k hi hk => by rw [eV _ _ (by omega) (by omega), eD _ _ (by omega) (by omega)]; exact a5 i k hi hk⟩
    · exact ⟨by rw [eV _ _ (by omega) (by omega), eD _ _ (by omega) (by omega)]; exact a1, by rw [eD _ _ (by omega) (by omega)]; exact a2, by rw [eV _ _ (by omega) (by omega), eD _ _ (by omega) (by omega)]; exact a3, by rw [eD _ _ (by omega) (by omega)]; exact a4, fun i k hi hk => by rw [eV _ _ (by omega) (by omega), eD _ _ (by omega) (by omega)]; exact a5 i k hi hk⟩
  · rw [eV _ _ (by omega) (by omega), eD _ _ (by omega) (by omega)]; exact h.2.1.1
  · rw [eD _ _ (by omega) (by omega)]; exact h.2.1.2.1
  · rw [eD _ _ (by omega) (by omega)] at hi
    rw [eV _ _ (by omega) (by omega), eD _ _ (by omega) (by omega)]
    exact h.2.1.2.2 i hi
  · rw [eV _ _ (by omega) (by omega), eD _ _ (by omega) (by omega)]; exact h.2.2
theorem DV.op {V : RVal} {D : Nat → Nat → Nat} {d q : Nat} {y : Int32} (h : DV V D) (hq : q < 3) : DV (up2 (up2 (up2 V 0 6 y) 8 (22 * d) (nI q)) 8 (22 * d + 1) (nI 0)) (up2 (up2 D 193 (190 + 5 * d) 0) 192 (190 + 5 * d) q) :=
  h.op' (d := d) hq (fun f a h1 h2 => (u2_n (by omega)).trans (u2_n (by omega))) u2_s ((u2_n (by omega)).trans u2_s) (fun j i h1 h2 => (up2_n (by omega)).trans ((up2_n (by omega)).trans (up2_n (by omega)))) ((up2_n (by omega)).trans up2_s) up2_s
theorem j_undo {G : GI} {S : Hp} {x m b a0 : Nat} {inp : Nat → Int32} {n B0 U0 k : Nat} (h : JS S x m b a0 inp n B0 U0 k) (h1 : B0 + k + 1 ≤ gN G) (h2 : U0 + 6 * k + 6 ≤ gM G) (hk : k < 130000) : CnH m_L_undo G [.ref x, .ref b] S (WO m_X13_undo G [] x m b a0 inp n B0 U0 k) := by
  obtain ⟨T, V, g, od, N, ps, gq, ik, gk, D, pv, cap, pp, bx, bu, rfl, hs, hc, ⟨hps, hkv, hdv⟩, ⟨hpm, hpd⟩, hb, ⟨hB, hU⟩, hN, h8⟩ := h
  have hbF : LF m b a0 pv b := Or.inr (Or.inr (Or.inl rfl))
  obtain ⟨c0, hr⟩ := hc.rel
  have h24 := hr.n24
  have hbw := hr.wb
  by_cases h0 : ps = 0
  · refine CnH.mono (fun r U hq => ?_) (l_undo hc.t0 (s_undo_no hc (by omega) (by omega) h0) (fun o T' hq => ?_))
    · rcases hq with ⟨v1, T1, ⟨e, -⟩, -⟩ | ⟨⟨e, hc2, hf⟩, rfl⟩
      · cases e
      · exact ⟨1, by decide, rfl, js_gk hs hc2 hf hpm hpd hb ⟨by omega, by omega⟩ (by omega) (h8.q (by omega)) (by decide) (fun T3 hs3 hpm3 => Cn.mono (fun r U hq => by obtain ⟨hv, rfl⟩ := hq; exact ⟨_, _, od, hv, rfl, up2_s, hps.cg (up2_n (by omega)) (fun i => up2_n (by omega)), hkv.cg (up2_n (by omega)) (fun i => up2_n (by omega)), hdv.cg (fun i => up2_n (by omega)) (fun i => up2_n (by omega)) (up2_n (by omega)) (up2_n (by omega))⟩) (c_undo_1 (V := V) (g := g) (od := od) hs3 (by rw [hps.1, h0])))⟩
    · obtain ⟨rfl, hc2, hf⟩ := hq
      exact ⟨⟨(hf b hbF).1.1.trans hb.2.1.1, (hf b hbF).1.2.trans hb.2.1.2⟩, Or.inr (rfl)⟩
  · have h0' : 0 < ps := by omega
    refine CnH.mono (fun r U hq => ?_) (l_undo hc.t0 (s_undo hc h0') (fun o T' hq => ?_))
    · rcases hq with ⟨v1, T1, ⟨e, hc2, hf⟩, rfl, rfl⟩ | ⟨⟨e, -⟩, -⟩
      · cases e
        exact ⟨0, by decide, rfl, js_g0 hs (hc2.g hbw) hf hpm (hpd) hb ⟨by omega, by omega⟩ (by omega) (h8.undo h0' (fun p hp => if_pos (by omega))) (fun T3 hs3 hpm3 => Cn.mono (fun r U hq => by obtain ⟨hv, rfl⟩ := hq; exact ⟨_, _, od, hv, rfl, (up2_n (by omega)).trans up2_s, rfl, hps.undo h0' up2_s (fun i => (up2_n (by omega)).trans (up2_n (by omega))), hkv.cg ((up2_n (by omega)).trans (up2_n (by omega))) (fun i => (up2_n (by omega)).trans (up2_n (by omega))), hdv.cg (fun i => (up2_n (by omega)).trans (up2_n (by omega))) (fun i => (up2_n (by omega)).trans (up2_n (by omega))) ((up2_n (by omega)).trans (up2_n (by omega))) ((up2_n (by omega)).trans (up2_n (by omega)))⟩) (c_undo_0 (V := V) (g := g) (od := od) hs3 h0' hps.2.1 hps.1 (f := gq 0) (hps.2.2 0 h0').1 (hps.2.2 0 h0').2))⟩
      · cases e
    · obtain ⟨rfl, hc2, hf⟩ := hq
      exact ⟨⟨(hf b hbF).1.1.trans hb.2.1.1, (hf b hbF).1.2.trans hb.2.1.2⟩, Or.inl ⟨_, rfl⟩⟩
theorem j_restore {G : GI} {S : Hp} {x m b a0 : Nat} {inp : Nat → Int32} {n B0 U0 k : Nat} (h : JS S x m b a0 inp n B0 U0 k) (h1 : B0 + k + 1 ≤ gN G) (h2 : U0 + 6 * k + 6 ≤ gM G) (hk : k < 130000) : CnH m_L_restore G [.ref x, .ref b] S (WO m_X13_restore G [] x m b a0 inp n B0 U0 k) := by
  obtain ⟨T, V, g, od, N, ps, gq, ik, gk, D, pv, cap, pp, bx, bu, rfl, hs, hc, ⟨hps, hkv, hdv⟩, ⟨hpm, hpd⟩, hb, ⟨hB, hU⟩, hN, h8⟩ := h
  have hbF : LF m b a0 pv b := Or.inr (Or.inr (Or.inl rfl))
  obtain ⟨c0, hr⟩ := hc.rel
  have h24 := hr.n24
  have hbw := hr.wb
  have hik := hc.ik2
  by_cases h9 : ik = 1
  · refine CnH.mono (fun r U hq => ?_) (l_restore hc.t0 (s_restore hc (by omega) (by omega) h9) (fun o T' hq => ?_))
    · rcases hq with ⟨v1, T1, ⟨e, hc2, hf⟩, rfl, rfl⟩ | ⟨⟨e, -⟩, -⟩
      · cases e
        exact ⟨0, by decide, rfl, js_g0 hs (hc2.g hbw) hf hpm (hpd) hb ⟨by omega, by omega⟩ (by omega) (h8.rest h9 (fun p hp => if_pos (by omega))) (fun T3 hs3 hpm3 => Cn.mono (fun r U hq => by obtain ⟨hv, rfl⟩ := hq; exact ⟨_, _, od, hv, rfl, (up2_n (by omega)).trans up2_s, (by rw [show cpG g (402 + 400 * gk 0) gk 0 = gk 0 from if_pos (by omega)]), ⟨up2_s, by omega, fun j hj => absurd hj (Nat.not_lt_zero j)⟩, hkv.cg ((up2_n (by omega)).trans (up2_n (by omega))) (fun i => (up2_n (by omega)).trans (up2_n (by omega))), hdv.cg (fun i => (up2_n (by omega)).trans (up2_n (by omega))) (fun i => (up2_n (by omega)).trans (up2_n (by omega))) ((up2_n (by omega)).trans (up2_n (by omega))) ((up2_n (by omega)).trans (up2_n (by omega)))⟩) (c_restore_0 (V := V) (g := g) (od := od) hs3 (by rw [hkv.1, h9]) (f := gk) (hkv.2 h9).1 (hkv.2 h9).2))⟩
      · cases e
    · obtain ⟨rfl, hc2, hf⟩ := hq
      exact ⟨⟨(hf b hbF).1.1.trans hb.2.1.1, (hf b hbF).1.2.trans hb.2.1.2⟩, Or.inl ⟨_, rfl⟩⟩
  · have h9' : ik = 0 := by omega
    refine CnH.mono (fun r U hq => ?_) (l_restore hc.t0 (s_restore_no hc (by omega) (by omega) h9') (fun o T' hq => ?_))
    · rcases hq with ⟨v1, T1, ⟨e, -⟩, -⟩ | ⟨⟨e, hc2, hf⟩, rfl⟩
      · cases e
      · exact ⟨1, by decide, rfl, js_gk hs hc2 hf hpm hpd hb ⟨by omega, by omega⟩ (by omega) (h8.q (by omega)) (by decide) (fun T3 hs3 hpm3 => Cn.mono (fun r U hq => by obtain ⟨hv, rfl⟩ := hq; exact ⟨_, _, od, hv, rfl, up2_s, hps.cg (up2_n (by omega)) (fun i => up2_n (by omega)), hkv.cg (up2_n (by omega)) (fun i => up2_n (by omega)), hdv.cg (fun i => up2_n (by omega)) (fun i => up2_n (by omega)) (up2_n (by omega)) (up2_n (by omega))⟩) (c_restore_1 (V := V) (g := g) (od := od) hs3 (by rw [hkv.1, h9'])))⟩
    · obtain ⟨rfl, hc2, hf⟩ := hq
      exact ⟨⟨(hf b hbF).1.1.trans hb.2.1.1, (hf b hbF).1.2.trans hb.2.1.2⟩, Or.inr (rfl)⟩
theorem j_open {G : GI} {S : Hp} {x m b a0 : Nat} {inp : Nat → Int32} {n B0 U0 k : Nat} (h : JS S x m b a0 inp n B0 U0 k) (h1 : B0 + k + 1 ≤ gN G) (h2 : U0 + 6 * k + 6 ≤ gM G) (hk : k < 130000) {y0 y1 : Int32} : CnH m_L_open G [.ref x, .int y0, .int y1, .ref b] S (WO m_X13_open G [.int y0, .int y1] x m b a0 inp n B0 U0 k) := by
  obtain ⟨T, V, g, od, N, ps, gq, ik, gk, D, pv, cap, pp, bx, bu, rfl, hs, hc, ⟨hps, hkv, hdv⟩, ⟨hpm, hpd⟩, hb, ⟨hB, hU⟩, hN, h8⟩ := h
  have hbF : LF m b a0 pv b := Or.inr (Or.inr (Or.inl rfl))
  obtain ⟨c0, hr⟩ := hc.rel
  have h24 := hr.n24
  have hbw := hr.wb
  by_cases h0 : vp_in y0 4
  · obtain ⟨d, hd, rfl⟩ := vp_in_of h0 (by decide)
    have hdr := hdv.1 d hd
    by_cases h3 : vp_in y1 3
    · obtain ⟨q, hq, rfl⟩ := vp_in_of h3 (by decide)
      refine CnH.mono (fun r U hq => ?_) (l_open hc.t0 (s_open_0 hc hd rfl hdr.2.2.2.1 hq) (fun o T' hq => ?_))
      · rcases hq with ⟨v1, T1, ⟨e, hc2, hf⟩, rfl, rfl⟩ | ⟨⟨e, -⟩, -⟩ | ⟨⟨e, -⟩, -⟩
        · cases e
          exact ⟨0, by decide, rfl, js_g0 hs (hc2) hf hpm ((hpd.up (by omega) (by omega)).up (by omega) (by omega)) hb ⟨by rw [u2_n (by omega), u2_n (by omega)]; omega, by rw [u2_n (by omega), u2_n (by omega)]; omega⟩ (by omega) (h8.q (by rw [u2_n (by omega), u2_n (by omega)]; omega)) (fun T3 hs3 hpm3 => Cn.mono (fun r U hq => by obtain ⟨hv, rfl⟩ := hq; exact ⟨_, _, od, hv, rfl, (up2_n (by omega)).trans ((up2_n (by omega)).trans up2_s), (by rw [hdr.2.2.1]), hps.cg ((up2_n (by omega)).trans ((up2_n (by omega)).trans (up2_n (by omega)))) (fun i => (up2_n (by omega)).trans ((up2_n (by omega)).trans (up2_n (by omega)))), hkv.cg ((up2_n (by omega)).trans ((up2_n (by omega)).trans (up2_n (by omega)))) (fun i => (up2_n (by omega)).trans ((up2_n (by omega)).trans (up2_n (by omega)))), hdv.op hq⟩) (c_open_0 (V := V) (g := g) (od := od) hs3 hd hq))⟩
        · cases e
        · cases e
      · obtain ⟨rfl, hc2, hf⟩ := hq
        exact ⟨⟨(hf b hbF).1.1.trans hb.2.1.1, (hf b hbF).1.2.trans hb.2.1.2⟩, Or.inl ⟨_, rfl⟩⟩
    · refine CnH.mono (fun r U hq => ?_) (l_open hc.t0 (s_open_2 hc (by omega) (by omega) hd h3) (fun o T' hq => ?_))
      · rcases hq with ⟨v1, T1, ⟨e, -⟩, -⟩ | ⟨⟨e, -⟩, -⟩ | ⟨⟨e, hc2, hf⟩, rfl⟩
        · cases e
        · exact absurd (Sum.inr.inj e) (by decide)
        · exact ⟨2, by decide, rfl, js_gk hs hc2 hf hpm hpd hb ⟨by omega, by omega⟩ (by omega) (h8.q (by omega)) (by decide) (fun T3 hs3 hpm3 => Cn.mono (fun r U hq => by obtain ⟨hv, rfl⟩ := hq; exact ⟨_, _, od, hv, rfl, up2_s, hps.cg (up2_n (by omega)) (fun i => up2_n (by omega)), hkv.cg (up2_n (by omega)) (fun i => up2_n (by omega)), hdv.cg (fun i => up2_n (by omega)) (fun i => up2_n (by omega)) (up2_n (by omega)) (up2_n (by omega))⟩) (c_open_2 (V := V) (g := g) (od := od) hs3 hd h3))⟩
      · obtain ⟨rfl, hc2, hf⟩ := hq
        exact ⟨⟨(hf b hbF).1.1.trans hb.2.1.1, (hf b hbF).1.2.trans hb.2.1.2⟩, Or.inr (Or.inr (rfl))⟩
  · refine CnH.mono (fun r U hq => ?_) (l_open hc.t0 (s_open_1 hc (by omega) (by omega) h0) (fun o T' hq => ?_))
    · rcases hq with ⟨v1, T1, ⟨e, -⟩, -⟩ | ⟨⟨e, hc2, hf⟩, rfl⟩ | ⟨⟨e, -⟩, -⟩
      · cases e
      · exact ⟨1, by decide, rfl, js_gk hs hc2 hf hpm hpd hb ⟨by omega, by omega⟩ (by omega) (h8.q (by omega)) (by decide) (fun T3 hs3 hpm3 => Cn.mono (fun r U hq => by obtain ⟨hv, rfl⟩ := hq; exact ⟨_, _, od, hv, rfl, up2_s, hps.cg (up2_n (by omega)) (fun i => up2_n (by omega)), hkv.cg (up2_n (by omega)) (fun i => up2_n (by omega)), hdv.cg (fun i => up2_n (by omega)) (fun i => up2_n (by omega)) (up2_n (by omega)) (up2_n (by omega))⟩) (c_open_1 (V := V) (g := g) (od := od) hs3 h0))⟩
      · exact absurd (Sum.inr.inj e) (by decide)
    · obtain ⟨rfl, hc2, hf⟩ := hq
      exact ⟨⟨(hf b hbF).1.1.trans hb.2.1.1, (hf b hbF).1.2.trans hb.2.1.2⟩, Or.inr (Or.inl rfl)⟩
theorem j_specimen {G : GI} {S : Hp} {x m b a0 : Nat} {inp : Nat → Int32} {n B0 U0 k : Nat} (h : JS S x m b a0 inp n B0 U0 k) (h1 : B0 + k + 1 ≤ gN G) (h2 : U0 + 6 * k + 6 ≤ gM G) (hk : k < 130000) {y0 y1 y2 : Int32} : CnH m_L_specimen G [.ref x, .int y0, .int y1, .int y2, .ref b] S (WO m_X13_specimen G [.int y0, .int y1, .int y2] x m b a0 inp n B0 U0 k) := by
  obtain ⟨T, V, g, od, N, ps, gq, ik, gk, D, pv, cap, pp, bx, bu, rfl, hs, hc, ⟨hps, hkv, hdv⟩, ⟨hpm, hpd⟩, hb, ⟨hB, hU⟩, hN, h8⟩ := h
  have hbF : LF m b a0 pv b := Or.inr (Or.inr (Or.inl rfl))
  obtain ⟨c0, hr⟩ := hc.rel
  have h24 := hr.n24
  have hbw := hr.wb
  by_cases h0 : vp_in y0 4
  · obtain ⟨d, hd, rfl⟩ := vp_in_of h0 (by decide)
    have hdr := hdv.1 d hd
    by_cases h3 : vp_in y1 (D 193 (190 + 5 * d))
    · obtain ⟨i, hi, rfl⟩ := vp_in_of h3 (by have := hdr.2.2.2.1; omega)
      by_cases h4 : vp_in y2 4
      · obtain ⟨q, hq, rfl⟩ := vp_in_of h4 (by decide)
        refine CnH.mono (fun r U hq => ?_) (l_specimen hc.t0 (s_spec_0 hc hd rfl hdr.2.2.2.1 hi hq) (fun o T' hq => ?_))
        · rcases hq with ⟨v1, T1, ⟨e, hc2, hf⟩, rfl, rfl⟩ | ⟨⟨e, -⟩, -⟩ | ⟨⟨e, -⟩, -⟩
          · cases e
            exact ⟨0, by decide, rfl, js_g0 hs (hc2) hf hpm (hpd) hb ⟨by omega, by omega⟩ (by omega) (h8.q (by omega)) (fun T3 hs3 hpm3 => Cn.mono (fun r U hq => by obtain ⟨hv, rfl⟩ := hq; exact ⟨_, _, od, hv, rfl, up2_s, (by rw [hdr.2.2.2.2 i q (by omega) hq]), hps.cg (up2_n (by omega)) (fun i => up2_n (by omega)), hkv.cg (up2_n (by omega)) (fun i => up2_n (by omega)), hdv.cg (fun i => up2_n (by omega)) (fun i => up2_n (by omega)) (up2_n (by omega)) (up2_n (by omega))⟩) (q_specimen_0 (V := V) (g := g) (od := od) hs3 hd hdr.2.2.1 hdr.2.2.2.1 hi hq))⟩
          · cases e
          · cases e
        · obtain ⟨rfl, hc2, hf⟩ := hq
          exact ⟨⟨(hf b hbF).1.1.trans hb.2.1.1, (hf b hbF).1.2.trans hb.2.1.2⟩, Or.inl ⟨_, rfl⟩⟩
      · refine CnH.mono (fun r U hq => ?_) (l_specimen hc.t0 (s_spec_2 hc (by omega) (by omega) hd rfl hdr.2.2.2.1 hi h4) (fun o T' hq => ?_))
        · rcases hq with ⟨v1, T1, ⟨e, -⟩, -⟩ | ⟨⟨e, -⟩, -⟩ | ⟨⟨e, hc2, hf⟩, rfl⟩
          · cases e
          · exact absurd (Sum.inr.inj e) (by decide)
          · exact ⟨2, by decide, rfl, js_gk hs hc2 hf hpm hpd hb ⟨by omega, by omega⟩ (by omega) (h8.q (by omega)) (by decide) (fun T3 hs3 hpm3 => Cn.mono (fun r U hq => by obtain ⟨hv, rfl⟩ := hq; exact ⟨_, _, od, hv, rfl, up2_s, hps.cg (up2_n (by omega)) (fun i => up2_n (by omega)), hkv.cg (up2_n (by omega)) (fun i => up2_n (by omega)), hdv.cg (fun i => up2_n (by omega)) (fun i => up2_n (by omega)) (up2_n (by omega)) (up2_n (by omega))⟩) (q_specimen_2 (V := V) (g := g) (od := od) hs3 hd hdr.2.2.1 hdr.2.2.2.1 hi h4))⟩
        · obtain ⟨rfl, hc2, hf⟩ := hq
          exact ⟨⟨(hf b hbF).1.1.trans hb.2.1.1, (hf b hbF).1.2.trans hb.2.1.2⟩, Or.inr (Or.inr (rfl))⟩
    · refine CnH.mono (fun r U hq => ?_) (l_specimen hc.t0 (s_spec_1b hc (by omega) (by omega) hd rfl hdr.2.2.2.1 h3) (fun o T' hq => ?_))
      · rcases hq with ⟨v1, T1, ⟨e, -⟩, -⟩ | ⟨⟨e, hc2, hf⟩, rfl⟩ | ⟨⟨e, -⟩, -⟩
        · cases e
        · exact ⟨1, by decide, rfl, js_gk hs hc2 hf hpm hpd hb ⟨by omega, by omega⟩ (by omega) (h8.q (by omega)) (by decide) (fun T3 hs3 hpm3 => Cn.mono (fun r U hq => by obtain ⟨hv, rfl⟩ := hq; exact ⟨_, _, od, hv, rfl, up2_s, hps.cg (up2_n (by omega)) (fun i => up2_n (by omega)), hkv.cg (up2_n (by omega)) (fun i => up2_n (by omega)), hdv.cg (fun i => up2_n (by omega)) (fun i => up2_n (by omega)) (up2_n (by omega)) (up2_n (by omega))⟩) (q_specimen_1b (V := V) (g := g) (od := od) hs3 hd hdr.2.2.1 hdr.2.2.2.1 h3))⟩
        · exact absurd (Sum.inr.inj e) (by decide)
      · obtain ⟨rfl, hc2, hf⟩ := hq
        exact ⟨⟨(hf b hbF).1.1.trans hb.2.1.1, (hf b hbF).1.2.trans hb.2.1.2⟩, Or.inr (Or.inl rfl)⟩
  · refine CnH.mono (fun r U hq => ?_) (l_specimen hc.t0 (s_spec_1a hc (by omega) (by omega) h0) (fun o T' hq => ?_))
    · rcases hq with ⟨v1, T1, ⟨e, -⟩, -⟩ | ⟨⟨e, hc2, hf⟩, rfl⟩ | ⟨⟨e, -⟩, -⟩
      · cases e
      · exact ⟨1, by decide, rfl, js_gk hs hc2 hf hpm hpd hb ⟨by omega, by omega⟩ (by omega) (h8.q (by omega)) (by decide) (fun T3 hs3 hpm3 => Cn.mono (fun r U hq => by obtain ⟨hv, rfl⟩ := hq; exact ⟨_, _, od, hv, rfl, up2_s, hps.cg (up2_n (by omega)) (fun i => up2_n (by omega)), hkv.cg (up2_n (by omega)) (fun i => up2_n (by omega)), hdv.cg (fun i => up2_n (by omega)) (fun i => up2_n (by omega)) (up2_n (by omega)) (up2_n (by omega))⟩) (q_specimen_1a (V := V) (g := g) (od := od) hs3 h0))⟩
      · exact absurd (Sum.inr.inj e) (by decide)
    · obtain ⟨rfl, hc2, hf⟩ := hq
      exact ⟨⟨(hf b hbF).1.1.trans hb.2.1.1, (hf b hbF).1.2.trans hb.2.1.2⟩, Or.inr (Or.inl rfl)⟩
theorem j_count {G : GI} {S : Hp} {x m b a0 : Nat} {inp : Nat → Int32} {n B0 U0 k : Nat} (h : JS S x m b a0 inp n B0 U0 k) (h1 : B0 + k + 1 ≤ gN G) (h2 : U0 + 6 * k + 6 ≤ gM G) (hk : k < 130000) {y0 : Int32} : CnH m_L_count G [.ref x, .int y0, .ref b] S (WO m_X13_count G [.int y0] x m b a0 inp n B0 U0 k) := by
  obtain ⟨T, V, g, od, N, ps, gq, ik, gk, D, pv, cap, pp, bx, bu, rfl, hs, hc, ⟨hps, hkv, hdv⟩, ⟨hpm, hpd⟩, hb, ⟨hB, hU⟩, hN, h8⟩ := h
  have hbF : LF m b a0 pv b := Or.inr (Or.inr (Or.inl rfl))
  obtain ⟨c0, hr⟩ := hc.rel
  have h24 := hr.n24
  have hbw := hr.wb
  have hzz : ∀ l, l < g 0 → g (90 + 13 * l + 1) ≤ 200 := fun l hl => (hr.lot hl).z
  by_cases h0 : vp_in y0 7
  · obtain ⟨q, hq, rfl⟩ := vp_in_of h0 (by decide)
    obtain rfl | rfl | rfl | rfl | rfl | rfl | rfl : q = 0 ∨ q = 1 ∨ q = 2 ∨ q = 3 ∨ q = 4 ∨ q = 5 ∨ q = 6 := by omega
    · refine CnH.mono (fun r U hq => ?_) (l_count hc.t0 (hc.fn fun o A c a1 a2 w k a3 a4 a5 => f_count_0 a1 a2 a3 a4 a5) (fun o T' hq => ?_))
      · rcases hq with ⟨v1, T1, ⟨e, hc2, hf⟩, rfl, rfl⟩ | ⟨⟨e, -⟩, -⟩
        · cases e
          exact ⟨0, by decide, rfl, js_g0 hs hc2 hf hpm hpd hb ⟨by omega, by omega⟩ (by omega) (h8.q (by omega)) (fun T3 hs3 hpm3 => Cn.mono (fun r U hq => by obtain ⟨hv, rfl⟩ := hq; exact ⟨_, _, od, hv, rfl, up2_s, rfl, hps.cg (up2_n (by omega)) (fun i => up2_n (by omega)), hkv.cg (up2_n (by omega)) (fun i => up2_n (by omega)), hdv.cg (fun i => up2_n (by omega)) (fun i => up2_n (by omega)) (up2_n (by omega)) (up2_n (by omega))⟩) (q_count_0 (V := V) (g := g) (od := od) hs3))⟩
        · cases e
      · obtain ⟨rfl, hc2, hf⟩ := hq
        exact ⟨⟨(hf b hbF).1.1.trans hb.2.1.1, (hf b hbF).1.2.trans hb.2.1.2⟩, Or.inl ⟨_, rfl⟩⟩
    · refine CnH.mono (fun r U hq => ?_) (l_count hc.t0 (hc.fn fun o A c a1 a2 w k a3 a4 a5 => f_count_1 a1 a2 a3 a4 a5) (fun o T' hq => ?_))
      · rcases hq with ⟨v1, T1, ⟨e, hc2, hf⟩, rfl, rfl⟩ | ⟨⟨e, -⟩, -⟩
        · cases e
          exact ⟨0, by decide, rfl, js_g0 hs hc2 hf hpm hpd hb ⟨by omega, by omega⟩ (by omega) (h8.q (by omega)) (fun T3 hs3 hpm3 => Cn.mono (fun r U hq => by obtain ⟨hv, rfl⟩ := hq; exact ⟨_, _, od, hv, rfl, up2_s, rfl, hps.cg (up2_n (by omega)) (fun i => up2_n (by omega)), hkv.cg (up2_n (by omega)) (fun i => up2_n (by omega)), hdv.cg (fun i => up2_n (by omega)) (fun i => up2_n (by omega)) (up2_n (by omega)) (up2_n (by omega))⟩) (q_count_1 (V := V) (g := g) (od := od) hs3 h24 hbw hzz))⟩
        · cases e
      · obtain ⟨rfl, hc2, hf⟩ := hq
        exact ⟨⟨(hf b hbF).1.1.trans hb.2.1.1, (hf b hbF).1.2.trans hb.2.1.2⟩, Or.inl ⟨_, rfl⟩⟩
    · refine CnH.mono (fun r U hq => ?_) (l_count hc.t0 (hc.fn fun o A c a1 a2 w k a3 a4 a5 => f_count_2 a1 a2 a3 a4 a5) (fun o T' hq => ?_))
      · rcases hq with ⟨v1, T1, ⟨e, hc2, hf⟩, rfl, rfl⟩ | ⟨⟨e, -⟩, -⟩
        · cases e
          exact ⟨0, by decide, rfl, js_g0 hs hc2 hf hpm hpd hb ⟨by omega, by omega⟩ (by omega) (h8.q (by omega)) (fun T3 hs3 hpm3 => Cn.mono (fun r U hq => by obtain ⟨hv, rfl⟩ := hq; exact ⟨_, _, od, hv, rfl, up2_s, rfl, hps.cg (up2_n (by omega)) (fun i => up2_n (by omega)), hkv.cg (up2_n (by omega)) (fun i => up2_n (by omega)), hdv.cg (fun i => up2_n (by omega)) (fun i => up2_n (by omega)) (up2_n (by omega)) (up2_n (by omega))⟩) (q_count_2 (V := V) (g := g) (od := od) hs3))⟩
        · cases e
      · obtain ⟨rfl, hc2, hf⟩ := hq
        exact ⟨⟨(hf b hbF).1.1.trans hb.2.1.1, (hf b hbF).1.2.trans hb.2.1.2⟩, Or.inl ⟨_, rfl⟩⟩
    · refine CnH.mono (fun r U hq => ?_) (l_count hc.t0 (hc.fn fun o A c a1 a2 w k a3 a4 a5 => f_count_3 a1 a2 a3 a4 a5) (fun o T' hq => ?_))
      · rcases hq with ⟨v1, T1, ⟨e, hc2, hf⟩, rfl, rfl⟩ | ⟨⟨e, -⟩, -⟩
        · cases e
          exact ⟨0, by decide, rfl, js_g0 hs hc2 hf hpm hpd hb ⟨by omega, by omega⟩ (by omega) (h8.q (by omega)) (fun T3 hs3 hpm3 => Cn.mono (fun r U hq => by obtain ⟨hv, rfl⟩ := hq; exact ⟨_, _, od, hv, rfl, up2_s, rfl, hps.cg (up2_n (by omega)) (fun i => up2_n (by omega)), hkv.cg (up2_n (by omega)) (fun i => up2_n (by omega)), hdv.cg (fun i => up2_n (by omega)) (fun i => up2_n (by omega)) (up2_n (by omega)) (up2_n (by omega))⟩) (q_count_3 (V := V) (g := g) (od := od) hs3))⟩
        · cases e
      · obtain ⟨rfl, hc2, hf⟩ := hq
        exact ⟨⟨(hf b hbF).1.1.trans hb.2.1.1, (hf b hbF).1.2.trans hb.2.1.2⟩, Or.inl ⟨_, rfl⟩⟩
    · refine CnH.mono (fun r U hq => ?_) (l_count hc.t0 (s_count_4 hc) (fun o T' hq => ?_))
      · rcases hq with ⟨v1, T1, ⟨e, hc2, hf⟩, rfl, rfl⟩ | ⟨⟨e, -⟩, -⟩
        · cases e
          exact ⟨0, by decide, rfl, js_g0 hs (hc2) hf hpm (hpd) hb ⟨by omega, by omega⟩ (by omega) (h8.q (by omega)) (fun T3 hs3 hpm3 => Cn.mono (fun r U hq => by obtain ⟨hv, rfl⟩ := hq; exact ⟨_, _, od, hv, rfl, up2_s, (by rw [hps.1]), hps.cg (up2_n (by omega)) (fun i => up2_n (by omega)), hkv.cg (up2_n (by omega)) (fun i => up2_n (by omega)), hdv.cg (fun i => up2_n (by omega)) (fun i => up2_n (by omega)) (up2_n (by omega)) (up2_n (by omega))⟩) (q_count_4 (V := V) (g := g) (od := od) hs3))⟩
        · cases e
      · obtain ⟨rfl, hc2, hf⟩ := hq
        exact ⟨⟨(hf b hbF).1.1.trans hb.2.1.1, (hf b hbF).1.2.trans hb.2.1.2⟩, Or.inl ⟨_, rfl⟩⟩
    · refine CnH.mono (fun r U hq => ?_) (l_count hc.t0 (s_count_5 hc) (fun o T' hq => ?_))
      · rcases hq with ⟨v1, T1, ⟨e, hc2, hf⟩, rfl, rfl⟩ | ⟨⟨e, -⟩, -⟩
        · cases e
          exact ⟨0, by decide, rfl, js_g0 hs (hc2) hf hpm (hpd) hb ⟨by omega, by omega⟩ (by omega) (h8.q (by omega)) (fun T3 hs3 hpm3 => Cn.mono (fun r U hq => by obtain ⟨hv, rfl⟩ := hq; exact ⟨_, _, od, hv, rfl, up2_s, (by rw [hdv.2.1.1]), hps.cg (up2_n (by omega)) (fun i => up2_n (by omega)), hkv.cg (up2_n (by omega)) (fun i => up2_n (by omega)), hdv.cg (fun i => up2_n (by omega)) (fun i => up2_n (by omega)) (up2_n (by omega)) (up2_n (by omega))⟩) (q_count_5 (V := V) (g := g) (od := od) hs3))⟩
        · cases e
      · obtain ⟨rfl, hc2, hf⟩ := hq
        exact ⟨⟨(hf b hbF).1.1.trans hb.2.1.1, (hf b hbF).1.2.trans hb.2.1.2⟩, Or.inl ⟨_, rfl⟩⟩
    · refine CnH.mono (fun r U hq => ?_) (l_count hc.t0 (hc.fn fun o A c a1 a2 w k a3 a4 a5 => f_count_6 a1 a2 a3 a4 a5) (fun o T' hq => ?_))
      · rcases hq with ⟨v1, T1, ⟨e, hc2, hf⟩, rfl, rfl⟩ | ⟨⟨e, -⟩, -⟩
        · cases e
          exact ⟨0, by decide, rfl, js_g0 hs hc2 hf hpm hpd hb ⟨by omega, by omega⟩ (by omega) (h8.q (by omega)) (fun T3 hs3 hpm3 => Cn.mono (fun r U hq => by obtain ⟨hv, rfl⟩ := hq; exact ⟨_, _, od, hv, rfl, up2_s, rfl, hps.cg (up2_n (by omega)) (fun i => up2_n (by omega)), hkv.cg (up2_n (by omega)) (fun i => up2_n (by omega)), hdv.cg (fun i => up2_n (by omega)) (fun i => up2_n (by omega)) (up2_n (by omega)) (up2_n (by omega))⟩) (q_count_6 (V := V) (g := g) (od := od) hs3))⟩
        · cases e
      · obtain ⟨rfl, hc2, hf⟩ := hq
        exact ⟨⟨(hf b hbF).1.1.trans hb.2.1.1, (hf b hbF).1.2.trans hb.2.1.2⟩, Or.inl ⟨_, rfl⟩⟩
  · by_cases h3 : nI 10 ≤ y0 ∧ y0 ≤ nI 14
    · obtain ⟨q, hq1, hq2, rfl⟩ : ∃ q, 10 ≤ q ∧ q ≤ 14 ∧ y0 = nI q := by
        obtain ⟨q, hq, rfl⟩ := nI_of (x := y0) (fun z => absurd (Int32.le_trans (by decide : nI 0 ≤ nI 10) h3.1) (Int32.not_le.mpr (by rw [nI_0]; exact z)))
        exact ⟨q, (nI_leI (by decide) hq).mp h3.1, (nI_leI hq (by decide)).mp h3.2, rfl⟩
      obtain rfl | rfl | rfl | rfl | rfl : q = 10 ∨ q = 11 ∨ q = 12 ∨ q = 13 ∨ q = 14 := by omega
      · refine CnH.mono (fun r U hq => ?_) (l_count hc.t0 (hc.fn fun o A c a1 a2 w k a3 a4 a5 => f_count_10 a1 a2 a3 a4 a5) (fun o T' hq => ?_))
        · rcases hq with ⟨v1, T1, ⟨e, hc2, hf⟩, rfl, rfl⟩ | ⟨⟨e, -⟩, -⟩
          · cases e
            exact ⟨0, by decide, rfl, js_g0 hs hc2 hf hpm hpd hb ⟨by omega, by omega⟩ (by omega) (h8.q (by omega)) (fun T3 hs3 hpm3 => Cn.mono (fun r U hq => by obtain ⟨hv, rfl⟩ := hq; exact ⟨_, _, od, hv, rfl, up2_s, rfl, hps.cg (up2_n (by omega)) (fun i => up2_n (by omega)), hkv.cg (up2_n (by omega)) (fun i => up2_n (by omega)), hdv.cg (fun i => up2_n (by omega)) (fun i => up2_n (by omega)) (up2_n (by omega)) (up2_n (by omega))⟩) (q_count_10 (V := V) (g := g) (od := od) hs3 h24 hbw hzz))⟩
          · cases e
        · obtain ⟨rfl, hc2, hf⟩ := hq
          exact ⟨⟨(hf b hbF).1.1.trans hb.2.1.1, (hf b hbF).1.2.trans hb.2.1.2⟩, Or.inl ⟨_, rfl⟩⟩
      · refine CnH.mono (fun r U hq => ?_) (l_count hc.t0 (hc.fn fun o A c a1 a2 w k a3 a4 a5 => f_count_11 a1 a2 a3 a4 a5) (fun o T' hq => ?_))
        · rcases hq with ⟨v1, T1, ⟨e, hc2, hf⟩, rfl, rfl⟩ | ⟨⟨e, -⟩, -⟩
          · cases e
            exact ⟨0, by decide, rfl, js_g0 hs hc2 hf hpm hpd hb ⟨by omega, by omega⟩ (by omega) (h8.q (by omega)) (fun T3 hs3 hpm3 => Cn.mono (fun r U hq => by obtain ⟨hv, rfl⟩ := hq; exact ⟨_, _, od, hv, rfl, up2_s, rfl, hps.cg (up2_n (by omega)) (fun i => up2_n (by omega)), hkv.cg (up2_n (by omega)) (fun i => up2_n (by omega)), hdv.cg (fun i => up2_n (by omega)) (fun i => up2_n (by omega)) (up2_n (by omega)) (up2_n (by omega))⟩) (q_count_11 (V := V) (g := g) (od := od) hs3 h24 hbw hzz))⟩
          · cases e
        · obtain ⟨rfl, hc2, hf⟩ := hq
          exact ⟨⟨(hf b hbF).1.1.trans hb.2.1.1, (hf b hbF).1.2.trans hb.2.1.2⟩, Or.inl ⟨_, rfl⟩⟩
      · refine CnH.mono (fun r U hq => ?_) (l_count hc.t0 (hc.fn fun o A c a1 a2 w k a3 a4 a5 => f_count_12 a1 a2 a3 a4 a5) (fun o T' hq => ?_))
        · rcases hq with ⟨v1, T1, ⟨e, hc2, hf⟩, rfl, rfl⟩ | ⟨⟨e, -⟩, -⟩
          · cases e
            exact ⟨0, by decide, rfl, js_g0 hs hc2 hf hpm hpd hb ⟨by omega, by omega⟩ (by omega) (h8.q (by omega)) (fun T3 hs3 hpm3 => Cn.mono (fun r U hq => by obtain ⟨hv, rfl⟩ := hq; exact ⟨_, _, od, hv, rfl, up2_s, rfl, hps.cg (up2_n (by omega)) (fun i => up2_n (by omega)), hkv.cg (up2_n (by omega)) (fun i => up2_n (by omega)), hdv.cg (fun i => up2_n (by omega)) (fun i => up2_n (by omega)) (up2_n (by omega)) (up2_n (by omega))⟩) (q_count_12 (V := V) (g := g) (od := od) hs3 h24 hbw hzz))⟩
          · cases e
        · obtain ⟨rfl, hc2, hf⟩ := hq
          exact ⟨⟨(hf b hbF).1.1.trans hb.2.1.1, (hf b hbF).1.2.trans hb.2.1.2⟩, Or.inl ⟨_, rfl⟩⟩
      · refine CnH.mono (fun r U hq => ?_) (l_count hc.t0 (hc.fn fun o A c a1 a2 w k a3 a4 a5 => f_count_13 a1 a2 a3 a4 a5) (fun o T' hq => ?_))
        · rcases hq with ⟨v1, T1, ⟨e, hc2, hf⟩, rfl, rfl⟩ | ⟨⟨e, -⟩, -⟩
          · cases e
            exact ⟨0, by decide, rfl, js_g0 hs hc2 hf hpm hpd hb ⟨by omega, by omega⟩ (by omega) (h8.q (by omega)) (fun T3 hs3 hpm3 => Cn.mono (fun r U hq => by obtain ⟨hv, rfl⟩ := hq; exact ⟨_, _, od, hv, rfl, up2_s, rfl, hps.cg (up2_n (by omega)) (fun i => up2_n (by omega)), hkv.cg (up2_n (by omega)) (fun i => up2_n (by omega)), hdv.cg (fun i => up2_n (by omega)) (fun i => up2_n (by omega)) (up2_n (by omega)) (up2_n (by omega))⟩) (q_count_13 (V := V) (g := g) (od := od) hs3 h24 hbw hzz))⟩
          · cases e
        · obtain ⟨rfl, hc2, hf⟩ := hq
          exact ⟨⟨(hf b hbF).1.1.trans hb.2.1.1, (hf b hbF).1.2.trans hb.2.1.2⟩, Or.inl ⟨_, rfl⟩⟩
      · refine CnH.mono (fun r U hq => ?_) (l_count hc.t0 (hc.fn fun o A c a1 a2 w k a3 a4 a5 => f_count_14 a1 a2 a3 a4 a5) (fun o T' hq => ?_))
        · rcases hq with ⟨v1, T1, ⟨e, hc2, hf⟩, rfl, rfl⟩ | ⟨⟨e, -⟩, -⟩
          · cases e
            exact ⟨0, by decide, rfl, js_g0 hs hc2 hf hpm hpd hb ⟨by omega, by omega⟩ (by omega) (h8.q (by omega)) (fun T3 hs3 hpm3 => Cn.mono (fun r U hq => by obtain ⟨hv, rfl⟩ := hq; exact ⟨_, _, od, hv, rfl, up2_s, rfl, hps.cg (up2_n (by omega)) (fun i => up2_n (by omega)), hkv.cg (up2_n (by omega)) (fun i => up2_n (by omega)), hdv.cg (fun i => up2_n (by omega)) (fun i => up2_n (by omega)) (up2_n (by omega)) (up2_n (by omega))⟩) (q_count_14 (V := V) (g := g) (od := od) hs3 h24 hbw hzz))⟩
          · cases e
        · obtain ⟨rfl, hc2, hf⟩ := hq
          exact ⟨⟨(hf b hbF).1.1.trans hb.2.1.1, (hf b hbF).1.2.trans hb.2.1.2⟩, Or.inl ⟨_, rfl⟩⟩
    · refine CnH.mono (fun r U hq => ?_) (l_count hc.t0 (hc.ft (by omega) (by omega) fun o A c a1 a2 w k a3 r1 r2 a4 a5 => f_count_x a1 a2 a3 a4 a5 r1 r2 h0 h3) (fun o T' hq => ?_))
      · rcases hq with ⟨v1, T1, ⟨e, -⟩, -⟩ | ⟨⟨e, hc2, hf⟩, rfl⟩
        · cases e
        · exact ⟨1, by decide, rfl, js_gk hs hc2 hf hpm hpd hb ⟨by omega, by omega⟩ (by omega) (h8.q (by omega)) (by decide) (fun T3 hs3 hpm3 => Cn.mono (fun r U hq => by obtain ⟨hv, rfl⟩ := hq; exact ⟨_, _, od, hv, rfl, up2_s, hps.cg ((up2_n (by omega)).trans (up2_n (by omega))) (fun i => (up2_n (by omega)).trans (up2_n (by omega))), hkv.cg ((up2_n (by omega)).trans (up2_n (by omega))) (fun i => (up2_n (by omega)).trans (up2_n (by omega))), hdv.cg (fun i => (up2_n (by omega)).trans (up2_n (by omega))) (fun i => (up2_n (by omega)).trans (up2_n (by omega))) ((up2_n (by omega)).trans (up2_n (by omega))) ((up2_n (by omega)).trans (up2_n (by omega)))⟩) (q_count_x (V := V) (g := g) (od := od) hs3 h0 h3))⟩
      · obtain ⟨rfl, hc2, hf⟩ := hq
        exact ⟨⟨(hf b hbF).1.1.trans hb.2.1.1, (hf b hbF).1.2.trans hb.2.1.2⟩, Or.inr (rfl)⟩
theorem j_character {G : GI} {S : Hp} {x m b a0 : Nat} {inp : Nat → Int32} {n B0 U0 k : Nat} (h : JS S x m b a0 inp n B0 U0 k) (h1 : B0 + k + 1 ≤ gN G) (h2 : U0 + 6 * k + 6 ≤ gM G) (hk : k < 130000) {y0 : Int32} : CnH m_L_character G [.ref x, .int y0, .ref b] S (WO m_X13_character G [.int y0] x m b a0 inp n B0 U0 k) := by
  obtain ⟨T, V, g, od, N, ps, gq, ik, gk, D, pv, cap, pp, bx, bu, rfl, hs, hc, ⟨hps, hkv, hdv⟩, ⟨hpm, hpd⟩, hb, ⟨hB, hU⟩, hN, h8⟩ := h
  have hbF : LF m b a0 pv b := Or.inr (Or.inr (Or.inl rfl))
  obtain ⟨c0, hr⟩ := hc.rel
  have h24 := hr.n24
  have hbw := hr.wb
  by_cases h0 : vp_in y0 (tL pp)
  · obtain ⟨i, hi, rfl⟩ := vp_in_of h0 (by have := hpd.2.2.1; rcases hpd.2.1 with q | q | q | q <;> omega)
    refine CnH.mono (fun r U hq => ?_) (l_character hc.t0 (s_character_0 hc hpd hi) (fun o T' hq => ?_))
    · rcases hq with ⟨v1, T1, ⟨e, hc2, hf⟩, rfl, rfl⟩ | ⟨⟨e, -⟩, -⟩
      · cases e
        exact ⟨0, by decide, rfl, js_g0 hs (hc2) hf hpm (hpd) hb ⟨by omega, by omega⟩ (by omega) (h8.q (by omega)) (fun T3 hs3 hpm3 => Cn.mono (fun r U hq => by obtain ⟨hv, rfl⟩ := hq; exact ⟨_, _, od, hv, rfl, up2_s, rfl, hps.cg (up2_n (by omega)) (fun i => up2_n (by omega)), hkv.cg (up2_n (by omega)) (fun i => up2_n (by omega)), hdv.cg (fun i => up2_n (by omega)) (fun i => up2_n (by omega)) (up2_n (by omega)) (up2_n (by omega))⟩) (q_character_0 (V := V) (g := g) (od := od) hs3 hpm3 hi))⟩
      · cases e
    · obtain ⟨rfl, hc2, hf⟩ := hq
      exact ⟨⟨(hf b hbF).1.1.trans hb.2.1.1, (hf b hbF).1.2.trans hb.2.1.2⟩, Or.inl ⟨_, rfl⟩⟩
  · refine CnH.mono (fun r U hq => ?_) (l_character hc.t0 (s_character_1 hc (by omega) (by omega) hpd h0) (fun o T' hq => ?_))
    · rcases hq with ⟨v1, T1, ⟨e, -⟩, -⟩ | ⟨⟨e, hc2, hf⟩, rfl⟩
      · cases e
      · exact ⟨1, by decide, rfl, js_gk hs hc2 hf hpm hpd hb ⟨by omega, by omega⟩ (by omega) (h8.q (by omega)) (by decide) (fun T3 hs3 hpm3 => Cn.mono (fun r U hq => by obtain ⟨hv, rfl⟩ := hq; exact ⟨_, _, od, hv, rfl, up2_s, hps.cg (up2_n (by omega)) (fun i => up2_n (by omega)), hkv.cg (up2_n (by omega)) (fun i => up2_n (by omega)), hdv.cg (fun i => up2_n (by omega)) (fun i => up2_n (by omega)) (up2_n (by omega)) (up2_n (by omega))⟩) (q_character_1 (V := V) (g := g) (od := od) hs3 hpm3 h0))⟩
    · obtain ⟨rfl, hc2, hf⟩ := hq
      exact ⟨⟨(hf b hbF).1.1.trans hb.2.1.1, (hf b hbF).1.2.trans hb.2.1.2⟩, Or.inr (rfl)⟩
