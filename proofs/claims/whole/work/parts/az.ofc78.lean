/-! STEPS OF THE LAW: a text is run -/
theorem PD.up {D : Nat → Nat → Nat} {pp : List (Nat × Nat)} {f a v : Nat} (h : PD D pp) (h1 : a ≠ 55) (h2 : a ≠ 56) : PD (up2 D f a v) pp := by
  obtain ⟨⟨p1, p2⟩, p3, p4, p5, p6⟩ := h
  refine ⟨⟨?_, ?_⟩, ?_, ?_, fun i => ?_, fun i hi => ?_⟩
  · rw [u2_n (by omega)]; exact p1
  · rw [u2_n (by omega)]; exact p2
  · rw [u2_n (by omega)]; exact p3
  · rw [u2_n (by omega)]; exact p4
  · rw [u2_n (by omega)]; exact p5 i
  · rw [u2_n (by omega)]; exact p6 i hi
theorem DV.run {V V' : RVal} {D : Nat → Nat → Nat} {z : Nat} (h : DV V D) (e8 : ∀ i, V' 8 i = V 8 i) (e14 : V' 0 14 = nI 0) (e15 : V' 0 15 = nI z) : DV V' (up2 (up2 D 163 51 z) 161 51 0) := by
  refine ⟨fun d hd => ?_, ⟨?_, ?_, fun i hi => ?_⟩, ?_⟩
  · obtain ⟨a1, a2, a3, a4, a5⟩ := h.1 d hd
    have e : ∀ f a, 190 ≤ a → up2 (up2 D 163 51 z) 161 51 0 f a = D f a := fun f a ha => (u2_n (by omega)).trans (u2_n (by omega))
    refine ⟨?_, ?_, ?_, ?_, fun i k hi hk => ?_⟩
    · rw [e _ _ (by omega)]; exact (e8 _).trans a1
    · rw [e _ _ (by omega)]; exact a2
    · rw [e _ _ (by omega)]; exact (e8 _).trans a3
    · rw [e _ _ (by omega)]; exact a4
    · rw [e _ _ (by omega)]; exact (e8 _).trans (a5 i k hi hk)
  · rw [u2_s]; exact e14
  · rw [u2_s]; omega
  · rw [u2_s] at hi; omega
  · rw [u2_n (by decide), u2_s]; exact e15
theorem j_run {G : GI} {S : Hp} {x m b a0 : Nat} {inp : Nat → Int32} {n B0 U0 k : Nat} (h : JS S x m b a0 inp n B0 U0 k) (h1 : B0 + k + 1 ≤ gN G) (h2 : U0 + 6 * k + 6 ≤ gM G) (hk : k < 130000) : CnH m_L_run G [.ref x, .ref b] S (WO m_X13_run G [] x m b a0 inp n B0 U0 k) := by
  obtain ⟨T, V, g, od, N, ps, gq, ik, gk, D, pv, cap, pp, bx, bu, rfl, hs, hc, ⟨hps, hkv, hdv⟩, ⟨hpm, hpd⟩, hb, ⟨hB, hU⟩, hN, h8⟩ := h
  have hbF : LF m b a0 pv b := Or.inr (Or.inr (Or.inl rfl))
  obtain ⟨c, hr⟩ := hc.rel
  have hT : TXc D (fun i => D (1000 + i) 52) (D 161 51) := ⟨rfl, hdv.2.1.2.1, fun i => rfl, fun i hi => (hdv.2.1.2.2 i hi).2⟩
  have hx0 : TxV V (fun i => D (1000 + i) 52) (D 161 51) := ⟨hdv.2.1.1, hdv.2.1.2.1, fun i hi => (hdv.2.1.2.2 i hi).1⟩
  refine CnH.mono (fun r U hq => ?_) (l_run hc.t0 (s_run hc (by omega) (by omega) hT (by omega)) (fun o T' hq => ?_))
  · rcases hq with ⟨v1, T1, hq, rfl, rfl⟩ | ⟨hq, rfl⟩ | ⟨hq, rfl⟩
    · rcases hq with ⟨W, Kn, P, Vv, q, gg, NN, vv, e, htx, hch, hg0, hN0, hNn, hNl, hc2, hf⟩ | ⟨p, e, -⟩ | ⟨W, Kn, P, Vv, q, gg, NN, vv, f, kv, e, -⟩
      · cases e
        have hcn : 6 * q ≤ D 161 51 := by have := htx.2.1.le (Nat.le_refl q); omega
        refine ⟨0, by decide, rfl, js_g0 hs hc2 hf hpm ((hpd.up (by decide) (by decide)).up (by decide) (by decide)) hb ⟨by rw [u2_n (by decide), u2_n (by decide)]; omega, by rw [u2_n (by decide), u2_n (by decide)]; omega⟩ (by omega) (h8.push (by rw [u2_s]; omega) (fun p hp => ?_)) (fun T3 hs3 hpm3 => ?_)⟩
        · have z1 := hch.s8 hp (Nat.le_refl q)
          rw [hg0] at z1
          rw [u2_s]
          omega
        · refine Cn.mono (fun r U hq => ?_) (g_run_0 (V := V) (g := g) (od := od) hs3 hx0 hT.2.2.2 htx hg0 hr.n24 hch hps)
          obtain ⟨hv, V', rfl, hps2, hEq, h6, h14, h15⟩ := hq
          exact ⟨nI q, V', od, hv, rfl, h6, rfl, hps2, hkv.cg (hEq 0 3 (by decide) (by decide) (by decide) (by decide) (by omega)) (fun i => (hEq 2 i (by decide) (by decide) (by decide) (by decide) (by omega))), hdv.run (fun i => (hEq 8 i (by decide) (by decide) (by decide) (by decide) (by omega))) h14 (h15.trans nI_m1.symm)⟩
      · cases e
      · cases e
    · rcases hq with ⟨W, Kn, P, Vv, q, gg, NN, vv, e, -⟩ | ⟨p, e, hbt, hc2, hf⟩ | ⟨W, Kn, P, Vv, q, gg, NN, vv, f, kv, e, -⟩
      · cases e
      · refine ⟨1, by decide, rfl, js_gk hs hc2 hf hpm ((hpd.up (by decide) (by decide)).up (by decide) (by decide)) hb ⟨by rw [u2_n (by decide), u2_n (by decide)]; omega, by rw [u2_n (by decide), u2_n (by decide)]; omega⟩ (by omega) (h8.q (by rw [u2_s]; omega)) (by decide) (fun T3 hs3 hpm3 => ?_)⟩
        refine Cn.mono (fun r U hq => ?_) (g_run_1 (V := V) (g := g) (od := od) hs3 hx0 hT.2.2.2 hbt)
        obtain ⟨hv, V', rfl, hEq, h6, h14, h15⟩ := hq
        exact ⟨nI 0, V', od, hv, rfl, h6, hps.cg (hEq 0 5 (by decide) (by decide) (by decide) (by omega)) (fun i => (hEq 4 i (by decide) (by decide) (by decide) (by omega))), hkv.cg (hEq 0 3 (by decide) (by decide) (by decide) (by omega)) (fun i => (hEq 2 i (by decide) (by decide) (by decide) (by omega))), hdv.run (fun i => (hEq 8 i (by decide) (by decide) (by decide) (by omega))) h14 h15⟩
      · exact absurd (Sum.inr.inj e) (by decide)
    · rcases hq with ⟨W, Kn, P, Vv, q, gg, NN, vv, e, -⟩ | ⟨p, e, -⟩ | ⟨W, Kn, P, Vv, q, gg, NN, vv, f, kv, e, htx, hfn, hch, hg0, hN0, hcx, hwb, hc2, hf⟩
      · cases e
      · exact absurd (Sum.inr.inj e) (by decide)
      · refine ⟨2, by decide, rfl, js_gk hs (hc2.g hwb) hf hpm ((hpd.up (by decide) (by decide)).up (by decide) (by decide)) hb ⟨by rw [u2_n (by decide), u2_n (by decide)]; omega, by rw [u2_n (by decide), u2_n (by decide)]; omega⟩ (by omega) (h8.eqv (fun p hp => ?_) (by rw [u2_s]; omega)) (by decide) (fun T3 hs3 hpm3 => ?_)⟩
        · exact if_pos (by omega)
        · refine Cn.mono (fun r U hq => ?_) (g_run_2 (V := V) (g := g) (od := od) hs3 hx0 hT.2.2.2 htx hg0 hr.n24 hfn hch hcx)
          obtain ⟨hv, V', rfl, hEq, h6, h14, h15⟩ := hq
          exact ⟨nI 0, V', od, hv, rfl, h6, hps.cg (hEq 0 5 (by decide) (by decide) (by decide) (by omega)) (fun i => (hEq 4 i (by decide) (by decide) (by decide) (by omega))), hkv.cg (hEq 0 3 (by decide) (by decide) (by decide) (by omega)) (fun i => (hEq 2 i (by decide) (by decide) (by decide) (by omega))), hdv.run (fun i => (hEq 8 i (by decide) (by decide) (by decide) (by omega))) h14 h15⟩
  · have hbo : ∀ {T'}, FrF (LF m b a0 pv) (rput T m (sg V g) od) T' → zT T' b = 102 ∧ zN T' b = 1 := fun hf => ⟨(hf b hbF).1.1.trans hb.2.1.1, (hf b hbF).1.2.trans hb.2.1.2⟩
    rcases hq with ⟨W, Kn, P, Vv, q, gg, NN, vv, e, htx, hch, hg0, hN0, hNn, hNl, hc2, hf⟩ | ⟨p, e, hbt, hc2, hf⟩ | ⟨W, Kn, P, Vv, q, gg, NN, vv, f, kv, e, htx, hfn, hch, hg0, hN0, hcx, hwb, hc2, hf⟩
    · exact ⟨hbo hf, Or.inl ⟨_, e⟩⟩
    · exact ⟨hbo hf, Or.inr (Or.inl e)⟩
    · exact ⟨hbo hf, Or.inr (Or.inr e)⟩
