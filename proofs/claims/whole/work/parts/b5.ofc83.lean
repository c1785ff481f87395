/-! STEPS OF THE LAW: text appended, blame -/
theorem okB_lt {n k : Nat} (h : okB n k) : byN n k < 128 := by
  rcases h with h | ⟨h1, h2⟩
  · omega
  · have := (nI_leI (Nat.lt_trans (byN_lt n k) (by decide)) (by decide)).mp h2
    omega
theorem ap_i {V : RVal} {D : Nat → Nat → Nat} {L n : Nat} (hok : ∀ k, k < 4 → okB n k) (hD : D 161 51 = L) (hV : V 0 14 = nI L) (h : ∀ i, i < L → V 9 i = nI (D (1000 + i) 52) ∧ D (1000 + i) 52 < 128) : ∀ k, k ≤ 4 → (txE D L n k 161 51 = L + byC n k ∧ txV V L n k 0 14 = nI (L + byC n k) ∧ ∀ i, i < L + byC n k → txV V L n k 9 i = nI (txE D L n k (1000 + i) 52) ∧ txE D L n k (1000 + i) 52 < 128) ∧ (∀ f a, a ≠ 52 → ¬ (f = 161 ∧ a = 51) → txE D L n k f a = D f a) ∧ ∀ j i, j ≠ 9 → ¬ (j = 0 ∧ i = 14) → txV V L n k j i = V j i
  | 0, _ => ⟨⟨hD, hV, fun i hi => h i hi⟩, fun f a _ _ => rfl, fun j i _ _ => rfl⟩
  | k + 1, hk => by
    obtain ⟨⟨a1, a2, a3⟩, a4, a5⟩ := ap_i hok hD hV h k (by omega)
    by_cases hz : byN n k = 0
    · have e : byC n (k + 1) = byC n k := cnt_f (p := fun k => ¬ byN n k = 0) (fun q => q hz)
      rw [txE_t hz, txV_t hz, e]
      exact ⟨⟨a1, a2, a3⟩, a4, a5⟩
    · have e : byC n (k + 1) = byC n k + 1 := cnt_t (p := fun k => ¬ byN n k = 0) hz
      rw [txE_f hz, txV_f hz, e]
      refine ⟨⟨u2_s, up2_s, fun i hi => ?_⟩, fun f a h1 h2 => ?_, fun j i h1 h2 => ?_⟩
      · have hb := okB_lt (hok k (by omega))
        have e1 : ∀ f, up2 (up2 (txE D L n k) (1000 + (L + byC n k)) 52 (byN n k)) 161 51 (L + byC n k + 1) f 52 = up2 (txE D L n k) (1000 + (L + byC n k)) 52 (byN n k) f 52 := fun f => u2_n (by omega)
        have e2 : up2 (up2 (txV V L n k) 9 (L + byC n k) (nI (byN n k))) 0 14 (nI (L + byC n k + 1)) 9 i = up2 (txV V L n k) 9 (L + byC n k) (nI (byN n k)) 9 i := up2_n (by omega)
        rw [e1, e2]
        by_cases r : i = L + byC n k
        · rw [r]
          exact ⟨up2_s.trans (congrArg nI u2_s.symm), by rw [u2_s]; exact hb⟩
        · have e3 : up2 (txE D L n k) (1000 + (L + byC n k)) 52 (byN n k) (1000 + i) 52 = txE D L n k (1000 + i) 52 := u2_n (by omega)
          have e4 : up2 (txV V L n k) 9 (L + byC n k) (nI (byN n k)) 9 i = txV V L n k 9 i := up2_n (by omega)
          rw [e3, e4]
          exact a3 i (by omega)
      · exact (u2_n (by omega)).trans ((u2_n (by omega)).trans (a4 f a h1 h2))
      · exact (up2_n (by omega)).trans ((up2_n (by omega)).trans (a5 j i h1 h2))
theorem DV.ap {V V' : RVal} {D D' : Nat → Nat → Nat} {L' : Nat} (h : DV V D) (h60 : L' ≤ 60) (k : (D' 161 51 = L' ∧ V' 0 14 = nI L' ∧ ∀ i, i < L' → V' 9 i = nI (D' (1000 + i) 52) ∧ D' (1000 + i) 52 < 128) ∧ (∀ f a, a ≠ 52 → ¬ (f = 161 ∧ a = 51) → D' f a = D f a) ∧ ∀ j i, j ≠ 9 → ¬ (j = 0 ∧ i = 14) → ¬ (j = 0 ∧ i = 6) → V' j i = V j i) : DV V' D' := by
  obtain ⟨⟨k1, k2, k3⟩, k4, k5⟩ := k
  refine ⟨fun d hd => ?_, ⟨by rw [k1]; exact k2, by omega, fun i hi => k3 i (by omega)⟩, ?_⟩
  · obtain ⟨a1, a2, a3, a4, a5⟩ := h.1 d hd
    exact ⟨by rw [k5 _ _ (by omega) (by omega) (by omega), k4 _ _ (by omega) (by omega)]; exact a1, by rw [k4 _ _ (by omega) (by omega)]; exact a2, by rw [k5 _ _ (by omega) (by omega) (by omega), k4 _ _ (by omega) (by omega)]; exact a3, by rw [k4 _ _ (by omega) (by omega)]; exact a4, fun i k hi hk => by rw [k5 _ _ (by omega) (by omega) (by omega), k4 _ _ (by omega) (by omega)]; exact a5 i k hi hk⟩
  · rw [k5 _ _ (by omega) (by omega) (by omega), k4 _ _ (by omega) (by omega)]; exact h.2.2
theorem PD.cg {D D' : Nat → Nat → Nat} {pp : List (Nat × Nat)} (h : PD D pp) (e : ∀ f a, a = 55 ∨ a = 56 → D' f a = D f a) : PD D' pp := by
  obtain ⟨⟨p1, p2⟩, p3, p4, p5, p6⟩ := h
  have e5 := fun f => e f 55 (Or.inl rfl)
  have e6 := fun f => e f 56 (Or.inr rfl)
  exact ⟨⟨by rw [e5]; exact p1, by rw [e5]; exact p2⟩, by rw [e6]; exact p3, by rw [e6]; exact p4, fun i => by rw [e6]; exact p5 i, fun i hi => by rw [e6]; exact p6 i hi⟩
theorem byC_4 {n : Nat} : byC n 4 ≤ 4 := cnt_le _ _
theorem blame_a {g : Nat → Nat} {a : Nat} (ha : a < 7) : sumN (tbN g (fun i => i / 4 = a)) 28 = g (62 + 4 * a) + g (62 + 4 * a + 1) + g (62 + 4 * a + 2) + g (62 + 4 * a + 3) := by
  obtain rfl | rfl | rfl | rfl | rfl | rfl | rfl : a = 0 ∨ a = 1 ∨ a = 2 ∨ a = 3 ∨ a = 4 ∨ a = 5 ∨ a = 6 := by omega
  all_goals simp [sumN, tbN]
theorem blame_b {g : Nat → Nat} {a q : Nat} (ha : a < 7) (hq : q < 4) : sumN (tbN g (fun i => i / 4 = a ∧ i % 4 = q)) 28 = g (62 + 4 * a + q) := by
  obtain rfl | rfl | rfl | rfl | rfl | rfl | rfl : a = 0 ∨ a = 1 ∨ a = 2 ∨ a = 3 ∨ a = 4 ∨ a = 5 ∨ a = 6 := by omega
  all_goals
    obtain rfl | rfl | rfl | rfl : q = 0 ∨ q = 1 ∨ q = 2 ∨ q = 3 := by omega
    all_goals simp [sumN, tbN]
theorem j_append {G : GI} {S : Hp} {x m b a0 : Nat} {inp : Nat → Int32} {n B0 U0 k : Nat} (h : JS S x m b a0 inp n B0 U0 k) (h1 : B0 + k + 1 ≤ gN G) (h2 : U0 + 6 * k + 6 ≤ gM G) (hk : k < 130000) {y0 : Int32} : CnH m_L_append G [.ref x, .int y0, .ref b] S (WO m_X13_append G [.int y0] x m b a0 inp n B0 U0 k) := by
  obtain ⟨T, V, g, od, N, ps, gq, ik, gk, D, pv, cap, pp, bx, bu, rfl, hs, hc, ⟨hps, hkv, hdv⟩, ⟨hpm, hpd⟩, hb, ⟨hB, hU⟩, hN, h8⟩ := h
  have hbF : LF m b a0 pv b := Or.inr (Or.inr (Or.inl rfl))
  obtain ⟨c0, hr⟩ := hc.rel
  have h24 := hr.n24
  have hbw := hr.wb
  obtain ⟨n9, hn9, rfl⟩ := nI_ex y0
  by_cases h3 : ∀ k, k < 4 → okB n9 k
  · by_cases h4 : D 161 51 + byC n9 4 ≤ 60
    · have hap : ∀ V2 : RVal, V2 0 14 = V 0 14 → (∀ i, V2 9 i = V 9 i) → _ := fun V2 e1 e2 => ap_i (V := V2) (D := D) (L := D 161 51) (n := n9) h3 rfl (e1.trans hdv.2.1.1) (fun i hi => ⟨(e2 i).trans (hdv.2.1.2.2 i hi).1, (hdv.2.1.2.2 i hi).2⟩) 4 (Nat.le_refl 4)
      refine CnH.mono (fun r U hq => ?_) (l_append hc.t0 (s_append_0 hc hn9 rfl hdv.2.1.2.1 h3 h4) (fun o T' hq => ?_))
      · rcases hq with ⟨v1, T1, ⟨e, hc2, hf⟩, rfl, rfl⟩ | ⟨⟨e, -⟩, -⟩ | ⟨⟨e, -⟩, -⟩
        · cases e
          exact ⟨0, by decide, rfl, js_g0 hs (hc2) hf hpm (hpd.cg (fun f a h => (hap V rfl (fun _ => rfl)).2.1 f a (by omega) (by omega))) hb ⟨by rw [(hap V rfl (fun _ => rfl)).2.1 999 56 (by omega) (by omega)]; omega, by rw [(hap V rfl (fun _ => rfl)).2.1 999 56 (by omega) (by omega)]; omega⟩ (by omega) (h8.q (by rw [(hap V rfl (fun _ => rfl)).1.1]; have := @byC_4 n9; omega)) (fun T3 hs3 hpm3 => Cn.mono (fun r U hq => by obtain ⟨hv, rfl⟩ := hq; exact ⟨_, _, od, hv, rfl, ((hap (up2 V 0 6 (nI 0)) (up2_n (by omega)) (fun i => up2_n (by omega))).2.2 0 6 (by omega) (by omega)).trans up2_s, rfl, hps.cg (((hap (up2 V 0 6 (nI 0)) (up2_n (by omega)) (fun i => up2_n (by omega))).2.2 0 5 (by omega) (by omega)).trans (up2_n (by omega))) (fun i => (((hap (up2 V 0 6 (nI 0)) (up2_n (by omega)) (fun i => up2_n (by omega))).2.2 4 i (by omega) (by omega)).trans (up2_n (by omega)))), hkv.cg (((hap (up2 V 0 6 (nI 0)) (up2_n (by omega)) (fun i => up2_n (by omega))).2.2 0 3 (by omega) (by omega)).trans (up2_n (by omega))) (fun i => (((hap (up2 V 0 6 (nI 0)) (up2_n (by omega)) (fun i => up2_n (by omega))).2.2 2 i (by omega) (by omega)).trans (up2_n (by omega)))), hdv.ap h4 ⟨(hap (up2 V 0 6 (nI 0)) (up2_n (by omega)) (fun i => up2_n (by omega))).1, (hap (up2 V 0 6 (nI 0)) (up2_n (by omega)) (fun i => up2_n (by omega))).2.1, fun j i h1 h2 h3 => ((hap (up2 V 0 6 (nI 0)) (up2_n (by omega)) (fun i => up2_n (by omega))).2.2 j i h1 h2).trans (up2_n (by omega))⟩⟩) (c_append_0 (V := V) (g := g) (od := od) hs3 hn9 hdv.2.1.1 hdv.2.1.2.1 h3 h4))⟩
        · cases e
        · cases e
      · obtain ⟨rfl, hc2, hf⟩ := hq
        exact ⟨⟨(hf b hbF).1.1.trans hb.2.1.1, (hf b hbF).1.2.trans hb.2.1.2⟩, Or.inl ⟨_, rfl⟩⟩
    · refine CnH.mono (fun r U hq => ?_) (l_append hc.t0 (s_append_2 hc (by omega) (by omega) hn9 rfl hdv.2.1.2.1 h3 h4) (fun o T' hq => ?_))
      · rcases hq with ⟨v1, T1, ⟨e, -⟩, -⟩ | ⟨⟨e, -⟩, -⟩ | ⟨⟨e, hc2, hf⟩, rfl⟩
        · cases e
        · exact absurd (Sum.inr.inj e) (by decide)
        · exact ⟨2, by decide, rfl, js_gk hs hc2 hf hpm hpd hb ⟨by omega, by omega⟩ (by omega) (h8.q (by omega)) (by decide) (fun T3 hs3 hpm3 => Cn.mono (fun r U hq => by obtain ⟨hv, rfl⟩ := hq; exact ⟨_, _, od, hv, rfl, up2_s, hps.cg ((up2_n (by omega)).trans (up2_n (by omega))) (fun i => (up2_n (by omega)).trans (up2_n (by omega))), hkv.cg ((up2_n (by omega)).trans (up2_n (by omega))) (fun i => (up2_n (by omega)).trans (up2_n (by omega))), hdv.cg (fun i => (up2_n (by omega)).trans (up2_n (by omega))) (fun i => (up2_n (by omega)).trans (up2_n (by omega))) ((up2_n (by omega)).trans (up2_n (by omega))) ((up2_n (by omega)).trans (up2_n (by omega)))⟩) (c_append_2 (V := V) (g := g) (od := od) hs3 hn9 hdv.2.1.1 hdv.2.1.2.1 h3 h4))⟩
      · obtain ⟨rfl, hc2, hf⟩ := hq
        exact ⟨⟨(hf b hbF).1.1.trans hb.2.1.1, (hf b hbF).1.2.trans hb.2.1.2⟩, Or.inr (Or.inr (rfl))⟩
  · have h3' : ∃ k, k < 4 ∧ ¬ okB n9 k := Classical.byContradiction fun z => h3 fun k hk => Classical.byContradiction fun y => z ⟨k, hk, y⟩
    refine CnH.mono (fun r U hq => ?_) (l_append hc.t0 (s_append_1 hc (by omega) (by omega) hn9 rfl hdv.2.1.2.1 h3') (fun o T' hq => ?_))
    · rcases hq with ⟨v1, T1, ⟨e, -⟩, -⟩ | ⟨⟨e, hc2, hf⟩, rfl⟩ | ⟨⟨e, -⟩, -⟩
      · cases e
      · exact ⟨1, by decide, rfl, js_gk hs hc2 hf hpm hpd hb ⟨by omega, by omega⟩ (by omega) (h8.q (by omega)) (by decide) (fun T3 hs3 hpm3 => Cn.mono (fun r U hq => by obtain ⟨hv, rfl⟩ := hq; exact ⟨_, _, od, hv, rfl, up2_s, hps.cg ((up2_n (by omega)).trans (up2_n (by omega))) (fun i => (up2_n (by omega)).trans (up2_n (by omega))), hkv.cg ((up2_n (by omega)).trans (up2_n (by omega))) (fun i => (up2_n (by omega)).trans (up2_n (by omega))), hdv.cg (fun i => (up2_n (by omega)).trans (up2_n (by omega))) (fun i => (up2_n (by omega)).trans (up2_n (by omega))) ((up2_n (by omega)).trans (up2_n (by omega))) ((up2_n (by omega)).trans (up2_n (by omega)))⟩) (c_append_1 (V := V) (g := g) (od := od) hs3 hn9 hdv.2.1.1 hdv.2.1.2.1 h3'))⟩
      · exact absurd (Sum.inr.inj e) (by decide)
    · obtain ⟨rfl, hc2, hf⟩ := hq
      exact ⟨⟨(hf b hbF).1.1.trans hb.2.1.1, (hf b hbF).1.2.trans hb.2.1.2⟩, Or.inr (Or.inl rfl)⟩
theorem j_blame {G : GI} {S : Hp} {x m b a0 : Nat} {inp : Nat → Int32} {n B0 U0 k : Nat} (h : JS S x m b a0 inp n B0 U0 k) (h1 : B0 + k + 1 ≤ gN G) (h2 : U0 + 6 * k + 6 ≤ gM G) (hk : k < 130000) {y0 y1 : Int32} : CnH m_L_blame G [.ref x, .int y0, .int y1, .ref b] S (WO m_X13_blame G [.int y0, .int y1] x m b a0 inp n B0 U0 k) := by
  obtain ⟨T, V, g, od, N, ps, gq, ik, gk, D, pv, cap, pp, bx, bu, rfl, hs, hc, ⟨hps, hkv, hdv⟩, ⟨hpm, hpd⟩, hb, ⟨hB, hU⟩, hN, h8⟩ := h
  have hbF : LF m b a0 pv b := Or.inr (Or.inr (Or.inl rfl))
  obtain ⟨c0, hr⟩ := hc.rel
  have h24 := hr.n24
  have hbw := hr.wb
  by_cases h0 : vp_in y0 7
  · obtain ⟨a, ha, rfl⟩ := vp_in_of h0 (by decide)
    by_cases h3 : (-1) ≤ y1 ∧ y1 ≤ nI 3
    · rcases m1_of h3 (by decide) with rfl | ⟨q, hq, rfl⟩
      · refine CnH.mono (fun r U hq => ?_) (l_blame hc.t0 (hc.fn fun o A c a1 a2 w k a3 a4 a5 => f_blame_a a1 a2 a3 a4 a5 ha) (fun o T' hq => ?_))
        · rcases hq with ⟨v1, T1, ⟨e, hc2, hf⟩, rfl, rfl⟩ | ⟨⟨e, -⟩, -⟩
          · cases e
            exact ⟨0, by decide, rfl, js_g0 hs hc2 hf hpm hpd hb ⟨by omega, by omega⟩ (by omega) (h8.q (by omega)) (fun T3 hs3 hpm3 => Cn.mono (fun r U hq => by obtain ⟨hv, rfl⟩ := hq; exact ⟨_, _, od, hv, rfl, up2_s, (by rw [blame_a ha]), hps.cg (up2_n (by omega)) (fun i => up2_n (by omega)), hkv.cg (up2_n (by omega)) (fun i => up2_n (by omega)), hdv.cg (fun i => up2_n (by omega)) (fun i => up2_n (by omega)) (up2_n (by omega)) (up2_n (by omega))⟩) (q_blame_a (V := V) (g := g) (od := od) hs3 ha))⟩
          · cases e
        · obtain ⟨rfl, hc2, hf⟩ := hq
          exact ⟨⟨(hf b hbF).1.1.trans hb.2.1.1, (hf b hbF).1.2.trans hb.2.1.2⟩, Or.inl ⟨_, rfl⟩⟩
      · refine CnH.mono (fun r U hq => ?_) (l_blame hc.t0 (hc.fn fun o A c a1 a2 w k a3 a4 a5 => f_blame_b a1 a2 a3 a4 a5 ha hq) (fun o T' hq => ?_))
        · rcases hq with ⟨v1, T1, ⟨e, hc2, hf⟩, rfl, rfl⟩ | ⟨⟨e, -⟩, -⟩
          · cases e
            exact ⟨0, by decide, rfl, js_g0 hs hc2 hf hpm hpd hb ⟨by omega, by omega⟩ (by omega) (h8.q (by omega)) (fun T3 hs3 hpm3 => Cn.mono (fun r U hq => by obtain ⟨hv, rfl⟩ := hq; exact ⟨_, _, od, hv, rfl, up2_s, (by rw [blame_b ha hq]), hps.cg (up2_n (by omega)) (fun i => up2_n (by omega)), hkv.cg (up2_n (by omega)) (fun i => up2_n (by omega)), hdv.cg (fun i => up2_n (by omega)) (fun i => up2_n (by omega)) (up2_n (by omega)) (up2_n (by omega))⟩) (q_blame_b (V := V) (g := g) (od := od) hs3 ha hq))⟩
          · cases e
        · obtain ⟨rfl, hc2, hf⟩ := hq
          exact ⟨⟨(hf b hbF).1.1.trans hb.2.1.1, (hf b hbF).1.2.trans hb.2.1.2⟩, Or.inl ⟨_, rfl⟩⟩
    · refine CnH.mono (fun r U hq => ?_) (l_blame hc.t0 (hc.ft (by omega) (by omega) fun o A c a1 a2 w k a3 r1 r2 a4 a5 => f_blame_1b a1 a2 a3 a4 a5 r1 r2 ha h3) (fun o T' hq => ?_))
      · rcases hq with ⟨v1, T1, ⟨e, -⟩, -⟩ | ⟨⟨e, hc2, hf⟩, rfl⟩
        · cases e
        · exact ⟨1, by decide, rfl, js_gk hs hc2 hf hpm hpd hb ⟨by omega, by omega⟩ (by omega) (h8.q (by omega)) (by decide) (fun T3 hs3 hpm3 => Cn.mono (fun r U hq => by obtain ⟨hv, rfl⟩ := hq; exact ⟨_, _, od, hv, rfl, up2_s, hps.cg (up2_n (by omega)) (fun i => up2_n (by omega)), hkv.cg (up2_n (by omega)) (fun i => up2_n (by omega)), hdv.cg (fun i => up2_n (by omega)) (fun i => up2_n (by omega)) (up2_n (by omega)) (up2_n (by omega))⟩) (q_blame_1b (V := V) (g := g) (od := od) hs3 ha h3))⟩
      · obtain ⟨rfl, hc2, hf⟩ := hq
        exact ⟨⟨(hf b hbF).1.1.trans hb.2.1.1, (hf b hbF).1.2.trans hb.2.1.2⟩, Or.inr (rfl)⟩
  · refine CnH.mono (fun r U hq => ?_) (l_blame hc.t0 (hc.ft (by omega) (by omega) fun o A c a1 a2 w k a3 r1 r2 a4 a5 => f_blame_1a a1 a2 a3 a4 a5 r1 r2 h0) (fun o T' hq => ?_))
    · rcases hq with ⟨v1, T1, ⟨e, -⟩, -⟩ | ⟨⟨e, hc2, hf⟩, rfl⟩
      · cases e
      · exact ⟨1, by decide, rfl, js_gk hs hc2 hf hpm hpd hb ⟨by omega, by omega⟩ (by omega) (h8.q (by omega)) (by decide) (fun T3 hs3 hpm3 => Cn.mono (fun r U hq => by obtain ⟨hv, rfl⟩ := hq; exact ⟨_, _, od, hv, rfl, up2_s, hps.cg (up2_n (by omega)) (fun i => up2_n (by omega)), hkv.cg (up2_n (by omega)) (fun i => up2_n (by omega)), hdv.cg (fun i => up2_n (by omega)) (fun i => up2_n (by omega)) (up2_n (by omega)) (up2_n (by omega))⟩) (q_blame_1a (V := V) (g := g) (od := od) hs3 h0))⟩
    · obtain ⟨rfl, hc2, hf⟩ := hq
      exact ⟨⟨(hf b hbF).1.1.trans hb.2.1.1, (hf b hbF).1.2.trans hb.2.1.2⟩, Or.inr (rfl)⟩
