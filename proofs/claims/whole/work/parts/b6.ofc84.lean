/-! STEPS OF THE LAW: recalls, shares, the chance -/
def mkI (g : Nat → Nat) (a : Nat) : Nat → Nat → Prop
  | 0 => fun _ => False
  | n + 1 => fun x => isQ g a (mkI g a n) (x / 200) (x % 200) (g (90 + 13 * (x / 200) + 8))
theorem mkI_s {g : Nat → Nat} {a : Nat} (hw : PartW g) : ∀ n l u, l < n → l < g 0 → u < g (90 + 13 * l + 1) → (mkI g a n (200 * l + u) ↔ mkI g a (n + 1) (200 * l + u))
  | 0, _, _, h, _, _ => absurd h (Nat.not_lt_zero _)
  | n + 1, l, u, h, hl, hu => by
    obtain ⟨hz, hp, hk⟩ := hw l hl
    have e1 : (200 * l + u) / 200 = l := by omega
    have e2 : (200 * l + u) % 200 = u := by omega
    show isQ g a (mkI g a n) ((200 * l + u) / 200) ((200 * l + u) % 200) (g (90 + 13 * ((200 * l + u) / 200) + 8)) ↔ isQ g a (mkI g a (n + 1)) ((200 * l + u) / 200) ((200 * l + u) % 200) (g (90 + 13 * ((200 * l + u) / 200) + 8))
    rw [e1, e2]
    unfold isQ
    constructor
    · rintro (q | ⟨q, hq, hm⟩)
      · exact Or.inl q
      · have hk2 := hk q hq
        exact Or.inr ⟨q, hq, (mkI_s hw n _ _ (by omega) (by omega) (hk2.2 u hu)).mp hm⟩
    · rintro (q | ⟨q, hq, hm⟩)
      · exact Or.inl q
      · have hk2 := hk q hq
        exact Or.inr ⟨q, hq, (mkI_s hw n _ _ (by omega) (by omega) (hk2.2 u hu)).mpr hm⟩
theorem mark_ex {g : Nat → Nat} {a : Nat} (hw : PartW g) (h24 : g 0 ≤ 24) : ∃ Mk, MarkP g a Mk := by
  refine ⟨mkI g a 25, fun l u hl hu => ?_⟩
  obtain ⟨hz, hp, hk⟩ := hw l hl
  have e1 : (200 * l + u) / 200 = l := by omega
  have e2 : (200 * l + u) % 200 = u := by omega
  refine Iff.trans (mkI_s hw 25 l u (by omega) hl hu) ?_
  show isQ g a (mkI g a 25) ((200 * l + u) / 200) ((200 * l + u) % 200) (g (90 + 13 * ((200 * l + u) / 200) + 8)) ↔ _
  rw [e1, e2]
theorem Rel.partW {c g : Nat → Nat} {N : Nat} (hr : Rel c g N) : PartW g := fun l hl => ⟨(hr.lot hl).z, (hr.lot hl).pc, fun k hk => ⟨(hr.lot hl).pt hk, fun u hu => ((hr.lot hl).pu hu k hk).1⟩⟩
theorem mkV_o {V : RVal} {g : Nat → Nat} {Mk : Nat → Prop} {l u j i : Nat} (h : j ≠ 7) : mkV V g Mk l u j i = V j i := if_neg (fun q => h q.1)
theorem j_recall {G : GI} {S : Hp} {x m b a0 : Nat} {inp : Nat → Int32} {n B0 U0 k : Nat} (h : JS S x m b a0 inp n B0 U0 k) (h1 : B0 + k + 1 ≤ gN G) (h2 : U0 + 6 * k + 6 ≤ gM G) (hk : k < 130000) {y0 : Int32} : CnH m_L_recall G [.ref x, .int y0, .ref b] S (WO m_X13_recall G [.int y0] x m b a0 inp n B0 U0 k) := by
  obtain ⟨T, V, g, od, N, ps, gq, ik, gk, D, pv, cap, pp, bx, bu, rfl, hs, hc, ⟨hps, hkv, hdv⟩, ⟨hpm, hpd⟩, hb, ⟨hB, hU⟩, hN, h8⟩ := h
  have hbF : LF m b a0 pv b := Or.inr (Or.inr (Or.inl rfl))
  obtain ⟨c0, hr⟩ := hc.rel
  have h24 := hr.n24
  have hbw := hr.wb
  by_cases h0 : vp_in y0 (g 0)
  · obtain ⟨l, hl, rfl⟩ := vp_in_of h0 (by omega)
    have hw := hr.partW
    obtain ⟨Mk, hmk⟩ := mark_ex (a := l) hw h24
    refine CnH.mono (fun r U hq => ?_) (l_recall hc.t0 (s_recall_0 hc hl hmk) (fun o T' hq => ?_))
    · rcases hq with ⟨v1, T1, ⟨e, hc2, hf⟩, rfl, rfl⟩ | ⟨⟨e, -⟩, -⟩
      · cases e
        exact ⟨0, by decide, rfl, js_g0 hs (hc2) hf hpm (hpd) hb ⟨by omega, by omega⟩ (by omega) (h8.q (by omega)) (fun T3 hs3 hpm3 => Cn.mono (fun r U hq => by obtain ⟨hv, rfl⟩ := hq; exact ⟨_, _, od, hv, rfl, (mkV_o (by omega)).trans up2_s, rfl, hps.cg ((mkV_o (by omega)).trans (up2_n (by omega))) (fun i => (mkV_o (by omega)).trans (up2_n (by omega))), hkv.cg ((mkV_o (by omega)).trans (up2_n (by omega))) (fun i => (mkV_o (by omega)).trans (up2_n (by omega))), hdv.cg (fun i => (mkV_o (by omega)).trans (up2_n (by omega))) (fun i => (mkV_o (by omega)).trans (up2_n (by omega))) ((mkV_o (by omega)).trans (up2_n (by omega))) ((mkV_o (by omega)).trans (up2_n (by omega)))⟩) (q_recall_0 (V := V) (g := g) (od := od) hs3 h24 hbw hl hw hmk))⟩
      · cases e
    · obtain ⟨rfl, hc2, hf⟩ := hq
      exact ⟨⟨(hf b hbF).1.1.trans hb.2.1.1, (hf b hbF).1.2.trans hb.2.1.2⟩, Or.inl ⟨_, rfl⟩⟩
  · refine CnH.mono (fun r U hq => ?_) (l_recall hc.t0 (s_recall_1 hc (by omega) (by omega) h0) (fun o T' hq => ?_))
    · rcases hq with ⟨v1, T1, ⟨e, -⟩, -⟩ | ⟨⟨e, hc2, hf⟩, rfl⟩
      · cases e
      · exact ⟨1, by decide, rfl, js_gk hs hc2 hf hpm hpd hb ⟨by omega, by omega⟩ (by omega) (h8.q (by omega)) (by decide) (fun T3 hs3 hpm3 => Cn.mono (fun r U hq => by obtain ⟨hv, rfl⟩ := hq; exact ⟨_, _, od, hv, rfl, up2_s, hps.cg (up2_n (by omega)) (fun i => up2_n (by omega)), hkv.cg (up2_n (by omega)) (fun i => up2_n (by omega)), hdv.cg (fun i => up2_n (by omega)) (fun i => up2_n (by omega)) (up2_n (by omega)) (up2_n (by omega))⟩) (q_recall_1 (V := V) (g := g) (od := od) hs3 h24 h0))⟩
    · obtain ⟨rfl, hc2, hf⟩ := hq
      exact ⟨⟨(hf b hbF).1.1.trans hb.2.1.1, (hf b hbF).1.2.trans hb.2.1.2⟩, Or.inr (rfl)⟩
theorem j_recalled {G : GI} {S : Hp} {x m b a0 : Nat} {inp : Nat → Int32} {n B0 U0 k : Nat} (h : JS S x m b a0 inp n B0 U0 k) (h1 : B0 + k + 1 ≤ gN G) (h2 : U0 + 6 * k + 6 ≤ gM G) (hk : k < 130000) {y0 y1 : Int32} : CnH m_L_recalled G [.ref x, .int y0, .int y1, .ref b] S (WO m_X13_recalled G [.int y0, .int y1] x m b a0 inp n B0 U0 k) := by
  obtain ⟨T, V, g, od, N, ps, gq, ik, gk, D, pv, cap, pp, bx, bu, rfl, hs, hc, ⟨hps, hkv, hdv⟩, ⟨hpm, hpd⟩, hb, ⟨hB, hU⟩, hN, h8⟩ := h
  have hbF : LF m b a0 pv b := Or.inr (Or.inr (Or.inl rfl))
  obtain ⟨c0, hr⟩ := hc.rel
  have h24 := hr.n24
  have hbw := hr.wb
  by_cases h0 : vp_in y0 (g 0)
  · obtain ⟨l, hl, rfl⟩ := vp_in_of h0 (by omega)
    have hw := hr.partW
    obtain ⟨Mk, hmk⟩ := mark_ex (a := l) hw h24
    by_cases h3 : vp_in y1 5
    · obtain ⟨q, hq, rfl⟩ := vp_in_of h3 (by decide)
      refine CnH.mono (fun r U hq => ?_) (l_recalled hc.t0 (s_recalled_0 hc hl hmk hq) (fun o T' hq => ?_))
      · rcases hq with ⟨v1, T1, ⟨e, hc2, hf⟩, rfl, rfl⟩ | ⟨⟨e, -⟩, -⟩ | ⟨⟨e, -⟩, -⟩
        · cases e
          exact ⟨0, by decide, rfl, js_g0 hs (hc2) hf hpm (hpd) hb ⟨by omega, by omega⟩ (by omega) (h8.q (by omega)) (fun T3 hs3 hpm3 => Cn.mono (fun r U hq => by obtain ⟨hv, rfl⟩ := hq; exact ⟨_, _, od, hv, rfl, (mkV_o (by omega)).trans up2_s, rfl, hps.cg ((mkV_o (by omega)).trans (up2_n (by omega))) (fun i => (mkV_o (by omega)).trans (up2_n (by omega))), hkv.cg ((mkV_o (by omega)).trans (up2_n (by omega))) (fun i => (mkV_o (by omega)).trans (up2_n (by omega))), hdv.cg (fun i => (mkV_o (by omega)).trans (up2_n (by omega))) (fun i => (mkV_o (by omega)).trans (up2_n (by omega))) ((mkV_o (by omega)).trans (up2_n (by omega))) ((mkV_o (by omega)).trans (up2_n (by omega)))⟩) (q_recalled_0 (V := V) (g := g) (od := od) hs3 h24 hbw hl hw hmk hq))⟩
        · cases e
        · cases e
      · obtain ⟨rfl, hc2, hf⟩ := hq
        exact ⟨⟨(hf b hbF).1.1.trans hb.2.1.1, (hf b hbF).1.2.trans hb.2.1.2⟩, Or.inl ⟨_, rfl⟩⟩
    · refine CnH.mono (fun r U hq => ?_) (l_recalled hc.t0 (s_recalled_2 hc (by omega) (by omega) hl h3) (fun o T' hq => ?_))
      · rcases hq with ⟨v1, T1, ⟨e, -⟩, -⟩ | ⟨⟨e, -⟩, -⟩ | ⟨⟨e, hc2, hf⟩, rfl⟩
        · cases e
        · exact absurd (Sum.inr.inj e) (by decide)
        · exact ⟨2, by decide, rfl, js_gk hs hc2 hf hpm hpd hb ⟨by omega, by omega⟩ (by omega) (h8.q (by omega)) (by decide) (fun T3 hs3 hpm3 => Cn.mono (fun r U hq => by obtain ⟨hv, rfl⟩ := hq; exact ⟨_, _, od, hv, rfl, up2_s, hps.cg (up2_n (by omega)) (fun i => up2_n (by omega)), hkv.cg (up2_n (by omega)) (fun i => up2_n (by omega)), hdv.cg (fun i => up2_n (by omega)) (fun i => up2_n (by omega)) (up2_n (by omega)) (up2_n (by omega))⟩) (q_recalled_2 (V := V) (g := g) (od := od) hs3 h24 hl h3))⟩
      · obtain ⟨rfl, hc2, hf⟩ := hq
        exact ⟨⟨(hf b hbF).1.1.trans hb.2.1.1, (hf b hbF).1.2.trans hb.2.1.2⟩, Or.inr (Or.inr (rfl))⟩
  · refine CnH.mono (fun r U hq => ?_) (l_recalled hc.t0 (s_recalled_1 hc (by omega) (by omega) h0) (fun o T' hq => ?_))
    · rcases hq with ⟨v1, T1, ⟨e, -⟩, -⟩ | ⟨⟨e, hc2, hf⟩, rfl⟩ | ⟨⟨e, -⟩, -⟩
      · cases e
      · exact ⟨1, by decide, rfl, js_gk hs hc2 hf hpm hpd hb ⟨by omega, by omega⟩ (by omega) (h8.q (by omega)) (by decide) (fun T3 hs3 hpm3 => Cn.mono (fun r U hq => by obtain ⟨hv, rfl⟩ := hq; exact ⟨_, _, od, hv, rfl, up2_s, hps.cg (up2_n (by omega)) (fun i => up2_n (by omega)), hkv.cg (up2_n (by omega)) (fun i => up2_n (by omega)), hdv.cg (fun i => up2_n (by omega)) (fun i => up2_n (by omega)) (up2_n (by omega)) (up2_n (by omega))⟩) (q_recalled_1 (V := V) (g := g) (od := od) hs3 h24 h0))⟩
      · exact absurd (Sum.inr.inj e) (by decide)
    · obtain ⟨rfl, hc2, hf⟩ := hq
      exact ⟨⟨(hf b hbF).1.1.trans hb.2.1.1, (hf b hbF).1.2.trans hb.2.1.2⟩, Or.inr (Or.inl rfl)⟩
/-- the reference answers: thrown is kd, and where it is 0 the answer is the one that lies in the row b -/
def MOL (M : MI) (G : GI) (as : List Value) (S : Hp) (x m b a0 : Nat) (inp : Nat → Int32) (n B0 U0 k kd : Nat) : Prop := (zT S m = 15 ∧ zT S a0 = 102 ∧ zN S a0 = n ∧ ∀ i, i < n → zA S a0 i = inp i) ∧ Cn M G (.ref m :: as) S (fun r U => ∃ res : Int64, r = .inl (some (.long res)) ∧ Fn m_X13_thrown G [.ref m] U (some (.int (nI kd))) U ∧ (kd = 0 → zL U b 0 = res) ∧ JS U x m b a0 inp n B0 U0 (k + 1))
/-- .. of what the class's wrapper answers -/
def WOL (M : MI) (G : GI) (as : List Value) (x m b a0 : Nat) (inp : Nat → Int32) (n B0 U0 k : Nat) : OV → Hp → Prop := fun r U => ∃ kd, kd < 8 ∧ r = .inl (some (.int (nI kd))) ∧ MOL M G as U x m b a0 inp n B0 U0 k kd
section StepRulesL
variable {M : MI} {G : GI} {as : List Value} {T T' : Hp} {x m b a0 : Nat} {inp : Nat → Int32} {n B0 U0 k : Nat} {V : RVal} {g g' : Nat → Nat} {od : Nat → UInt64} {N' ps' : Nat} {gq' : Nat → Nat → Nat} {ik' : Nat} {gk' : Nat → Nat} {D' : Nat → Nat → Nat} {pv cap : Nat} {pp pp' : List (Nat × Nat)} {bx' bu' : Nat}
theorem js_l0 (hs : RS T m) (hc : CSt (LF m b a0 pv) T' x bx' bu' D' g' N' ps' gq' ik' gk') (hf : FrF (LF m b a0 pv) (rput T m (sg V g) od) T') (hpm : PM (rput T m (sg V g) od) m pv cap pp) (hpd : PD D' pp) (hb : ((a0 = b ∧ m + 11 < b) ∧ m + 11 < pv ∧ pv ≠ b) ∧ (zT (rput T m (sg V g) od) b = 102 ∧ zN (rput T m (sg V g) od) b = 1) ∧ zT (rput T m (sg V g) od) a0 = 102 ∧ zN (rput T m (sg V g) od) a0 = n ∧ ∀ i, i < n → zA (rput T m (sg V g) od) a0 i = inp i) (hB : bx' + fX (D' 999 56) + fX cap ≤ B0 + (k + 1) ∧ bu' + fU (D' 999 56) + fU cap ≤ U0 + 6 * (k + 1)) (hN : N' ≤ 10000 * (k + 1)) (h8 : B8 g' gq' ps' ik' gk' (D' 161 51) (k + 1)) {z : Int64}
    (hM : ∀ T3, RS T3 m → PM T3 m pv cap pp → Cn M G (.ref m :: as) (rput T3 m (sg V g) od) (fun r U => ∃ (res : Int64) (V' : RVal) (od' : Nat → UInt64), r = .inl (some (.long res)) ∧ U = rput T3 m (sg V' g') od' ∧ V' 0 6 = nI 0 ∧ res = z ∧ PsV V' ps' gq' ∧ KV V' ik' gk' ∧ DV V' D')) : MOL M G as (uL T' b 0 z) x m b a0 inp n B0 U0 k 0 := by
  obtain ⟨hr, hs'⟩ := frf_rput lf_m hf hs
  have hs3 : RS (uL T' b 0 z) m := hs'
  have hU : uL T' b 0 z = rput (uL T' b 0 z) m (sg V g) od := by rw [← uL_rput, hr]
  have hb1 := hf b (Or.inr (Or.inr (Or.inl rfl)))
  have ha1 := hf a0 (Or.inr (Or.inr (Or.inr rfl)))
  obtain ⟨⟨⟨q1, q2⟩, q3, q4⟩, hb2, hb3, hb4, hb5⟩ := hb
  have hc3 : CSt (LF m b a0 pv) (uL T' b 0 z) x bx' bu' D' g' N' ps' gq' ik' gk' := hc.uL (i := 0) (v := z) (show LF m b a0 pv b from Or.inr (Or.inr (Or.inl rfl)))
  have hpm3 : PM T' m pv cap pp := hpm.fr hf (Or.inl ⟨by omega, by omega⟩) (Or.inr (Or.inl rfl)) hc.fs
  have hpm4 : PM (uL T' b 0 z) m pv cap pp := hpm3.fr (F := fun a => a = m + 11 ∨ a = pv) (fun a ha => ⟨⟨rfl, rfl⟩, fun f => rfl, fun f => rfl, rfl, funext fun i => if_neg (fun (q : a = b ∧ i = 0) => by omega), rfl, rfl⟩) (Or.inl rfl) (Or.inr rfl) (show FS T' from hc.fs)
  unfold MOL
  refine ⟨⟨hs3.1, ha1.1.1.trans hb3, ha1.1.2.trans hb4, fun i hi => (congrFun ha1.2.2.2.1 i).trans (hb5 i hi)⟩, ?_⟩
  rw [hU]
  refine Cn.mono (fun r U hq => ?_) (hM _ hs3 hpm4)
  obtain ⟨res, V', od', hv, rfl, h6, hz, hps, hkv, hdv⟩ := hq
  refine ⟨res, hv, (q_thrown (V := V') (g := g') (od := od') hs3).eq (by rw [h6]) rfl, fun _ => ?_, uL T' b 0 z, V', g', od', N', ps', gq', ik', gk', D', pv, cap, pp, bx', bu', rfl, hs3, ?_, ⟨hps, hkv, hdv⟩, ⟨?_, hpd⟩, ⟨⟨⟨q1, q2⟩, q3, q4⟩, ⟨hb1.1.1.trans hb2.1, hb1.1.2.trans hb2.2⟩, ha1.1.1.trans hb3, ha1.1.2.trans hb4, fun i hi => ?_⟩, hB, hN, h8⟩
  · show up2 (zL T') b 0 z b 0 = res
    exact (if_pos ⟨rfl, rfl⟩).trans hz.symm
  · rw [hU] at hc3
    exact hc3.rp lf_m
  · refine hpm3.fr (F := fun a => a = m + 11 ∨ a = pv) (fun a ha => ⟨⟨rfl, rfl⟩, ?_⟩) (Or.inl rfl) (Or.inr rfl) (show FS T' from hc.fs)
    have k1 : a ≠ m := by omega
    have k2 : ¬ (m + 1 ≤ a ∧ a ≤ m + 10) := by omega
    have k3 : a ≠ m + 6 := by omega
    have k4 : a ≠ b := by omega
    exact ⟨fun f => if_neg (fun q => k1 q.1), fun f => rfl, funext fun i => if_neg k2, funext fun i => if_neg (fun (q : a = b ∧ i = 0) => k4 q.1), funext fun i => if_neg k3, rfl⟩
  · refine Eq.trans ?_ ((congrFun ha1.2.2.2.1 i).trans (hb5 i hi))
    exact if_neg (by omega)
theorem js_lk (hs : RS T m) (hc : CSt (LF m b a0 pv) T' x bx' bu' D' g' N' ps' gq' ik' gk') (hf : FrF (LF m b a0 pv) (rput T m (sg V g) od) T') (hpm : PM (rput T m (sg V g) od) m pv cap pp) (hpd : PD D' pp) (hb : ((a0 = b ∧ m + 11 < b) ∧ m + 11 < pv ∧ pv ≠ b) ∧ (zT (rput T m (sg V g) od) b = 102 ∧ zN (rput T m (sg V g) od) b = 1) ∧ zT (rput T m (sg V g) od) a0 = 102 ∧ zN (rput T m (sg V g) od) a0 = n ∧ ∀ i, i < n → zA (rput T m (sg V g) od) a0 i = inp i) (hB : bx' + fX (D' 999 56) + fX cap ≤ B0 + (k + 1) ∧ bu' + fU (D' 999 56) + fU cap ≤ U0 + 6 * (k + 1)) (hN : N' ≤ 10000 * (k + 1)) (h8 : B8 g' gq' ps' ik' gk' (D' 161 51) (k + 1)) {kd : Nat} (hkd : kd ≠ 0)
    (hM : ∀ T3, RS T3 m → PM T3 m pv cap pp → Cn M G (.ref m :: as) (rput T3 m (sg V g) od) (fun r U => ∃ (res : Int64) (V' : RVal) (od' : Nat → UInt64), r = .inl (some (.long res)) ∧ U = rput T3 m (sg V' g') od' ∧ V' 0 6 = nI kd ∧ PsV V' ps' gq' ∧ KV V' ik' gk' ∧ DV V' D')) : MOL M G as (T') x m b a0 inp n B0 U0 k kd := by
  obtain ⟨hr, hs'⟩ := frf_rput lf_m hf hs
  have hs3 : RS (T') m := hs'
  have hU : T' = rput (T') m (sg V g) od := hr.symm
  have hb1 := hf b (Or.inr (Or.inr (Or.inl rfl)))
  have ha1 := hf a0 (Or.inr (Or.inr (Or.inr rfl)))
  obtain ⟨⟨⟨q1, q2⟩, q3, q4⟩, hb2, hb3, hb4, hb5⟩ := hb
  have hc3 : CSt (LF m b a0 pv) (T') x bx' bu' D' g' N' ps' gq' ik' gk' := hc
  have hpm3 : PM T' m pv cap pp := hpm.fr hf (Or.inl ⟨by omega, by omega⟩) (Or.inr (Or.inl rfl)) hc.fs
  unfold MOL
  refine ⟨⟨hs3.1, ha1.1.1.trans hb3, ha1.1.2.trans hb4, fun i hi => (congrFun ha1.2.2.2.1 i).trans (hb5 i hi)⟩, ?_⟩
  rw [hU]
  refine Cn.mono (fun r U hq => ?_) (hM _ hs3 hpm3)
  obtain ⟨res, V', od', hv, rfl, h6, hps, hkv, hdv⟩ := hq
  refine ⟨res, hv, (q_thrown (V := V') (g := g') (od := od') hs3).eq (by rw [h6]) rfl, fun e => absurd e hkd, T', V', g', od', N', ps', gq', ik', gk', D', pv, cap, pp, bx', bu', rfl, hs3, ?_, ⟨hps, hkv, hdv⟩, ⟨?_, hpd⟩, ⟨⟨⟨q1, q2⟩, q3, q4⟩, ⟨hb1.1.1.trans hb2.1, hb1.1.2.trans hb2.2⟩, ha1.1.1.trans hb3, ha1.1.2.trans hb4, fun i hi => ?_⟩, hB, hN, h8⟩
  · rw [hU] at hc3
    exact hc3.rp lf_m
  · refine hpm3.fr (F := fun a => a = m + 11 ∨ a = pv) (fun a ha => ⟨⟨rfl, rfl⟩, ?_⟩) (Or.inl rfl) (Or.inr rfl) (show FS T' from hc.fs)
    have k1 : a ≠ m := by omega
    have k2 : ¬ (m + 1 ≤ a ∧ a ≤ m + 10) := by omega
    have k3 : a ≠ m + 6 := by omega
    have k4 : a ≠ b := by omega
    exact ⟨fun f => if_neg (fun q => k1 q.1), fun f => rfl, funext fun i => if_neg k2, rfl, funext fun i => if_neg k3, rfl⟩
  · refine Eq.trans ?_ ((congrFun ha1.2.2.2.1 i).trans (hb5 i hi))
    exact if_neg (by omega)
end StepRulesL
