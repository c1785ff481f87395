/-! STEPS OF THE LAW: a report is written -/
theorem DV.cgD {V : RVal} {D D' : Nat → Nat → Nat} (h : DV V D) (e : ∀ f a, a ≠ 55 → a ≠ 56 → D' f a = D f a) : DV V D' := by
  refine ⟨fun d hd => ?_, ⟨?_, ?_, fun i hi => ?_⟩, ?_⟩
  · obtain ⟨a1, a2, a3, a4, a5⟩ := h.1 d hd
    exact ⟨by rw [e _ _ (by omega) (by omega)]; exact a1, by rw [e _ _ (by omega) (by omega)]; exact a2, by rw [e _ _ (by omega) (by omega)]; exact a3, by rw [e _ _ (by omega) (by omega)]; exact a4, fun i k hi hk => by rw [e _ _ (by omega) (by omega)]; exact a5 i k hi hk⟩
  · rw [e _ _ (by omega) (by omega)]; exact h.2.1.1
  · rw [e _ _ (by omega) (by omega)]; exact h.2.1.2.1
  · rw [e _ _ (by omega) (by omega)] at hi
    rw [e _ _ (by omega) (by omega)]
    exact h.2.1.2.2 i hi
  · rw [e _ _ (by omega) (by omega)]; exact h.2.2
theorem CSt.zx {F : Nat → Prop} {S : Hp} {x bx bu : Nat} {D : Nat → Nat → Nat} {g : Nat → Nat} {N ps : Nat} {gq : Nat → Nat → Nat} {ik : Nat} {gk : Nat → Nat} (h : CSt F S x bx bu D g N ps gq ik gk) : zX S ≤ bx ∧ zU S ≤ bu := by
  obtain ⟨w, K, E, A, c, hX1, -⟩ := h
  exact ⟨by have := hX1.2.2.1.1; omega, by have := hX1.2.2.1.2; omega⟩
/-- the class has written its report; the reference writes its own -/
theorem js_rep {G : GI} {T T' : Hp} {x m b a0 : Nat} {inp : Nat → Int32} {n B0 U0 k : Nat} {V : RVal} {g : Nat → Nat} {od : Nat → UInt64} {N ps : Nat} {gq : Nat → Nat → Nat} {ik : Nat} {gk : Nat → Nat} {D' : Nat → Nat → Nat} {pv cap : Nat} {pp : List (Nat × Nat)} {bx' bu' l : Nat} (hg1 : B0 + k + 1 ≤ gN G) (hg2 : U0 + 6 * k + 6 ≤ gM G) {c : Nat → Nat} (hr : Rel c g N) (hN3 : N < 2147483648) (hl : l < g 0) (hs : RS T m) (hc : CSt (LF m b a0 pv) T' x bx' bu' D' g N ps gq ik gk) (hf : FrF (LF m b a0 pv) (rput T m (sg V g) od) T') (hpm : PM (rput T m (sg V g) od) m pv cap pp) (hpd : PD D' (rep g l)) (hb : ((a0 = b ∧ m + 11 < b) ∧ m + 11 < pv ∧ pv ≠ b) ∧ (zT (rput T m (sg V g) od) b = 102 ∧ zN (rput T m (sg V g) od) b = 1) ∧ zT (rput T m (sg V g) od) a0 = 102 ∧ zN (rput T m (sg V g) od) a0 = n ∧ ∀ i, i < n → zA (rput T m (sg V g) od) a0 i = inp i) (hB : bx' + fX (D' 999 56) + fX cap ≤ B0 + k ∧ bu' + fU (D' 999 56) + fU cap ≤ U0 + 6 * k) (hN : N ≤ 10000 * k) (h8 : B8 g gq ps ik gk (D' 161 51) k) (hps : PsV V ps gq) (hkv : KV V ik gk) (hdv : DV V D') : MO m_X13_report G [.int (nI l)] (uL T' b 0 (nI (tL (rep g l))).toInt64) x m b a0 inp n B0 U0 k 0 := by
  obtain ⟨hr1, hs'⟩ := frf_rput lf_m hf hs
  have hs3 : RS (uL T' b 0 (nI (tL (rep g l))).toInt64) m := hs'
  have hU : uL T' b 0 (nI (tL (rep g l))).toInt64 = rput (uL T' b 0 (nI (tL (rep g l))).toInt64) m (sg V g) od := by rw [← uL_rput, hr1]
  have hb1 := hf b (Or.inr (Or.inr (Or.inl rfl)))
  have ha1 := hf a0 (Or.inr (Or.inr (Or.inr rfl)))
  obtain ⟨⟨⟨q1, q2⟩, q3, q4⟩, hb2, hb3, hb4, hb5⟩ := hb
  have hc3 : CSt (LF m b a0 pv) (uL T' b 0 (nI (tL (rep g l))).toInt64) x bx' bu' D' g N ps gq ik gk := hc.uL (i := 0) (v := (nI (tL (rep g l))).toInt64) (show LF m b a0 pv b from Or.inr (Or.inr (Or.inl rfl)))
  have hpm3 : PM T' m pv cap pp := hpm.fr hf (Or.inl ⟨by omega, by omega⟩) (Or.inr (Or.inl rfl)) hc.fs
  have hpm4 : PM (uL T' b 0 (nI (tL (rep g l))).toInt64) m pv cap pp := hpm3.fr (F := fun a => a = m + 11 ∨ a = pv) (fun a ha => ⟨⟨rfl, rfl⟩, fun f => rfl, fun f => rfl, rfl, funext fun i => if_neg (fun (q : a = b ∧ i = 0) => by omega), rfl, rfl⟩) (Or.inl rfl) (Or.inr rfl) (show FS T' from hc.fs)
  have hzb : zT T' b = 102 := hb1.1.1.trans hb2.1
  have hza : zT T' a0 = 102 := ha1.1.1.trans hb3
  have hA : ∀ i, i < n → zA T' a0 i = inp i := fun i hi => (congrFun ha1.2.2.2.1 i).trans (hb5 i hi)
  have hzx := hc3.zx
  have hbx : b < zX T' := Nat.not_le.mp fun q => by have := hc.fs b q; omega
  unfold MO
  refine ⟨⟨hs3.1, hza, ha1.1.2.trans hb4, fun i hi => hA i hi⟩, ?_⟩
  rw [hU]
  rw [hU] at hc3
  have hL := hr.lot hl
  refine Cn.mono (fun r U hq => ?_) (q_report_0 (V := V) (g := g) (od := od) hs3 hr.n24 hr.wb hl hL.z hL.pr hL.st (by have := hL.1.2.2.2.1; omega) hL.i hpm4 (by omega) (by omega))
  obtain ⟨hv, T2, rfl, hs2, v2, cap2, y, hjb, hy⟩ := hq
  have hc4 := hc3.rp (V' := sg (up2 V 0 6 (nI 0)) g) (od' := od) lf_m
  have hfr := hjb.2.2.2.2.1
  have hFU := hjb.2.2.2.1.2
  have hv2 := hjb.2.2.2.2.2.1
  have hxx := hjb.2.2.2.2.2.2
  have hSb := hfr b (by show zT T' b ≠ 0; omega)
  have hSa := hfr a0 (by show zT T' a0 ≠ 0; omega)
  have hS0 : zX (rput (uL T' b 0 (nI (tL (rep g l))).toInt64) m (sg (up2 V 0 6 (nI 0)) g) od) = zX T' := rfl
  have hU0 : zU (rput (uL T' b 0 (nI (tL (rep g l))).toInt64) m (sg (up2 V 0 6 (nI 0)) g) od) = zU T' := rfl
  rw [hS0, hU0] at hxx
  rw [hS0] at hv2
  have hSam := hSb.2 (by omega) (by omega)
  have hSaa := hSa.2 (by omega) (fun e => by have := hpm3; obtain ⟨y9, hy9, -⟩ := this; have := hy9.tv; rw [← e] at this; omega)
  have hv3 : m + 11 < v2 ∧ v2 ≠ b := ⟨by rcases hv2.1 with e | e <;> omega, fun e => by have h1 := hjb.tv; have h2 := hSb.1.1; rw [e] at h1; rw [h1] at h2; have h3 : (104 : Nat) = zT T' b := h2; omega⟩
  have hcU : fU cap2 ≤ fU cap := by
    obtain ⟨y9, hy9, -⟩ := hpm3
    have k1 := hy9.ok
    have k2 := hjb.ok
    have k3 : fX cap2 ≤ fX cap := by have := hv2.2; have := hxx.1; omega
    rcases k1 with e | e | e | e <;> rcases k2 with e2 | e2 | e2 | e2 <;> rw [e, e2] at k3 ⊢ <;> revert k3 <;> decide
  have hB1 : bx' + (zX (rput T2 m (sg (up2 V 0 6 (nI 0)) g) od) - zX T') + fX (D' 999 56) + fX cap2 ≤ B0 + (k + 1) := by have := hv2.2; have := hxx.1; have := hB.1; omega
  have hB2 : bu' + (zU (rput T2 m (sg (up2 V 0 6 (nI 0)) g) od) - zU T') + fU (D' 999 56) + fU cap2 ≤ U0 + 6 * (k + 1) := by
    have u1 := hxx.2
    have u2 := hB.2
    have u3 := hcU
    omega
  refine ⟨nI (tL (rep g l)), hv, (q_thrown (V := up2 V 0 6 (nI 0)) (g := g) (od := od) hs2).eq (by rw [up2_s]) rfl, fun _ => ?_, T2, up2 V 0 6 (nI 0), g, od, N, ps, gq, ik, gk, D', v2, cap2, rep g l, bx' + (zX (rput T2 m (sg (up2 V 0 6 (nI 0)) g) od) - zX T'), bu' + (zU (rput T2 m (sg (up2 V 0 6 (nI 0)) g) od) - zU T'), rfl, hs2, ?_, ⟨hps.cg (up2_n (by omega)) (fun i => up2_n (by omega)), hkv.cg (up2_n (by omega)) (fun i => up2_n (by omega)), hdv.cg (fun i => up2_n (by omega)) (fun i => up2_n (by omega)) (up2_n (by omega)) (up2_n (by omega))⟩, ⟨⟨y, JB.start hjb.tb hjb.pv hjb.tv hjb.nv hjb.co hjb.cn hjb.ok hjb.le hjb.2.2.1.1 hjb.2.2.1.2 hFU, hy⟩, hpd⟩, ⟨⟨⟨q1, q2⟩, hv3.1, hv3.2⟩, ⟨hSb.1.1.trans hzb, hSb.1.2.trans (hb1.1.2.trans hb2.2)⟩, hSa.1.1.trans hza, hSa.1.2.trans (ha1.1.2.trans hb4), fun i hi => ?_⟩, ⟨hB1, hB2⟩, by omega, h8.q (by omega)⟩
  · refine (congrFun hSam.2.2.2.1 0).trans ?_
    exact if_pos ⟨rfl, rfl⟩
  · refine hc4.far (fun a ha => ⟨(hfr a ha).1, fun hn => (hfr a ha).2 (fun e => hn (Or.inl ⟨by omega, by omega⟩)) (fun e => hn (Or.inr (Or.inl e)))⟩) hFU (by rw [hS0]; exact hv2.2) ⟨by rw [hS0]; omega, by rw [hU0]; omega⟩ (fun a ha => ?_)
    by_cases e : a = v2
    · rw [e]
      exact ⟨by rw [hjb.tv]; decide, hv2.1.imp (fun q => Or.inr (Or.inl q)) (fun q => by rw [hS0]; exact q)⟩
    · have ha2 : LF m b a0 pv a := by
        rcases ha with q | q | q | q
        · exact Or.inl q
        · exact absurd q e
        · exact Or.inr (Or.inr (Or.inl q))
        · exact Or.inr (Or.inr (Or.inr q))
      have h1 := hc4.fz ha2
      exact ⟨by rw [(hfr a h1).1.1]; exact h1, Or.inl ha2⟩
  · refine (congrFun hSaa.2.2.1 i).trans ((if_neg (by omega)).trans (hA i hi))
theorem j_report {G : GI} {S : Hp} {x m b a0 : Nat} {inp : Nat → Int32} {n B0 U0 k : Nat} (h : JS S x m b a0 inp n B0 U0 k) (h1 : B0 + k + 1 ≤ gN G) (h2 : U0 + 6 * k + 6 ≤ gM G) (hk : k < 130000) {y0 : Int32} : CnH m_L_report G [.ref x, .int y0, .ref b] S (WO m_X13_report G [.int y0] x m b a0 inp n B0 U0 k) := by
  obtain ⟨T, V, g, od, N, ps, gq, ik, gk, D, pv, cap, pp, bx, bu, rfl, hs, hc, ⟨hps, hkv, hdv⟩, ⟨hpm, hpd⟩, hb, ⟨hB, hU⟩, hN, h8⟩ := h
  have hbF : LF m b a0 pv b := Or.inr (Or.inr (Or.inl rfl))
  obtain ⟨c0, hr⟩ := hc.rel
  have h24 := hr.n24
  have hbw := hr.wb
  by_cases h0 : vp_in y0 (g 0)
  · obtain ⟨l, hl, rfl⟩ := vp_in_of h0 (by omega)
    refine CnH.mono (fun r U hq => ?_) (l_report hc.t0 (s_report_0 hc hpd (by omega) (by omega) (by omega) hl) (fun o T' hq => ?_))
    · rcases hq with ⟨v1, T1, ⟨e, D', bx', bu', hc2, hf, hpd2, hdd, hr1, hr2⟩, rfl, rfl⟩ | ⟨⟨e, -⟩, -⟩
      · cases e
        exact ⟨0, by decide, rfl, js_rep h1 h2 hr (by omega) hl hs hc2 hf hpm hpd2 hb ⟨by omega, by omega⟩ hN (by rw [hdd 161 51 (by decide) (by decide)]; exact h8) hps hkv (hdv.cgD hdd)⟩
      · cases e
    · obtain ⟨rfl, D', bx', bu', hc2, hf, -⟩ := hq
      exact ⟨⟨(hf b hbF).1.1.trans hb.2.1.1, (hf b hbF).1.2.trans hb.2.1.2⟩, Or.inl ⟨_, rfl⟩⟩
  · refine CnH.mono (fun r U hq => ?_) (l_report hc.t0 (s_report_1 hc (by omega) (by omega) h0) (fun o T' hq => ?_))
    · rcases hq with ⟨v1, T1, ⟨e, -⟩, -⟩ | ⟨⟨e, hc2, hf⟩, rfl⟩
      · cases e
      · exact ⟨1, by decide, rfl, js_gk hs hc2 hf hpm hpd hb ⟨by omega, by omega⟩ (by omega) (h8.q (by omega)) (by decide) (fun T3 hs3 hpm3 => Cn.mono (fun r U hq => by obtain ⟨hv, rfl⟩ := hq; exact ⟨_, _, od, hv, rfl, up2_s, hps.cg (up2_n (by omega)) (fun i => up2_n (by omega)), hkv.cg (up2_n (by omega)) (fun i => up2_n (by omega)), hdv.cg (fun i => up2_n (by omega)) (fun i => up2_n (by omega)) (up2_n (by omega)) (up2_n (by omega))⟩) (q_report_1 (V := V) (g := g) (od := od) hs3 h24 h0))⟩
    · obtain ⟨rfl, hc2, hf⟩ := hq
      exact ⟨⟨(hf b hbF).1.1.trans hb.2.1.1, (hf b hbF).1.2.trans hb.2.1.2⟩, Or.inr (rfl)⟩
