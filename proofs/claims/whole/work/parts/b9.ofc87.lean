/-! STEPS OF THE LAW: the error's place, saving (called straight) -/
def EO (M : MI) (G : GI) (as : List Value) (S : Hp) (x m b a0 : Nat) (inp : Nat → Int32) (n B0 U0 k : Nat) (v : Int32) : Prop := (zT S m = 15 ∧ zT S a0 = 102 ∧ zN S a0 = n ∧ ∀ i, i < n → zA S a0 i = inp i) ∧ Cn M G (.ref m :: as) S (fun r U => r = .inl (some (.int v)) ∧ JS U x m b a0 inp n B0 U0 (k + 1))
section StepRulesE
variable {M : MI} {G : GI} {as : List Value} {T T' : Hp} {x m b a0 : Nat} {inp : Nat → Int32} {n B0 U0 k : Nat} {V : RVal} {g g' : Nat → Nat} {od : Nat → UInt64} {N' ps' : Nat} {gq' : Nat → Nat → Nat} {ik' : Nat} {gk' : Nat → Nat} {D' : Nat → Nat → Nat} {pv cap : Nat} {pp pp' : List (Nat × Nat)} {bx' bu' : Nat}
theorem js_e (hs : RS T m) (hc : CSt (LF m b a0 pv) T' x bx' bu' D' g' N' ps' gq' ik' gk') (hf : FrF (LF m b a0 pv) (rput T m (sg V g) od) T') (hpm : PM (rput T m (sg V g) od) m pv cap pp) (hpd : PD D' pp) (hb : ((a0 = b ∧ m + 11 < b) ∧ m + 11 < pv ∧ pv ≠ b) ∧ (zT (rput T m (sg V g) od) b = 102 ∧ zN (rput T m (sg V g) od) b = 1) ∧ zT (rput T m (sg V g) od) a0 = 102 ∧ zN (rput T m (sg V g) od) a0 = n ∧ ∀ i, i < n → zA (rput T m (sg V g) od) a0 i = inp i) (hB : bx' + fX (D' 999 56) + fX cap ≤ B0 + (k + 1) ∧ bu' + fU (D' 999 56) + fU cap ≤ U0 + 6 * (k + 1)) (hN : N' ≤ 10000 * (k + 1)) (h8 : B8 g' gq' ps' ik' gk' (D' 161 51) (k + 1)) {v : Int32}
    (hM : ∀ T3, RS T3 m → PM T3 m pv cap pp → Cn M G (.ref m :: as) (rput T3 m (sg V g) od) (fun r U => ∃ (V' : RVal) (od' : Nat → UInt64), r = .inl (some (.int v)) ∧ U = rput T3 m (sg V' g') od' ∧ PsV V' ps' gq' ∧ KV V' ik' gk' ∧ DV V' D')) : EO M G as T' x m b a0 inp n B0 U0 k v := by
  obtain ⟨hr, hs'⟩ := frf_rput lf_m hf hs
  have hs3 : RS (T') m := hs'
  have hU : T' = rput (T') m (sg V g) od := hr.symm
  have hb1 := hf b (Or.inr (Or.inr (Or.inl rfl)))
  have ha1 := hf a0 (Or.inr (Or.inr (Or.inr rfl)))
  obtain ⟨⟨⟨q1, q2⟩, q3, q4⟩, hb2, hb3, hb4, hb5⟩ := hb
  have hc3 : CSt (LF m b a0 pv) (T') x bx' bu' D' g' N' ps' gq' ik' gk' := hc
  have hpm3 : PM T' m pv cap pp := hpm.fr hf (Or.inl ⟨by omega, by omega⟩) (Or.inr (Or.inl rfl)) hc.fs
  unfold EO
  refine ⟨⟨hs3.1, ha1.1.1.trans hb3, ha1.1.2.trans hb4, fun i hi => (congrFun ha1.2.2.2.1 i).trans (hb5 i hi)⟩, ?_⟩
  rw [hU]
  refine Cn.mono (fun r U hq => ?_) (hM _ hs3 hpm3)
  obtain ⟨V', od', hv, rfl, hps, hkv, hdv⟩ := hq
  refine ⟨hv, T', V', g', od', N', ps', gq', ik', gk', D', pv, cap, pp, bx', bu', rfl, hs3, ?_, ⟨hps, hkv, hdv⟩, ⟨?_, hpd⟩, ⟨⟨⟨q1, q2⟩, q3, q4⟩, ⟨hb1.1.1.trans hb2.1, hb1.1.2.trans hb2.2⟩, ha1.1.1.trans hb3, ha1.1.2.trans hb4, fun i hi => ?_⟩, hB, hN, h8⟩
  · rw [hU] at hc3
    exact hc3.rp lf_m
  · refine hpm3.fr (F := fun a => a = m + 11 ∨ a = pv) (fun a ha => ⟨⟨rfl, rfl⟩, ?_⟩) (Or.inl rfl) (Or.inr rfl) (show FS T' from hc.fs)
    have k1 : a ≠ m := by omega
    have k2 : ¬ (m + 1 ≤ a ∧ a ≤ m + 10) := by omega
    have k3 : a ≠ m + 6 := by omega
    have k4 : a ≠ b := by omega
    exact ⟨fun f => if_neg (fun q => k1 q.1), fun f => rfl, funext fun i => if_neg k2, rfl, funext fun i => if_neg k3, rfl⟩
  · refine Eq.trans ?_ ((congrFun ha1.2.2.2.1 i).trans (hb5 i hi))
    exact if_neg (by omega)
end StepRulesE
theorem j_errorPosition {G : GI} {S : Hp} {x m b a0 : Nat} {inp : Nat → Int32} {n B0 U0 k : Nat} (h : JS S x m b a0 inp n B0 U0 k) (h1 : B0 + k + 1 ≤ gN G) (h2 : U0 + 6 * k + 6 ≤ gM G) (hk : k < 130000) : zT S x = 14 ∧ Cn m_X12_errorPosition G [.ref x] S (fun r U => ∃ v : Int32, r = .inl (some (.int v)) ∧ EO m_X13_errorPosition G [] U x m b a0 inp n B0 U0 k v) := by
  obtain ⟨T, V, g, od, N, ps, gq, ik, gk, D, pv, cap, pp, bx, bu, rfl, hs, hc, ⟨hps, hkv, hdv⟩, ⟨hpm, hpd⟩, hb, ⟨hB, hU⟩, hN, h8⟩ := h
  have hbF : LF m b a0 pv b := Or.inr (Or.inr (Or.inl rfl))
  obtain ⟨c0, hr⟩ := hc.rel
  have h24 := hr.n24
  refine ⟨hc.t0, Cn.mono (fun r U hq => ?_) (s_errorPosition hc)⟩
  obtain ⟨rfl, hc2, hf⟩ := hq
  exact ⟨_, rfl, js_e hs hc2 hf hpm hpd hb ⟨by omega, by omega⟩ (by omega) (h8.q (by omega)) (fun T3 hs3 hpm3 => Cn.mono (fun r U hq => by obtain ⟨hv, rfl⟩ := hq; exact ⟨_, od, hv.trans (by rw [hdv.2.2]), rfl, hps.cg (up2_n (by omega)) (fun i => up2_n (by omega)), hkv.cg (up2_n (by omega)) (fun i => up2_n (by omega)), hdv.cg (fun i => up2_n (by omega)) (fun i => up2_n (by omega)) (up2_n (by omega)) (up2_n (by omega))⟩) (q_errorPosition (V := V) (g := g) (od := od) hs3))⟩
theorem j_save {G : GI} {S : Hp} {x m b a0 : Nat} {inp : Nat → Int32} {n B0 U0 k : Nat} (h : JS S x m b a0 inp n B0 U0 k) (h1 : B0 + k + 1 ≤ gN G) (h2 : U0 + 6 * k + 6 ≤ gM G) (hk : k < 130000) : zT S x = 14 ∧ Cn m_X12_save G [.ref x] S (fun r U => ∃ v : Int32, r = .inl (some (.int v)) ∧ EO m_X13_save G [] U x m b a0 inp n B0 U0 k v) := by
  obtain ⟨T, V, g, od, N, ps, gq, ik, gk, D, pv, cap, pp, bx, bu, rfl, hs, hc, ⟨hps, hkv, hdv⟩, ⟨hpm, hpd⟩, hb, ⟨hB, hU⟩, hN, h8⟩ := h
  have hbF : LF m b a0 pv b := Or.inr (Or.inr (Or.inl rfl))
  obtain ⟨c0, hr⟩ := hc.rel
  have h24 := hr.n24
  refine ⟨hc.t0, Cn.mono (fun r U hq => ?_) (s_save hc (by omega) (by omega))⟩
  obtain ⟨rfl, hc2, hf⟩ := hq
  refine ⟨_, rfl, js_e hs hc2 hf hpm hpd hb ⟨by omega, by omega⟩ (by omega) h8.save (fun T3 hs3 hpm3 => Cn.mono (fun r U hq => ?_) (c_save (V := V) (g := g) (od := od) hs3 h24))⟩
  obtain ⟨hv, rfl⟩ := hq
  refine ⟨_, od, hv, rfl, hps.cg ((cpR_n (by omega)).trans ((up2_n (by omega)).trans (up2_n (by omega)))) (fun i => (cpR_n (by omega)).trans ((up2_n (by omega)).trans (up2_n (by omega)))), ⟨(cpR_n (by omega)).trans up2_s, fun _ => ⟨h24, fun i hi => ?_⟩⟩, hdv.cg (fun i => (cpR_n (by omega)).trans ((up2_n (by omega)).trans (up2_n (by omega)))) (fun i => (cpR_n (by omega)).trans ((up2_n (by omega)).trans (up2_n (by omega)))) ((cpR_n (by omega)).trans ((up2_n (by omega)).trans (up2_n (by omega)))) ((cpR_n (by omega)).trans ((up2_n (by omega)).trans (up2_n (by omega))))⟩
  have z := cpR_r (V := up2 (up2 V 0 6 (nI 0)) 0 3 (nI 1)) (j := 2) (q := 0) (f := fun i => sg (up2 (up2 V 0 6 (nI 0)) 0 3 (nI 1)) g 1 (0 + i)) hi
  rw [Nat.zero_add] at z
  exact z
