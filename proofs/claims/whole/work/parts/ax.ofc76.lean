/-! A STEP OF THE LAW -/
theorem CnH.mono {M : MI} {G : GI} {S : Hp} {Q : OV → Hp → Prop} {av : List Value} {Q' : OV → Hp → Prop} (h : ∀ o T, Q' o T → Q o T) (k : CnH M G av S Q') : CnH M G av S Q := by
  intro p e ha hc hk s m args below hf h1 hP hT
  obtain ⟨t, o, a1, a2, a3, a4⟩ := k p e ha hc hk s m args below hf h1 hP hT
  refine ⟨t, o, a1, a2, a3, ?_⟩
  rcases a4 with ⟨⟨v, S', e1, e2, e3⟩, b4⟩ | ⟨q, e1, E, ce, L, ⟨S', e2, e3⟩, e4⟩
  · exact Or.inl ⟨⟨v, S', e1, h _ _ e2, e3⟩, b4⟩
  · exact Or.inr ⟨q, e1, E, ce, L, ⟨S', h _ _ e2, e3⟩, e4⟩
/-- the reference answers: thrown is kd, and where it is 0 the answer is the one that lies in the row b -/
def MO (M : MI) (G : GI) (as : List Value) (S : Hp) (x m b a0 : Nat) (inp : Nat → Int32) (n B0 U0 k kd : Nat) : Prop := (zT S m = 15 ∧ zT S a0 = 102 ∧ zN S a0 = n ∧ ∀ i, i < n → zA S a0 i = inp i) ∧ Cn M G (.ref m :: as) S (fun r U => ∃ res : Int32, r = .inl (some (.int res)) ∧ Fn m_X13_thrown G [.ref m] U (some (.int (nI kd))) U ∧ (kd = 0 → zL U b 0 = res.toInt64) ∧ JS U x m b a0 inp n B0 U0 (k + 1))
/-- .. of what the class's wrapper answers -/
def WO (M : MI) (G : GI) (as : List Value) (x m b a0 : Nat) (inp : Nat → Int32) (n B0 U0 k : Nat) : OV → Hp → Prop := fun r U => ∃ kd, kd < 8 ∧ r = .inl (some (.int (nI kd))) ∧ MO M G as U x m b a0 inp n B0 U0 k kd
section StepRules
variable {M : MI} {G : GI} {as : List Value} {T T' : Hp} {x m b a0 : Nat} {inp : Nat → Int32} {n B0 U0 k : Nat} {V : RVal} {g g' : Nat → Nat} {od : Nat → UInt64} {N' ps' : Nat} {gq' : Nat → Nat → Nat} {ik' : Nat} {gk' : Nat → Nat} {D' : Nat → Nat → Nat} {pv cap : Nat} {pp pp' : List (Nat × Nat)} {bx' bu' : Nat}
theorem lf_m {pv : Nat} : ∀ a, m ≤ a → a ≤ m + 10 → LF m b a0 pv a := fun a h1 h2 => Or.inl ⟨h1, by omega⟩
theorem js_g0 (hs : RS T m) (hc : CSt (LF m b a0 pv) T' x bx' bu' D' g' N' ps' gq' ik' gk') (hf : FrF (LF m b a0 pv) (rput T m (sg V g) od) T') (hpm : PM (rput T m (sg V g) od) m pv cap pp) (hpd : PD D' pp) (hb : ((a0 = b ∧ m + 11 < b) ∧ m + 11 < pv ∧ pv ≠ b) ∧ (zT (rput T m (sg V g) od) b = 102 ∧ zN (rput T m (sg V g) od) b = 1) ∧ zT (rput T m (sg V g) od) a0 = 102 ∧ zN (rput T m (sg V g) od) a0 = n ∧ ∀ i, i < n → zA (rput T m (sg V g) od) a0 i = inp i) (hB : bx' + fX (D' 999 56) + fX cap ≤ B0 + (k + 1) ∧ bu' + fU (D' 999 56) + fU cap ≤ U0 + 6 * (k + 1)) (hN : N' ≤ 10000 * (k + 1)) (h8 : B8 g' gq' ps' ik' gk' (D' 161 51) (k + 1)) {z : Int64}
    (hM : ∀ T3, RS T3 m → PM T3 m pv cap pp → Cn M G (.ref m :: as) (rput T3 m (sg V g) od) (fun r U => ∃ (res : Int32) (V' : RVal) (od' : Nat → UInt64), r = .inl (some (.int res)) ∧ U = rput T3 m (sg V' g') od' ∧ V' 0 6 = nI 0 ∧ res.toInt64 = z ∧ PsV V' ps' gq' ∧ KV V' ik' gk' ∧ DV V' D')) : MO M G as (uL T' b 0 z) x m b a0 inp n B0 U0 k 0 := by
  obtain ⟨hr, hs'⟩ := frf_rput lf_m hf hs
  have hs3 : RS (uL T' b 0 z) m := hs'
  have hU : uL T' b 0 z = rput (uL T' b 0 z) m (sg V g) od := by rw [← uL_rput, hr]
  have hb1 := hf b (Or.inr (Or.inr (Or.inl rfl)))
  have ha1 := hf a0 (Or.inr (Or.inr (Or.inr rfl)))
  obtain ⟨⟨⟨q1, q2⟩, q3, q4⟩, hb2, hb3, hb4, hb5⟩ := hb
  have hc3 : CSt (LF m b a0 pv) (uL T' b 0 z) x bx' bu' D' g' N' ps' gq' ik' gk' := hc.uL (i := 0) (v := z) (show LF m b a0 pv b from Or.inr (Or.inr (Or.inl rfl)))
  have hpm3 : PM T' m pv cap pp := hpm.fr hf (Or.inl ⟨by omega, by omega⟩) (Or.inr (Or.inl rfl)) hc.fs
  have hpm4 : PM (uL T' b 0 z) m pv cap pp := hpm3.fr (F := fun a => a = m + 11 ∨ a = pv) (fun a ha => ⟨⟨rfl, rfl⟩, fun f => rfl, fun f => rfl, rfl, funext fun i => if_neg (fun (q : a = b ∧ i = 0) => by omega), rfl, rfl⟩) (Or.inl rfl) (Or.inr rfl) (show FS T' from hc.fs)
  unfold MO
  refine ⟨⟨hs3.1, ha1.1.1.trans hb3, ha1.1.2.trans hb4, fun i hi => (congrFun ha1.2.2.2.1 i).trans (hb5 i hi)⟩, ?_⟩
  rw [hU]
  refine Cn.mono (fun r U hq => ?_) (hM _ hs3 hpm4)
  obtain ⟨res, V', od', hv, rfl, h6, hz, hps, hkv, hdv⟩ := hq
  refine ⟨res, hv, (q_thrown (V := V') (g := g') (od := od') hs3).eq (by rw [h6]) rfl, fun _ => ?_, uL T' b 0 z, V', g', od', N', ps', gq', ik', gk', D', pv, cap, pp, bx', bu', rfl, hs3, ?_, ⟨hps, hkv, hdv⟩, ⟨?_, hpd⟩, ⟨⟨⟨q1, q2⟩, q3, q4⟩, ⟨hb1.1.1.trans hb2.1, hb1.1.2.trans hb2.2⟩, ha1.1.1.trans hb3, ha1.1.2.trans hb4, fun i hi => ?_⟩, hB, hN, h8⟩
  · show up2 (zL T') b 0 z b 0 = res.toInt64
    exact (if_pos ⟨rfl, rfl⟩).trans hz.symm
  · rw [hU] at hc3
    exact hc3.rp lf_m
  · refine hpm3.fr (F := fun a => a = m + 11 ∨ a = pv) (fun a ha => ⟨⟨rfl, rfl⟩, ?_⟩) (Or.inl rfl) (Or.inr rfl) (show FS T' from hc.fs)
    have k1 : a ≠ m := by omega
    have k2 : ¬ (m + 1 ≤ a ∧ a ≤ m + 10) := by omega
    have k3 : a ≠ m + 6 := by omega
    have k4 : a ≠ b := by omega
    exact ⟨fun f => if_neg (fun q => k1 q.1), fun f => rfl, funext fun i => if_neg k2, funext fun i => if_neg (fun (q : a = b ∧ i = 0) => k4 q.1), funext fun i => if_neg k3, rfl⟩
  · refine Eq.trans ?_ ((congrFun ha1.2.2.2.1 i).trans (hb5 i hi))
    exact if_neg (by omega)
theorem js_gk (hs : RS T m) (hc : CSt (LF m b a0 pv) T' x bx' bu' D' g' N' ps' gq' ik' gk') (hf : FrF (LF m b a0 pv) (rput T m (sg V g) od) T') (hpm : PM (rput T m (sg V g) od) m pv cap pp) (hpd : PD D' pp) (hb : ((a0 = b ∧ m + 11 < b) ∧ m + 11 < pv ∧ pv ≠ b) ∧ (zT (rput T m (sg V g) od) b = 102 ∧ zN (rput T m (sg V g) od) b = 1) ∧ zT (rput T m (sg V g) od) a0 = 102 ∧ zN (rput T m (sg V g) od) a0 = n ∧ ∀ i, i < n → zA (rput T m (sg V g) od) a0 i = inp i) (hB : bx' + fX (D' 999 56) + fX cap ≤ B0 + (k + 1) ∧ bu' + fU (D' 999 56) + fU cap ≤ U0 + 6 * (k + 1)) (hN : N' ≤ 10000 * (k + 1)) (h8 : B8 g' gq' ps' ik' gk' (D' 161 51) (k + 1)) {kd : Nat} (hkd : kd ≠ 0)
    (hM : ∀ T3, RS T3 m → PM T3 m pv cap pp → Cn M G (.ref m :: as) (rput T3 m (sg V g) od) (fun r U => ∃ (res : Int32) (V' : RVal) (od' : Nat → UInt64), r = .inl (some (.int res)) ∧ U = rput T3 m (sg V' g') od' ∧ V' 0 6 = nI kd ∧ PsV V' ps' gq' ∧ KV V' ik' gk' ∧ DV V' D')) : MO M G as (T') x m b a0 inp n B0 U0 k kd := by
  obtain ⟨hr, hs'⟩ := frf_rput lf_m hf hs
  have hs3 : RS (T') m := hs'
  have hU : T' = rput (T') m (sg V g) od := hr.symm
  have hb1 := hf b (Or.inr (Or.inr (Or.inl rfl)))
  have ha1 := hf a0 (Or.inr (Or.inr (Or.inr rfl)))
  obtain ⟨⟨⟨q1, q2⟩, q3, q4⟩, hb2, hb3, hb4, hb5⟩ := hb
  have hc3 : CSt (LF m b a0 pv) (T') x bx' bu' D' g' N' ps' gq' ik' gk' := hc
  have hpm3 : PM T' m pv cap pp := hpm.fr hf (Or.inl ⟨by omega, by omega⟩) (Or.inr (Or.inl rfl)) hc.fs
  unfold MO
  refine ⟨⟨hs3.1, ha1.1.1.trans hb3, ha1.1.2.trans hb4, fun i hi => (congrFun ha1.2.2.2.1 i).trans (hb5 i hi)⟩, ?_⟩
  rw [hU]
  refine Cn.mono (fun r U hq => ?_) (hM _ hs3 hpm3)
  obtain ⟨res, V', od', hv, rfl, h6, hps, hkv, hdv⟩ := hq
  refine ⟨res, hv, (q_thrown (V := V') (g := g') (od := od') hs3).eq (by rw [h6]) rfl, fun e => absurd e hkd, T', V', g', od', N', ps', gq', ik', gk', D', pv, cap, pp, bx', bu', rfl, hs3, ?_, ⟨hps, hkv, hdv⟩, ⟨?_, hpd⟩, ⟨⟨⟨q1, q2⟩, q3, q4⟩, ⟨hb1.1.1.trans hb2.1, hb1.1.2.trans hb2.2⟩, ha1.1.1.trans hb3, ha1.1.2.trans hb4, fun i hi => ?_⟩, hB, hN, h8⟩
  · rw [hU] at hc3
    exact hc3.rp lf_m
  · refine hpm3.fr (F := fun a => a = m + 11 ∨ a = pv) (fun a ha => ⟨⟨rfl, rfl⟩, ?_⟩) (Or.inl rfl) (Or.inr rfl) (show FS T' from hc.fs)
    have k1 : a ≠ m := by omega
    have k2 : ¬ (m + 1 ≤ a ∧ a ≤ m + 10) := by omega
    have k3 : a ≠ m + 6 := by omega
    have k4 : a ≠ b := by omega
    exact ⟨fun f => if_neg (fun q => k1 q.1), fun f => rfl, funext fun i => if_neg k2, rfl, funext fun i => if_neg k3, rfl⟩
  · refine Eq.trans ?_ ((congrFun ha1.2.2.2.1 i).trans (hb5 i hi))
    exact if_neg (by omega)
end StepRules
