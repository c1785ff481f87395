theorem MK.fin {c d d9 g G : Nat → Nat} {N l n p a K : Nat} {tt : Nat → Nat} {ee : Nat → Nat → Nat} (hr : Rel c g N) (hl : g 0 = l) (hl24 : l < 24) (hn0 : 0 < n) (hn : n ≤ 200) (hp : p < 4) (ha : a < 6) (hK3 : K ≤ 3) (htl : ∀ k, k < K → tt k < l) (htd : ∀ j k, j < k → k < K → tt j ≠ tt k) (hes : ∀ k, k < K → ∀ u, u < n → ee k u < g (90 + 13 * tt k + 1)) (h : MK c g l n p a K tt ee K d G) (hw : WK d l a n d9) : Rel (up1 d9 0 (l + 1)) (wrkI G a l n) (N + n) := by
  obtain ⟨a1, ⟨a2, a2z⟩, a3, a4, a5, hB, hC, hD, hW⟩ := h
  obtain ⟨K1, K2, K3⟩ := hw
  obtain ⟨W1, W2⟩ := wrkI_pt (g := G) (l := l) ha n
  obtain ⟨m0, m1, m2⟩ := hr.mb ha
  have gm0 : G (4 + 3 * a) = g (4 + 3 * a) := a2 _ (by omega) (by omega)
  have gm1 : G (4 + 3 * a + 1) = g (4 + 3 * a + 1) := a2 _ (by omega) (by omega)
  have gm2 : G (4 + 3 * a + 2) = g (4 + 3 * a + 2) := a2 _ (by omega) (by omega)
  have dm0 : d (4 + 3 * a) = g (4 + 3 * a) := (a1 _ (by omega)).trans (hr.m0 ha)
  have dm1 : d (4 + 3 * a + 1) = g (4 + 3 * a + 1) := (a1 _ (by omega)).trans (hr.m1 ha)
  have dm2 : d (4 + 3 * a + 2) = g (4 + 3 * a + 2) := (a1 _ (by omega)).trans (hr.m2 ha)
  have cj : ∀ j, 1 ≤ j → j ≠ 4 + 3 * a + 2 → (∀ v, v < n → j ≠ 402 + 8 * (200 * l + v) + 1) → up1 d9 0 (l + 1) j = d j := fun j h1 h2 h3 => (up1_n (by omega)).trans (K1 j h2 h3)
  have gj : ∀ j, j < 402 → j ≠ 4 + 3 * a + 2 → wrkI G a l n j = G j := fun j h1 h2 => wrkI_lo h1 h2 n
  have chd : ∀ f, f < 13 → up1 d9 0 (l + 1) (90 + 13 * l + f) = d (90 + 13 * l + f) := fun f hf => cj _ (by omega) (by omega) (fun v hv => by omega)
  have ghd : ∀ f, f < 13 → wrkI G a l n (90 + 13 * l + f) = G (90 + 13 * l + f) := fun f hf => gj _ (by omega) (by omega)
  obtain ⟨r0, r1, r2, r3, r4, r5, r6, r7, r8, r9⟩ := a3
  obtain ⟨s0, s1, s2, s3, s4, s5, s6, s7, s8, s9⟩ := a4
  refine Rel.grow (n := n) (K := K) (tt := tt) (ee := ee) hr hl hl24 (Nat.le_add_right _ _) up1_s ((gj 0 (by omega) (by omega)).trans a2z) (fun j h1 h2 h3 => (cj j h1 (h3 a ha) (fun v hv => by omega)).trans (a1 j h2)) (fun j h1 h2 h3 => (gj j (by omega) (h3 a ha)).trans (a2 j h1 h2)) (fun i hi => ?_) htl ?_ (fun f hf => ?_) (fun k hk => ?_) ((ghd 1 (by decide)).trans s1) ((ghd 8 (by decide)).trans s8) ((ghd 3 (by decide)).trans s3) (fun t v ht hv => ?_) (fun t v ht hv => ?_) (fun u k hu hk => ?_) (fun u hu => ?_) (WB.wrkI ha (by omega) hW n)
  · by_cases q : i = a
    · subst q
      rw [wrkI_c ha, up1_n (by omega), K2, dm2, gm2]
      exact ⟨rfl, by omega⟩
    · rw [cj _ (by omega) (by omega) (fun v hv => by omega), gj _ (by omega) (by omega), a1 _ (by omega), a2 _ (by omega) (by omega), hr.m2 hi]
      exact ⟨rfl, by have := (hr.mb hi).2.2; omega⟩
  · refine ⟨by rw [ghd 0 (by decide), s0]; exact hp, by rw [ghd 1 (by decide), s1]; exact ⟨hn0, hn⟩, by rw [ghd 2 (by decide), s2]; decide, by rw [ghd 3 (by decide), s3]; exact Nat.zero_le _, by rw [ghd 8 (by decide), s8]; exact hK3, by rw [ghd 9 (by decide), s9]; exact ha, fun k hk => ?_, fun j k hj hk => ?_, fun q => ?_⟩
    · rw [ghd 8 (by decide), s8] at hk
      rw [ghd (10 + k) (by omega), (a5 k hk).2]
      exact htl k hk
    · rw [ghd 8 (by decide), s8] at hk
      rw [ghd (10 + j) (by omega), ghd (10 + k) (by omega), (a5 k hk).2, (a5 j (by omega)).2]
      exact htd j k hj hk
    · exact absurd ((ghd 3 (by decide)).trans s3) q
  · rw [chd f (by omega), ghd f (by omega)]
    match f, hf with
    | 0, _ => exact r0.trans s0.symm | 1, _ => exact r1.trans s1.symm | 2, _ => exact r2.trans s2.symm | 3, _ => exact r3.trans s3.symm | 4, _ => exact r4.trans s4.symm | 5, _ => exact r5.trans s5.symm | 6, _ => exact r6.trans s6.symm | 7, _ => exact r7.trans s7.symm | 8, _ => exact r8.trans s8.symm | 9, _ => exact r9.trans s9.symm
  · rw [chd (10 + k) (by omega), ghd (10 + k) (by omega)]
    exact a5 k hk
  · have hz := (hr.lot (l := t) (by omega)).z
    have e1 : ∀ f, f < 6 → up1 d9 0 (l + 1) (402 + 8 * (200 * t + v) + f) = d (402 + 8 * (200 * t + v) + f) := fun f hf => cj _ (by omega) (by omega) (fun v hv => by omega)
    have e2 : wrkI G a l n (402 + 2 * (200 * t + v)) = G (402 + 2 * (200 * t + v)) := W2 _ (by omega) (fun u hu => by omega)
    rcases hB t v ht hv with ⟨x1, x2⟩ | ⟨k2, u, h1, h2, h3, h4, h5, ⟨h6, h7, h8⟩, h9⟩
    · exact Or.inl ⟨fun f hf => (e1 f hf).trans (x1 f hf), e2.trans x2⟩
    · exact Or.inr ⟨k2, u, h1, h2, h3, h4, h5, ⟨(e1 0 (by decide)).trans h6, (e1 4 (by decide)).trans h7, fun f hf f0 f4 => (e1 f hf).trans (h8 f hf f0 f4)⟩, e2.trans h9⟩
  · exact (W2 _ (by omega) (fun u hu => by omega)).trans (hC t v ht hv)
  · obtain ⟨_, _, _, _, x5⟩ := hD u hu
    obtain ⟨y1, y2, y3⟩ := x5 k hk
    have hz := (hr.lot (l := tt k) (by have := htl k hk; omega)).z
    have ht := htl k hk
    have he := hes k hk u hu
    rw [W2 _ (by omega) (fun v hv => by omega), W2 _ (by omega) (fun v hv => by omega), cj _ (by omega) (by omega) (fun v hv => by omega)]
    exact ⟨y1, he, y2, y3⟩
  · obtain ⟨⟨x0, x1, x2, x3, x4, x5⟩, y1, y2, _, _⟩ := hD u hu
    have e1 : ∀ f, f < 6 → f ≠ 1 → up1 d9 0 (l + 1) (402 + 8 * (200 * l + u) + f) = d (402 + 8 * (200 * l + u) + f) := fun f hf h1 => cj _ (by omega) (by omega) (fun v hv => by omega)
    have e2 := W1 u hu
    rw [gm0, gm1, gm2] at e2
    obtain ⟨z1, z2, z3, z4, z5, z6, z7⟩ := wkW_w (p := g (4 + 3 * a)) (cn := g (4 + 3 * a + 2) + u) (kd := g (4 + 3 * a + 1)) y1 m1
    have ed : up1 d9 0 (l + 1) (402 + 8 * (200 * l + u) + 1) = wkW (G (402 + 2 * (200 * l + u))) (g (4 + 3 * a)) (g (4 + 3 * a + 2) + u) (g (4 + 3 * a + 1)) % 16 := by
      rw [up1_n (by omega), K3 u hu, z6]
      unfold wkD
      rw [dm0, dm1, dm2, x1]
    have e0 : up1 d9 0 (l + 1) (402 + 8 * (200 * l + u)) = d (402 + 8 * (200 * l + u)) := e1 0 (by decide) (by decide)
    have ep : ∀ k, k < K → pat (wrkI G a l n) l u k = 402 + 2 * (200 * tt k + ee k u) ∧ ∀ q, bW (wrkI G a l n (402 + 2 * (200 * tt k + ee k u))) q = bW (g (402 + 2 * (200 * tt k + ee k u))) q := fun k hk => by
      obtain ⟨_, _, _, _, x5⟩ := hD u hu
      have ht := htl k hk
      have hz := (hr.lot (l := tt k) (by omega)).z
      have he := hes k hk u hu
      refine ⟨?_, fun q => ?_⟩
      · unfold pat
        rw [ghd (10 + k) (by omega), (a5 k hk).2, W2 _ (by omega) (fun v hv => by omega), (x5 k hk).1]
      · rw [W2 _ (by omega) (fun v hv => by omega)]
        exact (hB (tt k) (ee k u) ht he).b q
    refine ⟨?_, ?_, (e1 4 (by decide) (by decide)).trans x4, ?_⟩
    · unfold RU
      rw [e2, e0, ed, e1 2 (by decide) (by decide), e1 3 (by decide) (by decide), e1 5 (by decide) (by decide), z1, z2, z3, z4]
      exact ⟨x0, rfl, x2, x3, x5⟩
    · rw [e2, z1]; decide
    · unfold WU
      rw [e2, z1, z2]
      refine ⟨z5, by decide, by decide, fun q hq => ?_⟩
      obtain ⟨v1, v2, v3, v4⟩ := z7 q hq
      refine ⟨v1, v2, fun hb hy => ?_, fun hy k hk => ?_⟩
      · obtain ⟨k, hk, hbk⟩ := (y2 q hq).1 (v3 hb hy)
        exact ⟨k, by rw [ghd 8 (by decide), s8]; exact hk, by rw [(ep k hk).1, (ep k hk).2]; exact hbk⟩
      · rw [ghd 8 (by decide), s8] at hk
        rw [(ep k hk).1, (ep k hk).2]
        rcases bW_01 (w := g (402 + 2 * (200 * tt k + ee k u))) (q := q) with x | x
        · exact x
        · have := (y2 q hq).2 ⟨k, hk, x⟩
          rw [v4 hy] at this
          exact absurd this (by decide)
