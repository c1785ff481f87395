theorem takI_k {g : Nat → Nat} {l k t : Nat} {e : Nat → Nat} (hl : l < 24) (hk : k < 3) : ∀ u, takI g l k t e u (90 + 13 * l + (10 + k)) = t
  | 0 => up1_s
  | u + 1 => by
    show takS _ l k t u (e u) _ = _
    rw [takS_hi (by omega) (by omega), becG_n (by omega)]
    exact takI_k hl hk u
theorem MK.step {c d d' g G : Nat → Nat} {N l n p a K k : Nat} {tt : Nat → Nat} {ee : Nat → Nat → Nat} (hr : Rel c g N) (hl : g 0 = l) (hl24 : l < 24) (hn : n ≤ 200) (hk : k < 3) (ht : tt k < l) (hd : ∀ i, i < k → tt i ≠ tt k ∧ tt i < l ∧ ∀ u, u < n → ee i u < 200) (he : EN (fun v => sW (g (402 + 2 * (200 * tt k + v))) = 0) n (g (90 + 13 * tt k + 1)) (ee k)) (hu : US d l (tt k) k n (ee k) d') (h : MK c g l n p a K tt ee k d G) : MK c g l n p a K tt ee (k + 1) d' (takI G l k (tt k) (ee k) n) := by
  obtain ⟨a1, ⟨a2, a2z⟩, a3, a4, a5, hB, hC, hD, hW⟩ := h
  have hLt := hr.lot (l := tt k) (by omega)
  have hz := hLt.z
  have heu : ∀ u, u < n → ee k u < 200 := fun u hu => Nat.lt_of_lt_of_le (he u hu).1 hz
  obtain ⟨P1, P2⟩ := takI_pt (g := G) hl24 hk (show tt k < 24 by omega) (show l ≠ tt k by omega) hn heu (fun u v h1 h2 q => he.inj h1 h2 q) n (Nat.le_refl n)
  obtain ⟨U1, ⟨U2, U3⟩, U4⟩ := hu
  have hd0 : d 0 = l := (a1 0 (by omega)).trans (hr.c0.trans hl)
  -- the part's units before the taking
  have hsame : ∀ v, v < g (90 + 13 * tt k + 1) → (∀ f, f < 6 → d (402 + 8 * (200 * tt k + v) + f) = c (402 + 8 * (200 * tt k + v) + f)) ∧ G (402 + 2 * (200 * tt k + v)) = g (402 + 2 * (200 * tt k + v)) := fun v hv => by
    rcases hB (tt k) v ht hv with q | ⟨i, _, hi, _, q, _⟩
    · exact q
    · exact absurd q.symm (hd i hi).1
  have glo : ∀ j, j < 402 → j ≠ 90 + 13 * l + (10 + k) → takI G l k (tt k) (ee k) n j = G j := fun j h1 h2 => takI_hd h1 h2 n
  have dh : ∀ f, f < 13 → f ≠ 8 → f ≠ 10 + k → d' (90 + 13 * l + f) = d (90 + 13 * l + f) := fun f h1 h2 h3 => U1 _ (by omega) (by omega) (fun u hu => by omega)
  have gh : ∀ f, f < 13 → f ≠ 10 + k → takI G l k (tt k) (ee k) n (90 + 13 * l + f) = G (90 + 13 * l + f) := fun f h1 h2 => glo _ (by omega) (by omega)
  refine ⟨fun j hj => (U1 j (by omega) (by omega) (fun u hu => by omega)).trans (a1 j hj), ⟨fun j h1 h2 => (glo j (by omega) (by omega)).trans (a2 j h1 h2), (glo 0 (by omega) (by omega)).trans a2z⟩, ?_, ?_, fun i hi => ?_, fun t v ht2 hv => ?_, fun t v ht2 hv => ?_, fun u hu => ?_, ?_⟩
  · rw [dh 0 (by decide) (by decide) (by omega), dh 1 (by decide) (by decide) (by omega), dh 2 (by decide) (by decide) (by omega), dh 3 (by decide) (by decide) (by omega), dh 4 (by decide) (by decide) (by omega), dh 5 (by decide) (by decide) (by omega), dh 6 (by decide) (by decide) (by omega), dh 7 (by decide) (by decide) (by omega), dh 9 (by decide) (by decide) (by omega)]
    obtain ⟨r0, r1, r2, r3, r4, r5, r6, r7, r8, r9⟩ := a3
    exact ⟨r0, r1, r2, r3, r4, r5, r6, r7, U3, r9⟩
  · rw [gh 0 (by decide) (by omega), gh 1 (by decide) (by omega), gh 2 (by decide) (by omega), gh 3 (by decide) (by omega), gh 4 (by decide) (by omega), gh 5 (by decide) (by omega), gh 6 (by decide) (by omega), gh 7 (by decide) (by omega), gh 8 (by decide) (by omega), gh 9 (by decide) (by omega)]
    exact a4
  · by_cases q : i = k
    · subst q
      exact ⟨U2, takI_k hl24 hk n⟩
    · rw [dh (10 + i) (by omega) (by omega) (by omega), gh (10 + i) (by omega) (by omega)]
      exact a5 i (by omega)
  · have hzt := (hr.lot (l := t) (by omega)).z
    by_cases q : t = tt k
    · subst q
      obtain ⟨e1, e2⟩ := hsame v hv
      by_cases q2 : ∃ u, u < n ∧ v = ee k u
      · obtain ⟨u, hu, rfl⟩ := q2
        refine Or.inr ⟨k, u, by omega, hu, rfl, rfl, (he u hu).2.1, ⟨(U4 u hu).1, (U4 u hu).2.1.trans (by rw [hd0]), fun f hf h0 h4 => ?_⟩, (P1 u hu).2.2.trans (by rw [e2])⟩
        exact (U1 _ (by omega) (by omega) (fun u2 hu2 => by omega)).trans (e1 f hf)
      · have hne : ∀ u, u < n → v ≠ ee k u := fun u hu w => q2 ⟨u, hu, w⟩
        refine Or.inl ⟨fun f hf => (U1 _ (by omega) (by omega) (fun u hu => by have := hne u hu; have := heu u hu; omega)).trans (e1 f hf), (P2 _ (by omega) (fun u hu => by have := hne u hu; have := heu u hu; omega)).trans e2⟩
    · have e1 : ∀ f, f < 6 → d' (402 + 8 * (200 * t + v) + f) = d (402 + 8 * (200 * t + v) + f) := fun f hf => U1 _ (by omega) (by omega) (fun u hu => by have := heu u hu; omega)
      have e2 : takI G l k (tt k) (ee k) n (402 + 2 * (200 * t + v)) = G (402 + 2 * (200 * t + v)) := P2 _ (by omega) (fun u hu => by have := heu u hu; omega)
      rcases hB t v ht2 hv with ⟨r1, r2⟩ | ⟨k2, u, h1, h2, h3, h4, h5, ⟨h6, h7, h8⟩, h9⟩
      · exact Or.inl ⟨fun f hf => (e1 f hf).trans (r1 f hf), e2.trans r2⟩
      · exact Or.inr ⟨k2, u, by omega, h2, h3, h4, h5, ⟨(e1 0 (by decide)).trans h6, (e1 4 (by decide)).trans h7, fun f hf f0 f4 => (e1 f hf).trans (h8 f hf f0 f4)⟩, e2.trans h9⟩
  · refine (P2 _ (by omega) (fun u hu => by have := heu u hu; omega)).trans (hC t v ht2 hv)
  · obtain ⟨⟨r0, r1, r2, r3, r4, r5⟩, s1, s2, s3, s4⟩ := hD u hu
    have df : ∀ f, f < 6 → f ≠ 1 → d' (402 + 8 * (200 * l + u) + f) = d (402 + 8 * (200 * l + u) + f) := fun f hf h1 => U1 _ (by omega) (by omega) (fun v hv => by have := heu v hv; omega)
    have hv := (he u hu).1
    obtain ⟨e1, e2⟩ := hsame _ hv
    have ed : d (402 + 8 * (200 * tt k + ee k u) + 1) = g (402 + 2 * (200 * tt k + ee k u)) % 16 := (e1 1 (by decide)).trans (hLt.u1 hv)
    obtain ⟨p1, p2, _⟩ := P1 u hu
    rw [e2] at p1
    have := heu u hu
    obtain ⟨o1, o2, o3⟩ := or_p (e := ee k u) s3 (by omega)
    rw [p1, p2]
    refine ⟨⟨(df 0 (by decide) (by decide)).trans r0, ?_, (df 2 (by decide) (by decide)).trans r2, (df 3 (by decide) (by decide)).trans r3, (df 4 (by decide) (by decide)).trans r4, (df 5 (by decide) (by decide)).trans r5⟩, Nat.or_lt_two_pow (n := 4) s1 (Nat.mod_lt _ (by decide)), fun q hq => ?_, o1, fun i hi => ?_⟩
    · rw [(U4 u hu).2.2, r1, ed]
    · rw [or_b hq, s2 q hq]
      refine ⟨fun x => ?_, fun x => ?_⟩
      · rcases x with ⟨i, hi, hb⟩ | hb
        · exact ⟨i, by omega, hb⟩
        · exact ⟨k, by omega, hb⟩
      · obtain ⟨i, hi, hb⟩ := x
        by_cases q : i = k
        · subst q; exact Or.inr hb
        · exact Or.inl ⟨i, by omega, hb⟩
    · by_cases q : i = k
      · subst q; exact ⟨o2, (congrArg sW (P1 u hu).2.2).trans (bec_s (by decide)), (U4 u hu).2.1.trans (by rw [hd0])⟩
      · obtain ⟨t1, t2, t3⟩ := s4 i (by omega)
        obtain ⟨x1, x2, x3⟩ := hd i (by omega)
        have x4 := x3 u hu
        exact ⟨(o3 i (by omega)).trans t1, (congrArg sW (P2 _ (by omega) (fun v hv => by have := heu v hv; omega))).trans t2, (U1 _ (by omega) (by omega) (fun v hv => by have := heu v hv; omega)).trans t3⟩
  · refine WB.tak (n := n) hl24 hk (fun u hu => ?_) hW n (Nat.le_refl n)
    obtain ⟨b1, b2, b3, b4⟩ := EN.here hz he u hu
    have hv := (he u hu).1
    exact ⟨b1, b2, by rw [(hsame _ hv).2]; exact b3, fun v h1 h2 => by rw [(hsame v (by omega)).2]; exact b4 v h1 h2⟩
