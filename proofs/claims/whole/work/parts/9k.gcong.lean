theorem Rel.gcongr {c f f' : Nat → Nat} {N : Nat} (e : ∀ i, i < 402 + 400 * f 0 → f' i = f i) (hw : WB f') (h : Rel c f N) : Rel c f' N := by
  have e0 : f' 0 = f 0 := e 0 (by omega)
  have n24 := h.n24
  have eH : ∀ l q, l < f 0 → q < 13 → f' (90 + 13 * l + q) = f (90 + 13 * l + q) := fun l q hl hq => e _ (by omega)
  have eU : ∀ l u, l < f 0 → u < 200 → f' (402 + 2 * (200 * l + u)) = f (402 + 2 * (200 * l + u)) ∧ f' (402 + 2 * (200 * l + u) + 1) = f (402 + 2 * (200 * l + u) + 1) := fun l u hl hu => ⟨e _ (by omega), e _ (by omega)⟩
  obtain ⟨⟨a1, a2, a3, a4, a5⟩, b, d, p, m, l, wb⟩ := id h
  refine ⟨⟨by rw [e0]; exact a1, fun i hi => by rw [e i (by omega)]; exact a2 i hi, by rw [e 3 (by omega)]; exact a3, by rw [e 1 (by omega)]; exact a4, by rw [e 2 (by omega)]; exact a5⟩, fun i hi => ⟨fun q hq => by rw [e _ (by omega)]; exact (b i hi).1 q hq, by rw [e (4 + 3 * i) (by omega), e (4 + 3 * i + 1) (by omega), e (4 + 3 * i + 2) (by omega)]; exact (b i hi).2⟩, fun q hq => HdP.congr hq (Nat.le_refl N) (fun _ _ _ => rfl) (fun i h1 h2 => e i (by omega)) (d q hq), fun j hj => by rw [e (62 + j) (by omega)]; exact p j hj, fun q hq => ?_, fun i hi => ?_, hw⟩
  · rw [e0, e _ (by omega)]
    have hc : insC f' (f 0) = insC f (f 0) := cnt_congr fun l hl => by rw [eH l 3 hl (by decide)]
    rw [hc]
    exact m q hq
  · rw [e0] at hi ⊢
    have hL := h.lot hi
    have hz := hL.z
    have hpc := hL.pc
    have H := fun q hq => eH i q hi hq
    refine ⟨⟨by rw [H 0 (by decide)]; exact hL.1.1, by rw [H 1 (by decide)]; exact hL.1.2.1, by rw [H 2 (by decide)]; exact hL.1.2.2.1, by rw [H 3 (by decide)]; exact hL.1.2.2.2.1, by rw [H 8 (by decide)]; exact hpc, by rw [H 9 (by decide)]; exact hL.ma, fun k hk => ?_, fun j k hj hk => ?_, fun h3 => ?_⟩, fun k hk => (hL.h hk).trans (H k (by omega)).symm, fun k hk => ?_, fun u hu => ?_⟩
    · rw [H 8 (by decide)] at hk
      rw [H (10 + k) (by omega)]; exact hL.pt hk
    · rw [H 8 (by decide)] at hk
      rw [H (10 + j) (by omega), H (10 + k) (by omega)]; exact hL.pd hj hk
    · rw [H 3 (by decide)] at h3
      rw [H 4 (by decide), H 5 (by decide), H 6 (by decide), H 7 (by decide)]; exact hL.i h3
    · rw [H 8 (by decide)] at hk
      exact (hL.p hk).trans (H (10 + k) (by omega)).symm
    · rw [H 1 (by decide)] at hu
      obtain ⟨U0, U1⟩ := eU i u hi (by omega)
      obtain ⟨r1, r2, r3, r4⟩ := hL.2.2.2 u hu
      have hP : ∀ k, k < f (90 + 13 * i + 8) → pat f' i u k = pat f i u k := fun k hk => by unfold pat; rw [H (10 + k) (by omega), U1]
      have hf : ∀ k, k < f (90 + 13 * i + 8) → f' (pat f' i u k) = f (pat f i u k) := fun k hk => by
        rw [hP k hk]
        have hpl := hL.pt hk
        have hps := (r2 k hk).1
        have hpz := (h.lot (l := f (90 + 13 * i + (10 + k))) (by omega)).z
        exact (eU _ _ (by omega) (by omega)).1
      refine ⟨by unfold RU; rw [U0]; exact r1, fun k hk => ?_, ⟨fun h3 => ?_, fun h3 => ?_⟩, ?_⟩
      · rw [H 8 (by decide)] at hk
        obtain ⟨q1, q2, q3⟩ := r2 k hk
        have hpl := hL.pt hk
        refine ⟨?_, by rw [hf k hk]; exact q2, ?_⟩
        · rw [U1, H (10 + k) (by omega), eH _ 1 (by omega) (by decide)]; exact q1
        · rw [U1, H (10 + k) (by omega)]; exact q3
      · rw [U0] at h3
        obtain ⟨L, U, k, q1, q2, q3, q4, q5, q6⟩ := r3.1 h3
        have hz2 := (h.lot q1).z
        have hp2 := (h.lot q1).pc
        exact ⟨L, U, k, q1, by rw [eH L 1 q1 (by decide)]; exact q2, by rw [eH L 8 q1 (by decide)]; exact q3, by rw [eH L (10 + k) q1 (by omega)]; exact q4, by rw [(eU L U q1 (by omega)).2]; exact q5, q6⟩
      · rw [U0] at h3
        exact r3.2 h3
      · unfold WU
        rw [U0]
        obtain ⟨s1, s2, s3, s4⟩ := r4
        refine ⟨s1, s2, s3, fun q hq => ⟨(s4 q hq).1, (s4 q hq).2.1, fun x1 x2 => ?_, fun x1 k hk => ?_⟩⟩
        · obtain ⟨k, k1, k2⟩ := (s4 q hq).2.2.1 x1 x2
          exact ⟨k, by rw [H 8 (by decide)]; exact k1, by rw [hf k k1]; exact k2⟩
        · rw [H 8 (by decide)] at hk
          rw [hf k hk]
          exact (s4 q hq).2.2.2 x1 k hk
theorem cpG_wb {g f : Nat → Nat} {n : Nat} (hg : WB g) (hf : WB f) : WB (cpG g n f) := fun i hi => by
  unfold cpG
  split
  · exact hf i hi
  · exact hg i hi
theorem Hol.cp' {A c f g : Nat → Nat} {N : Nat} (hg : WB g) (h : Hol A c f N) : Hol A c (cpG g (402 + 400 * f 0) f) N := by
  have e : ∀ i, i < 402 + 400 * f 0 → cpG g (402 + 400 * f 0) f i = f i := fun i hi => if_pos hi
  refine ⟨h.1.gcongr e (cpG_wb hg h.1.wb), fun l hl => h.2 l ?_⟩
  rw [e 0 (by omega)] at hl
  exact hl
