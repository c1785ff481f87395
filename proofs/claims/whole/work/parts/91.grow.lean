/-! A LOT MORE on both sides -/
def OU (c c' g g' : Nat → Nat) (l K n : Nat) (tt : Nat → Nat) (ee : Nat → Nat → Nat) (t v : Nat) : Prop :=
  ((∀ f, f < 6 → c' (402 + 8 * (200 * t + v) + f) = c (402 + 8 * (200 * t + v) + f)) ∧ g' (402 + 2 * (200 * t + v)) = g (402 + 2 * (200 * t + v))) ∨
  (∃ k u, k < K ∧ u < n ∧ t = tt k ∧ v = ee k u ∧ sW (g (402 + 2 * (200 * t + v))) = 0 ∧ (c' (402 + 8 * (200 * t + v)) = 3 ∧ c' (402 + 8 * (200 * t + v) + 4) = 1000 * l + u ∧ ∀ f, f < 6 → f ≠ 0 → f ≠ 4 → c' (402 + 8 * (200 * t + v) + f) = c (402 + 8 * (200 * t + v) + f)) ∧ g' (402 + 2 * (200 * t + v)) = becN (g (402 + 2 * (200 * t + v))) 3)
theorem OU.b {c c' g g' : Nat → Nat} {l K n : Nat} {tt : Nat → Nat} {ee : Nat → Nat → Nat} {t v : Nat} (h : OU c c' g g' l K n tt ee t v) (q : Nat) : bW (g' (402 + 2 * (200 * t + v))) q = bW (g (402 + 2 * (200 * t + v))) q := by
  rcases h with h | ⟨k, u, _, _, _, _, _, _, h⟩
  · rw [h.2]
  · rw [h]; exact bec_b (by decide)
theorem Rel.grow {c c' g g' : Nat → Nat} {N N' n K l : Nat} {tt : Nat → Nat} {ee : Nat → Nat → Nat} (hr : Rel c g N) (hl : g 0 = l) (hl24 : l < 24) (hN : N ≤ N') (h0 : c' 0 = l + 1) (h0g : g' 0 = l + 1)
    (hcl : ∀ j, 1 ≤ j → j < 90 + 13 * l → (∀ i, i < 6 → j ≠ 4 + 3 * i + 2) → c' j = c j) (hgl : ∀ j, 1 ≤ j → j < 90 + 13 * l → (∀ i, i < 6 → j ≠ 4 + 3 * i + 2) → g' j = g j)
    (hw : ∀ i, i < 6 → c' (4 + 3 * i + 2) = g' (4 + 3 * i + 2) ∧ g' (4 + 3 * i + 2) ≤ N') (hK : ∀ k, k < K → tt k < l)
    (hLW : LW g' N' l) (hnc : ∀ f, f < 10 → c' (90 + 13 * l + f) = g' (90 + 13 * l + f)) (hnp : ∀ k, k < K → c' (90 + 13 * l + (10 + k)) = tt k ∧ g' (90 + 13 * l + (10 + k)) = tt k)
    (hn : g' (90 + 13 * l + 1) = n) (hK8 : g' (90 + 13 * l + 8) = K) (h3 : g' (90 + 13 * l + 3) = 0)
    (hold : ∀ t v, t < l → v < g (90 + 13 * t + 1) → OU c c' g g' l K n tt ee t v) (hw2 : ∀ t v, t < l → v < 200 → g' (402 + 2 * (200 * t + v) + 1) = g (402 + 2 * (200 * t + v) + 1))
    (hpu : ∀ u k, u < n → k < K → pW (g' (402 + 2 * (200 * l + u) + 1)) k = ee k u ∧ ee k u < g (90 + 13 * tt k + 1) ∧ sW (g' (402 + 2 * (200 * tt k + ee k u))) = 3 ∧ c' (402 + 8 * (200 * tt k + ee k u) + 4) = 1000 * l + u)
    (hru : ∀ u, u < n → RU c' g' l u ∧ ¬ sW (g' (402 + 2 * (200 * l + u))) = 3 ∧ c' (402 + 8 * (200 * l + u) + 4) = 4294967295 ∧ WU g' l u) (hwb : WB g') : Rel c' g' N' := by
  have eh : ∀ x y, x < l → y < 13 → g' (90 + 13 * x + y) = g (90 + 13 * x + y) := fun x y h1 h2 => hgl _ (by omega) (by omega) (fun i hi => by omega)
  have ch : ∀ x y, x < l → y < 13 → c' (90 + 13 * x + y) = c (90 + 13 * x + y) := fun x y h1 h2 => hcl _ (by omega) (by omega) (fun i hi => by omega)
  obtain ⟨⟨a1, a2, a3, a4, a5⟩, b, p, bl, m, lt, wb⟩ := id hr
  have bm : ∀ i f, i < 6 → f < 2 → c' (4 + 3 * i + f) = c (4 + 3 * i + f) ∧ g' (4 + 3 * i + f) = g (4 + 3 * i + f) := fun i f hi hf => ⟨hcl _ (by omega) (by omega) (fun j hj => by omega), hgl _ (by omega) (by omega) (fun j hj => by omega)⟩
  have g1 := hgl 1 (by decide) (by omega) (fun j hj => by omega)
  have g2 := hgl 2 (by decide) (by omega) (fun j hj => by omega)
  have g3 := hgl 3 (by decide) (by omega) (fun j hj => by omega)
  refine ⟨⟨by omega, fun i hi => ?_, by rw [g3]; exact a3, by rw [g1]; omega, by rw [g2]; omega⟩,
    fun i hi => ?_, fun p9 hp => HdP.congr hp hN (fun i h1 h2 => hcl i (by omega) (by omega) (fun j hj => by omega)) (fun i h1 h2 => hgl i (by omega) (by omega) (fun j hj => by omega)) (p p9 hp), fun j hj => ?_, fun p9 hp => ?_, fun L hL => ?_, hwb⟩
  · by_cases q : i = 0
    · rw [q, h0, h0g]
    · rw [hcl i (by omega) (by omega) (fun j hj => by omega), hgl i (by omega) (by omega) (fun j hj => by omega)]; exact a2 i hi
  · obtain ⟨r1, r2, r3, r4⟩ := b i hi
    have b0 := bm i 0 hi (by decide)
    have b1 := bm i 1 hi (by decide)
    rw [Nat.add_zero] at b0
    refine ⟨fun f hf => ?_, by rw [b0.2]; exact r2, by rw [b1.2]; exact r3, (hw i hi).2⟩
    by_cases q : f = 2
    · rw [q]; exact (hw i hi).1
    · obtain ⟨e1, e2⟩ := bm i f hi (by omega)
      rw [e1, e2]; exact r1 f hf
  · rw [hcl (62 + j) (by omega) (by omega) (fun i hi => by omega), hgl (62 + j) (by omega) (by omega) (fun i hi => by omega)]
    exact ⟨(bl j hj).1, Nat.le_trans (bl j hj).2 hN⟩
  · rw [hgl _ (by omega) (by omega) (fun i hi => by omega), h0g]
    have := m p9 hp
    refine Nat.le_trans (m p9 hp) ?_
    rw [hl]
    unfold insC
    rw [cnt_f (p := fun x => ¬ g' (90 + 13 * x + 3) = 0) (n := l) (fun q => q h3)]
    exact Nat.le_of_eq (cnt_congr fun i hi => by rw [eh i 3 hi (by decide)])
  · rw [h0g] at hL ⊢
    by_cases eL : L = l
    · -- the new lot
      subst eL
      refine ⟨hLW, hnc, fun k hk => ?_, fun u hu => ?_⟩
      · rw [hK8] at hk
        rw [(hnp k hk).1, (hnp k hk).2]
      · rw [hn] at hu
        obtain ⟨q1, q2, q3, q4⟩ := hru u hu
        refine ⟨q1, fun k hk => ?_, ⟨fun h => absurd h q2, fun _ => q3⟩, q4⟩
        rw [hK8] at hk
        obtain ⟨r1, r2, r3, r4⟩ := hpu u k hu hk
        unfold pat
        rw [(hnp k hk).2, r1, eh _ 1 (hK k hk) (by decide)]
        exact ⟨r2, r3, r4⟩
    · have hLl : L < l := by omega
      have hLL := hr.lot (l := L) (by omega)
      have hzL := hLL.z
      obtain ⟨⟨s1, s2, s3, s4, s5, s6, s7, s8, s9⟩, t1, t2, t3⟩ := lt L (by omega)
      refine ⟨⟨?_, ?_, ?_, ?_, ?_, ?_, fun k hk => ?_, fun j k hj hk => ?_, fun hi => ?_⟩, fun f hf => ?_, fun k hk => ?_, fun U hU => ?_⟩
      · rw [eh L 0 hLl (by decide)]; exact s1
      · rw [eh L 1 hLl (by decide)]; exact s2
      · rw [eh L 2 hLl (by decide)]; exact s3
      · rw [eh L 3 hLl (by decide)]; omega
      · rw [eh L 8 hLl (by decide)]; exact s5
      · rw [eh L 9 hLl (by decide)]; exact s6
      · rw [eh L 8 hLl (by decide)] at hk; rw [eh L (10 + k) hLl (by omega)]; exact s7 k hk
      · rw [eh L 8 hLl (by decide)] at hk; rw [eh L (10 + j) hLl (by omega), eh L (10 + k) hLl (by omega)]; exact s8 j k hj hk
      · rw [eh L 3 hLl (by decide)] at hi; rw [eh L 4 hLl (by decide), eh L 5 hLl (by decide), eh L 6 hLl (by decide), eh L 7 hLl (by decide)]; exact s9 hi
      · rw [ch L f hLl (by omega), eh L f hLl (by omega)]; exact t1 f hf
      · rw [eh L 8 hLl (by decide)] at hk; rw [ch L _ hLl (by omega), eh L (10 + k) hLl (by omega)]; exact t2 k hk
      · rw [eh L 1 hLl (by decide)] at hU
        have hU2 : U < 200 := by omega
        obtain ⟨q1, q2, q3, q4⟩ := t3 U hU
        have hw9 := hw2 L U hLl hU2
        have ep : ∀ k, k < g (90 + 13 * L + 8) → pat g' L U k = pat g L U k := fun k hk => by
          unfold pat
          rw [eh L (10 + k) hLl (by omega), hw9]
        have eb : ∀ k q, k < g (90 + 13 * L + 8) → bW (g' (pat g L U k)) q = bW (g (pat g L U k)) q := fun k q hk => by
          have h7 := s7 k hk
          exact (hold (g (90 + 13 * L + (10 + k))) (pW (g (402 + 2 * (200 * L + U) + 1)) k) (by omega) (q2 k hk).1).b q
        have hPU : PU c' g' L U := fun k hk => by
          rw [eh L 8 hLl (by decide)] at hk
          obtain ⟨r1, r2, r3⟩ := q2 k hk
          have h7 := s7 k hk
          rw [ep k hk, eh L (10 + k) hLl (by omega), hw9, eh _ 1 (by omega) (by decide)]
          refine ⟨r1, ?_⟩
          rcases hold (g (90 + 13 * L + (10 + k))) (pW (g (402 + 2 * (200 * L + U) + 1)) k) (by omega) r1 with ⟨e1, e2⟩ | ⟨k2, u2, _, _, _, _, e0, _, _⟩
          · exact ⟨(congrArg sW e2).trans r2, (e1 4 (by decide)).trans r3⟩
          · have : sW (g (pat g L U k)) = 0 := e0
            omega
        have hWq : ∀ w', (∀ q, q < 4 → bW w' q = bW (g (402 + 2 * (200 * L + U))) q ∧ yW w' q = yW (g (402 + 2 * (200 * L + U))) q) → ∀ q, q < 4 → (bW w' q = 0 → yW w' q = 0) ∧ yW w' q ≤ 2 ∧ (bW w' q = 1 → yW w' q = 0 → ∃ k, k < g' (90 + 13 * L + 8) ∧ bW (g' (pat g' L U k)) q = 1) ∧ (yW w' q = 1 → ∀ k, k < g' (90 + 13 * L + 8) → bW (g' (pat g' L U k)) q = 0) := fun w' h9 q hq => by
          obtain ⟨z1, z2, z3, z4⟩ := q4.2.2.2 q hq
          rw [(h9 q hq).1, (h9 q hq).2]
          refine ⟨z1, z2, fun hb hy => ?_, fun hy k hk => ?_⟩
          · obtain ⟨k, hk, hbk⟩ := z3 hb hy
            exact ⟨k, by rw [eh L 8 hLl (by decide)]; exact hk, by rw [ep k hk, eb k q hk]; exact hbk⟩
          · rw [eh L 8 hLl (by decide)] at hk
            rw [ep k hk, eb k q hk]; exact z4 hy k hk
        rcases hold L U hLl hU with ⟨e1, e2⟩ | ⟨k, u, hk, hu, ht, hv, e0, ⟨e1, e3, e4⟩, e2⟩
        · have e10 := e1 0 (by decide)
          rw [Nat.add_zero] at e10
          refine ⟨?_, hPU, ⟨fun h => ?_, fun h => ?_⟩, ?_⟩
          · unfold RU at q1 ⊢
            rw [e2, e10, e1 1 (by decide), e1 2 (by decide), e1 3 (by decide), e1 5 (by decide)]; exact q1
          · rw [e2] at h
            obtain ⟨L2, U2, k, r1, r2, r3, r4, r5, r6⟩ := q3.1 h
            have hpc := (hr.lot r1).pc
            have hz2 := (hr.lot r1).z
            exact ⟨L2, U2, k, by omega, by rw [eh L2 1 (by omega) (by decide)]; exact r2, by rw [eh L2 8 (by omega) (by decide)]; exact r3, by rw [eh L2 (10 + k) (by omega) (by omega)]; exact r4, by rw [hw2 L2 U2 (by omega) (by omega)]; exact r5, by rw [e1 4 (by decide)]; exact r6⟩
          · rw [e2] at h
            rw [e1 4 (by decide)]; exact q3.2 h
          · unfold WU
            rw [e2]
            exact ⟨q4.1, q4.2.1, q4.2.2.1, hWq _ (fun q _ => ⟨rfl, rfl⟩)⟩
        · have hs3 : sW (g' (402 + 2 * (200 * L + U))) = 3 := by rw [e2]; exact bec_s (by decide)
          refine ⟨?_, hPU, ⟨fun _ => ⟨l, u, k, by omega, by rw [hn]; exact hu, by rw [hK8]; exact hk, by rw [(hnp k hk).2]; exact ht.symm, by rw [(hpu u k hu hk).1]; exact hv.symm, e3⟩, fun h => absurd hs3 h⟩, ?_⟩
          · unfold RU at q1 ⊢
            rw [hs3, e1, e4 1 (by decide) (by decide) (by decide), e4 2 (by decide) (by decide) (by decide), e4 3 (by decide) (by decide) (by decide), e4 5 (by decide) (by decide) (by decide), e2]
            exact ⟨rfl, q1.2.1.trans (bec_d (by decide)).symm, q1.2.2.1.trans (bec_r (by decide)).symm, q1.2.2.2.1.trans (frW_congr fun q hq => bec_y (by decide) hq).symm, q1.2.2.2.2.trans (bec_c (by decide)).symm⟩
          · unfold WU
            refine ⟨?_, ?_, by rw [hs3]; decide, ?_⟩
            · rw [e2]; exact bec_lt (by decide) q4.1
            · rw [e2, bec_r (by decide)]; exact q4.2.1
            · rw [e2]; exact hWq _ (fun q hq => ⟨bec_b (by decide), bec_y (by decide) hq⟩)
