/-! ONE UNIT, ONE LOT's HEADER changed on both sides -/
def RW (c : Nat → Nat) (l u w : Nat) : Prop := c (402 + 8 * (200 * l + u)) = sW w ∧ c (402 + 8 * (200 * l + u) + 1) = w % 16 ∧ c (402 + 8 * (200 * l + u) + 2) = rW w ∧ c (402 + 8 * (200 * l + u) + 3) = frW w ∧ c (402 + 8 * (200 * l + u) + 5) = fld 9 1 w
/-- a unit's way after a change: nothing comes newly out of a part or from the machine -/
def YK (w w' : Nat) : Prop := ∀ q, q < 4 → (bW w' q = 0 → yW w' q = 0) ∧ yW w' q ≤ 2 ∧ (bW w' q = 1 → yW w' q = 0 → bW w q = 1 ∧ yW w q = 0) ∧ (yW w' q = 1 → yW w q = 1)
theorem Rel.unit {c c' g : Nat → Nat} {N l u w' : Nat} (hr : Rel c g N) (hl : l < g 0) (hu : u < g (90 + 13 * l + 1)) (h3 : ¬ sW (g (402 + 2 * (200 * l + u))) = 3) (h3' : ¬ sW w' = 3)
    (hc : ∀ i, i < 60000 → (i < 402 + 8 * (200 * l + u) ∨ 402 + 8 * (200 * l + u) + 6 ≤ i ∨ i = 402 + 8 * (200 * l + u) + 4) → c' i = c i) (hRU : RW c' l u w') (hw : w' < 2 ^ 18) (hrW : rW w' ≤ 2) (hsW : sW w' ≤ 4) (hY : YK (g (402 + 2 * (200 * l + u))) w') : Rel c' (up1 g (402 + 2 * (200 * l + u)) w') N := by
  have h24 := hr.n24
  have hLl := hr.lot hl
  have hzl := hLl.z
  have glo : ∀ i, i < 402 → up1 g (402 + 2 * (200 * l + u)) w' i = g i := fun i hi => up1_n (by omega)
  have clo : ∀ i, i < 402 → c' i = c i := fun i hi => hc i (by omega) (Or.inl (by omega))
  -- the unit is nobody's part
  have hpat : ∀ L U k, L < g 0 → U < g (90 + 13 * L + 1) → k < g (90 + 13 * L + 8) → pat g L U k ≠ 402 + 2 * (200 * l + u) := fun L U k hL hU hk e => by
    have := ((hr.lot hL).pu hU k hk).2.1
    rw [e] at this
    exact h3 this
  have eh : ∀ x y, x < 24 → y < 13 → up1 g (402 + 2 * (200 * l + u)) w' (90 + 13 * x + y) = g (90 + 13 * x + y) := fun x y h1 h2 => glo _ (by omega)
  have ew1 : ∀ x y, up1 g (402 + 2 * (200 * l + u)) w' (402 + 2 * (200 * x + y) + 1) = g (402 + 2 * (200 * x + y) + 1) := fun x y => up1_n (by omega)
  obtain ⟨⟨a1, a2, a3, a4, a5⟩, b, p, bl, m, lt, wb⟩ := id hr
  refine ⟨⟨by rw [glo 0 (by decide)]; exact a1, fun i hi => by rw [clo i (by omega), glo i (by omega)]; exact a2 i hi, by rw [glo 3 (by decide)]; exact a3, by rw [glo 1 (by decide)]; exact a4, by rw [glo 2 (by decide)]; exact a5⟩,
    fun i hi => ?_, fun p9 hp => HdP.congr hp (Nat.le_refl N) (fun i h1 h2 => clo i (by omega)) (fun i h1 h2 => glo i (by omega)) (p p9 hp), fun j hj => by rw [clo _ (by omega), glo _ (by omega)]; exact bl j hj, fun p9 hp => ?_, fun L hL => ?_, fun i hi => ?_⟩
  · obtain ⟨r1, r2, r3, r4⟩ := b i hi
    refine ⟨fun f hf => by rw [clo _ (by omega), glo _ (by omega)]; exact r1 f hf, ?_, ?_, ?_⟩
    · rw [glo _ (by omega)]; exact r2
    · rw [glo _ (by omega)]; exact r3
    · rw [glo _ (by omega)]; exact r4
  · rw [glo 0 (by decide), glo _ (by omega)]
    refine Nat.le_trans (m p9 hp) (Nat.le_of_eq (cnt_congr fun i hi => ?_))
    rw [eh i 3 (by omega) (by decide)]
  · rw [glo 0 (by decide)] at hL ⊢
    have hL24 : L < 24 := by omega
    have hLL := hr.lot hL
    have hzL := hLL.z
    obtain ⟨⟨s1, s2, s3, s4, s5, s6, s7, s8, s9⟩, t1, t2, t3⟩ := lt L hL
    refine ⟨⟨?_, ?_, ?_, ?_, ?_, ?_, fun k hk => ?_, fun j k hj hk => ?_, fun hi => ?_⟩, fun f hf => ?_, fun k hk => ?_, fun U hU => ?_⟩
    · rw [eh L 0 hL24 (by decide)]; exact s1
    · rw [eh L 1 hL24 (by decide)]; exact s2
    · rw [eh L 2 hL24 (by decide)]; exact s3
    · rw [eh L 3 hL24 (by decide)]; exact s4
    · rw [eh L 8 hL24 (by decide)]; exact s5
    · rw [eh L 9 hL24 (by decide)]; exact s6
    · rw [eh L 8 hL24 (by decide)] at hk; rw [eh L (10 + k) hL24 (by omega)]; exact s7 k hk
    · rw [eh L 8 hL24 (by decide)] at hk; rw [eh L (10 + j) hL24 (by omega), eh L (10 + k) hL24 (by omega)]; exact s8 j k hj hk
    · rw [eh L 3 hL24 (by decide)] at hi; rw [eh L 4 hL24 (by decide), eh L 5 hL24 (by decide), eh L 6 hL24 (by decide), eh L 7 hL24 (by decide)]; exact s9 hi
    · rw [clo _ (by omega), eh L f hL24 (by omega)]; exact t1 f hf
    · rw [eh L 8 hL24 (by decide)] at hk; rw [clo _ (by omega), eh L (10 + k) hL24 (by omega)]; exact t2 k hk
    · rw [eh L 1 hL24 (by decide)] at hU
      have hU2 : U < 200 := by omega
      obtain ⟨q1, q2, q3, q4⟩ := t3 U hU
      have ep : ∀ k, k < g (90 + 13 * L + 8) → pat (up1 g (402 + 2 * (200 * l + u)) w') L U k = pat g L U k ∧ up1 g (402 + 2 * (200 * l + u)) w' (pat g L U k) = g (pat g L U k) := fun k hk => by
        refine ⟨?_, up1_n (hpat L U k hL hU hk)⟩
        unfold pat
        rw [eh L (10 + k) hL24 (by omega), ew1]
      have hPU : PU c' (up1 g (402 + 2 * (200 * l + u)) w') L U := fun k hk => by
        rw [eh L 8 hL24 (by decide)] at hk
        obtain ⟨r1, r2, r3⟩ := q2 k hk
        have hpl := s7 k hk
        have hpz2 := (hr.lot (l := g (90 + 13 * L + (10 + k))) (by omega)).z
        have hne := hpat L U k hL hU hk
        unfold pat at hne
        rw [(ep k hk).1, (ep k hk).2, eh L (10 + k) hL24 (by omega), ew1, eh _ 1 (by omega) (by decide), hc _ (by omega) (by omega)]
        exact ⟨r1, r2, r3⟩
      by_cases e : L = l ∧ U = u
      · obtain ⟨rfl, rfl⟩ := e
        refine ⟨?_, hPU, ⟨fun h => ?_, fun _ => ?_⟩, ?_⟩
        · unfold RU; rw [up1_s]; exact hRU
        · rw [up1_s] at h; exact absurd h h3'
        · rw [hc _ (by omega) (by omega)]; exact q3.2 h3
        · unfold WU
          rw [up1_s]
          refine ⟨hw, hrW, hsW, fun q hq => ?_⟩
          obtain ⟨y1, y2, y3, y4⟩ := hY q hq
          obtain ⟨z1, z2, z3, z4⟩ := q4.2.2.2 q hq
          refine ⟨y1, y2, fun hb hy => ?_, fun hy k hk => ?_⟩
          · obtain ⟨hb2, hy2⟩ := y3 hb hy
            obtain ⟨k, hk, hbk⟩ := z3 hb2 hy2
            exact ⟨k, by rw [eh L 8 hL24 (by decide)]; exact hk, by rw [(ep k hk).1, (ep k hk).2]; exact hbk⟩
          · rw [eh L 8 hL24 (by decide)] at hk
            rw [(ep k hk).1, (ep k hk).2]; exact z4 (y4 hy) k hk
      · have ne : 402 + 2 * (200 * L + U) ≠ 402 + 2 * (200 * l + u) := by omega
        have hcU : ∀ f, f < 6 → c' (402 + 8 * (200 * L + U) + f) = c (402 + 8 * (200 * L + U) + f) := fun f hf => hc _ (by omega) (by omega)
        refine ⟨?_, hPU, ⟨fun h => ?_, fun h => ?_⟩, ?_⟩
        · unfold RU at q1 ⊢
          have e0 := hcU 0 (by decide)
          rw [Nat.add_zero] at e0
          rw [up1_n ne, e0, hcU 1 (by decide), hcU 2 (by decide), hcU 3 (by decide), hcU 5 (by decide)]; exact q1
        · rw [up1_n ne] at h
          obtain ⟨L2, U2, k, r1, r2, r3, r4, r5, r6⟩ := q3.1 h
          have hpc := (hr.lot r1).pc
          exact ⟨L2, U2, k, r1, by rw [eh L2 1 (by omega) (by decide)]; exact r2, by rw [eh L2 8 (by omega) (by decide)]; exact r3, by rw [eh L2 (10 + k) (by omega) (by omega)]; exact r4, by rw [ew1]; exact r5, by rw [hcU 4 (by decide)]; exact r6⟩
        · rw [up1_n ne] at h
          rw [hcU 4 (by decide)]; exact q3.2 h
        · unfold WU at q4 ⊢
          rw [up1_n ne]
          refine ⟨q4.1, q4.2.1, q4.2.2.1, fun q hq => ?_⟩
          obtain ⟨z1, z2, z3, z4⟩ := q4.2.2.2 q hq
          refine ⟨z1, z2, fun hb hy => ?_, fun hy k hk => ?_⟩
          · obtain ⟨k, hk, hbk⟩ := z3 hb hy
            exact ⟨k, by rw [eh L 8 hL24 (by decide)]; exact hk, by rw [(ep k hk).1, (ep k hk).2]; exact hbk⟩
          · rw [eh L 8 hL24 (by decide)] at hk
            rw [(ep k hk).1, (ep k hk).2]; exact z4 hy k hk
  · by_cases e : i = 402 + 2 * (200 * l + u)
    · rw [e, up1_s]; exact Nat.lt_trans hw (by decide)
    · rw [up1_n e]; exact wb i hi
theorem cnt_imp {p q : Nat → Prop} : ∀ {n : Nat}, (∀ i, i < n → p i → q i) → cnt p n ≤ cnt q n
  | 0, _ => Nat.le_refl 0
  | n + 1, h => by
    have ih := cnt_imp (fun i hi => h i (by omega) : ∀ i, i < n → p i → q i)
    by_cases c : p n
    · rw [cnt_t c, cnt_t (h n (by omega) c)]; omega
    · rw [cnt_f c]
      by_cases d : q n
      · rw [cnt_t d]; omega
      · rw [cnt_f d]; exact ih
/-- a lot's header, but for what it is made of -/
theorem Rel.lhd {c c' g g' : Nat → Nat} {N N' l : Nat} (hr : Rel c g N) (hN : N ≤ N') (hl : l < g 0) (hc : ∀ i, i < 60000 → (i < 90 + 13 * l + 2 ∨ 90 + 13 * l + 8 ≤ i) → c' i = c i) (hg : ∀ i, (i < 90 + 13 * l + 2 ∨ 90 + 13 * l + 8 ≤ i) → g' i = g i)
    (he : ∀ f, 2 ≤ f → f < 8 → c' (90 + 13 * l + f) = g' (90 + 13 * l + f)) (h2 : g' (90 + 13 * l + 2) < 4) (h3 : g' (90 + 13 * l + 3) ≤ N') (h3' : g (90 + 13 * l + 3) ≠ 0 → g' (90 + 13 * l + 3) ≠ 0)
    (hi : g' (90 + 13 * l + 3) ≠ 0 → g' (90 + 13 * l + 4) < 3 ∧ g' (90 + 13 * l + 5) ≤ 32 ∧ g' (90 + 13 * l + 6) ≤ 32 ∧ g' (90 + 13 * l + 7) ≤ 200) : Rel c' g' N' := by
  have h24 := hr.n24
  obtain ⟨⟨a1, a2, a3, a4, a5⟩, b, p, bl, m, lt, wb⟩ := id hr
  have glo : ∀ i, i < 90 → g' i = g i := fun i hi => hg i (by omega)
  have clo : ∀ i, i < 90 → c' i = c i := fun i hi => hc i (by omega) (by omega)
  have eh : ∀ x y, x < 24 → (y < 2 ∨ 8 ≤ y) → y < 13 → g' (90 + 13 * x + y) = g (90 + 13 * x + y) := fun x y h1 h2 h4 => hg _ (by omega)
  have ehn : ∀ x y, x ≠ l → y < 13 → g' (90 + 13 * x + y) = g (90 + 13 * x + y) := fun x y h1 h4 => hg _ (by omega)
  have ech : ∀ x y, x < 24 → (y < 2 ∨ 8 ≤ y) → y < 13 → c' (90 + 13 * x + y) = c (90 + 13 * x + y) := fun x y h1 h2 h4 => hc _ (by omega) (by omega)
  have echn : ∀ x y, x < 24 → x ≠ l → y < 13 → c' (90 + 13 * x + y) = c (90 + 13 * x + y) := fun x y h1 h2 h4 => hc _ (by omega) (by omega)
  have ew : ∀ i, 402 ≤ i → g' i = g i := fun i hi => hg i (by omega)
  have ecw : ∀ i, 402 ≤ i → i < 60000 → c' i = c i := fun i hi h9 => hc i h9 (by omega)
  refine ⟨⟨by rw [glo 0 (by decide)]; exact a1, fun i hi => by rw [clo i (by omega), glo i (by omega)]; exact a2 i hi, by rw [glo 3 (by decide)]; exact a3, by rw [glo 1 (by decide)]; omega, by rw [glo 2 (by decide)]; omega⟩,
    fun i hi => ?_, fun p9 hp => HdP.congr hp hN (fun i h1 h2 => clo i (by omega)) (fun i h1 h2 => glo i (by omega)) (p p9 hp), fun j hj => by rw [clo _ (by omega), glo _ (by omega)]; exact ⟨(bl j hj).1, Nat.le_trans (bl j hj).2 hN⟩, fun p9 hp => ?_, fun L hL => ?_, fun i hi => by rw [ew i hi]; exact wb i hi⟩
  · obtain ⟨r1, r2, r3, r4⟩ := b i hi
    refine ⟨fun f hf => by rw [clo _ (by omega), glo _ (by omega)]; exact r1 f hf, ?_, ?_, ?_⟩
    · rw [glo _ (by omega)]; exact r2
    · rw [glo _ (by omega)]; exact r3
    · rw [glo _ (by omega)]; omega
  · rw [glo 0 (by decide), glo _ (by omega)]
    refine Nat.le_trans (m p9 hp) (cnt_imp fun i hi h => ?_)
    by_cases e : i = l
    · subst e; exact h3' h
    · rw [ehn i 3 e (by decide)]; exact h
  · rw [glo 0 (by decide)] at hL ⊢
    have hL24 : L < 24 := by omega
    have hzL := (hr.lot hL).z
    obtain ⟨⟨s1, s2, s3, s4, s5, s6, s7, s8, s9⟩, t1, t2, t3⟩ := lt L hL
    refine ⟨⟨?_, ?_, ?_, ?_, ?_, ?_, fun k hk => ?_, fun j k hj hk => ?_, fun hi9 => ?_⟩, fun f hf => ?_, fun k hk => ?_, fun U hU => ?_⟩
    · rw [eh L 0 hL24 (by decide) (by decide)]; exact s1
    · rw [eh L 1 hL24 (by decide) (by decide)]; exact s2
    · by_cases e : L = l
      · subst e; exact h2
      · rw [ehn L 2 e (by decide)]; exact s3
    · by_cases e : L = l
      · subst e; exact h3
      · rw [ehn L 3 e (by decide)]; exact Nat.le_trans s4 hN
    · rw [eh L 8 hL24 (by decide) (by decide)]; exact s5
    · rw [eh L 9 hL24 (by decide) (by decide)]; exact s6
    · rw [eh L 8 hL24 (by decide) (by decide)] at hk; rw [eh L (10 + k) hL24 (by omega) (by omega)]; exact s7 k hk
    · rw [eh L 8 hL24 (by decide) (by decide)] at hk; rw [eh L (10 + j) hL24 (by omega) (by omega), eh L (10 + k) hL24 (by omega) (by omega)]; exact s8 j k hj hk
    · by_cases e : L = l
      · subst e; exact hi hi9
      · rw [ehn L 3 e (by decide)] at hi9; rw [ehn L 4 e (by decide), ehn L 5 e (by decide), ehn L 6 e (by decide), ehn L 7 e (by decide)]; exact s9 hi9
    · by_cases e : L = l
      · subst e
        by_cases d : 2 ≤ f ∧ f < 8
        · exact he f d.1 d.2
        · rw [ech L f hL24 (by omega) (by omega), eh L f hL24 (by omega) (by omega)]; exact t1 f hf
      · rw [echn L f hL24 e (by omega), ehn L f e (by omega)]; exact t1 f hf
    · rw [eh L 8 hL24 (by decide) (by decide)] at hk; rw [ech L (10 + k) hL24 (by omega) (by omega), eh L (10 + k) hL24 (by omega) (by omega)]; exact t2 k hk
    · rw [eh L 1 hL24 (by decide) (by decide)] at hU
      obtain ⟨q1, q2, q3, q4⟩ := t3 U hU
      have ep : ∀ k, k < g (90 + 13 * L + 8) → pat g' L U k = pat g L U k := fun k hk => by
        unfold pat; rw [eh L (10 + k) hL24 (by omega) (by omega), ew _ (by omega)]
      have epw : ∀ k, g' (pat g L U k) = g (pat g L U k) := fun k => ew _ (by unfold pat; omega)
      refine ⟨?_, fun k hk => ?_, ⟨fun h => ?_, fun h => ?_⟩, ?_⟩
      · unfold RU at q1 ⊢
        rw [ew _ (by omega), ecw _ (by omega) (by omega), ecw _ (by omega) (by omega), ecw _ (by omega) (by omega), ecw _ (by omega) (by omega), ecw _ (by omega) (by omega)]; exact q1
      · rw [eh L 8 hL24 (by decide) (by decide)] at hk
        obtain ⟨r1, r2, r3⟩ := q2 k hk
        have hpl := s7 k hk
        have hpz2 := (hr.lot (l := g (90 + 13 * L + (10 + k))) (by omega)).z
        rw [ep k hk, epw, eh L (10 + k) hL24 (by omega) (by omega), ew _ (by omega), eh _ 1 (by omega) (by decide) (by decide), ecw _ (by omega) (by omega)]
        exact ⟨r1, r2, r3⟩
      · rw [ew _ (by omega)] at h
        obtain ⟨L2, U2, k, r1, r2, r3, r4, r5, r6⟩ := q3.1 h
        have hpc := (hr.lot r1).pc
        exact ⟨L2, U2, k, r1, by rw [eh L2 1 (by omega) (by decide) (by decide)]; exact r2, by rw [eh L2 8 (by omega) (by decide) (by decide)]; exact r3, by rw [eh L2 (10 + k) (by omega) (by omega) (by omega)]; exact r4, by rw [ew _ (by omega)]; exact r5, by rw [ecw _ (by omega) (by omega)]; exact r6⟩
      · rw [ew _ (by omega)] at h
        rw [ecw _ (by omega) (by omega)]; exact q3.2 h
      · unfold WU at q4 ⊢
        rw [ew _ (by omega)]
        refine ⟨q4.1, q4.2.1, q4.2.2.1, fun q hq => ?_⟩
        obtain ⟨z1, z2, z3, z4⟩ := q4.2.2.2 q hq
        refine ⟨z1, z2, fun hb hy => ?_, fun hy k hk => ?_⟩
        · obtain ⟨k, hk, hbk⟩ := z3 hb hy
          exact ⟨k, by rw [eh L 8 hL24 (by decide) (by decide)]; exact hk, by rw [ep k hk, epw]; exact hbk⟩
        · rw [eh L 8 hL24 (by decide) (by decide)] at hk
          rw [ep k hk, epw]; exact z4 hy k hk
