/-! ONE OFFICE: its cells by an owner's number, its contents as numbers -/
theorem Wx.gen {M : MI} {G : GI} {S : Hp} {pc : Nat} {lv : List (Nat × Value)} {st : List Value} {Q : OV → Hp → Prop} {P : Hp → Prop} (hS : P S) (kk : ∀ T, P T → Wx M G T pc lv st Q) : Wx M G S pc lv st Q := kk S hS
/-- where the fields of lots and products stand among the numbers -/
def lf (f : Nat) : Nat := if f = 1 then 9 else f - 1
def pf (f : Nat) : Nat := if f < 7 then f else f + 1
/-- free places for lots -/
noncomputable def fre (A : Nat → Nat) : Nat := cnt (fun i => A i = 0) 24
def LoX (S : Hp) (w : Nat → Nat) (k o : Nat) (A : Nat → Nat) : Prop := ∀ i, i < 24 → (A i = 0 ∧ zQ S (o + 3) i = none) ∨ (A i ≠ 0 ∧ zQ S (o + 3) i = some (A i) ∧ LoS S (A i) ∧ ∀ j, j < 8 → w (A i + j) = 32 * k + i + 1)
def CN (S : Hp) (o : Nat) (A c : Nat → Nat) : Prop :=
  (zI S 293 o = nI (c 0) ∧ zI S 294 o = nI (c 2) ∧ zI S 295 o = nI (c 1) ∧ zI S 296 o = nI (c 3)) ∧
  (∀ i, i < 6 → ∀ f, f < 3 → zI S (256 + f) (o + 6 + i) = nI (c (4 + 3 * i + f))) ∧
  (∀ i, i < 4 → ∀ f, f < 9 → zI S (320 + f) (o + 12 + i) = nI (c (22 + 10 * i + pf f))) ∧
  (∀ j, j < 28 → zA S (o + 4) j = nI (c (62 + j))) ∧
  (∀ j, j < 200 → zA S (o + 5) j = nI (c (60000 + j))) ∧
  (∀ i, i < 24 → A i ≠ 0 → ∀ f, f < 10 → zI S (224 + f) (A i) = nI (c (90 + 13 * i + lf f))) ∧
  (∀ i, i < 24 → A i ≠ 0 → ∀ j, j < 3 → zA S (A i + 1) j = nI (c (90 + 13 * i + (10 + j)))) ∧
  (∀ i, i < 24 → A i ≠ 0 → ∀ u, u < 200 → ∀ f, f < 6 → zA S (A i + 2 + f) u = nI (c (402 + 8 * (200 * i + u) + f)))
def FS (S : Hp) : Prop := ∀ a, zX S ≤ a → zT S a = 0
def OR (S : Hp) (w : Nat → Nat) (k o : Nat) (A c : Nat → Nat) : Prop := OfS S o ∧ (∀ j, j < 16 → w (o + j) = 32 * k) ∧ LoX S w k o A ∧ CN S o A c ∧ FS S
/-- one cell as it was -/
def Same (S S' : Hp) (a : Nat) : Prop := (∀ f, zI S' f a = zI S f a) ∧ (∀ f, zP S' f a = zP S f a) ∧ zA S' a = zA S a ∧ zL S' a = zL S a ∧ zD S' a = zD S a ∧ zQ S' a = zQ S a
def Fr (w : Nat → Nat) (k : Nat) (S S' : Hp) : Prop := ∀ a, zT S a ≠ 0 → (zT S' a = zT S a ∧ zN S' a = zN S a) ∧ (w a / 32 ≠ k → Same S S' a)
def OX (S0 : Hp) (w0 A0 : Nat → Nat) (S : Hp) (w : Nat → Nat) (k o : Nat) (A c : Nat → Nat) : Prop := OR S w k o A c ∧ Fr w0 k S0 S ∧ (∀ a, a < zX S0 → w a = w0 a) ∧ (∀ i, A0 i ≠ 0 → A i = A0 i) ∧ zX S + 8 * fre A = zX S0 + 8 * fre A0 ∧ zU S + 1220 * fre A = zU S0 + 1220 * fre A0 ∧ zX S0 ≤ zX S ∧ FS S0
theorem Same.rfl {S : Hp} {a : Nat} : Same S S a := ⟨fun _ => _root_.rfl, fun _ => _root_.rfl, _root_.rfl, _root_.rfl, _root_.rfl, _root_.rfl⟩
theorem Same.trans {S T U : Hp} {a : Nat} (h : Same S T a) (q : Same T U a) : Same S U a := ⟨fun f => (q.1 f).trans (h.1 f), fun f => (q.2.1 f).trans (h.2.1 f), q.2.2.1.trans h.2.2.1, q.2.2.2.1.trans h.2.2.2.1, q.2.2.2.2.1.trans h.2.2.2.2.1, q.2.2.2.2.2.trans h.2.2.2.2.2⟩
theorem Fr.rfl {w : Nat → Nat} {k : Nat} {S : Hp} : Fr w k S S := fun _ _ => ⟨⟨_root_.rfl, _root_.rfl⟩, fun _ => Same.rfl⟩
theorem FS.lt {S : Hp} (h : FS S) {a : Nat} (ha : zT S a ≠ 0) : a < zX S := Nat.lt_of_not_le fun q => ha (h a q)
theorem Fr.trans {w w1 : Nat → Nat} {k : Nat} {S T U : Hp} (hS : FS S) (hw : ∀ a, a < zX S → w1 a = w a) (h : Fr w k S T) (q : Fr w1 k T U) : Fr w k S U := fun a ha => by
  have h1 := h a ha
  have h2 := q a (by rw [h1.1.1]; exact ha)
  refine ⟨⟨h2.1.1.trans h1.1.1, h2.1.2.trans h1.1.2⟩, fun hk => (h1.2 hk).trans (h2.2 (by rw [hw a (hS.lt ha)]; exact hk))⟩
theorem OX.refl {S : Hp} {w : Nat → Nat} {k o : Nat} {A c : Nat → Nat} (h : OR S w k o A c) : OX S w A S w k o A c := ⟨h, Fr.rfl, fun _ _ => rfl, fun _ _ => rfl, rfl, rfl, Nat.le_refl _, h.2.2.2.2⟩
theorem OX.trans {S0 S T : Hp} {w0 w w1 : Nat → Nat} {k o : Nat} {A0 A A1 c c1 : Nat → Nat} (h : OX S0 w0 A0 S w k o A c) (q : OX S w A T w1 k o A1 c1) : OX S0 w0 A0 T w1 k o A1 c1 := by
  obtain ⟨h1, h2, h3, h4, h5, h6, h7, h8⟩ := h
  obtain ⟨q1, q2, q3, q4, q5, q6, q7, q8⟩ := q
  refine ⟨q1, Fr.trans h8 h3 h2 q2, fun a ha => (q3 a (Nat.lt_of_lt_of_le ha h7)).trans (h3 a ha), fun i hi => ?_, q5.trans h5, q6.trans h6, Nat.le_trans h7 q7, h8⟩
  have e := h4 i hi
  exact (q4 i (by rw [e]; exact hi)).trans e
theorem OX.or {S0 S : Hp} {w0 w : Nat → Nat} {k o : Nat} {A0 A c : Nat → Nat} (h : OX S0 w0 A0 S w k o A c) : OR S w k o A c := h.1
theorem LoS.fr {S S' : Hp} {a : Nat} (h : ∀ j, j < 8 → (zT S' (a + j) = zT S (a + j) ∧ zN S' (a + j) = zN S (a + j)) ∧ Same S S' (a + j)) (hl : LoS S a) : LoS S' a := by
  have e0 := h 0 (by decide)
  have e1 := (h 1 (by decide)).1
  have e2 := (h 2 (by decide)).1
  have e3 := (h 3 (by decide)).1
  have e4 := (h 4 (by decide)).1
  have e5 := (h 5 (by decide)).1
  have e6 := (h 6 (by decide)).1
  have e7 := (h 7 (by decide)).1
  have ep := e0.2.2.1
  rw [Nat.add_zero] at e0 ep
  unfold LoS at hl ⊢
  rw [e0.1.1, ep, ep, ep, ep, ep, ep, ep, e1.1, e1.2, e2.1, e2.2, e3.1, e3.2, e4.1, e4.2, e5.1, e5.2, e6.1, e6.2, e7.1, e7.2]
  exact hl
theorem OfS.fr {S S' : Hp} {o : Nat} (h : ∀ j, j < 16 → (zT S' (o + j) = zT S (o + j) ∧ zN S' (o + j) = zN S (o + j)) ∧ Same S S' (o + j)) (hl : OfS S o) : OfS S' o := by
  have e0 := h 0 (by decide)
  have e1 := h 1 (by decide)
  have e2 := h 2 (by decide)
  have e3 := (h 3 (by decide)).1
  have e4 := (h 4 (by decide)).1
  have e5 := (h 5 (by decide)).1
  have ep := e0.2.2.1
  rw [Nat.add_zero] at e0 ep
  unfold OfS at hl ⊢
  rw [e0.1.1, ep, ep, ep, ep, ep, e1.1.1, e1.1.2, e2.1.1, e2.1.2, e3.1, e3.2, e4.1, e4.2, e5.1, e5.2]
  obtain ⟨h1, h2, h3, h4, h5, h6, h7, h8, h9⟩ := hl
  refine ⟨h1, h2, h3, h4, h5, h6, h7, fun i hi => ?_, fun i hi => ?_⟩
  · rw [e1.2.2.2.2.2.2, show o + 6 + i = o + (6 + i) from Nat.add_assoc _ _ _, (h (6 + i) (by omega)).1.1]
    exact (Nat.add_assoc o 6 i) ▸ h8 i hi
  · rw [e2.2.2.2.2.2.2, show o + 12 + i = o + (12 + i) from Nat.add_assoc _ _ _, (h (12 + i) (by omega)).1.1]
    exact (Nat.add_assoc o 12 i) ▸ h9 i hi
/-- what belongs to others leaves an office as it is -/
theorem OR.fr {S S' : Hp} {w w' : Nat → Nat} {j k o : Nat} {A c : Nat → Nat} (hj : j ≠ k) (hF : Fr w k S S') (hw : ∀ a, a < zX S → w' a = w a) (hS : FS S') (h : OR S w j o A c) : OR S' w' j o A c := by
  obtain ⟨h1, h2, h3, h4, h5⟩ := h
  have hm : ∀ q, q < 16 → zT S (o + q) ≠ 0 := by
    obtain ⟨t1, -, t3, t4, t5, t6, t7, t8, t9⟩ := h1
    intro q hq
    by_cases c1 : q < 6
    · obtain rfl | rfl | rfl | rfl | rfl | rfl : q = 0 ∨ q = 1 ∨ q = 2 ∨ q = 3 ∨ q = 4 ∨ q = 5 := by omega
      · rw [Nat.add_zero, t1]; decide
      · rw [t3.1]; decide
      · rw [t4.1]; decide
      · rw [t5.1]; decide
      · rw [t6.1]; decide
      · rw [t7.1]; decide
    · by_cases c2 : q < 12
      · rw [show o + q = o + 6 + (q - 6) by omega, (t8 (q - 6) (by omega)).2]; decide
      · rw [show o + q = o + 12 + (q - 12) by omega, (t9 (q - 12) (by omega)).2]; decide
  have hs : ∀ q, q < 16 → (zT S' (o + q) = zT S (o + q) ∧ zN S' (o + q) = zN S (o + q)) ∧ Same S S' (o + q) := fun q hq =>
    ⟨(hF _ (hm q hq)).1, (hF _ (hm q hq)).2 (by rw [h2 q hq]; omega)⟩
  have hlm : ∀ i, i < 24 → A i ≠ 0 → ∀ q, q < 8 → (zT S' (A i + q) = zT S (A i + q) ∧ zN S' (A i + q) = zN S (A i + q)) ∧ Same S S' (A i + q) ∧ zT S (A i + q) ≠ 0 := by
    intro i hi hA q hq
    rcases h3 i hi with h | ⟨-, -, hl, hwl⟩
    · exact absurd h.1 hA
    · have ht : zT S (A i + q) ≠ 0 := by
        obtain ⟨t0, -, t1, t2, t3, t4, t5, t6, t7⟩ := hl
        obtain rfl | rfl | rfl | rfl | rfl | rfl | rfl | rfl : q = 0 ∨ q = 1 ∨ q = 2 ∨ q = 3 ∨ q = 4 ∨ q = 5 ∨ q = 6 ∨ q = 7 := by omega
        · rw [Nat.add_zero, t0]; decide
        · rw [t1.1]; decide
        · rw [t2.1]; decide
        · rw [t3.1]; decide
        · rw [t4.1]; decide
        · rw [t5.1]; decide
        · rw [t6.1]; decide
        · rw [t7.1]; decide
      exact ⟨(hF _ ht).1, (hF _ ht).2 (by rw [hwl q hq]; omega), ht⟩
  refine ⟨OfS.fr hs h1, fun q hq => (hw _ (h5.lt (hm q hq))).trans (h2 q hq), fun i hi => ?_, ?_, hS⟩
  · rw [(hs 3 (by decide)).2.2.2.2.2.2]
    rcases h3 i hi with h | ⟨h, h9, hl, hwl⟩
    · exact Or.inl h
    · exact Or.inr ⟨h, h9, LoS.fr (fun q hq => ⟨(hlm i hi h q hq).1, (hlm i hi h q hq).2.1⟩) hl, fun q hq => (hw _ (h5.lt (hlm i hi h q hq).2.2)).trans (hwl q hq)⟩
  · obtain ⟨c1, c2, c3, c4, c5, c6, c7, c8⟩ := h4
    refine ⟨?_, fun i hi f hf => ?_, fun i hi f hf => ?_, fun q hq => ?_, fun q hq => ?_, fun i hi hA f hf => ?_, fun i hi hA q hq => ?_, fun i hi hA u hu f hf => ?_⟩
    · have e := (hs 0 (by decide)).2.1
      rw [Nat.add_zero] at e
      rw [e, e, e, e]
      exact c1
    · rw [← c2 i hi f hf, Nat.add_assoc o 6 i, (hs (6 + i) (by omega)).2.1]
    · rw [← c3 i hi f hf, Nat.add_assoc o 12 i, (hs (12 + i) (by omega)).2.1]
    · rw [← c4 q hq, (hs 4 (by decide)).2.2.2.1]
    · rw [← c5 q hq, (hs 5 (by decide)).2.2.2.1]
    · rw [← c6 i hi hA f hf]
      exact (hlm i hi hA 0 (by decide)).2.1.1 _
    · rw [← c7 i hi hA q hq, (hlm i hi hA 1 (by decide)).2.1.2.2.1]
    · rw [← c8 i hi hA u hu f hf, Nat.add_assoc (A i) 2 f, (hlm i hi hA (2 + f) (by omega)).2.1.2.2.1]
/-- .. and what the office does leaves what belongs to others -/
theorem OX.fr {S0 S : Hp} {w0 w : Nat → Nat} {j k o o' : Nat} {A0 A c A' c' : Nat → Nat} (h : OX S0 w0 A0 S w k o A c) (hj : j ≠ k) (q : OR S0 w0 j o' A' c') : OR S w j o' A' c' := OR.fr hj h.2.1 h.2.2.1 h.1.2.2.2.2 q
theorem lf_lt {f : Nat} (h : f < 10) : lf f < 10 := by unfold lf; split <;> omega
theorem pf_lt {f : Nat} (h : f < 9) : pf f < 10 := by unfold pf; split <;> omega
theorem lf_ij {f g : Nat} (h : f < 10) (hg : g < 10) (e : lf f = lf g) : f = g := by unfold lf at e; split at e <;> split at e <;> omega
theorem pf_ij {f g : Nat} (e : pf f = pf g) : f = g := by unfold pf at e; split at e <;> split at e <;> omega
theorem LoX.ne {S : Hp} {w : Nat → Nat} {k o : Nat} {A : Nat → Nat} (h : LoX S w k o A) {i i2 j j2 : Nat} (hi : i < 24) (hi2 : i2 < 24) (hA : A i ≠ 0) (hA2 : A i2 ≠ 0) (hii : i ≠ i2 ∨ j ≠ j2) (hj : j < 8) (hj2 : j2 < 8) : A i + j ≠ A i2 + j2 := by
  intro e
  rcases h i hi with q | ⟨-, -, -, q⟩
  · exact hA q.1
  · rcases h i2 hi2 with q2 | ⟨-, -, -, q2⟩
    · exact hA2 q2.1
    · have h1 := q j hj
      have h2 := q2 j2 hj2
      rw [e] at h1
      by_cases c : i = i2
      · subst c; omega
      · omega
theorem LoX.neo {S : Hp} {w : Nat → Nat} {k o : Nat} {A : Nat → Nat} (h : LoX S w k o A) (hm : ∀ j, j < 16 → w (o + j) = 32 * k) {i j j2 : Nat} (hi : i < 24) (hA : A i ≠ 0) (hj : j < 8) (hj2 : j2 < 16) : A i + j ≠ o + j2 := by
  intro e
  rcases h i hi with q | ⟨-, -, -, q⟩
  · exact hA q.1
  · have h1 := q j hj
    have h2 := hm j2 hj2
    rw [e] at h1
    omega
theorem LoX.w {S : Hp} {w : Nat → Nat} {k o : Nat} {A : Nat → Nat} (h : LoX S w k o A) {i j : Nat} (hi : i < 24) (hA : A i ≠ 0) (hj : j < 8) : w (A i + j) / 32 = k := by
  rcases h i hi with q | ⟨-, -, -, q⟩
  · exact absurd q.1 hA
  · rw [q j hj]; omega
theorem same_uI {S : Hp} {f a b : Nat} {x : Int32} (h : b ≠ a) : Same S (uI S f a x) b := ⟨fun _ => zI_un (Or.inr h), fun _ => rfl, rfl, rfl, rfl, rfl⟩
theorem same_uA {S : Hp} {a i b : Nat} {x : Int32} (h : b ≠ a) : Same S (uA S a i x) b := ⟨fun _ => rfl, fun _ => rfl, funext fun _ => zA_un (Or.inl h), rfl, rfl, rfl⟩
theorem OX.mk {S0 S S' : Hp} {w0 w : Nat → Nat} {k o : Nat} {A0 A c c' : Nat → Nat} (h : OX S0 w0 A0 S w k o A c) {a : Nat} (hT : zT S' = zT S) (hN : zN S' = zN S) (hP : zP S' = zP S) (hQ : zQ S' = zQ S) (hX : zX S' = zX S) (hU : zU S' = zU S) (hs : ∀ b, b ≠ a → Same S S' b) (ha : w a / 32 = k) (hc : CN S' o A c') : OX S0 w0 A0 S' w k o A c' := by
  obtain ⟨⟨h1, h2, h3, h4, h5⟩, q1, q2, q3, q4, q5, q6, q7⟩ := h
  refine ⟨⟨?_, h2, ?_, hc, ?_⟩, ?_, q2, q3, ?_, ?_, ?_, q7⟩
  · unfold OfS; rw [hT, hN, hP, hQ]; exact h1
  · unfold LoX LoS; rw [hT, hN, hP, hQ]; exact h3
  · unfold FS; rw [hT, hX]; exact h5
  · intro b hb
    have e := q1 b hb
    refine ⟨by rw [hT, hN]; exact e.1, fun hk => (e.2 hk).trans (hs b fun he => hk ?_)⟩
    rw [← q2 b (q7.lt hb), he]; exact ha
  · rw [hX]; exact q4
  · rw [hU]; exact q5
  · rw [hX]; exact q6
theorem CN.O0 {S : Hp} {w : Nat → Nat} {k o : Nat} {A c : Nat → Nat} (hX : LoX S w k o A) (hm : ∀ j, j < 16 → w (o + j) = 32 * k) (h : CN S o A c)  {v : Nat} : CN (uI S 293 o (nI v)) o A (up1 c (0) v) := by
  obtain ⟨c1, c2, c3, c4, c5, c6, c7, c8⟩ := h
  refine ⟨?_, fun i2 hi2 f2 hf2 => ?_, fun i2 hi2 f2 hf2 => ?_, fun j2 hj2 => ?_, fun j2 hj2 => ?_, fun i2 hi2 hA2 f2 hf2 => ?_, fun i2 hi2 hA2 j2 hj2 => ?_, fun i2 hi2 hA2 u2 hu2 f2 hf2 => ?_⟩
  · exact ⟨by rw [zI_us, up1_s], by rw [zI_un (by omega), up1_n (by omega)]; exact c1.2.1, by rw [zI_un (by omega), up1_n (by omega)]; exact c1.2.2.1, by rw [zI_un (by omega), up1_n (by omega)]; exact c1.2.2.2⟩
  · rw [zI_un (by omega), up1_n (by omega)]; exact c2 i2 hi2 f2 hf2
  · have := pf_lt hf2
    rw [zI_un (by omega), up1_n (by omega)]; exact c3 i2 hi2 f2 hf2
  · rw [up1_n (by omega)]; exact c4 j2 hj2
  · rw [up1_n (by omega)]; exact c5 j2 hj2
  · have := lf_lt hf2
    rw [zI_un (by omega), up1_n (by omega)]; exact c6 i2 hi2 hA2 f2 hf2
  · rw [up1_n (by omega)]; exact c7 i2 hi2 hA2 j2 hj2
  · rw [up1_n (by omega)]; exact c8 i2 hi2 hA2 u2 hu2 f2 hf2
theorem OX.O0 {S0 S : Hp} {w0 w : Nat → Nat} {k o : Nat} {A0 A c : Nat → Nat} (h : OX S0 w0 A0 S w k o A c)  {v : Nat} : OX S0 w0 A0 (uI S 293 o (nI v)) w k o A (up1 c (0) v) :=
  h.mk rfl rfl rfl rfl rfl rfl (fun _ hb => same_uI hb) (by rw [show o = o + 0 from rfl, h.1.2.1 0 (by decide)]; omega) (CN.O0 h.1.2.2.1 h.1.2.1 h.1.2.2.2.1 )
theorem CN.O2 {S : Hp} {w : Nat → Nat} {k o : Nat} {A c : Nat → Nat} (hX : LoX S w k o A) (hm : ∀ j, j < 16 → w (o + j) = 32 * k) (h : CN S o A c)  {v : Nat} : CN (uI S 294 o (nI v)) o A (up1 c (2) v) := by
  obtain ⟨c1, c2, c3, c4, c5, c6, c7, c8⟩ := h
  refine ⟨?_, fun i2 hi2 f2 hf2 => ?_, fun i2 hi2 f2 hf2 => ?_, fun j2 hj2 => ?_, fun j2 hj2 => ?_, fun i2 hi2 hA2 f2 hf2 => ?_, fun i2 hi2 hA2 j2 hj2 => ?_, fun i2 hi2 hA2 u2 hu2 f2 hf2 => ?_⟩
  · exact ⟨by rw [zI_un (by omega), up1_n (by omega)]; exact c1.1, by rw [zI_us, up1_s], by rw [zI_un (by omega), up1_n (by omega)]; exact c1.2.2.1, by rw [zI_un (by omega), up1_n (by omega)]; exact c1.2.2.2⟩
  · rw [zI_un (by omega), up1_n (by omega)]; exact c2 i2 hi2 f2 hf2
  · have := pf_lt hf2
    rw [zI_un (by omega), up1_n (by omega)]; exact c3 i2 hi2 f2 hf2
  · rw [up1_n (by omega)]; exact c4 j2 hj2
  · rw [up1_n (by omega)]; exact c5 j2 hj2
  · have := lf_lt hf2
    rw [zI_un (by omega), up1_n (by omega)]; exact c6 i2 hi2 hA2 f2 hf2
  · rw [up1_n (by omega)]; exact c7 i2 hi2 hA2 j2 hj2
  · rw [up1_n (by omega)]; exact c8 i2 hi2 hA2 u2 hu2 f2 hf2
theorem OX.O2 {S0 S : Hp} {w0 w : Nat → Nat} {k o : Nat} {A0 A c : Nat → Nat} (h : OX S0 w0 A0 S w k o A c)  {v : Nat} : OX S0 w0 A0 (uI S 294 o (nI v)) w k o A (up1 c (2) v) :=
  h.mk rfl rfl rfl rfl rfl rfl (fun _ hb => same_uI hb) (by rw [show o = o + 0 from rfl, h.1.2.1 0 (by decide)]; omega) (CN.O2 h.1.2.2.1 h.1.2.1 h.1.2.2.2.1 )
theorem CN.O1 {S : Hp} {w : Nat → Nat} {k o : Nat} {A c : Nat → Nat} (hX : LoX S w k o A) (hm : ∀ j, j < 16 → w (o + j) = 32 * k) (h : CN S o A c)  {v : Nat} : CN (uI S 295 o (nI v)) o A (up1 c (1) v) := by
  obtain ⟨c1, c2, c3, c4, c5, c6, c7, c8⟩ := h
  refine ⟨?_, fun i2 hi2 f2 hf2 => ?_, fun i2 hi2 f2 hf2 => ?_, fun j2 hj2 => ?_, fun j2 hj2 => ?_, fun i2 hi2 hA2 f2 hf2 => ?_, fun i2 hi2 hA2 j2 hj2 => ?_, fun i2 hi2 hA2 u2 hu2 f2 hf2 => ?_⟩
  · exact ⟨by rw [zI_un (by omega), up1_n (by omega)]; exact c1.1, by rw [zI_un (by omega), up1_n (by omega)]; exact c1.2.1, by rw [zI_us, up1_s], by rw [zI_un (by omega), up1_n (by omega)]; exact c1.2.2.2⟩
  · rw [zI_un (by omega), up1_n (by omega)]; exact c2 i2 hi2 f2 hf2
  · have := pf_lt hf2
    rw [zI_un (by omega), up1_n (by omega)]; exact c3 i2 hi2 f2 hf2
  · rw [up1_n (by omega)]; exact c4 j2 hj2
  · rw [up1_n (by omega)]; exact c5 j2 hj2
  · have := lf_lt hf2
    rw [zI_un (by omega), up1_n (by omega)]; exact c6 i2 hi2 hA2 f2 hf2
  · rw [up1_n (by omega)]; exact c7 i2 hi2 hA2 j2 hj2
  · rw [up1_n (by omega)]; exact c8 i2 hi2 hA2 u2 hu2 f2 hf2
theorem OX.O1 {S0 S : Hp} {w0 w : Nat → Nat} {k o : Nat} {A0 A c : Nat → Nat} (h : OX S0 w0 A0 S w k o A c)  {v : Nat} : OX S0 w0 A0 (uI S 295 o (nI v)) w k o A (up1 c (1) v) :=
  h.mk rfl rfl rfl rfl rfl rfl (fun _ hb => same_uI hb) (by rw [show o = o + 0 from rfl, h.1.2.1 0 (by decide)]; omega) (CN.O1 h.1.2.2.1 h.1.2.1 h.1.2.2.2.1 )
theorem CN.O3 {S : Hp} {w : Nat → Nat} {k o : Nat} {A c : Nat → Nat} (hX : LoX S w k o A) (hm : ∀ j, j < 16 → w (o + j) = 32 * k) (h : CN S o A c)  {v : Nat} : CN (uI S 296 o (nI v)) o A (up1 c (3) v) := by
  obtain ⟨c1, c2, c3, c4, c5, c6, c7, c8⟩ := h
  refine ⟨?_, fun i2 hi2 f2 hf2 => ?_, fun i2 hi2 f2 hf2 => ?_, fun j2 hj2 => ?_, fun j2 hj2 => ?_, fun i2 hi2 hA2 f2 hf2 => ?_, fun i2 hi2 hA2 j2 hj2 => ?_, fun i2 hi2 hA2 u2 hu2 f2 hf2 => ?_⟩
  · exact ⟨by rw [zI_un (by omega), up1_n (by omega)]; exact c1.1, by rw [zI_un (by omega), up1_n (by omega)]; exact c1.2.1, by rw [zI_un (by omega), up1_n (by omega)]; exact c1.2.2.1, by rw [zI_us, up1_s]⟩
  · rw [zI_un (by omega), up1_n (by omega)]; exact c2 i2 hi2 f2 hf2
  · have := pf_lt hf2
    rw [zI_un (by omega), up1_n (by omega)]; exact c3 i2 hi2 f2 hf2
  · rw [up1_n (by omega)]; exact c4 j2 hj2
  · rw [up1_n (by omega)]; exact c5 j2 hj2
  · have := lf_lt hf2
    rw [zI_un (by omega), up1_n (by omega)]; exact c6 i2 hi2 hA2 f2 hf2
  · rw [up1_n (by omega)]; exact c7 i2 hi2 hA2 j2 hj2
  · rw [up1_n (by omega)]; exact c8 i2 hi2 hA2 u2 hu2 f2 hf2
theorem OX.O3 {S0 S : Hp} {w0 w : Nat → Nat} {k o : Nat} {A0 A c : Nat → Nat} (h : OX S0 w0 A0 S w k o A c)  {v : Nat} : OX S0 w0 A0 (uI S 296 o (nI v)) w k o A (up1 c (3) v) :=
  h.mk rfl rfl rfl rfl rfl rfl (fun _ hb => same_uI hb) (by rw [show o = o + 0 from rfl, h.1.2.1 0 (by decide)]; omega) (CN.O3 h.1.2.2.1 h.1.2.1 h.1.2.2.2.1 )
theorem CN.M {S : Hp} {w : Nat → Nat} {k o : Nat} {A c : Nat → Nat} (hX : LoX S w k o A) (hm : ∀ j, j < 16 → w (o + j) = 32 * k) (h : CN S o A c) {i f : Nat} (hi : i < 6) (hf : f < 3) {v : Nat} : CN (uI S (256 + f) (o + 6 + i) (nI v)) o A (up1 c (4 + 3 * i + f) v) := by
  obtain ⟨c1, c2, c3, c4, c5, c6, c7, c8⟩ := h
  refine ⟨?_, fun i2 hi2 f2 hf2 => ?_, fun i2 hi2 f2 hf2 => ?_, fun j2 hj2 => ?_, fun j2 hj2 => ?_, fun i2 hi2 hA2 f2 hf2 => ?_, fun i2 hi2 hA2 j2 hj2 => ?_, fun i2 hi2 hA2 u2 hu2 f2 hf2 => ?_⟩
  · exact ⟨by rw [zI_un (by omega), up1_n (by omega)]; exact c1.1, by rw [zI_un (by omega), up1_n (by omega)]; exact c1.2.1, by rw [zI_un (by omega), up1_n (by omega)]; exact c1.2.2.1, by rw [zI_un (by omega), up1_n (by omega)]; exact c1.2.2.2⟩
  · by_cases e : i2 = i ∧ f2 = f
    · obtain ⟨rfl, rfl⟩ := e; rw [zI_us, up1_s]
    · rw [zI_un (by omega), up1_n (by omega)]; exact c2 i2 hi2 f2 hf2
  · have := pf_lt hf2
    rw [zI_un (by omega), up1_n (by omega)]; exact c3 i2 hi2 f2 hf2
  · rw [up1_n (by omega)]; exact c4 j2 hj2
  · rw [up1_n (by omega)]; exact c5 j2 hj2
  · have := lf_lt hf2
    rw [zI_un (by omega), up1_n (by omega)]; exact c6 i2 hi2 hA2 f2 hf2
  · rw [up1_n (by omega)]; exact c7 i2 hi2 hA2 j2 hj2
  · rw [up1_n (by omega)]; exact c8 i2 hi2 hA2 u2 hu2 f2 hf2
theorem OX.M {S0 S : Hp} {w0 w : Nat → Nat} {k o : Nat} {A0 A c : Nat → Nat} (h : OX S0 w0 A0 S w k o A c) {i f : Nat} (hi : i < 6) (hf : f < 3) {v : Nat} : OX S0 w0 A0 (uI S (256 + f) (o + 6 + i) (nI v)) w k o A (up1 c (4 + 3 * i + f) v) :=
  h.mk rfl rfl rfl rfl rfl rfl (fun _ hb => same_uI hb) (by rw [Nat.add_assoc, h.1.2.1 (6 + i) (by omega)]; omega) (CN.M h.1.2.2.1 h.1.2.1 h.1.2.2.2.1 hi hf)
theorem CN.P {S : Hp} {w : Nat → Nat} {k o : Nat} {A c : Nat → Nat} (hX : LoX S w k o A) (hm : ∀ j, j < 16 → w (o + j) = 32 * k) (h : CN S o A c) {i f : Nat} (hi : i < 4) (hf : f < 9) {v : Nat} : CN (uI S (320 + f) (o + 12 + i) (nI v)) o A (up1 c (22 + 10 * i + pf f) v) := by
  obtain ⟨c1, c2, c3, c4, c5, c6, c7, c8⟩ := h
  refine ⟨?_, fun i2 hi2 f2 hf2 => ?_, fun i2 hi2 f2 hf2 => ?_, fun j2 hj2 => ?_, fun j2 hj2 => ?_, fun i2 hi2 hA2 f2 hf2 => ?_, fun i2 hi2 hA2 j2 hj2 => ?_, fun i2 hi2 hA2 u2 hu2 f2 hf2 => ?_⟩
  · have := pf_lt hf
    exact ⟨by rw [zI_un (by omega), up1_n (by omega)]; exact c1.1, by rw [zI_un (by omega), up1_n (by omega)]; exact c1.2.1, by rw [zI_un (by omega), up1_n (by omega)]; exact c1.2.2.1, by rw [zI_un (by omega), up1_n (by omega)]; exact c1.2.2.2⟩
  · have := pf_lt hf
    rw [zI_un (by omega), up1_n (by omega)]; exact c2 i2 hi2 f2 hf2
  · have := pf_lt hf
    have := pf_lt hf2
    by_cases e : i2 = i ∧ f2 = f
    · obtain ⟨rfl, rfl⟩ := e; rw [zI_us, up1_s]
    · rw [zI_un (by omega), up1_n (fun q => e (by have : pf f2 = pf f → f2 = f := pf_ij; omega))]; exact c3 i2 hi2 f2 hf2
  · have := pf_lt hf
    rw [up1_n (by omega)]; exact c4 j2 hj2
  · have := pf_lt hf
    rw [up1_n (by omega)]; exact c5 j2 hj2
  · have := pf_lt hf
    have := lf_lt hf2
    rw [zI_un (by omega), up1_n (by omega)]; exact c6 i2 hi2 hA2 f2 hf2
  · have := pf_lt hf
    rw [up1_n (by omega)]; exact c7 i2 hi2 hA2 j2 hj2
  · have := pf_lt hf
    rw [up1_n (by omega)]; exact c8 i2 hi2 hA2 u2 hu2 f2 hf2
theorem OX.P {S0 S : Hp} {w0 w : Nat → Nat} {k o : Nat} {A0 A c : Nat → Nat} (h : OX S0 w0 A0 S w k o A c) {i f : Nat} (hi : i < 4) (hf : f < 9) {v : Nat} : OX S0 w0 A0 (uI S (320 + f) (o + 12 + i) (nI v)) w k o A (up1 c (22 + 10 * i + pf f) v) :=
  h.mk rfl rfl rfl rfl rfl rfl (fun _ hb => same_uI hb) (by rw [Nat.add_assoc, h.1.2.1 (12 + i) (by omega)]; omega) (CN.P h.1.2.2.1 h.1.2.1 h.1.2.2.2.1 hi hf)
theorem CN.B {S : Hp} {w : Nat → Nat} {k o : Nat} {A c : Nat → Nat} (hX : LoX S w k o A) (hm : ∀ j, j < 16 → w (o + j) = 32 * k) (h : CN S o A c) {j : Nat} (hj : j < 28) {v : Nat} : CN (uA S (o + 4) j (nI v)) o A (up1 c (62 + j) v) := by
  obtain ⟨c1, c2, c3, c4, c5, c6, c7, c8⟩ := h
  refine ⟨?_, fun i2 hi2 f2 hf2 => ?_, fun i2 hi2 f2 hf2 => ?_, fun j2 hj2 => ?_, fun j2 hj2 => ?_, fun i2 hi2 hA2 f2 hf2 => ?_, fun i2 hi2 hA2 j2 hj2 => ?_, fun i2 hi2 hA2 u2 hu2 f2 hf2 => ?_⟩
  · exact ⟨by rw [up1_n (by omega)]; exact c1.1, by rw [up1_n (by omega)]; exact c1.2.1, by rw [up1_n (by omega)]; exact c1.2.2.1, by rw [up1_n (by omega)]; exact c1.2.2.2⟩
  · rw [up1_n (by omega)]; exact c2 i2 hi2 f2 hf2
  · have := pf_lt hf2
    rw [up1_n (by omega)]; exact c3 i2 hi2 f2 hf2
  · by_cases e : j2 = j
    · obtain rfl := e; rw [zA_us, up1_s]
    · rw [zA_un (Or.inr (by omega)), up1_n (by omega)]; exact c4 j2 hj2
  · rw [zA_un (Or.inl (by omega)), up1_n (by omega)]; exact c5 j2 hj2
  · have := lf_lt hf2
    rw [up1_n (by omega)]; exact c6 i2 hi2 hA2 f2 hf2
  · rw [zA_un (Or.inl (by have := hX.neo hm hi2 hA2 (j := 1) (j2 := 4) (by omega) (by decide); omega)), up1_n (by omega)]; exact c7 i2 hi2 hA2 j2 hj2
  · rw [zA_un (Or.inl (by have := hX.neo hm hi2 hA2 (j := 2 + f2) (j2 := 4) (by omega) (by decide); omega)), up1_n (by omega)]; exact c8 i2 hi2 hA2 u2 hu2 f2 hf2
theorem OX.B {S0 S : Hp} {w0 w : Nat → Nat} {k o : Nat} {A0 A c : Nat → Nat} (h : OX S0 w0 A0 S w k o A c) {j : Nat} (hj : j < 28) {v : Nat} : OX S0 w0 A0 (uA S (o + 4) j (nI v)) w k o A (up1 c (62 + j) v) :=
  h.mk rfl rfl rfl rfl rfl rfl (fun _ hb => same_uA hb) (by rw [h.1.2.1 4 (by decide)]; omega) (CN.B h.1.2.2.1 h.1.2.1 h.1.2.2.2.1 hj)
theorem CN.D {S : Hp} {w : Nat → Nat} {k o : Nat} {A c : Nat → Nat} (hX : LoX S w k o A) (hm : ∀ j, j < 16 → w (o + j) = 32 * k) (h : CN S o A c) {j : Nat} (hj : j < 200) {v : Nat} : CN (uA S (o + 5) j (nI v)) o A (up1 c (60000 + j) v) := by
  obtain ⟨c1, c2, c3, c4, c5, c6, c7, c8⟩ := h
  refine ⟨?_, fun i2 hi2 f2 hf2 => ?_, fun i2 hi2 f2 hf2 => ?_, fun j2 hj2 => ?_, fun j2 hj2 => ?_, fun i2 hi2 hA2 f2 hf2 => ?_, fun i2 hi2 hA2 j2 hj2 => ?_, fun i2 hi2 hA2 u2 hu2 f2 hf2 => ?_⟩
  · exact ⟨by rw [up1_n (by omega)]; exact c1.1, by rw [up1_n (by omega)]; exact c1.2.1, by rw [up1_n (by omega)]; exact c1.2.2.1, by rw [up1_n (by omega)]; exact c1.2.2.2⟩
  · rw [up1_n (by omega)]; exact c2 i2 hi2 f2 hf2
  · have := pf_lt hf2
    rw [up1_n (by omega)]; exact c3 i2 hi2 f2 hf2
  · rw [zA_un (Or.inl (by omega)), up1_n (by omega)]; exact c4 j2 hj2
  · by_cases e : j2 = j
    · obtain rfl := e; rw [zA_us, up1_s]
    · rw [zA_un (Or.inr (by omega)), up1_n (by omega)]; exact c5 j2 hj2
  · have := lf_lt hf2
    rw [up1_n (by omega)]; exact c6 i2 hi2 hA2 f2 hf2
  · rw [zA_un (Or.inl (by have := hX.neo hm hi2 hA2 (j := 1) (j2 := 5) (by omega) (by decide); omega)), up1_n (by omega)]; exact c7 i2 hi2 hA2 j2 hj2
  · rw [zA_un (Or.inl (by have := hX.neo hm hi2 hA2 (j := 2 + f2) (j2 := 5) (by omega) (by decide); omega)), up1_n (by omega)]; exact c8 i2 hi2 hA2 u2 hu2 f2 hf2
theorem OX.D {S0 S : Hp} {w0 w : Nat → Nat} {k o : Nat} {A0 A c : Nat → Nat} (h : OX S0 w0 A0 S w k o A c) {j : Nat} (hj : j < 200) {v : Nat} : OX S0 w0 A0 (uA S (o + 5) j (nI v)) w k o A (up1 c (60000 + j) v) :=
  h.mk rfl rfl rfl rfl rfl rfl (fun _ hb => same_uA hb) (by rw [h.1.2.1 5 (by decide)]; omega) (CN.D h.1.2.2.1 h.1.2.1 h.1.2.2.2.1 hj)
theorem CN.L {S : Hp} {w : Nat → Nat} {k o : Nat} {A c : Nat → Nat} (hX : LoX S w k o A) (hm : ∀ j, j < 16 → w (o + j) = 32 * k) (h : CN S o A c) {i f : Nat} (hi : i < 24) (hA : A i ≠ 0) (hf : f < 10) {v : Nat} : CN (uI S (224 + f) (A i) (nI v)) o A (up1 c (90 + 13 * i + lf f) v) := by
  obtain ⟨c1, c2, c3, c4, c5, c6, c7, c8⟩ := h
  refine ⟨?_, fun i2 hi2 f2 hf2 => ?_, fun i2 hi2 f2 hf2 => ?_, fun j2 hj2 => ?_, fun j2 hj2 => ?_, fun i2 hi2 hA2 f2 hf2 => ?_, fun i2 hi2 hA2 j2 hj2 => ?_, fun i2 hi2 hA2 u2 hu2 f2 hf2 => ?_⟩
  · have := lf_lt hf
    exact ⟨by rw [zI_un (by omega), up1_n (by omega)]; exact c1.1, by rw [zI_un (by omega), up1_n (by omega)]; exact c1.2.1, by rw [zI_un (by omega), up1_n (by omega)]; exact c1.2.2.1, by rw [zI_un (by omega), up1_n (by omega)]; exact c1.2.2.2⟩
  · have := lf_lt hf
    rw [zI_un (by omega), up1_n (by omega)]; exact c2 i2 hi2 f2 hf2
  · have := lf_lt hf
    have := pf_lt hf2
    rw [zI_un (by omega), up1_n (by omega)]; exact c3 i2 hi2 f2 hf2
  · have := lf_lt hf
    rw [up1_n (by omega)]; exact c4 j2 hj2
  · have := lf_lt hf
    rw [up1_n (by omega)]; exact c5 j2 hj2
  · have := lf_lt hf
    have := lf_lt hf2
    by_cases e : i2 = i ∧ f2 = f
    · obtain ⟨rfl, rfl⟩ := e; rw [zI_us, up1_s]
    · rw [zI_un (Decidable.byCases (fun q : i2 = i => by subst q; omega) (fun q : ¬ i2 = i => Or.inr (by have := hX.ne hi2 hi hA2 hA (j := 0) (j2 := 0) (Or.inl q) (by decide) (by decide); omega))), up1_n (fun q => e (by have : lf f2 = lf f → f2 = f := lf_ij hf2 hf; omega))]; exact c6 i2 hi2 hA2 f2 hf2
  · have := lf_lt hf
    rw [up1_n (by omega)]; exact c7 i2 hi2 hA2 j2 hj2
  · have := lf_lt hf
    rw [up1_n (by omega)]; exact c8 i2 hi2 hA2 u2 hu2 f2 hf2
theorem OX.L {S0 S : Hp} {w0 w : Nat → Nat} {k o : Nat} {A0 A c : Nat → Nat} (h : OX S0 w0 A0 S w k o A c) {i f : Nat} (hi : i < 24) (hA : A i ≠ 0) (hf : f < 10) {v : Nat} : OX S0 w0 A0 (uI S (224 + f) (A i) (nI v)) w k o A (up1 c (90 + 13 * i + lf f) v) :=
  h.mk rfl rfl rfl rfl rfl rfl (fun _ hb => same_uI hb) (h.1.2.2.1.w hi hA (j := 0) (by decide)) (CN.L h.1.2.2.1 h.1.2.1 h.1.2.2.2.1 hi hA hf)
theorem CN.R {S : Hp} {w : Nat → Nat} {k o : Nat} {A c : Nat → Nat} (hX : LoX S w k o A) (hm : ∀ j, j < 16 → w (o + j) = 32 * k) (h : CN S o A c) {i j : Nat} (hi : i < 24) (hA : A i ≠ 0) (hj : j < 3) {v : Nat} : CN (uA S (A i + 1) j (nI v)) o A (up1 c (90 + 13 * i + (10 + j)) v) := by
  obtain ⟨c1, c2, c3, c4, c5, c6, c7, c8⟩ := h
  refine ⟨?_, fun i2 hi2 f2 hf2 => ?_, fun i2 hi2 f2 hf2 => ?_, fun j2 hj2 => ?_, fun j2 hj2 => ?_, fun i2 hi2 hA2 f2 hf2 => ?_, fun i2 hi2 hA2 j2 hj2 => ?_, fun i2 hi2 hA2 u2 hu2 f2 hf2 => ?_⟩
  · exact ⟨by rw [up1_n (by omega)]; exact c1.1, by rw [up1_n (by omega)]; exact c1.2.1, by rw [up1_n (by omega)]; exact c1.2.2.1, by rw [up1_n (by omega)]; exact c1.2.2.2⟩
  · rw [up1_n (by omega)]; exact c2 i2 hi2 f2 hf2
  · have := pf_lt hf2
    rw [up1_n (by omega)]; exact c3 i2 hi2 f2 hf2
  · rw [zA_un (Or.inl (by have := hX.neo hm hi hA (j := 1) (j2 := 4) (by omega) (by decide); omega)), up1_n (by omega)]; exact c4 j2 hj2
  · rw [zA_un (Or.inl (by have := hX.neo hm hi hA (j := 1) (j2 := 5) (by omega) (by decide); omega)), up1_n (by omega)]; exact c5 j2 hj2
  · have := lf_lt hf2
    rw [up1_n (by omega)]; exact c6 i2 hi2 hA2 f2 hf2
  · by_cases e : i2 = i ∧ j2 = j
    · obtain ⟨rfl, rfl⟩ := e; rw [zA_us, up1_s]
    · rw [zA_un (Decidable.byCases (fun q : i2 = i => by subst q; omega) (fun q : ¬ i2 = i => Or.inl (hX.ne hi2 hi hA2 hA (Or.inl q) (by decide) (by decide)))), up1_n (by omega)]; exact c7 i2 hi2 hA2 j2 hj2
  · rw [zA_un (Or.inl (by have := hX.ne hi2 hi hA2 hA (j := 2 + f2) (j2 := 1) (by omega) (by omega) (by omega); omega)), up1_n (by omega)]; exact c8 i2 hi2 hA2 u2 hu2 f2 hf2
theorem OX.R {S0 S : Hp} {w0 w : Nat → Nat} {k o : Nat} {A0 A c : Nat → Nat} (h : OX S0 w0 A0 S w k o A c) {i j : Nat} (hi : i < 24) (hA : A i ≠ 0) (hj : j < 3) {v : Nat} : OX S0 w0 A0 (uA S (A i + 1) j (nI v)) w k o A (up1 c (90 + 13 * i + (10 + j)) v) :=
  h.mk rfl rfl rfl rfl rfl rfl (fun _ hb => same_uA hb) (h.1.2.2.1.w hi hA (j := 1) (by decide)) (CN.R h.1.2.2.1 h.1.2.1 h.1.2.2.2.1 hi hA hj)
theorem CN.U {S : Hp} {w : Nat → Nat} {k o : Nat} {A c : Nat → Nat} (hX : LoX S w k o A) (hm : ∀ j, j < 16 → w (o + j) = 32 * k) (h : CN S o A c) {i u f : Nat} (hi : i < 24) (hA : A i ≠ 0) (hu : u < 200) (hf : f < 6) {v : Nat} : CN (uA S (A i + 2 + f) u (nI v)) o A (up1 c (402 + 8 * (200 * i + u) + f) v) := by
  obtain ⟨c1, c2, c3, c4, c5, c6, c7, c8⟩ := h
  refine ⟨?_, fun i2 hi2 f2 hf2 => ?_, fun i2 hi2 f2 hf2 => ?_, fun j2 hj2 => ?_, fun j2 hj2 => ?_, fun i2 hi2 hA2 f2 hf2 => ?_, fun i2 hi2 hA2 j2 hj2 => ?_, fun i2 hi2 hA2 u2 hu2 f2 hf2 => ?_⟩
  · exact ⟨by rw [up1_n (by omega)]; exact c1.1, by rw [up1_n (by omega)]; exact c1.2.1, by rw [up1_n (by omega)]; exact c1.2.2.1, by rw [up1_n (by omega)]; exact c1.2.2.2⟩
  · rw [up1_n (by omega)]; exact c2 i2 hi2 f2 hf2
  · have := pf_lt hf2
    rw [up1_n (by omega)]; exact c3 i2 hi2 f2 hf2
  · rw [zA_un (Or.inl (by have := hX.neo hm hi hA (j := 2 + f) (j2 := 4) (by omega) (by decide); omega)), up1_n (by omega)]; exact c4 j2 hj2
  · rw [zA_un (Or.inl (by have := hX.neo hm hi hA (j := 2 + f) (j2 := 5) (by omega) (by decide); omega)), up1_n (by omega)]; exact c5 j2 hj2
  · have := lf_lt hf2
    rw [up1_n (by omega)]; exact c6 i2 hi2 hA2 f2 hf2
  · rw [zA_un (Or.inl (by have := hX.ne hi2 hi hA2 hA (j := 1) (j2 := 2 + f) (by omega) (by omega) (by omega); omega)), up1_n (by omega)]; exact c7 i2 hi2 hA2 j2 hj2
  · by_cases e : i2 = i ∧ u2 = u ∧ f2 = f
    · obtain ⟨rfl, rfl, rfl⟩ := e; rw [zA_us, up1_s]
    · rw [zA_un (Decidable.byCases (fun q : i2 = i ∧ f2 = f => by omega) (fun q : ¬ (i2 = i ∧ f2 = f) => Or.inl (by have := hX.ne hi2 hi hA2 hA (j := 2 + f2) (j2 := 2 + f) (by omega) (by omega) (by omega); omega))), up1_n (by omega)]; exact c8 i2 hi2 hA2 u2 hu2 f2 hf2
theorem OX.U {S0 S : Hp} {w0 w : Nat → Nat} {k o : Nat} {A0 A c : Nat → Nat} (h : OX S0 w0 A0 S w k o A c) {i u f : Nat} (hi : i < 24) (hA : A i ≠ 0) (hu : u < 200) (hf : f < 6) {v : Nat} : OX S0 w0 A0 (uA S (A i + 2 + f) u (nI v)) w k o A (up1 c (402 + 8 * (200 * i + u) + f) v) :=
  h.mk rfl rfl rfl rfl rfl rfl (fun _ hb => same_uA hb) (by rw [Nat.add_assoc]; exact h.1.2.2.1.w hi hA (j := 2 + f) (by omega)) (CN.U h.1.2.2.1 h.1.2.1 h.1.2.2.2.1 hi hA hu hf)
theorem OR.o0 {S : Hp} {w : Nat → Nat} {k o : Nat} {A c : Nat → Nat} (h : OR S w k o A c) : zI S 293 o = nI (c 0) := h.2.2.2.1.1.1
theorem OR.o2 {S : Hp} {w : Nat → Nat} {k o : Nat} {A c : Nat → Nat} (h : OR S w k o A c) : zI S 294 o = nI (c 2) := h.2.2.2.1.1.2.1
theorem OR.o1 {S : Hp} {w : Nat → Nat} {k o : Nat} {A c : Nat → Nat} (h : OR S w k o A c) : zI S 295 o = nI (c 1) := h.2.2.2.1.1.2.2.1
theorem OR.o3 {S : Hp} {w : Nat → Nat} {k o : Nat} {A c : Nat → Nat} (h : OR S w k o A c) : zI S 296 o = nI (c 3) := h.2.2.2.1.1.2.2.2
theorem OR.m0 {S : Hp} {w : Nat → Nat} {k o : Nat} {A c : Nat → Nat} (h : OR S w k o A c) {i : Nat} (hi : i < 6) : zI S 256 (o + 6 + i) = nI (c (4 + 3 * i)) := h.2.2.2.1.2.1 i hi 0 (by decide)
theorem OR.m1 {S : Hp} {w : Nat → Nat} {k o : Nat} {A c : Nat → Nat} (h : OR S w k o A c) {i : Nat} (hi : i < 6) : zI S 257 (o + 6 + i) = nI (c (4 + 3 * i + 1)) := h.2.2.2.1.2.1 i hi 1 (by decide)
theorem OR.m2 {S : Hp} {w : Nat → Nat} {k o : Nat} {A c : Nat → Nat} (h : OR S w k o A c) {i : Nat} (hi : i < 6) : zI S 258 (o + 6 + i) = nI (c (4 + 3 * i + 2)) := h.2.2.2.1.2.1 i hi 2 (by decide)
theorem OR.p0 {S : Hp} {w : Nat → Nat} {k o : Nat} {A c : Nat → Nat} (h : OR S w k o A c) {i : Nat} (hi : i < 4) : zI S 320 (o + 12 + i) = nI (c (22 + 10 * i)) := h.2.2.2.1.2.2.1 i hi 0 (by decide)
theorem OR.p1 {S : Hp} {w : Nat → Nat} {k o : Nat} {A c : Nat → Nat} (h : OR S w k o A c) {i : Nat} (hi : i < 4) : zI S 321 (o + 12 + i) = nI (c (22 + 10 * i + 1)) := h.2.2.2.1.2.2.1 i hi 1 (by decide)
theorem OR.p2 {S : Hp} {w : Nat → Nat} {k o : Nat} {A c : Nat → Nat} (h : OR S w k o A c) {i : Nat} (hi : i < 4) : zI S 322 (o + 12 + i) = nI (c (22 + 10 * i + 2)) := h.2.2.2.1.2.2.1 i hi 2 (by decide)
theorem OR.p3 {S : Hp} {w : Nat → Nat} {k o : Nat} {A c : Nat → Nat} (h : OR S w k o A c) {i : Nat} (hi : i < 4) : zI S 323 (o + 12 + i) = nI (c (22 + 10 * i + 3)) := h.2.2.2.1.2.2.1 i hi 3 (by decide)
theorem OR.p4 {S : Hp} {w : Nat → Nat} {k o : Nat} {A c : Nat → Nat} (h : OR S w k o A c) {i : Nat} (hi : i < 4) : zI S 324 (o + 12 + i) = nI (c (22 + 10 * i + 4)) := h.2.2.2.1.2.2.1 i hi 4 (by decide)
theorem OR.p5 {S : Hp} {w : Nat → Nat} {k o : Nat} {A c : Nat → Nat} (h : OR S w k o A c) {i : Nat} (hi : i < 4) : zI S 325 (o + 12 + i) = nI (c (22 + 10 * i + 5)) := h.2.2.2.1.2.2.1 i hi 5 (by decide)
theorem OR.p6 {S : Hp} {w : Nat → Nat} {k o : Nat} {A c : Nat → Nat} (h : OR S w k o A c) {i : Nat} (hi : i < 4) : zI S 326 (o + 12 + i) = nI (c (22 + 10 * i + 6)) := h.2.2.2.1.2.2.1 i hi 6 (by decide)
theorem OR.p7 {S : Hp} {w : Nat → Nat} {k o : Nat} {A c : Nat → Nat} (h : OR S w k o A c) {i : Nat} (hi : i < 4) : zI S 327 (o + 12 + i) = nI (c (22 + 10 * i + 8)) := h.2.2.2.1.2.2.1 i hi 7 (by decide)
theorem OR.p8 {S : Hp} {w : Nat → Nat} {k o : Nat} {A c : Nat → Nat} (h : OR S w k o A c) {i : Nat} (hi : i < 4) : zI S 328 (o + 12 + i) = nI (c (22 + 10 * i + 9)) := h.2.2.2.1.2.2.1 i hi 8 (by decide)
theorem OR.b {S : Hp} {w : Nat → Nat} {k o : Nat} {A c : Nat → Nat} (h : OR S w k o A c) {j : Nat} (hj : j < 28) : zA S (o + 4) j = nI (c (62 + j)) := h.2.2.2.1.2.2.2.1 j hj
theorem OR.d {S : Hp} {w : Nat → Nat} {k o : Nat} {A c : Nat → Nat} (h : OR S w k o A c) {j : Nat} (hj : j < 200) : zA S (o + 5) j = nI (c (60000 + j)) := h.2.2.2.1.2.2.2.2.1 j hj
theorem OR.l0 {S : Hp} {w : Nat → Nat} {k o : Nat} {A c : Nat → Nat} (h : OR S w k o A c) {i : Nat} (hi : i < 24) (hA : A i ≠ 0) : zI S 224 (A i) = nI (c (90 + 13 * i + 0)) := h.2.2.2.1.2.2.2.2.2.1 i hi hA 0 (by decide)
theorem OR.l1 {S : Hp} {w : Nat → Nat} {k o : Nat} {A c : Nat → Nat} (h : OR S w k o A c) {i : Nat} (hi : i < 24) (hA : A i ≠ 0) : zI S 225 (A i) = nI (c (90 + 13 * i + 9)) := h.2.2.2.1.2.2.2.2.2.1 i hi hA 1 (by decide)
theorem OR.l2 {S : Hp} {w : Nat → Nat} {k o : Nat} {A c : Nat → Nat} (h : OR S w k o A c) {i : Nat} (hi : i < 24) (hA : A i ≠ 0) : zI S 226 (A i) = nI (c (90 + 13 * i + 1)) := h.2.2.2.1.2.2.2.2.2.1 i hi hA 2 (by decide)
theorem OR.l3 {S : Hp} {w : Nat → Nat} {k o : Nat} {A c : Nat → Nat} (h : OR S w k o A c) {i : Nat} (hi : i < 24) (hA : A i ≠ 0) : zI S 227 (A i) = nI (c (90 + 13 * i + 2)) := h.2.2.2.1.2.2.2.2.2.1 i hi hA 3 (by decide)
theorem OR.l4 {S : Hp} {w : Nat → Nat} {k o : Nat} {A c : Nat → Nat} (h : OR S w k o A c) {i : Nat} (hi : i < 24) (hA : A i ≠ 0) : zI S 228 (A i) = nI (c (90 + 13 * i + 3)) := h.2.2.2.1.2.2.2.2.2.1 i hi hA 4 (by decide)
theorem OR.l5 {S : Hp} {w : Nat → Nat} {k o : Nat} {A c : Nat → Nat} (h : OR S w k o A c) {i : Nat} (hi : i < 24) (hA : A i ≠ 0) : zI S 229 (A i) = nI (c (90 + 13 * i + 4)) := h.2.2.2.1.2.2.2.2.2.1 i hi hA 5 (by decide)
theorem OR.l6 {S : Hp} {w : Nat → Nat} {k o : Nat} {A c : Nat → Nat} (h : OR S w k o A c) {i : Nat} (hi : i < 24) (hA : A i ≠ 0) : zI S 230 (A i) = nI (c (90 + 13 * i + 5)) := h.2.2.2.1.2.2.2.2.2.1 i hi hA 6 (by decide)
theorem OR.l7 {S : Hp} {w : Nat → Nat} {k o : Nat} {A c : Nat → Nat} (h : OR S w k o A c) {i : Nat} (hi : i < 24) (hA : A i ≠ 0) : zI S 231 (A i) = nI (c (90 + 13 * i + 6)) := h.2.2.2.1.2.2.2.2.2.1 i hi hA 7 (by decide)
theorem OR.l8 {S : Hp} {w : Nat → Nat} {k o : Nat} {A c : Nat → Nat} (h : OR S w k o A c) {i : Nat} (hi : i < 24) (hA : A i ≠ 0) : zI S 232 (A i) = nI (c (90 + 13 * i + 7)) := h.2.2.2.1.2.2.2.2.2.1 i hi hA 8 (by decide)
theorem OR.l9 {S : Hp} {w : Nat → Nat} {k o : Nat} {A c : Nat → Nat} (h : OR S w k o A c) {i : Nat} (hi : i < 24) (hA : A i ≠ 0) : zI S 233 (A i) = nI (c (90 + 13 * i + 8)) := h.2.2.2.1.2.2.2.2.2.1 i hi hA 9 (by decide)
theorem OR.r {S : Hp} {w : Nat → Nat} {k o : Nat} {A c : Nat → Nat} (h : OR S w k o A c) {i j : Nat} (hi : i < 24) (hA : A i ≠ 0) (hj : j < 3) : zA S (A i + 1) j = nI (c (90 + 13 * i + (10 + j))) := h.2.2.2.1.2.2.2.2.2.2.1 i hi hA j hj
theorem OR.u0 {S : Hp} {w : Nat → Nat} {k o : Nat} {A c : Nat → Nat} (h : OR S w k o A c) {i u : Nat} (hi : i < 24) (hA : A i ≠ 0) (hu : u < 200) : zA S (A i + 2) u = nI (c (402 + 8 * (200 * i + u))) := h.2.2.2.1.2.2.2.2.2.2.2 i hi hA u hu 0 (by decide)
theorem OR.u1 {S : Hp} {w : Nat → Nat} {k o : Nat} {A c : Nat → Nat} (h : OR S w k o A c) {i u : Nat} (hi : i < 24) (hA : A i ≠ 0) (hu : u < 200) : zA S (A i + 3) u = nI (c (402 + 8 * (200 * i + u) + 1)) := h.2.2.2.1.2.2.2.2.2.2.2 i hi hA u hu 1 (by decide)
theorem OR.u2 {S : Hp} {w : Nat → Nat} {k o : Nat} {A c : Nat → Nat} (h : OR S w k o A c) {i u : Nat} (hi : i < 24) (hA : A i ≠ 0) (hu : u < 200) : zA S (A i + 4) u = nI (c (402 + 8 * (200 * i + u) + 2)) := h.2.2.2.1.2.2.2.2.2.2.2 i hi hA u hu 2 (by decide)
theorem OR.u3 {S : Hp} {w : Nat → Nat} {k o : Nat} {A c : Nat → Nat} (h : OR S w k o A c) {i u : Nat} (hi : i < 24) (hA : A i ≠ 0) (hu : u < 200) : zA S (A i + 5) u = nI (c (402 + 8 * (200 * i + u) + 3)) := h.2.2.2.1.2.2.2.2.2.2.2 i hi hA u hu 3 (by decide)
theorem OR.u4 {S : Hp} {w : Nat → Nat} {k o : Nat} {A c : Nat → Nat} (h : OR S w k o A c) {i u : Nat} (hi : i < 24) (hA : A i ≠ 0) (hu : u < 200) : zA S (A i + 6) u = nI (c (402 + 8 * (200 * i + u) + 4)) := h.2.2.2.1.2.2.2.2.2.2.2 i hi hA u hu 4 (by decide)
theorem OR.u5 {S : Hp} {w : Nat → Nat} {k o : Nat} {A c : Nat → Nat} (h : OR S w k o A c) {i u : Nat} (hi : i < 24) (hA : A i ≠ 0) (hu : u < 200) : zA S (A i + 7) u = nI (c (402 + 8 * (200 * i + u) + 5)) := h.2.2.2.1.2.2.2.2.2.2.2 i hi hA u hu 5 (by decide)
theorem OR.lo {S : Hp} {w : Nat → Nat} {k o : Nat} {A c : Nat → Nat} (h : OR S w k o A c) {i : Nat} (hi : i < 24) (hA : A i ≠ 0) : zQ S (o + 3) i = some (A i) ∧ LoS S (A i) := by
  rcases h.2.2.1 i hi with q | ⟨-, q1, q2, -⟩
  · exact absurd q.1 hA
  · exact ⟨q1, q2⟩
/-- an office's method that makes nothing: it answers v, its numbers are c' -/
def OFn (M : MI) (G : GI) (av : List Value) (S : Hp) (w : Nat → Nat) (k o : Nat) (A : Nat → Nat) (v : Option Value) (c' : Nat → Nat) : Prop := Cn M G av S (fun r T => r = .inl v ∧ OX S w A T w k o A c')
theorem OFn.eq {M : MI} {G : GI} {av : List Value} {S : Hp} {w : Nat → Nat} {k o : Nat} {A : Nat → Nat} {v v' : Option Value} {c c' : Nat → Nat} (h : OFn M G av S w k o A v c) (hv : v = v') (hc : c = c') : OFn M G av S w k o A v' c' := hv ▸ hc ▸ h
section OfRules
variable {M M2 : MI} {G : GI} {S S0 : Hp} {w w0 : Nat → Nat} {k o : Nat} {A A0 c : Nat → Nat} {pc : Nat} {lv : List (Nat × Value)} {st : List Value} {Q : OV → Hp → Prop}
theorem r_ofV {idx n b ci : Nat} {r : vw_C} {As rest : List Value} {v : Option Value} {c' : Nat → Nat} {st' : List Value} (hd : decode (mB M) pc = .ok (.invokevirtual idx, 3)) (hcs : cV M M2 idx n) (hh : mH M2 = []) (hn : As.length = n) (hst : st = As.reverse ++ .ref b :: rest) (hcat : (rest.map fun v => v.category).sum ≤ 8)
    (hbt : zT S b = ci + 1) (hc0 : vwCl[ci]? = some r) (hr1 : r.1 = (mY M2).cls) (h3 : ci < 100) (hx : OX S0 w0 A0 S w k o A c) (hf : OFn M2 G (.ref b :: As) S w k o A v c') (hs : v.toList ++ rest = st') (kk : ∀ T, OX S0 w0 A0 T w k o A c' → Wx M G T (pc + 3) lv st' Q) : Wx M G S pc lv st Q :=
  r_callV hd hcs hh hn hst hcat hbt hc0 hr1 h3 hf (fun v2 T h => by obtain ⟨h1, h2⟩ := h; cases h1; rw [hs]; exact kk T (hx.trans h2)) (fun E T h => by obtain ⟨h1, -⟩ := h; cases h1)
end OfRules
