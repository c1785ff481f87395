/-! A LOT ON ITS WAY -/
theorem beg_h {g : Nat → Nat} {a p n K : Nat} (h0 : g 0 < 24) : begG g a p n K (90 + 13 * g 0 + 0) = p ∧ begG g a p n K (90 + 13 * g 0 + 1) = n ∧ begG g a p n K (90 + 13 * g 0 + 2) = 0 ∧ begG g a p n K (90 + 13 * g 0 + 3) = 0 ∧ begG g a p n K (90 + 13 * g 0 + 4) = 4294967295 ∧ begG g a p n K (90 + 13 * g 0 + 5) = 4294967295 ∧ begG g a p n K (90 + 13 * g 0 + 6) = 4294967295 ∧ begG g a p n K (90 + 13 * g 0 + 7) = 4294967295 ∧ begG g a p n K (90 + 13 * g 0 + 8) = K ∧ begG g a p n K (90 + 13 * g 0 + 9) = a := by
  unfold begG clrG
  refine ⟨?_, ?_, ?_, ?_, ?_, ?_, ?_, ?_, ?_, ?_⟩
  · rw [if_neg (by omega)]; unfold begH hdrG; rw [up1_n (by omega), up1_n (by omega), up1_n (by omega), up1_s]
  · rw [if_neg (by omega)]; unfold begH hdrG; rw [up1_n (by omega), up1_n (by omega), up1_s]
  · rw [if_neg (by omega)]; unfold begH hdrG; rw [up1_n (by omega), up1_n (by omega), up1_n (by omega), up1_n (by omega), up1_n (by omega), up1_n (by omega), up1_n (by omega), up1_n (by omega), up1_n (by omega), up1_n (by omega), up1_n (by omega), up1_n (by omega), up1_n (by omega), up1_n (by omega), up1_s]
  · rw [if_neg (by omega)]; unfold begH hdrG; rw [up1_n (by omega), up1_n (by omega), up1_n (by omega), up1_n (by omega), up1_n (by omega), up1_n (by omega), up1_n (by omega), up1_n (by omega), up1_n (by omega), up1_n (by omega), up1_n (by omega), up1_n (by omega), up1_n (by omega), up1_s]
  · rw [if_neg (by omega)]; unfold begH hdrG; rw [up1_n (by omega), up1_n (by omega), up1_n (by omega), up1_n (by omega), up1_n (by omega), up1_n (by omega), up1_n (by omega), up1_n (by omega), up1_n (by omega), up1_n (by omega), up1_n (by omega), up1_n (by omega), up1_s]
  · rw [if_neg (by omega)]; unfold begH hdrG; rw [up1_n (by omega), up1_n (by omega), up1_n (by omega), up1_n (by omega), up1_n (by omega), up1_n (by omega), up1_n (by omega), up1_n (by omega), up1_n (by omega), up1_n (by omega), up1_n (by omega), up1_s]
  · rw [if_neg (by omega)]; unfold begH hdrG; rw [up1_n (by omega), up1_n (by omega), up1_n (by omega), up1_n (by omega), up1_n (by omega), up1_n (by omega), up1_n (by omega), up1_n (by omega), up1_n (by omega), up1_n (by omega), up1_s]
  · rw [if_neg (by omega)]; unfold begH hdrG; rw [up1_n (by omega), up1_n (by omega), up1_n (by omega), up1_n (by omega), up1_n (by omega), up1_n (by omega), up1_n (by omega), up1_n (by omega), up1_n (by omega), up1_s]
  · rw [if_neg (by omega)]; unfold begH hdrG; rw [up1_n (by omega), up1_s]
  · rw [if_neg (by omega)]; unfold begH hdrG; rw [up1_s]
theorem beg_z {g : Nat → Nat} {a p n K j : Nat} (hj : 402 + 2 * (200 * g 0) ≤ j ∧ j < 402 + 2 * (200 * g 0 + n)) : begG g a p n K j = 0 := by
  unfold begG clrG
  rw [if_pos hj]
/-- k of a new lot's parts are taken: d the class's numbers, G the reference's -/
def MK (c g : Nat → Nat) (l n p a K : Nat) (tt : Nat → Nat) (ee : Nat → Nat → Nat) (k : Nat) (d G : Nat → Nat) : Prop :=
  (∀ j, j < 90 + 13 * l → d j = c j) ∧ ((∀ j, 1 ≤ j → j < 90 + 13 * l → G j = g j) ∧ G 0 = l + 1) ∧
  (d (90 + 13 * l + 0) = p ∧ d (90 + 13 * l + 1) = n ∧ d (90 + 13 * l + 2) = 0 ∧ d (90 + 13 * l + 3) = 0 ∧ d (90 + 13 * l + 4) = 4294967295 ∧ d (90 + 13 * l + 5) = 4294967295 ∧ d (90 + 13 * l + 6) = 4294967295 ∧ d (90 + 13 * l + 7) = 4294967295 ∧ d (90 + 13 * l + 8) = k ∧ d (90 + 13 * l + 9) = a) ∧ (G (90 + 13 * l + 0) = p ∧ G (90 + 13 * l + 1) = n ∧ G (90 + 13 * l + 2) = 0 ∧ G (90 + 13 * l + 3) = 0 ∧ G (90 + 13 * l + 4) = 4294967295 ∧ G (90 + 13 * l + 5) = 4294967295 ∧ G (90 + 13 * l + 6) = 4294967295 ∧ G (90 + 13 * l + 7) = 4294967295 ∧ G (90 + 13 * l + 8) = K ∧ G (90 + 13 * l + 9) = a) ∧
  (∀ i, i < k → d (90 + 13 * l + (10 + i)) = tt i ∧ G (90 + 13 * l + (10 + i)) = tt i) ∧
  (∀ t v, t < l → v < g (90 + 13 * t + 1) → OU c d g G l k n tt ee t v) ∧ (∀ t v, t < l → v < 200 → G (402 + 2 * (200 * t + v) + 1) = g (402 + 2 * (200 * t + v) + 1)) ∧
  (∀ u, u < n → (d (402 + 8 * (200 * l + u)) = 0 ∧ d (402 + 8 * (200 * l + u) + 1) = G (402 + 2 * (200 * l + u)) ∧ d (402 + 8 * (200 * l + u) + 2) = 0 ∧ d (402 + 8 * (200 * l + u) + 3) = 0 ∧ d (402 + 8 * (200 * l + u) + 4) = 4294967295 ∧ d (402 + 8 * (200 * l + u) + 5) = 0) ∧ G (402 + 2 * (200 * l + u)) < 16 ∧ (∀ q, q < 4 → (bW (G (402 + 2 * (200 * l + u))) q = 1 ↔ ∃ i, i < k ∧ bW (g (402 + 2 * (200 * tt i + ee i u))) q = 1)) ∧ G (402 + 2 * (200 * l + u) + 1) < 2 ^ (8 * k) ∧ ∀ i, i < k → pW (G (402 + 2 * (200 * l + u) + 1)) i = ee i u ∧ sW (G (402 + 2 * (200 * tt i + ee i u))) = 3 ∧ d (402 + 8 * (200 * tt i + ee i u) + 4) = 1000 * l + u) ∧ WB G
theorem MK.base {c c1 c2 g : Nat → Nat} {N l n p a K : Nat} {tt : Nat → Nat} {ee : Nat → Nat → Nat} (hr : Rel c g N) (hl : g 0 = l) (hl24 : l < 24) (hn : n ≤ 200) (hc1 : ∀ j, ¬ inL l j → c1 j = c j) (hb : BG c1 l p a n n c2) : MK c g l n p a K tt ee 0 c2 (begG g a p n K) := by
  subst hl
  obtain ⟨b1, b2, b3⟩ := hb
  have e : ∀ j, ¬ inL (g 0) j → c2 j = c j := fun j hj => (b1 j hj).trans (hc1 j hj)
  refine ⟨fun j hj => e j (by unfold inL; omega), ⟨fun j h1 h2 => begG_lo h1 h2, begG_0⟩, b2, beg_h hl24, fun i hi => absurd hi (Nat.not_lt_zero i), fun t v ht hv => Or.inl ⟨fun f hf => ?_, ?_⟩, fun t v ht hv => begG_hi hl24 (by omega) (by omega), fun u hu => ?_, WB.beg hl24 hr.wb⟩
  · have := (hr.lot ht).z
    exact e _ (by unfold inL; omega)
  · have := (hr.lot ht).z
    exact begG_hi hl24 (by omega) (by omega)
  · obtain ⟨r0, r1, r2, r3, r4, r5⟩ := b3 u hu
    have z0 : begG g a p n K (402 + 2 * (200 * g 0 + u)) = 0 := beg_z (by omega)
    have z1 : begG g a p n K (402 + 2 * (200 * g 0 + u) + 1) = 0 := beg_z (by omega)
    rw [z0, z1]
    refine ⟨⟨r0, r1, r2, r3, r4, r5⟩, by decide, fun q hq => ⟨fun x => ?_, fun x => ?_⟩, by decide, fun i hi => absurd hi (Nat.not_lt_zero i)⟩
    · unfold bW at x
      rw [Nat.zero_mod, Nat.zero_div] at x
      exact absurd x (by decide)
    · obtain ⟨i, hi, _⟩ := x
      exact absurd hi (Nat.not_lt_zero i)
theorem or_b {x y q : Nat} (hq : q < 4) : (bW (x ||| y % 16) q = 1 ↔ bW x q = 1 ∨ bW y q = 1) := by
  have h16 : (y % 16).testBit q = y.testBit q := by
    rw [show 16 = 2 ^ 4 from rfl, Nat.testBit_mod_two_pow, decide_eq_true hq, Bool.true_and]
  rw [bW_tb hq, bW_tb hq, bW_tb hq, Nat.testBit_or, h16]
  by_cases h1 : x.testBit q = true
  · rw [h1]; exact ⟨fun _ => Or.inl rfl, fun _ => rfl⟩
  · rw [Bool.eq_false_iff.mpr h1, Bool.false_or]
    exact ⟨fun h => Or.inr h, fun h => h.elim (fun z => absurd z (by decide)) id⟩
theorem or_p {x e k : Nat} (hx : x < 2 ^ (8 * k)) (he : e < 256) : (x ||| e * 2 ^ (8 * k)) < 2 ^ (8 * (k + 1)) ∧ pW (x ||| e * 2 ^ (8 * k)) k = e ∧ ∀ i, i < k → pW (x ||| e * 2 ^ (8 * k)) i = pW x i := by
  have he2 : e < 2 ^ 8 := he
  refine ⟨?_, ?_, fun i hi => ?_⟩
  · refine Nat.or_lt_two_pow (Nat.lt_of_lt_of_le hx (Nat.pow_le_pow_right (by decide) (by omega))) ?_
    rw [show 8 * (k + 1) = 8 + 8 * k by omega, Nat.pow_add]
    exact Nat.mul_lt_mul_of_pos_right he2 (Nat.pow_pos (by decide))
  · unfold pW
    refine Nat.eq_of_testBit_eq fun j => ?_
    rw [fld_tb, Nat.testBit_or, tb_sh, tb_lt hx (Nat.le_add_right _ _), Bool.false_or, decide_eq_true (Nat.le_add_right _ _), Bool.true_and, Nat.add_sub_cancel_left]
    by_cases q : j < 8
    · rw [decide_eq_true q, Bool.true_and]
    · rw [tb_lt he2 (by omega), Bool.and_false]
  · unfold pW
    refine fld_ext fun j hj => ?_
    rw [Nat.testBit_or, tb_sh, decide_eq_false (by omega), Bool.false_and, Bool.or_false]
