/-! DOUBLES AND FLOATS: numbers that are not negative, by their bits; their value counts in units of the format's least number -/
theorem fp_r {f : FP.Core.Fmt} (hf : FP.Core.Good f) {n m A B : Nat} {e e0 : Int} (hd : FP.Core.decode f n = FP.Core.roundRatio f false A B e) (hn : n < 2 * FP.Core.half f) (hB : 0 < B) (h0 : e0 ≤ f.qmin) (h0e : e0 ≤ e) (hm : m < FP.Core.infBits f) (hX : FP.Core.inUnits A e e0 ≤ FP.Core.unitsOf f m * 2 ^ (f.qmin - e0).toNat * B) : n ≤ m ∧ FP.Core.mag f n = n := by
  have h1 := FP.Core.mag_le hf hd hB h0 h0e hX
  have h2 := FP.Core.infBits_lt f
  have h3 := FP.Core.sgn_decode (f := f) (n := n) (by omega) hn
  rw [hd, FP.Core.sgn_roundRatio] at h3
  have h4 : ¬ FP.Core.half f ≤ n := of_decide_eq_false h3.symm
  have h5 := FP.Core.mag_of_lt (f := f) (m := n) (by omega)
  rw [h5] at h1
  exact ⟨h1, h5⟩
theorem fp_x {f : FP.Core.Fmt} (hf : FP.Core.Good f) {n m A B : Nat} {e e0 : Int} (hd : FP.Core.decode f n = FP.Core.roundRatio f false A B e) (hn : n < 2 * FP.Core.half f) (hB : 0 < B) (h0 : e0 ≤ f.qmin) (h0e : e0 ≤ e) (hm : m < FP.Core.infBits f) (hX : FP.Core.inUnits A e e0 = FP.Core.unitsOf f m * 2 ^ (f.qmin - e0).toNat * B) : n = m := by
  obtain ⟨h1, h2⟩ := fp_r hf hd hn hB h0 h0e hm (Nat.le_of_eq hX)
  have h3 := FP.Core.mag_ge hf hd hB h0 h0e (Nat.le_of_lt hm) (Nat.le_of_eq hX.symm)
  rw [h2] at h3
  omega
theorem fp_ge {f : FP.Core.Fmt} (hf : FP.Core.Good f) {n m A B : Nat} {e e0 : Int} (hd : FP.Core.decode f n = FP.Core.roundRatio f false A B e) (hmn : FP.Core.mag f n = n) (hB : 0 < B) (h0 : e0 ≤ f.qmin) (h0e : e0 ≤ e) (hm : m < FP.Core.infBits f) (hX : FP.Core.unitsOf f m * 2 ^ (f.qmin - e0).toNat * B ≤ FP.Core.inUnits A e e0) : m ≤ n := by
  have h3 := FP.Core.mag_ge hf hd hB h0 h0e (Nat.le_of_lt hm) hX
  rw [hmn] at h3
  exact h3
/-- by how much rounding may differ -/
theorem fp_e {f : FP.Core.Fmt} (hf : FP.Core.Good f) {n A B : Nat} {e e0 : Int} (hd : FP.Core.decode f n = FP.Core.roundRatio f false A B e) (hfin : n < FP.Core.infBits f) (hB : 0 < B) (h0 : e0 ≤ f.qmin) (h0e : e0 ≤ e) (hlo : f.tails * 2 ^ (f.qmin - e0).toNat * B ≤ FP.Core.inUnits A e e0) :
    2 * f.tails * (FP.Core.unitsOf f n * 2 ^ (f.qmin - e0).toNat * B) ≤ (2 * f.tails + 1) * FP.Core.inUnits A e e0 ∧ 2 * f.tails * FP.Core.inUnits A e e0 ≤ (2 * f.tails + 1) * (FP.Core.unitsOf f n * 2 ^ (f.qmin - e0).toNat * B) := by
  have ht := FP.Core.tails_pos f
  have hA : 0 < A := Nat.pos_of_ne_zero fun q => by
    subst q
    unfold FP.Core.inUnits at hlo
    rw [Nat.zero_mul] at hlo
    have : 0 < f.tails * 2 ^ (f.qmin - e0).toNat * B := Nat.mul_pos (Nat.mul_pos ht (Nat.two_pow_pos _)) hB
    omega
  have g1 := FP.Core.quantum_ge f A B e
  have g2 := FP.Core.nearest_units_le (f := f) hA hB e
  have g3 := FP.Core.quantum_not_below (f := f) hA hB e
  unfold FP.Core.roundRatio at hd
  rw [if_neg (by omega)] at hd
  unfold FP.Core.roundAt at hd
  generalize FP.Core.quantum f A B e = r at hd g1 g2 g3
  have ha : FP.Core.inUnits A e e0 = FP.Core.unitsNum A e r * 2 ^ (min e r - e0).toNat := by
    unfold FP.Core.inUnits FP.Core.unitsNum
    rw [show (e - e0).toNat = (e - r).toNat + (min e r - e0).toNat by omega, Nat.pow_add, Nat.mul_assoc]
  have hD : B * 2 ^ (r - e0).toNat = FP.Core.unitsDen B e r * 2 ^ (min e r - e0).toNat := by
    unfold FP.Core.unitsDen
    rw [show (r - e0).toNat = (r - e).toNat + (min e r - e0).toNat by omega, Nat.pow_add, Nat.mul_assoc]
  have hnn : FP.Core.nearest (FP.Core.unitsNum A e r) (FP.Core.unitsDen B e r) = FP.Core.nearest (FP.Core.inUnits A e e0) (B * 2 ^ (r - e0).toNat) := by
    rw [ha, hD, FP.Core.nearest_scale _ _ _ (Nat.two_pow_pos _)]
  have hDp : 0 < B * 2 ^ (r - e0).toNat := Nat.mul_pos hB (Nat.two_pow_pos _)
  have low : f.tails * (B * 2 ^ (r - e0).toNat) ≤ FP.Core.inUnits A e e0 := by
    rcases g3 with g3 | g3
    · subst g3
      rw [Nat.mul_comm B, ← Nat.mul_assoc]; exact hlo
    · rw [show (f.p : Int) - 1 = ((f.p - 1 : Nat) : Int) by have := hf.2; omega, ← FP.Core.units_below] at g3
      rw [ha, hD, ← Nat.mul_assoc]
      exact Nat.mul_le_mul_right _ (Nat.le_of_not_lt g3)
  rw [hnn] at hd g2
  have hm : FP.Core.mag f n = n := FP.Core.mag_of_lt (Nat.lt_trans hfin (FP.Core.infBits_lt f))
  obtain ⟨s, c, q, k1, k2, k3⟩ := FP.Core.fin_of_mag hf (n := n) (by rw [hm]; exact hfin)
  rw [k1] at hd
  have k4 := (FP.Core.settle_value hf (e0 := e0) g2 hd.symm (by omega)).2
  rw [FP.Core.units_fin k2 h0, k3, hm] at k4
  have e1 : FP.Core.unitsOf f n * 2 ^ (f.qmin - e0).toNat * B = FP.Core.nearest (FP.Core.inUnits A e e0) (B * 2 ^ (r - e0).toNat) * (B * 2 ^ (r - e0).toNat) := by
    rw [k4]
    unfold FP.Core.inUnits
    ac_rfl
  rw [e1]
  obtain ⟨n1, n2, -⟩ := FP.Core.nearest_spec (FP.Core.inUnits A e e0) _ hDp
  have n3 := FP.Core.nearest_ge hDp low
  clear hd g2 hnn k4 e1 ha hD hlo
  generalize FP.Core.inUnits A e e0 = X at *
  generalize B * 2 ^ (r - e0).toNat = D at *
  generalize FP.Core.nearest X D = m at *
  generalize f.tails = t at *
  have a1 := Nat.mul_le_mul_left t n2
  have a2 := Nat.mul_le_mul_left t n1
  have a3 : t * D ≤ m * D := Nat.mul_le_mul_right D n3
  have b1 : t * (2 * m * D) = 2 * (t * (m * D)) := by ac_rfl
  have b2 : t * (2 * X + D) = 2 * (t * X) + t * D := by rw [Nat.mul_add]; congr 1; ac_rfl
  have b3 : t * ((2 * m + 1) * D) = 2 * (t * (m * D)) + t * D := by rw [Nat.add_mul, Nat.one_mul, Nat.mul_add, b1]
  have b4 : t * (2 * X) = 2 * (t * X) := by ac_rfl
  have c1 : 2 * t * (m * D) = 2 * (t * (m * D)) := Nat.mul_assoc _ _ _
  have c2 : (2 * t + 1) * X = 2 * (t * X) + X := by rw [Nat.add_mul, Nat.one_mul, Nat.mul_assoc]
  have c3 : 2 * t * X = 2 * (t * X) := Nat.mul_assoc _ _ _
  have c4 : (2 * t + 1) * (m * D) = 2 * (t * (m * D)) + m * D := by rw [Nat.add_mul, Nat.one_mul, Nat.mul_assoc]
  rw [c1, c2, c3, c4]
  rw [b1, b2] at a1
  rw [b4, b3] at a2
  generalize t * (m * D) = p at *
  generalize t * X = q at *
  omega
/-- a number of the bits -/
theorem fp_fin {f : FP.Core.Fmt} (hf : FP.Core.Good f) {n : Nat} (h : n < FP.Core.infBits f) : ∃ c q, FP.Core.decode f n = .fin false c q ∧ FP.Core.fits f (.fin false c q) ∧ FP.Core.zmag f (.fin false c q) = FP.Core.unitsOf f n := by
  have h2 := FP.Core.infBits_lt f
  have hm : FP.Core.mag f n = n := FP.Core.mag_of_lt (Nat.lt_trans h h2)
  obtain ⟨c, q, h1, h3⟩ := FP.Core.decode_fin (f := f) (n := n) (by rw [hm]; exact h)
  have h4 : FP.Core.fieldS f n = false := by
    rw [FP.Core.fieldS_mag f (by omega)]
    exact decide_eq_false (by omega)
  rw [h4] at h1
  rw [hm] at h3
  exact ⟨c, q, h1, h1 ▸ FP.Core.decode_fits hf n, h3⟩
theorem fp_of {f : FP.Core.Fmt} (hf : FP.Core.Good f) {n c : Nat} {q : Int} (h : FP.Core.decode f n = .fin false c q) (hn : n < 2 * FP.Core.half f) : n < FP.Core.infBits f ∧ FP.Core.unitsOf f n = FP.Core.inUnits c q f.qmin := by
  have h1 : FP.Core.mag f n < FP.Core.infBits f := Nat.lt_of_not_le fun h1 => by
    by_cases h2 : FP.Core.mag f n = FP.Core.infBits f
    · rw [FP.Core.decode_inf h2] at h; cases h
    · rw [(FP.Core.decode_nan (f := f) n).mpr (by omega)] at h; cases h
  have h3 := FP.Core.sgn_decode (f := f) (n := n) (Nat.le_of_lt h1) hn
  rw [h] at h3
  have h4 : ¬ FP.Core.half f ≤ n := of_decide_eq_false h3.symm
  have hm := FP.Core.mag_of_lt (f := f) (m := n) (by omega)
  have h5 := FP.Core.zmag_decode hf (n := n) (Nat.le_of_lt h1)
  rw [h, hm] at h5
  rw [hm] at h1
  exact ⟨h1, h5.symm⟩
theorem fp_lt {f : FP.Core.Fmt} (hf : FP.Core.Good f) {d : FP.Core.Datum} (h : FP.Core.fits f d) : FP.Core.encode f d < 2 * FP.Core.half f := by
  have := FP.Core.encode_lt hf d h
  unfold FP.Core.half
  rw [← Nat.mul_assoc]
  exact this
/-- c times a power of two stands in the format -/
theorem fp_rep {f : FP.Core.Fmt} (hf : FP.Core.Good f) {c k : Nat} (hc : c < 2 ^ f.p) (hk : f.qmin + k ≤ f.qmax) : ∃ m, m < FP.Core.infBits f ∧ FP.Core.unitsOf f m = c * 2 ^ k := by
  obtain ⟨c', q', h1, h2⟩ := FP.Core.round_exact hf false hc (q := f.qmin + k) (by omega) hk
  have h3 := FP.Core.round_fits hf (.fin false c (f.qmin + k))
  have h4 := FP.Core.decode_encode hf _ h3
  rw [h1] at h4
  obtain ⟨h5, h6⟩ := fp_of hf h4 (fp_lt hf (h1 ▸ h3))
  refine ⟨_, h5, h6.trans (h2.trans ?_)⟩
  unfold FP.Core.inUnits
  rw [show (f.qmin + (k : Int) - f.qmin).toNat = k by omega]
def oneU (f : FP.Core.Fmt) : Nat := 2 ^ (-f.qmin).toNat
/-- near: n is about X over W -/
def NearF (f : FP.Core.Fmt) (n W X : Nat) : Prop := (X = 0 → n = 0) ∧ (f.tails * W ≤ X → 2 * f.tails * (FP.Core.unitsOf f n * W) ≤ (2 * f.tails + 1) * X ∧ 2 * f.tails * X ≤ (2 * f.tails + 1) * (FP.Core.unitsOf f n * W)) ∧ ∀ m, m < FP.Core.infBits f → (X ≤ FP.Core.unitsOf f m * W → n ≤ m) ∧ (FP.Core.unitsOf f m * W ≤ X → m ≤ n)
theorem fp_near {f : FP.Core.Fmt} (hf : FP.Core.Good f) {n A B W X m0 : Nat} {e e0 : Int} (hd : FP.Core.decode f n = FP.Core.roundRatio f false A B e) (hn : n < 2 * FP.Core.half f) (hB : 0 < B) (h0 : e0 ≤ f.qmin) (h0e : e0 ≤ e) (hW : 2 ^ (f.qmin - e0).toNat * B = W) (hX : FP.Core.inUnits A e e0 = X) (hm0 : m0 < FP.Core.infBits f) (hle : X ≤ FP.Core.unitsOf f m0 * W) : n < FP.Core.infBits f ∧ NearF f n W X := by
  subst hX hW
  have h1 := fp_r hf hd hn hB h0 h0e hm0 (by rw [Nat.mul_assoc]; exact hle)
  refine ⟨by omega, fun hz => ?_, fun hlo => ?_, fun m hm => ⟨fun h => ?_, fun h => ?_⟩⟩
  · have hi := hm0
    have h2 := (fp_r hf (m := 0) hd hn hB h0 h0e (by omega) (by rw [hz]; exact Nat.zero_le _)).1
    omega
  · have h2 := fp_e hf hd (by omega) hB h0 h0e (by rw [Nat.mul_assoc]; exact hlo)
    rw [Nat.mul_assoc (FP.Core.unitsOf f n)] at h2
    exact h2
  · exact (fp_r hf hd hn hB h0 h0e hm (by rw [Nat.mul_assoc]; exact h)).1
  · exact fp_ge hf hd h1.2 hB h0 h0e hm (by rw [Nat.mul_assoc]; exact h)
theorem fp_mul {f : FP.Core.Fmt} (hf : FP.Core.Good f) {x y m0 : Nat} (hx : x < FP.Core.infBits f) (hy : y < FP.Core.infBits f) (hm0 : m0 < FP.Core.infBits f) (hle : FP.Core.unitsOf f x * FP.Core.unitsOf f y ≤ FP.Core.unitsOf f m0 * oneU f) : FP.Core.mul f x y < FP.Core.infBits f ∧ NearF f (FP.Core.mul f x y) (oneU f) (FP.Core.unitsOf f x * FP.Core.unitsOf f y) := by
  obtain ⟨c, q, x1, x2, x3⟩ := fp_fin hf hx
  obtain ⟨d, r, y1, y2, y3⟩ := fp_fin hf hy
  obtain ⟨p1, p2, p3⟩ := FP.Core.product_units x2 y2
  have hq := FP.Core.qmin_neg hf
  have hr := FP.Core.round_fits hf (FP.Core.exactProduct (FP.Core.decode f x) (FP.Core.decode f y))
  have hd : FP.Core.decode f (FP.Core.mul f x y) = FP.Core.roundRatio f false (c * d) 1 (q + r) := by
    unfold FP.Core.mul
    rw [FP.Core.decode_enc hf hr, x1, y1, p1]; rfl
  refine fp_near hf hd (fp_lt hf hr) (by decide) (e0 := 2 * f.qmin) (by omega) p2 ?_ ?_ hm0 hle
  · rw [Nat.mul_one]; unfold oneU; congr 2; omega
  · rw [p3, x3, y3]
theorem fp_div {f : FP.Core.Fmt} (hf : FP.Core.Good f) {x y m0 : Nat} (hx : x < FP.Core.infBits f) (hy : y < FP.Core.infBits f) (hy0 : 0 < FP.Core.unitsOf f y) (hm0 : m0 < FP.Core.infBits f) (hle : FP.Core.unitsOf f x * oneU f ≤ FP.Core.unitsOf f m0 * FP.Core.unitsOf f y) : FP.Core.div f x y < FP.Core.infBits f ∧ NearF f (FP.Core.div f x y) (FP.Core.unitsOf f y) (FP.Core.unitsOf f x * oneU f) := by
  obtain ⟨c, q, x1, x2, x3⟩ := fp_fin hf hx
  obtain ⟨d, r, y1, y2, y3⟩ := fp_fin hf hy
  have hq := FP.Core.qmin_neg hf
  have hd0 : d ≠ 0 := by
    rintro rfl
    have h1 : FP.Core.zmag f (.fin false 0 r) = 0 := Nat.zero_mul _
    omega
  have hr := FP.Core.quotient_fits hf (FP.Core.decode f x) (FP.Core.decode f y)
  have hd : FP.Core.decode f (FP.Core.div f x y) = FP.Core.roundRatio f false c d (q - r) := by
    unfold FP.Core.div
    rw [FP.Core.decode_enc hf hr, x1, y1]
    simp only [FP.Core.quotient, if_neg hd0]
    rfl
  have hx1 := x2.2.1
  have hy1 := y2.2.1
  refine fp_near hf hd (fp_lt hf hr) (by omega) (e0 := 2 * f.qmin - r) (by omega) (by omega) ?_ ?_ hm0 hle
  · rw [← y3]
    show _ = d * _
    rw [Nat.mul_comm]; congr 2; omega
  · rw [← x3]
    unfold oneU
    show c * _ = c * _ * _
    rw [Nat.mul_assoc, ← Nat.pow_add]; congr 2; omega
theorem fp_add {f : FP.Core.Fmt} (hf : FP.Core.Good f) {x y m0 : Nat} (hx : x < FP.Core.infBits f) (hy : y < FP.Core.infBits f) (hm0 : m0 < FP.Core.infBits f) (hle : FP.Core.unitsOf f x + FP.Core.unitsOf f y ≤ FP.Core.unitsOf f m0) : FP.Core.add f x y < FP.Core.infBits f ∧ NearF f (FP.Core.add f x y) 1 (FP.Core.unitsOf f x + FP.Core.unitsOf f y) := by
  obtain ⟨c, q, x1, x2, x3⟩ := fp_fin hf hx
  obtain ⟨d, r, y1, y2, y3⟩ := fp_fin hf hy
  have hx1 := x2.2.1
  have hy1 := y2.2.1
  have hs : FP.Core.exactSum (.fin false c q) (.fin false d r) = .fin false (FP.Core.inUnits c q (min q r) + FP.Core.inUnits d r (min q r)) (min q r) := by
    have e : FP.Core.sumUnits false c q false d r (min q r) = ((FP.Core.inUnits c q (min q r) + FP.Core.inUnits d r (min q r) : Nat) : Int) := by
      unfold FP.Core.sumUnits FP.Core.signed
      simp
    show FP.Core.Datum.fin (FP.Core.sumSign false false (FP.Core.sumUnits false c q false d r (min q r))) (FP.Core.sumUnits false c q false d r (min q r)).natAbs (min q r) = _
    rw [e]
    congr 1
    unfold FP.Core.sumSign
    split
    · rfl
    · exact decide_eq_false (by omega)
  have hr := FP.Core.round_fits hf (FP.Core.exactSum (FP.Core.decode f x) (FP.Core.decode f y))
  have hd : FP.Core.decode f (FP.Core.add f x y) = FP.Core.roundRatio f false (FP.Core.inUnits c q (min q r) + FP.Core.inUnits d r (min q r)) 1 (min q r) := by
    unfold FP.Core.add
    rw [FP.Core.decode_enc hf hr, x1, y1, hs]; rfl
  refine fp_near hf hd (fp_lt hf hr) (by decide) (e0 := f.qmin) (by omega) (by omega) ?_ ?_ hm0 (by rw [Nat.mul_one]; exact hle)
  · rw [Int.sub_self]; rfl
  · rw [← x3, ← y3]
    show (_ + _) * _ = FP.Core.inUnits c q f.qmin + FP.Core.inUnits d r f.qmin
    rw [Nat.add_mul, FP.Core.inUnits_move c (q := q) (r := min q r) (e := f.qmin) (by omega) (by omega), FP.Core.inUnits_move d (q := r) (r := min q r) (e := f.qmin) (by omega) (by omega)]
theorem nr_eq {f : FP.Core.Fmt} {n m W X : Nat} (h : NearF f n W X) (hm : m < FP.Core.infBits f) (hX : X = FP.Core.unitsOf f m * W) : n = m := Nat.le_antisymm ((h.2.2 m hm).1 (Nat.le_of_eq hX)) ((h.2.2 m hm).2 (Nat.le_of_eq hX.symm))
theorem units_dbl {f : FP.Core.Fmt} {n : Nat} (h : f.tails ≤ n) : FP.Core.unitsOf f (n + f.tails) = 2 * FP.Core.unitsOf f n := by
  have ht := FP.Core.tails_pos f
  have h1 : 1 ≤ n / f.tails := (Nat.le_div_iff_mul_le ht).mpr (by omega)
  unfold FP.Core.unitsOf
  rw [if_neg (by omega), if_neg (by omega), Nat.add_mod_right, Nat.add_div_right _ ht, show n / f.tails + 1 - 1 = (n / f.tails - 1) + 1 by omega, Nat.pow_succ]
  ac_rfl
/-! D: b64 -/
abbrev vD (n : Nat) : Nat := FP.Core.unitsOf FP.Core.b64 n
def okD (x : UInt64) : Prop := x.toNat < 9218868437227405312
theorem infD {n : Nat} (h : n < 9218868437227405312) : n < FP.Core.infBits FP.Core.b64 := by rw [FP.Core.infBits_b64]; exact h
theorem infD' {n : Nat} (h : n < FP.Core.infBits FP.Core.b64) : n < 9218868437227405312 := by rw [FP.Core.infBits_b64] at h; exact h
theorem okD.nn {x : UInt64} (h : okD x) : vf_n64 x := by
  unfold vf_n64
  rw [UInt64.le_iff_toNat_le, UInt64.toNat_and]
  exact Nat.le_trans Nat.and_le_left (Nat.le_of_lt h)
theorem okD.ne {x : UInt64} (h : okD x) : FP.Core.val64 x ≠ .nan := (FP.Core.ne_nan x).mpr (by have := Nat.mod_le x.toNat (2 ^ 63); unfold okD at h; omega)
theorem okD.eq {x : UInt64} (h : okD x) : FP.dcmp x x = some .eq := FP.Core.dcmp_self h.ne
theorem oneD : oneU FP.Core.b64 = 2 ^ 1074 := by unfold oneU; rw [FP.Core.qmin_b64]; rfl
theorem cmpD {x y : UInt64} (hx : okD x) (hy : okD y) : FP.dcmp x y = some (compare (x.toNat : Int) (y.toNat : Int)) := by
  rw [show FP.dcmp x y = FP.Core.dcmp x y from rfl, FP.Core.dcmp_key hx.ne hy.ne]
  unfold FP.Core.dkey
  unfold okD at hx hy
  rw [if_neg (by omega), if_neg (by omega)]
theorem cvD {x y : UInt64} (hx : okD x) (hy : okD y) (op : CmpOp) : Op.cmpValue (FP.dcmp x y) op = if x.toNat < y.toNat then -1 else if x.toNat = y.toNat then 0 else 1 := by
  rw [cmpD hx hy]
  have e : compare (x.toNat : Int) (y.toNat : Int) = if (x.toNat : Int) < y.toNat then .lt else if (x.toNat : Int) = y.toNat then .eq else .gt := rfl
  rw [e]
  by_cases h1 : x.toNat < y.toNat
  · rw [if_pos h1, if_pos (by omega)]; cases op <;> rfl
  · by_cases h2 : x.toNat = y.toNat
    · rw [if_neg h1, if_pos h2, if_neg (by omega), if_pos (by omega)]; cases op <;> rfl
    · rw [if_neg h1, if_neg h2, if_neg (by omega), if_neg (by omega)]; cases op <;> rfl
theorem mulD {a b : UInt64} {m0 : Nat} (ha : okD a) (hb : okD b) (hm0 : m0 < 9218868437227405312) (hle : vD a.toNat * vD b.toNat ≤ vD m0 * 2 ^ 1074) : okD (FP.dmul a b) ∧ NearF FP.Core.b64 (FP.dmul a b).toNat (2 ^ 1074) (vD a.toNat * vD b.toNat) := by
  have h := fp_mul fp_g64 (infD ha) (infD hb) (infD hm0) (by rw [oneD]; exact hle)
  have e : (FP.dmul a b).toNat = FP.Core.mul FP.Core.b64 a.toNat b.toNat := FP.Core.toNat_of64 (FP.Core.round_fits fp_g64 _)
  rw [oneD, ← e] at h
  exact ⟨infD' h.1, h.2⟩
theorem divD {a b : UInt64} {m0 : Nat} (ha : okD a) (hb : okD b) (h0 : 0 < vD b.toNat) (hm0 : m0 < 9218868437227405312) (hle : vD a.toNat * 2 ^ 1074 ≤ vD m0 * vD b.toNat) : okD (FP.ddiv a b) ∧ NearF FP.Core.b64 (FP.ddiv a b).toNat (vD b.toNat) (vD a.toNat * 2 ^ 1074) := by
  have h := fp_div fp_g64 (infD ha) (infD hb) h0 (infD hm0) (by rw [oneD]; exact hle)
  have e : (FP.ddiv a b).toNat = FP.Core.div FP.Core.b64 a.toNat b.toNat := FP.Core.toNat_of64 (FP.Core.quotient_fits fp_g64 _ _)
  rw [oneD, ← e] at h
  exact ⟨infD' h.1, h.2⟩
theorem addD {a b : UInt64} {m0 : Nat} (ha : okD a) (hb : okD b) (hm0 : m0 < 9218868437227405312) (hle : vD a.toNat + vD b.toNat ≤ vD m0) : okD (FP.dadd a b) ∧ NearF FP.Core.b64 (FP.dadd a b).toNat 1 (vD a.toNat + vD b.toNat) := by
  have h := fp_add fp_g64 (infD ha) (infD hb) (infD hm0) hle
  have e : (FP.dadd a b).toNat = FP.Core.add FP.Core.b64 a.toNat b.toNat := FP.Core.toNat_of64 (FP.Core.round_fits fp_g64 _)
  rw [← e] at h
  exact ⟨infD' h.1, h.2⟩
theorem intD {k : Nat} (hk : k ≤ 16777216) : okD (FP.i2d (nI k)) ∧ vD (FP.i2d (nI k)).toNat = k * 2 ^ 1074 := by
  by_cases k0 : k = 0
  · subst k0
    have e : (FP.i2d (nI 0)).toNat = 0 := by decide +kernel
    unfold okD
    rw [e, Nat.zero_mul]
    exact ⟨by decide, FP.Core.unitsOf_zero _⟩
  have ht : (nI k).toInt = (k : Int) := nI_toInt (by omega)
  have h : FP.Core.DInt (nI k).toInt (FP.Core.i2d (nI k)) := FP.Core.i2d_int (nI k)
  have hn := FP.Core.DInt_ne_nan h
  have hz := FP.Core.DInt_zval h
  have hm := FP.Core.i2d_mag (nI k)
  have hs := FP.Core.sgn_bits hn
  have hb := FP.Core.zmag_bits hn
  unfold FP.Core.zval at hz
  rw [hs, hb, ht, ← Int.natCast_mul, show FP.Core.one64 = 2 ^ 1074 from rfl] at hz
  have hp : 0 < k * 2 ^ 1074 := Nat.mul_pos (by omega) (Nat.two_pow_pos _)
  have e : FP.Core.i2d (nI k) = FP.i2d (nI k) := rfl
  rw [e] at hm hz
  by_cases qq : 2 ^ 63 ≤ (FP.i2d (nI k)).toNat
  · rw [decide_eq_true qq] at hz
    unfold FP.Core.signed at hz
    rw [if_pos rfl] at hz
    generalize FP.Core.unitsOf FP.Core.b64 ((FP.i2d (nI k)).toNat % 2 ^ 63) = z at hz
    generalize k * 2 ^ 1074 = w at hz hp
    omega
  · rw [decide_eq_false qq, Nat.mod_eq_of_lt (by omega)] at hz
    rw [Nat.mod_eq_of_lt (by omega)] at hm
    unfold FP.Core.signed at hz
    rw [if_neg (by decide)] at hz
    refine ⟨by unfold okD; omega, ?_⟩
    show FP.Core.unitsOf _ _ = _
    generalize FP.Core.unitsOf FP.Core.b64 (FP.i2d (nI k)).toNat = z at hz ⊢
    generalize k * 2 ^ 1074 = w at hz ⊢
    omega
theorem twoD : vD (4611686018427387904 : UInt64).toNat = 2 * 2 ^ 1074 := by decide +kernel
theorem bigD : vD (4841369599423283200 : UInt64).toNat = 2 ^ 52 * 2 ^ 1074 := by decide +kernel
theorem unoD : vD (4607182418800017408 : UInt64).toNat = 2 ^ 1074 := by decide +kernel
theorem dblD {x : UInt64} (h1 : 2 ^ 52 ≤ x.toNat) (h2 : x.toNat + 2 ^ 52 < 9218868437227405312) : okD (FP.dmul x (4611686018427387904 : UInt64)) ∧ (FP.dmul x (4611686018427387904 : UInt64)).toNat = x.toNat + 2 ^ 52 := by
  have hx : okD x := by unfold okD; omega
  have h2o : okD (4611686018427387904 : UInt64) := by unfold okD; decide
  have e := units_dbl (f := FP.Core.b64) (n := x.toNat) (by rw [FP.Core.tails_b64]; exact h1)
  rw [FP.Core.tails_b64] at e
  have hq : vD x.toNat * vD (4611686018427387904 : UInt64).toNat = vD (x.toNat + 2 ^ 52) * 2 ^ 1074 := by
    rw [twoD]
    show _ = FP.Core.unitsOf _ _ * _
    rw [e]
    show FP.Core.unitsOf _ _ * _ = _
    generalize (2 : Nat) ^ 1074 = o
    generalize FP.Core.unitsOf FP.Core.b64 x.toNat = y
    ac_rfl
  have hm := mulD hx h2o (m0 := x.toNat + 2 ^ 52) h2 (Nat.le_of_eq hq)
  exact ⟨hm.1, nr_eq hm.2 (infD h2) hq⟩
/-- less 1 -/
theorem subD {x : UInt64} (h1 : 1023 * 2 ^ 52 ≤ x.toNat) (h2 : x.toNat < (1023 + 1) * 2 ^ 52) : okD (FP.dsub x (4607182418800017408 : UInt64)) ∧ vD (FP.dsub x (4607182418800017408 : UInt64)).toNat = (x.toNat - 1023 * 2 ^ 52) * 2 ^ 1022 := by
  by_cases h0 : x.toNat = 1023 * 2 ^ 52
  · have ex : x = (4607182418800017408 : UInt64) := UInt64.toNat_inj.mp (h0.trans (by decide +kernel))
    subst ex
    have e : (FP.dsub (4607182418800017408 : UInt64) (4607182418800017408 : UInt64)).toNat = 0 := by decide +kernel
    unfold okD
    rw [e, h0, Nat.sub_self, Nat.zero_mul]
    exact ⟨by decide, FP.Core.unitsOf_zero _⟩
  have ho : okD (4607182418800017408 : UInt64) := by unfold okD; decide
  obtain ⟨c, q, x1, x2, x3⟩ := fp_fin fp_g64 (infD (n := x.toNat) (by omega))
  obtain ⟨d, r, y1, y2, y3⟩ := fp_fin fp_g64 (infD ho)
  obtain ⟨sg, n, e, s1, s2, s3⟩ := FP.Core.sum_units (t := true) (d := d) (r := r) x2 (FP.Core.negate_fits y2)
  have hT : x.toNat - 1023 * 2 ^ 52 < 2 ^ 52 := by omega
  obtain ⟨T, hTx⟩ : ∃ T, x.toNat = 1023 * 2 ^ 52 + T := ⟨_, (Nat.add_sub_cancel' h1).symm⟩
  have hT2 : T < 2 ^ 52 := by omega
  have hT0 : 0 < T := by omega
  have evx : vD x.toNat = 2 ^ 1074 + T * 2 ^ 1022 := by
    show FP.Core.unitsOf _ _ = _
    unfold FP.Core.unitsOf
    rw [FP.Core.tails_b64, hTx, if_neg (by omega), show (1023 * 2 ^ 52 + T) % 2 ^ 52 = T by omega, show (1023 * 2 ^ 52 + T) / 2 ^ 52 - 1 = 1022 by omega, Nat.add_mul, ← Nat.pow_add]
  have ev : FP.Core.inUnits n e FP.Core.b64.qmin = T * 2 ^ 1022 ∧ sg = false := by
    unfold FP.Core.zval at s3
    rw [x3] at s3
    rw [show FP.Core.zmag FP.Core.b64 (.fin true d r) = FP.Core.zmag FP.Core.b64 (.fin false d r) from rfl, y3] at s3
    rw [show FP.Core.unitsOf FP.Core.b64 x.toNat = 2 ^ 1074 + T * 2 ^ 1022 from evx, show FP.Core.unitsOf FP.Core.b64 ((4607182418800017408 : UInt64) : UInt64).toNat = 2 ^ 1074 from unoD] at s3
    have hp : 0 < T * 2 ^ 1022 := Nat.mul_pos hT0 (Nat.two_pow_pos _)
    rw [show FP.Core.sgn (.fin false c q) = false from rfl, show FP.Core.sgn (.fin true d r) = true from rfl] at s3
    unfold FP.Core.signed at s3
    rw [if_neg (show ¬ (false = true) by decide), if_pos (show true = true from rfl)] at s3
    generalize T * 2 ^ 1022 = w at s3 hp ⊢
    generalize (2 : Nat) ^ 1074 = o at s3
    generalize FP.Core.inUnits n e FP.Core.b64.qmin = z at s3 ⊢
    cases sg with
    | true => rw [if_pos rfl] at s3; omega
    | false => rw [if_neg (by decide)] at s3; exact ⟨by omega, rfl⟩
  obtain ⟨ev1, rfl⟩ := ev
  have hr := FP.Core.round_fits fp_g64 (FP.Core.exactSum (FP.Core.decode FP.Core.b64 x.toNat) (FP.Core.negate (FP.Core.decode FP.Core.b64 ((4607182418800017408 : UInt64) : UInt64).toNat)))
  have et : (FP.dsub x (4607182418800017408 : UInt64)).toNat = FP.Core.sub FP.Core.b64 x.toNat ((4607182418800017408 : UInt64) : UInt64).toNat := FP.Core.toNat_of64 hr
  have hd : FP.Core.decode FP.Core.b64 (FP.Core.sub FP.Core.b64 x.toNat ((4607182418800017408 : UInt64) : UInt64).toNat) = FP.Core.roundRatio FP.Core.b64 false n 1 e := by
    unfold FP.Core.sub
    rw [FP.Core.decode_enc fp_g64 hr, x1, y1]
    show FP.Core.round _ (FP.Core.exactSum (.fin false c q) (.fin true d r)) = _
    rw [s1]; rfl
  obtain ⟨m, hm1, hm2⟩ := fp_rep fp_g64 (c := T) (k := 1022) (Nat.lt_of_lt_of_le hT2 (by decide)) (by decide +kernel)
  have hnr := fp_near fp_g64 hd (fp_lt fp_g64 hr) (by decide) (e0 := FP.Core.b64.qmin) (W := 1) (by omega) s2 (by rw [Int.sub_self]; rfl) ev1 hm1 (by rw [hm2, Nat.mul_one]; exact Nat.le_refl _)
  have he := nr_eq hnr.2 hm1 (by rw [hm2, Nat.mul_one])
  rw [← et] at he
  unfold okD
  rw [he, hTx, Nat.add_sub_cancel_left]
  exact ⟨infD' hm1, hm2⟩
/-- times the greatest -/
theorem mulBD {z : UInt64} {T : Nat} (hz : okD z) (hv : vD z.toNat = T * 2 ^ 1022) (hT : T < 2 ^ 52) : okD (FP.dmul z (4841369599423283200 : UInt64)) ∧ vD (FP.dmul z (4841369599423283200 : UInt64)).toNat = T * 2 ^ 1074 := by
  obtain ⟨m, hm1, hm2⟩ := fp_rep fp_g64 (c := T) (k := 1074) (Nat.lt_of_lt_of_le hT (by decide)) (by decide +kernel)
  have hb : okD (4841369599423283200 : UInt64) := by unfold okD; decide
  have hx : vD z.toNat * vD (4841369599423283200 : UInt64).toNat = vD m * 2 ^ 1074 := by
    rw [hv, bigD]
    show _ = FP.Core.unitsOf _ _ * _
    rw [hm2, show (2 : Nat) ^ 1074 = 2 ^ (1022 + 52) from rfl, Nat.pow_add]
    generalize (2 : Nat) ^ 1022 = o1
    generalize (2 : Nat) ^ 52 = o2
    ac_rfl
  have h := mulD hz hb (infD' hm1) (Nat.le_of_eq hx)
  have he := nr_eq h.2 hm1 hx
  refine ⟨h.1, ?_⟩
  rw [he]; exact hm2
/-! F: b32 -/
abbrev vF (n : Nat) : Nat := FP.Core.unitsOf FP.Core.b32 n
def okF (x : UInt32) : Prop := x.toNat < 2139095040
theorem infF {n : Nat} (h : n < 2139095040) : n < FP.Core.infBits FP.Core.b32 := by rw [FP.Core.infBits_b32]; exact h
theorem infF' {n : Nat} (h : n < FP.Core.infBits FP.Core.b32) : n < 2139095040 := by rw [FP.Core.infBits_b32] at h; exact h
theorem okF.nn {x : UInt32} (h : okF x) : vf_n32 x := by
  unfold vf_n32
  rw [UInt32.le_iff_toNat_le, UInt32.toNat_and]
  exact Nat.le_trans Nat.and_le_left (Nat.le_of_lt h)
theorem okF.ne {x : UInt32} (h : okF x) : FP.Core.val32 x ≠ .nan := (FP.Core.ne_nan32 x).mpr (by have := Nat.mod_le x.toNat (2 ^ 31); unfold okF at h; omega)
theorem okF.eq {x : UInt32} (h : okF x) : FP.fcmp x x = some .eq := FP.Core.fcmp_self h.ne
theorem oneF : oneU FP.Core.b32 = 2 ^ 149 := by unfold oneU; rw [FP.Core.qmin_b32]; rfl
theorem cmpF {x y : UInt32} (hx : okF x) (hy : okF y) : FP.fcmp x y = some (compare (x.toNat : Int) (y.toNat : Int)) := by
  rw [show FP.fcmp x y = FP.Core.fcmp x y from rfl, FP.Core.fcmp_key hx.ne hy.ne]
  unfold FP.Core.fkey
  unfold okF at hx hy
  rw [if_neg (by omega), if_neg (by omega)]
theorem cvF {x y : UInt32} (hx : okF x) (hy : okF y) (op : CmpOp) : Op.cmpValue (FP.fcmp x y) op = if x.toNat < y.toNat then -1 else if x.toNat = y.toNat then 0 else 1 := by
  rw [cmpF hx hy]
  have e : compare (x.toNat : Int) (y.toNat : Int) = if (x.toNat : Int) < y.toNat then .lt else if (x.toNat : Int) = y.toNat then .eq else .gt := rfl
  rw [e]
  by_cases h1 : x.toNat < y.toNat
  · rw [if_pos h1, if_pos (by omega)]; cases op <;> rfl
  · by_cases h2 : x.toNat = y.toNat
    · rw [if_neg h1, if_pos h2, if_neg (by omega), if_pos (by omega)]; cases op <;> rfl
    · rw [if_neg h1, if_neg h2, if_neg (by omega), if_neg (by omega)]; cases op <;> rfl
theorem mulF {a b : UInt32} {m0 : Nat} (ha : okF a) (hb : okF b) (hm0 : m0 < 2139095040) (hle : vF a.toNat * vF b.toNat ≤ vF m0 * 2 ^ 149) : okF (FP.fmul a b) ∧ NearF FP.Core.b32 (FP.fmul a b).toNat (2 ^ 149) (vF a.toNat * vF b.toNat) := by
  have h := fp_mul fp_g32 (infF ha) (infF hb) (infF hm0) (by rw [oneF]; exact hle)
  have e : (FP.fmul a b).toNat = FP.Core.mul FP.Core.b32 a.toNat b.toNat := FP.Core.toNat_of32 (FP.Core.round_fits fp_g32 _)
  rw [oneF, ← e] at h
  exact ⟨infF' h.1, h.2⟩
theorem divF {a b : UInt32} {m0 : Nat} (ha : okF a) (hb : okF b) (h0 : 0 < vF b.toNat) (hm0 : m0 < 2139095040) (hle : vF a.toNat * 2 ^ 149 ≤ vF m0 * vF b.toNat) : okF (FP.fdiv a b) ∧ NearF FP.Core.b32 (FP.fdiv a b).toNat (vF b.toNat) (vF a.toNat * 2 ^ 149) := by
  have h := fp_div fp_g32 (infF ha) (infF hb) h0 (infF hm0) (by rw [oneF]; exact hle)
  have e : (FP.fdiv a b).toNat = FP.Core.div FP.Core.b32 a.toNat b.toNat := FP.Core.toNat_of32 (FP.Core.quotient_fits fp_g32 _ _)
  rw [oneF, ← e] at h
  exact ⟨infF' h.1, h.2⟩
theorem addF {a b : UInt32} {m0 : Nat} (ha : okF a) (hb : okF b) (hm0 : m0 < 2139095040) (hle : vF a.toNat + vF b.toNat ≤ vF m0) : okF (FP.fadd a b) ∧ NearF FP.Core.b32 (FP.fadd a b).toNat 1 (vF a.toNat + vF b.toNat) := by
  have h := fp_add fp_g32 (infF ha) (infF hb) (infF hm0) hle
  have e : (FP.fadd a b).toNat = FP.Core.add FP.Core.b32 a.toNat b.toNat := FP.Core.toNat_of32 (FP.Core.round_fits fp_g32 _)
  rw [← e] at h
  exact ⟨infF' h.1, h.2⟩
theorem intF {k : Nat} (hk : k ≤ 16777216) : okF (FP.i2f (nI k)) ∧ vF (FP.i2f (nI k)).toNat = k * 2 ^ 149 := by
  by_cases k0 : k = 0
  · subst k0
    have e : (FP.i2f (nI 0)).toNat = 0 := by decide +kernel
    unfold okF
    rw [e, Nat.zero_mul]
    exact ⟨by decide, FP.Core.unitsOf_zero _⟩
  have ht : (nI k).toInt = (k : Int) := nI_toInt (by omega)
  have h : FP.Core.FInt (nI k).toInt (FP.Core.i2f (nI k)) := FP.Core.i2f_int (by rw [ht]; omega)
  have hn := FP.Core.FInt_ne_nan h
  have hz := FP.Core.FInt_zval h
  have hm := FP.Core.i2f_mag (nI k)
  have hs := FP.Core.sgn_bits32 hn
  have hb := FP.Core.zmag_toNat32 hn
  unfold FP.Core.zval at hz
  rw [hs, hb, ht, ← Int.natCast_mul, show FP.Core.one32 = 2 ^ 149 from rfl] at hz
  have hp : 0 < k * 2 ^ 149 := Nat.mul_pos (by omega) (Nat.two_pow_pos _)
  have e : FP.Core.i2f (nI k) = FP.i2f (nI k) := rfl
  rw [e] at hm hz
  by_cases qq : 2 ^ 31 ≤ (FP.i2f (nI k)).toNat
  · rw [decide_eq_true qq] at hz
    unfold FP.Core.signed at hz
    rw [if_pos rfl] at hz
    generalize FP.Core.unitsOf FP.Core.b32 ((FP.i2f (nI k)).toNat % 2 ^ 31) = z at hz
    generalize k * 2 ^ 149 = w at hz hp
    omega
  · rw [decide_eq_false qq, Nat.mod_eq_of_lt (by omega)] at hz
    rw [Nat.mod_eq_of_lt (by omega)] at hm
    unfold FP.Core.signed at hz
    rw [if_neg (by decide)] at hz
    refine ⟨by unfold okF; omega, ?_⟩
    show FP.Core.unitsOf _ _ = _
    generalize FP.Core.unitsOf FP.Core.b32 (FP.i2f (nI k)).toNat = z at hz ⊢
    generalize k * 2 ^ 149 = w at hz ⊢
    omega
theorem twoF : vF (1073741824 : UInt32).toNat = 2 * 2 ^ 149 := by decide +kernel
theorem bigF : vF (1258291200 : UInt32).toNat = 2 ^ 23 * 2 ^ 149 := by decide +kernel
theorem unoF : vF (1065353216 : UInt32).toNat = 2 ^ 149 := by decide +kernel
theorem dblF {x : UInt32} (h1 : 2 ^ 23 ≤ x.toNat) (h2 : x.toNat + 2 ^ 23 < 2139095040) : okF (FP.fmul x (1073741824 : UInt32)) ∧ (FP.fmul x (1073741824 : UInt32)).toNat = x.toNat + 2 ^ 23 := by
  have hx : okF x := by unfold okF; omega
  have h2o : okF (1073741824 : UInt32) := by unfold okF; decide
  have e := units_dbl (f := FP.Core.b32) (n := x.toNat) (by rw [FP.Core.tails_b32]; exact h1)
  rw [FP.Core.tails_b32] at e
  have hq : vF x.toNat * vF (1073741824 : UInt32).toNat = vF (x.toNat + 2 ^ 23) * 2 ^ 149 := by
    rw [twoF]
    show _ = FP.Core.unitsOf _ _ * _
    rw [e]
    show FP.Core.unitsOf _ _ * _ = _
    generalize (2 : Nat) ^ 149 = o
    generalize FP.Core.unitsOf FP.Core.b32 x.toNat = y
    ac_rfl
  have hm := mulF hx h2o (m0 := x.toNat + 2 ^ 23) h2 (Nat.le_of_eq hq)
  exact ⟨hm.1, nr_eq hm.2 (infF h2) hq⟩
/-- less 1 -/
theorem subF {x : UInt32} (h1 : 127 * 2 ^ 23 ≤ x.toNat) (h2 : x.toNat < (127 + 1) * 2 ^ 23) : okF (FP.fsub x (1065353216 : UInt32)) ∧ vF (FP.fsub x (1065353216 : UInt32)).toNat = (x.toNat - 127 * 2 ^ 23) * 2 ^ 126 := by
  by_cases h0 : x.toNat = 127 * 2 ^ 23
  · have ex : x = (1065353216 : UInt32) := UInt32.toNat_inj.mp (h0.trans (by decide +kernel))
    subst ex
    have e : (FP.fsub (1065353216 : UInt32) (1065353216 : UInt32)).toNat = 0 := by decide +kernel
    unfold okF
    rw [e, h0, Nat.sub_self, Nat.zero_mul]
    exact ⟨by decide, FP.Core.unitsOf_zero _⟩
  have ho : okF (1065353216 : UInt32) := by unfold okF; decide
  obtain ⟨c, q, x1, x2, x3⟩ := fp_fin fp_g32 (infF (n := x.toNat) (by omega))
  obtain ⟨d, r, y1, y2, y3⟩ := fp_fin fp_g32 (infF ho)
  obtain ⟨sg, n, e, s1, s2, s3⟩ := FP.Core.sum_units (t := true) (d := d) (r := r) x2 (FP.Core.negate_fits y2)
  have hT : x.toNat - 127 * 2 ^ 23 < 2 ^ 23 := by omega
  obtain ⟨T, hTx⟩ : ∃ T, x.toNat = 127 * 2 ^ 23 + T := ⟨_, (Nat.add_sub_cancel' h1).symm⟩
  have hT2 : T < 2 ^ 23 := by omega
  have hT0 : 0 < T := by omega
  have evx : vF x.toNat = 2 ^ 149 + T * 2 ^ 126 := by
    show FP.Core.unitsOf _ _ = _
    unfold FP.Core.unitsOf
    rw [FP.Core.tails_b32, hTx, if_neg (by omega), show (127 * 2 ^ 23 + T) % 2 ^ 23 = T by omega, show (127 * 2 ^ 23 + T) / 2 ^ 23 - 1 = 126 by omega, Nat.add_mul, ← Nat.pow_add]
  have ev : FP.Core.inUnits n e FP.Core.b32.qmin = T * 2 ^ 126 ∧ sg = false := by
    unfold FP.Core.zval at s3
    rw [x3] at s3
    rw [show FP.Core.zmag FP.Core.b32 (.fin true d r) = FP.Core.zmag FP.Core.b32 (.fin false d r) from rfl, y3] at s3
    rw [show FP.Core.unitsOf FP.Core.b32 x.toNat = 2 ^ 149 + T * 2 ^ 126 from evx, show FP.Core.unitsOf FP.Core.b32 ((1065353216 : UInt32) : UInt32).toNat = 2 ^ 149 from unoF] at s3
    have hp : 0 < T * 2 ^ 126 := Nat.mul_pos hT0 (Nat.two_pow_pos _)
    rw [show FP.Core.sgn (.fin false c q) = false from rfl, show FP.Core.sgn (.fin true d r) = true from rfl] at s3
    unfold FP.Core.signed at s3
    rw [if_neg (show ¬ (false = true) by decide), if_pos (show true = true from rfl)] at s3
    generalize T * 2 ^ 126 = w at s3 hp ⊢
    generalize (2 : Nat) ^ 149 = o at s3
    generalize FP.Core.inUnits n e FP.Core.b32.qmin = z at s3 ⊢
    cases sg with
    | true => rw [if_pos rfl] at s3; omega
    | false => rw [if_neg (by decide)] at s3; exact ⟨by omega, rfl⟩
  obtain ⟨ev1, rfl⟩ := ev
  have hr := FP.Core.round_fits fp_g32 (FP.Core.exactSum (FP.Core.decode FP.Core.b32 x.toNat) (FP.Core.negate (FP.Core.decode FP.Core.b32 ((1065353216 : UInt32) : UInt32).toNat)))
  have et : (FP.fsub x (1065353216 : UInt32)).toNat = FP.Core.sub FP.Core.b32 x.toNat ((1065353216 : UInt32) : UInt32).toNat := FP.Core.toNat_of32 hr
  have hd : FP.Core.decode FP.Core.b32 (FP.Core.sub FP.Core.b32 x.toNat ((1065353216 : UInt32) : UInt32).toNat) = FP.Core.roundRatio FP.Core.b32 false n 1 e := by
    unfold FP.Core.sub
    rw [FP.Core.decode_enc fp_g32 hr, x1, y1]
    show FP.Core.round _ (FP.Core.exactSum (.fin false c q) (.fin true d r)) = _
    rw [s1]; rfl
  obtain ⟨m, hm1, hm2⟩ := fp_rep fp_g32 (c := T) (k := 126) (Nat.lt_of_lt_of_le hT2 (by decide)) (by decide +kernel)
  have hnr := fp_near fp_g32 hd (fp_lt fp_g32 hr) (by decide) (e0 := FP.Core.b32.qmin) (W := 1) (by omega) s2 (by rw [Int.sub_self]; rfl) ev1 hm1 (by rw [hm2, Nat.mul_one]; exact Nat.le_refl _)
  have he := nr_eq hnr.2 hm1 (by rw [hm2, Nat.mul_one])
  rw [← et] at he
  unfold okF
  rw [he, hTx, Nat.add_sub_cancel_left]
  exact ⟨infF' hm1, hm2⟩
/-- times the greatest -/
theorem mulBF {z : UInt32} {T : Nat} (hz : okF z) (hv : vF z.toNat = T * 2 ^ 126) (hT : T < 2 ^ 23) : okF (FP.fmul z (1258291200 : UInt32)) ∧ vF (FP.fmul z (1258291200 : UInt32)).toNat = T * 2 ^ 149 := by
  obtain ⟨m, hm1, hm2⟩ := fp_rep fp_g32 (c := T) (k := 149) (Nat.lt_of_lt_of_le hT (by decide)) (by decide +kernel)
  have hb : okF (1258291200 : UInt32) := by unfold okF; decide
  have hx : vF z.toNat * vF (1258291200 : UInt32).toNat = vF m * 2 ^ 149 := by
    rw [hv, bigF]
    show _ = FP.Core.unitsOf _ _ * _
    rw [hm2, show (2 : Nat) ^ 149 = 2 ^ (126 + 23) from rfl, Nat.pow_add]
    generalize (2 : Nat) ^ 126 = o1
    generalize (2 : Nat) ^ 23 = o2
    ac_rfl
  have h := mulF hz hb (infF' hm1) (Nat.le_of_eq hx)
  have he := nr_eq h.2 hm1 hx
  refine ⟨h.1, ?_⟩
  rw [he]; exact hm2

