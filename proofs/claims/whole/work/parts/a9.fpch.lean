/-! THE CHANCE: what both sides compute -/
def stC (n b j : Nat) (p : Nat → UInt64) (k : Nat) : UInt64 := FP.dadd (FP.ddiv (FP.dmul (p k) (FP.i2d (nI (n - b + k - j)))) (FP.i2d (nI (n - j)))) (FP.ddiv (FP.dmul (if k = 0 then FP.dconst0 else p (k - 1)) (FP.i2d (nI (b + 1 - k)))) (FP.i2d (nI (n - j))))
def odC (n b : Nat) : Nat → Nat → UInt64
  | 0 => fun k => if k = 0 then FP.dconst1 else FP.dconst0
  | j + 1 => fun k => if k ≤ j + 1 then stC n b j (odC n b j) k else odC n b j k
def smC (n b s : Nat) : Nat → UInt64
  | 0 => FP.dconst0
  | t + 1 => FP.dadd (smC n b s t) (odC n b s t)
theorem nr_up {n W X : Nat} (h : NearF FP.Core.b64 n W X) (hx : X = 0 ∨ 2 ^ 52 * W ≤ X) : 256 * (vD n * W) ≤ 257 * X ∧ X ≤ 2 * (vD n * W) ∧ (X = 0 → n = 0) := by
  refine ⟨?_, ?_, h.1⟩
  · rcases hx with hx | hx
    · have e : vD n = 0 := by rw [h.1 hx]; exact FP.Core.unitsOf_zero _
      rw [e, Nat.zero_mul]; exact Nat.zero_le _
    · have h1 := (h.2.1 (by rw [FP.Core.tails_b64]; exact hx)).1
      rw [FP.Core.tails_b64] at h1
      show 256 * (FP.Core.unitsOf FP.Core.b64 n * W) ≤ _
      generalize FP.Core.unitsOf FP.Core.b64 n * W = y at *
      omega
  · rcases hx with hx | hx
    · rw [hx]; exact Nat.zero_le _
    · have h1 := (h.2.1 (by rw [FP.Core.tails_b64]; exact hx)).2
      rw [FP.Core.tails_b64] at h1
      show _ ≤ 2 * (FP.Core.unitsOf FP.Core.b64 n * W)
      generalize FP.Core.unitsOf FP.Core.b64 n * W = y at *
      omega
theorem kiloD : vD 4652218415073722368 = 1024 * 2 ^ 1074 := by decide +kernel
theorem vD_0 {x : UInt64} (h : x.toNat = 0) : vD x.toNat = 0 := by rw [h]; exact FP.Core.unitsOf_zero _
theorem vD_n {x : UInt64} (h : vD x.toNat = 0) : x.toNat = 0 := FP.Core.unitsOf_eq_zero.mp h
set_option maxRecDepth 4000 in
theorem ch_half {x : UInt64} {q L lo : Nat} (hx : okD x) (hv : vD x.toNat ≤ 2 * 2 ^ 1074) (hlo : vD x.toNat = 0 ∨ lo ≤ vD x.toNat) (hl : 2 ^ 70 ≤ lo) (hq : q ≤ 201) (hL : 0 < L) (hL2 : L ≤ 200) :
    okD (FP.dmul x (FP.i2d (nI q))) ∧ okD (FP.ddiv (FP.dmul x (FP.i2d (nI q))) (FP.i2d (nI L))) ∧ 65536 * (vD (FP.ddiv (FP.dmul x (FP.i2d (nI q))) (FP.i2d (nI L))).toNat * L) ≤ 66049 * (vD x.toNat * q) ∧ vD x.toNat * q ≤ 4 * (vD (FP.ddiv (FP.dmul x (FP.i2d (nI q))) (FP.i2d (nI L))).toNat * L) ∧ (vD x.toNat * q = 0 → (FP.ddiv (FP.dmul x (FP.i2d (nI q))) (FP.i2d (nI L))).toNat = 0) := by
  obtain ⟨a1, a2⟩ := intD (k := q) (by omega)
  obtain ⟨b1, b2⟩ := intD (k := L) (by omega)
  have hk := kiloD
  have hop : 0 < 2 ^ 1074 := Nat.two_pow_pos _
  have hY : vD x.toNat * q = 0 ∨ lo ≤ vD x.toNat * q := by
    rcases hlo with h | h
    · rw [h, Nat.zero_mul]; exact Or.inl rfl
    · by_cases hq0 : q = 0
      · rw [hq0]; exact Or.inl (Nat.mul_zero _)
      · exact Or.inr (Nat.le_trans h (Nat.le_mul_of_pos_right _ (by omega)))
  have hY2 : vD x.toNat * q ≤ 402 * 2 ^ 1074 := by
    have := Nat.mul_le_mul hv hq
    rw [Nat.mul_right_comm] at this
    exact this
  have hXe : vD x.toNat * vD (FP.i2d (nI q)).toNat = vD x.toNat * q * 2 ^ 1074 := by rw [a2, Nat.mul_assoc]
  have hm := mulD hx a1 (m0 := 4652218415073722368) (by decide) (by
    rw [hXe, hk]
    refine Nat.mul_le_mul_right _ (Nat.le_trans hY2 (Nat.mul_le_mul_right _ (by decide))))
  rw [hXe] at hm
  generalize FP.dmul x (FP.i2d (nI q)) = x1 at *
  have hn1 := nr_up hm.2 (by
    rcases hY with h | h
    · rw [h, Nat.zero_mul]; exact Or.inl rfl
    · exact Or.inr (Nat.mul_le_mul_right _ (by omega)))
  have u1 : 256 * vD x1.toNat ≤ 257 * (vD x.toNat * q) := by
    have := hn1.1
    rw [← Nat.mul_assoc, ← Nat.mul_assoc] at this
    exact Nat.le_of_mul_le_mul_right this hop
  have l1 : vD x.toNat * q ≤ 2 * vD x1.toNat := by
    have := hn1.2.1
    rw [← Nat.mul_assoc] at this
    exact Nat.le_of_mul_le_mul_right this hop
  have z1 : vD x.toNat * q = 0 → x1.toNat = 0 := fun h => hn1.2.2 (by rw [h, Nat.zero_mul])
  clear hn1 hXe a2
  generalize vD x.toNat * q = Y at *
  have hd := divD hm.1 b1 (by rw [b2]; exact Nat.mul_pos hL hop) (m0 := 4652218415073722368) (by decide) (by
    rw [hk, b2]
    have e1 : vD x1.toNat ≤ 1024 * 2 ^ 1074 := by generalize (2 : Nat) ^ 1074 = o at *; omega
    have e2 : 1024 * 2 ^ 1074 * (1 * 2 ^ 1074) ≤ 1024 * 2 ^ 1074 * (L * 2 ^ 1074) := Nat.mul_le_mul_left _ (Nat.mul_le_mul_right _ hL)
    rw [Nat.one_mul] at e2
    exact Nat.le_trans (Nat.mul_le_mul_right _ e1) e2)
  rw [b2] at hd
  generalize FP.ddiv x1 (FP.i2d (nI L)) = x2 at *
  have hn2 := nr_up hd.2 (by
    rcases hY with h | h
    · rw [vD_0 (z1 h), Nat.zero_mul]; exact Or.inl rfl
    · refine Or.inr ?_
      rw [← Nat.mul_assoc]
      refine Nat.mul_le_mul_right _ ?_
      omega)
  have u2 : 256 * (vD x2.toNat * L) ≤ 257 * vD x1.toNat := by
    have := hn2.1
    rw [← Nat.mul_assoc (vD x2.toNat), ← Nat.mul_assoc 256, ← Nat.mul_assoc 257] at this
    exact Nat.le_of_mul_le_mul_right this hop
  have l2 : vD x1.toNat ≤ 2 * (vD x2.toNat * L) := by
    have := hn2.2.1
    rw [← Nat.mul_assoc (vD x2.toNat), ← Nat.mul_assoc 2] at this
    exact Nat.le_of_mul_le_mul_right this hop
  refine ⟨hm.1, hd.1, by omega, by omega, fun h => hn2.2.2 ?_⟩
  rw [vD_0 (z1 h), Nat.zero_mul]
/-- the sum of two such -/
theorem ch_add {x y : UInt64} {lo : Nat} (hx : okD x) (hy : okD y) (hv : vD x.toNat + vD y.toNat ≤ 1024 * 2 ^ 1074) (hlo : vD x.toNat = 0 ∨ lo ≤ vD x.toNat) (hlo2 : vD y.toNat = 0 ∨ lo ≤ vD y.toNat) (hl : 2 ^ 52 ≤ lo) :
    okD (FP.dadd x y) ∧ 256 * vD (FP.dadd x y).toNat ≤ 257 * (vD x.toNat + vD y.toNat) ∧ x.toNat ≤ (FP.dadd x y).toNat ∧ y.toNat ≤ (FP.dadd x y).toNat ∧ (x.toNat = 0 → y.toNat = 0 → (FP.dadd x y).toNat = 0) := by
  have hk := kiloD
  have h := addD hx hy (m0 := 4652218415073722368) (by decide) (by rw [hk]; exact hv)
  have hn := nr_up h.2 (by rw [Nat.mul_one]; omega)
  refine ⟨h.1, by have := hn.1; rw [Nat.mul_one] at this; exact this, ?_, ?_, fun h1 h2 => hn.2.2 (by rw [vD_0 h1, vD_0 h2])⟩
  · exact (h.2.2.2 _ (infD hx)).2 (by rw [Nat.mul_one]; exact Nat.le_add_right _ _)
  · exact (h.2.2.2 _ (infD hy)).2 (by rw [Nat.mul_one]; exact Nat.le_add_left _ _)
theorem vD_le {a b : Nat} (h : a ≤ b) : vD a ≤ vD b := FP.Core.unitsOf_le_iff.mpr h
/-- what is known of the numbers behind j draws -/
def IvC (n b j : Nat) : Prop := (∀ k, okD (odC n b j k)) ∧ (∀ k, j < k → (odC n b j k).toNat = 0) ∧ (∀ k, vD (odC n b j k).toNat = 0 ∨ 2 ^ (1074 - 11 * j) ≤ vD (odC n b j k).toNat) ∧ (∀ k, b < k → (odC n b j k).toNat = 0) ∧ (∀ k, k + (n - b) < j → (odC n b j k).toNat = 0) ∧ sumN (fun k => vD (odC n b j k).toNat) (j + 1) * 256 ^ (3 * j) ≤ 257 ^ (3 * j) * 2 ^ 1074
theorem ch_p3 : ∀ j, j < 33 → 257 ^ (3 * j) ≤ 2 * 256 ^ (3 * j) := by decide +kernel
theorem sumN_pt1 {f : Nat → Nat} {k : Nat} : ∀ {n : Nat}, k < n → f k ≤ sumN f n
  | 0, h => by omega
  | n + 1, h => by
    show f k ≤ sumN f n + f n
    by_cases e : k = n
    · subst e; omega
    · have := sumN_pt1 (f := f) (k := k) (n := n) (by omega)
      omega
theorem IvC.le {n b j k : Nat} (h : IvC n b j) (hj : j < 33) : vD (odC n b j k).toNat ≤ 2 * 2 ^ 1074 := by
  by_cases hk : j < k
  · rw [vD_0 (h.2.1 k hk)]; exact Nat.zero_le _
  · have h1 := sumN_pt1 (f := fun k => vD (odC n b j k).toNat) (k := k) (n := j + 1) (by omega)
    have h2 := h.2.2.2.2.2
    have h3 := ch_p3 j hj
    have h4 : 257 ^ (3 * j) * 2 ^ 1074 ≤ 2 * 2 ^ 1074 * 256 ^ (3 * j) := by
      rw [Nat.mul_right_comm 2]
      exact Nat.mul_le_mul_right _ h3
    have h5 := Nat.le_of_mul_le_mul_right (Nat.le_trans h2 h4) (Nat.pow_pos (by decide))
    exact Nat.le_trans h1 h5
def prC (n b j k : Nat) : UInt64 := if k = 0 then FP.dconst0 else odC n b j (k - 1)
theorem IvC.pr {n b j k : Nat} (h : IvC n b j) (hj : j < 33) : okD (prC n b j k) ∧ vD (prC n b j k).toNat ≤ 2 * 2 ^ 1074 ∧ (vD (prC n b j k).toNat = 0 ∨ 2 ^ (1074 - 11 * j) ≤ vD (prC n b j k).toNat) := by
  unfold prC
  split
  · have e : FP.dconst0.toNat = 0 := by decide
    exact ⟨by unfold okD; rw [e]; decide, by rw [vD_0 e]; exact Nat.zero_le _, Or.inl (vD_0 e)⟩
  · exact ⟨h.1 _, h.le hj, h.2.2.1 _⟩
set_option maxRecDepth 4000 in
/-- one step -/
theorem IvC.step {n b j k : Nat} (h : IvC n b j) (hb : b ≤ n) (hn : n ≤ 200) (hj : j < n) (hj32 : j < 32) (hk : k ≤ j + 1) :
    (okD (FP.dmul (odC n b j k) (FP.i2d (nI (n - b + k - j)))) ∧ okD (FP.ddiv (FP.dmul (odC n b j k) (FP.i2d (nI (n - b + k - j)))) (FP.i2d (nI (n - j))))) ∧ (okD (FP.dmul (prC n b j k) (FP.i2d (nI (b + 1 - k)))) ∧ okD (FP.ddiv (FP.dmul (prC n b j k) (FP.i2d (nI (b + 1 - k)))) (FP.i2d (nI (n - j))))) ∧ okD (stC n b j (odC n b j) k) ∧
    256 * 65536 * (vD (stC n b j (odC n b j) k).toNat * (n - j)) ≤ 257 * 66049 * (vD (odC n b j k).toNat * (n - b + k - j) + vD (prC n b j k).toNat * (b + 1 - k)) ∧ (vD (odC n b j k).toNat * (n - b + k - j) = 0 → vD (prC n b j k).toNat * (b + 1 - k) = 0 → (stC n b j (odC n b j) k).toNat = 0) ∧ (vD (stC n b j (odC n b j) k).toNat = 0 ∨ 2 ^ (1074 - 11 * (j + 1)) ≤ vD (stC n b j (odC n b j) k).toNat) := by
  have hlo : 2 ^ 70 ≤ 2 ^ (1074 - 11 * j) := Nat.pow_le_pow_right (by decide) (by omega)
  have hlo2 : 2 ^ 52 ≤ 2 ^ (1074 - 11 * (j + 1)) := Nat.pow_le_pow_right (by decide) (by omega)
  have hlo3 : 2 ^ (1074 - 11 * j) = 2 ^ (1074 - 11 * (j + 1)) * 2048 := by
    rw [show (2048 : Nat) = 2 ^ 11 from rfl, ← Nat.pow_add]; congr 1; omega
  obtain ⟨p1, p2, p3⟩ := h.pr (k := k) (by omega)
  have o1 := h.1 k
  have o2 := h.le (k := k) (by omega)
  have o3 := h.2.2.1 k
  have es : stC n b j (odC n b j) k = FP.dadd (FP.ddiv (FP.dmul (odC n b j k) (FP.i2d (nI (n - b + k - j)))) (FP.i2d (nI (n - j)))) (FP.ddiv (FP.dmul (prC n b j k) (FP.i2d (nI (b + 1 - k)))) (FP.i2d (nI (n - j)))) := rfl
  rw [es]
  generalize odC n b j k = x at *
  generalize prC n b j k = y at *
  obtain ⟨a1, a2, a3, a4, a5⟩ := ch_half (q := n - b + k - j) (L := n - j) o1 o2 o3 hlo (by omega) (by omega) (by omega)
  obtain ⟨b1, b2, b3, b4, b5⟩ := ch_half (q := b + 1 - k) (L := n - j) p1 p2 p3 hlo (by omega) (by omega) (by omega)
  have q1 : n - b + k - j ≤ 201 := by omega
  have q2 : b + 1 - k ≤ 201 := by omega
  have hLp : 0 < n - j := by omega
  have hLm : n - j ≤ 200 := by omega
  have x0 : vD x.toNat * (n - b + k - j) = 0 ∨ 2 ^ (1074 - 11 * j) ≤ vD x.toNat * (n - b + k - j) := by
    rcases o3 with q | q
    · rw [q, Nat.zero_mul]; exact Or.inl rfl
    · by_cases hq0 : n - b + k - j = 0
      · rw [hq0]; exact Or.inl (Nat.mul_zero _)
      · exact Or.inr (Nat.le_trans q (Nat.le_mul_of_pos_right _ (by omega)))
  have y0 : vD y.toNat * (b + 1 - k) = 0 ∨ 2 ^ (1074 - 11 * j) ≤ vD y.toNat * (b + 1 - k) := by
    rcases p3 with q | q
    · rw [q, Nat.zero_mul]; exact Or.inl rfl
    · by_cases hq0 : b + 1 - k = 0
      · rw [hq0]; exact Or.inl (Nat.mul_zero _)
      · exact Or.inr (Nat.le_trans q (Nat.le_mul_of_pos_right _ (by omega)))
  have X2 : vD x.toNat * (n - b + k - j) ≤ 402 * 2 ^ 1074 := by
    have := Nat.mul_le_mul o2 q1
    rw [Nat.mul_right_comm] at this
    exact this
  have Y2 : vD y.toNat * (b + 1 - k) ≤ 402 * 2 ^ 1074 := by
    have := Nat.mul_le_mul p2 q2
    rw [Nat.mul_right_comm] at this
    exact this
  generalize vD x.toNat * (n - b + k - j) = X at *
  generalize vD y.toNat * (b + 1 - k) = Y at *
  generalize FP.ddiv (FP.dmul x (FP.i2d (nI (n - b + k - j)))) (FP.i2d (nI (n - j))) = x2 at *
  generalize FP.ddiv (FP.dmul y (FP.i2d (nI (b + 1 - k)))) (FP.i2d (nI (n - j))) = y2 at *
  generalize n - j = L at *
  have vx : vD x2.toNat ≤ vD x2.toNat * L := Nat.le_mul_of_pos_right _ hLp
  have vy : vD y2.toNat ≤ vD y2.toNat * L := Nat.le_mul_of_pos_right _ hLp
  have wx : vD x2.toNat * L ≤ vD x2.toNat * 200 := Nat.mul_le_mul_left _ hLm
  have wy : vD y2.toNat * L ≤ vD y2.toNat * 200 := Nat.mul_le_mul_left _ hLm
  have ex : vD x2.toNat = 0 ∨ 2 ^ (1074 - 11 * (j + 1)) ≤ vD x2.toNat := by
    rcases x0 with q | q
    · exact Or.inl (vD_0 (a5 q))
    · refine Or.inr ?_
      rw [hlo3] at q
      generalize (2 : Nat) ^ (1074 - 11 * (j + 1)) = lo at *
      omega
  have ey : vD y2.toNat = 0 ∨ 2 ^ (1074 - 11 * (j + 1)) ≤ vD y2.toNat := by
    rcases y0 with q | q
    · exact Or.inl (vD_0 (b5 q))
    · refine Or.inr ?_
      rw [hlo3] at q
      generalize (2 : Nat) ^ (1074 - 11 * (j + 1)) = lo at *
      omega
  obtain ⟨s1, s2, s3, s4, s5⟩ := ch_add a2 b2 (by generalize (2 : Nat) ^ 1074 = o at *; omega) ex ey hlo2
  refine ⟨⟨a1, a2⟩, ⟨b1, b2⟩, s1, ?_, fun q1 q2 => s5 (a5 q1) (b5 q2), ?_⟩
  · have t1 : 256 * (vD (FP.dadd x2 y2).toNat * L) ≤ 257 * (vD x2.toNat * L + vD y2.toNat * L) := by
      have := Nat.mul_le_mul_right L s2
      rw [← Nat.add_mul, ← Nat.mul_assoc, ← Nat.mul_assoc]
      exact this
    generalize vD (FP.dadd x2 y2).toNat * L = z at *
    omega
  · rcases ex with ex | ex
    · rcases ey with ey | ey
      · exact Or.inl (vD_0 (s5 (vD_n ex) (vD_n ey)))
      · exact Or.inr (Nat.le_trans ey (vD_le s4))
    · exact Or.inr (Nat.le_trans ex (vD_le s3))
theorem sumN_add {f h : Nat → Nat} : ∀ {n : Nat}, sumN (fun k => f k + h k) n = sumN f n + sumN h n
  | 0 => rfl
  | n + 1 => by
    have := sumN_add (f := f) (h := h) (n := n)
    show sumN (fun k => f k + h k) n + (f n + h n) = sumN f n + f n + (sumN h n + h n)
    omega
theorem sumN_mul {f : Nat → Nat} {c : Nat} : ∀ {n : Nat}, sumN (fun k => f k * c) n = sumN f n * c
  | 0 => (Nat.zero_mul _).symm
  | n + 1 => by
    show sumN (fun k => f k * c) n + f n * c = (sumN f n + f n) * c
    rw [sumN_mul, Nat.add_mul]
theorem sumN_mulL {f : Nat → Nat} {c : Nat} : ∀ {n : Nat}, sumN (fun k => c * f k) n = c * sumN f n
  | 0 => (Nat.mul_zero _).symm
  | n + 1 => by
    show sumN (fun k => c * f k) n + c * f n = c * (sumN f n + f n)
    rw [sumN_mulL, Nat.mul_add]
theorem sumN_sh {f h : Nat → Nat} (h0 : f 0 = 0) (hs : ∀ k, f (k + 1) = h k) : ∀ {n : Nat}, sumN f (n + 1) = sumN h n
  | 0 => by show 0 + f 0 = 0; rw [h0]
  | n + 1 => by
    show sumN f (n + 1) + f (n + 1) = sumN h n + h n
    rw [sumN_sh h0 hs, hs]
theorem sumN_cg {f h : Nat → Nat} : ∀ {n : Nat}, (∀ k, k < n → f k = h k) → sumN f n = sumN h n
  | 0, _ => rfl
  | n + 1, q => by
    show sumN f n + f n = sumN h n + h n
    rw [sumN_cg fun k hk => q k (by omega), q n (by omega)]
set_option maxRecDepth 4000 in
theorem IvC.zero {n b : Nat} : IvC n b 0 := by
  have e0 : FP.dconst0.toNat = 0 := by decide
  have e1 : FP.dconst1.toNat = 4607182418800017408 := by decide
  have hz : ∀ k, k ≠ 0 → (odC n b 0 k).toNat = 0 := fun k hk => by
    show (if k = 0 then FP.dconst1 else FP.dconst0).toNat = 0
    rw [if_neg hk]; exact e0
  have h1 : vD (odC n b 0 0).toNat = 2 ^ 1074 := by
    show vD FP.dconst1.toNat = _
    rw [e1]; exact unoD'
  refine ⟨fun k => ?_, fun k hk => hz k (by omega), fun k => ?_, fun k hk => hz k (by omega), fun k hk => by omega, ?_⟩
  · by_cases hk : k = 0
    · subst hk
      show okD FP.dconst1
      unfold okD; rw [e1]; decide
    · unfold okD; rw [hz k hk]; decide
  · by_cases hk : k = 0
    · subst hk
      refine Or.inr ?_
      rw [h1]
      exact Nat.le_refl _
    · exact Or.inl (vD_0 (hz k hk))
  · show (0 + vD (odC n b 0 0).toNat) * 1 ≤ 1 * 2 ^ 1074
    rw [h1, Nat.mul_one, Nat.one_mul, Nat.zero_add]
    exact Nat.le_refl _
set_option maxRecDepth 4000 in
theorem IvC.succ {n b j : Nat} (h : IvC n b j) (hb : b ≤ n) (hn : n ≤ 200) (hj : j < n) (hj32 : j < 32) : IvC n b (j + 1) := by
  have hs : ∀ k, k ≤ j + 1 → odC n b (j + 1) k = stC n b j (odC n b j) k := fun k hk => if_pos hk
  have hz : ∀ k, ¬ k ≤ j + 1 → odC n b (j + 1) k = odC n b j k := fun k hk => if_neg hk
  have hpr0 : ∀ k, b < k → vD (prC n b j k).toNat * (b + 1 - k) = 0 := fun k hk => by
    by_cases e : k = b + 1
    · rw [show b + 1 - k = 0 by omega]; exact Nat.mul_zero _
    · have e2 : prC n b j k = odC n b j (k - 1) := if_neg (by omega)
      rw [e2, vD_0 (h.2.2.2.1 (k - 1) (by omega)), Nat.zero_mul]
  have hpr1 : ∀ k, k + (n - b) < j + 1 → vD (prC n b j k).toNat * (b + 1 - k) = 0 := fun k hk => by
    by_cases e : k = 0
    · have e2 : prC n b j k = FP.dconst0 := if_pos e
      rw [e2, vD_0 (show FP.dconst0.toNat = 0 by decide), Nat.zero_mul]
    · have e2 : prC n b j k = odC n b j (k - 1) := if_neg e
      rw [e2, vD_0 (h.2.2.2.2.1 (k - 1) (by omega)), Nat.zero_mul]
  refine ⟨fun k => ?_, fun k hk => ?_, fun k => ?_, fun k hk => ?_, fun k hk => ?_, ?_⟩
  · by_cases hk : k ≤ j + 1
    · rw [hs k hk]; exact (h.step hb hn hj hj32 hk).2.2.1
    · rw [hz k hk]; exact h.1 k
  · rw [hz k (by omega)]; exact h.2.1 k (by omega)
  · by_cases hk : k ≤ j + 1
    · rw [hs k hk]; exact (h.step hb hn hj hj32 hk).2.2.2.2.2
    · rw [hz k hk]; exact Or.inl (vD_0 (h.2.1 k (by omega)))
  · by_cases hk2 : k ≤ j + 1
    · rw [hs k hk2]
      exact (h.step hb hn hj hj32 hk2).2.2.2.2.1 (by rw [vD_0 (h.2.2.2.1 k hk), Nat.zero_mul]) (hpr0 k hk)
    · rw [hz k hk2]; exact h.2.1 k (by omega)
  · by_cases hk2 : k ≤ j + 1
    · rw [hs k hk2]
      refine (h.step hb hn hj hj32 hk2).2.2.2.2.1 ?_ (hpr1 k hk)
      rw [show n - b + k - j = 0 by omega]; exact Nat.mul_zero _
    · rw [hz k hk2]; exact h.2.1 k (by omega)
  · have h6 := h.2.2.2.2.2
    have t1 : sumN (fun k => 256 * 65536 * (vD (odC n b (j + 1) k).toNat * (n - j))) (j + 1 + 1) ≤ sumN (fun k => 257 * 66049 * (vD (odC n b j k).toNat * (n - b + k - j) + vD (prC n b j k).toNat * (b + 1 - k))) (j + 1 + 1) := sumN_mono fun k hk => by
      rw [hs k (by omega)]
      exact (h.step hb hn hj hj32 (by omega)).2.2.2.1
    rw [sumN_mulL, sumN_mulL, sumN_mul, sumN_add] at t1
    have t2 : sumN (fun k => vD (odC n b j k).toNat * (n - b + k - j)) (j + 1 + 1) = sumN (fun k => vD (odC n b j k).toNat * (n - b + k - j)) (j + 1) := by
      show sumN (fun k => vD (odC n b j k).toNat * (n - b + k - j)) (j + 1) + vD (odC n b j (j + 1)).toNat * (n - b + (j + 1) - j) = _
      rw [vD_0 (h.2.1 (j + 1) (by omega)), Nat.zero_mul, Nat.add_zero]
    have t3 : sumN (fun k => vD (prC n b j k).toNat * (b + 1 - k)) (j + 1 + 1) = sumN (fun k => vD (odC n b j k).toNat * (b - k)) (j + 1) := sumN_sh (by
      show vD (prC n b j 0).toNat * (b + 1 - 0) = 0
      rw [show prC n b j 0 = FP.dconst0 from rfl, vD_0 (show FP.dconst0.toNat = 0 by decide), Nat.zero_mul]) (fun k => by
      show vD (prC n b j (k + 1)).toNat * (b + 1 - (k + 1)) = _
      rw [show prC n b j (k + 1) = odC n b j k from if_neg (by omega), Nat.add_sub_add_right])
    rw [t2, t3, ← sumN_add] at t1
    have t4 : sumN (fun k => vD (odC n b j k).toNat * (n - b + k - j) + vD (odC n b j k).toNat * (b - k)) (j + 1) = sumN (fun k => vD (odC n b j k).toNat) (j + 1) * (n - j) := by
      rw [← sumN_mul]
      refine sumN_cg fun k hk => ?_
      rw [← Nat.mul_add]
      by_cases c1 : b < k
      · rw [vD_0 (h.2.2.2.1 k c1), Nat.zero_mul, Nat.zero_mul]
      · by_cases c2 : k + (n - b) < j
        · rw [vD_0 (h.2.2.2.2.1 k c2), Nat.zero_mul, Nat.zero_mul]
        · rw [show n - b + k - j + (b - k) = n - j by omega]
    rw [t4] at t1
    have t5 : 256 * 65536 * sumN (fun k => vD (odC n b (j + 1) k).toNat) (j + 1 + 1) ≤ 257 * 66049 * sumN (fun k => vD (odC n b j k).toNat) (j + 1) := by
      rw [← Nat.mul_assoc, ← Nat.mul_assoc] at t1
      exact Nat.le_of_mul_le_mul_right t1 (by omega)
    rw [show 3 * (j + 1) = 3 * j + 3 by omega, Nat.pow_add, Nat.pow_add, show 256 ^ 3 = 256 * 65536 from rfl, show 257 ^ 3 = 257 * 66049 from rfl]
    generalize sumN (fun k => vD (odC n b (j + 1) k).toNat) (j + 1 + 1) = s1 at *
    generalize sumN (fun k => vD (odC n b j k).toNat) (j + 1) = s0 at *
    generalize (256 : Nat) ^ (3 * j) = p at *
    generalize (257 : Nat) ^ (3 * j) = q at *
    generalize (2 : Nat) ^ 1074 = o at *
    have u1 := Nat.mul_le_mul_right p t5
    have u2 := Nat.mul_le_mul_left (257 * 66049) h6
    have e1 : s1 * (p * (256 * 65536)) = 256 * 65536 * s1 * p := by ac_rfl
    have e2 : q * (257 * 66049) * o = 257 * 66049 * (q * o) := by ac_rfl
    have e3 : 257 * 66049 * s0 * p = 257 * 66049 * (s0 * p) := by ac_rfl
    rw [e1, e2]
    rw [e3] at u1
    exact Nat.le_trans u1 u2
theorem ivC {n b : Nat} (hb : b ≤ n) (hn : n ≤ 200) : ∀ {j : Nat}, j ≤ n → j ≤ 32 → IvC n b j
  | 0, _, _ => IvC.zero
  | j + 1, h1, h2 => (ivC hb hn (j := j) (by omega) (by omega)).succ hb hn (by omega) (by omega)
theorem ch_p4 : ∀ t, t < 34 → 257 ^ t ≤ 2 * 256 ^ t := by decide +kernel
theorem ch_end : 257 ^ 129 < 2 * 256 ^ 129 := by decide +kernel
set_option maxRecDepth 4000 in
/-- the sums -/
theorem smC_ok {n b s : Nat} (h : IvC n b s) (hs : s ≤ 32) : ∀ {t : Nat}, t ≤ 33 → okD (smC n b s t) ∧ (vD (smC n b s t).toNat = 0 ∨ 2 ^ (1074 - 11 * s) ≤ vD (smC n b s t).toNat) ∧ vD (smC n b s t).toNat * 256 ^ t ≤ 257 ^ t * sumN (fun k => vD (odC n b s k).toNat) t
  | 0, _ => by
    have e0 : FP.dconst0.toNat = 0 := by decide
    refine ⟨?_, Or.inl (vD_0 e0), ?_⟩
    · show okD FP.dconst0
      unfold okD; rw [e0]; decide
    · show vD FP.dconst0.toNat * 1 ≤ _
      rw [vD_0 e0, Nat.zero_mul]; exact Nat.zero_le _
  | t + 1, ht => by
    obtain ⟨h1, h2, h3⟩ := smC_ok h hs (t := t) (by omega)
    have hsum : ∀ t, sumN (fun k => vD (odC n b s k).toNat) t ≤ sumN (fun k => vD (odC n b s k).toNat) (s + 1) := fun t => by
      induction t with
      | zero => exact Nat.zero_le _
      | succ t ih =>
        by_cases q : t < s + 1
        · have mono : ∀ {a c : Nat}, a ≤ c → sumN (fun k => vD (odC n b s k).toNat) a ≤ sumN (fun k => vD (odC n b s k).toNat) c := fun {a c} hac => by
            induction c with
            | zero => rw [show a = 0 by omega]; exact Nat.le_refl _
            | succ c ihc =>
              by_cases e : a = c + 1
              · rw [e]; exact Nat.le_refl _
              · exact Nat.le_trans (ihc (by omega)) (Nat.le_add_right _ _)
          exact mono (by omega)
        · show sumN (fun k => vD (odC n b s k).toNat) t + vD (odC n b s t).toNat ≤ _
          rw [vD_0 (h.2.1 t (by omega)), Nat.add_zero]
          exact ih
    have hS : sumN (fun k => vD (odC n b s k).toNat) (s + 1) ≤ 2 * 2 ^ 1074 := by
      have h6 := h.2.2.2.2.2
      have h7 : 257 ^ (3 * s) * 2 ^ 1074 ≤ 2 * 2 ^ 1074 * 256 ^ (3 * s) := by
        rw [Nat.mul_right_comm 2]
        exact Nat.mul_le_mul_right _ (ch_p3 s (by omega))
      exact Nat.le_of_mul_le_mul_right (Nat.le_trans h6 h7) (Nat.pow_pos (by decide))
    have hv : vD (smC n b s t).toNat ≤ 4 * 2 ^ 1074 := by
      have h8 : 257 ^ t * sumN (fun k => vD (odC n b s k).toNat) t ≤ 4 * 2 ^ 1074 * 256 ^ t := by
        have := Nat.mul_le_mul (ch_p4 t (by omega)) (Nat.le_trans (hsum t) hS)
        refine Nat.le_trans this (Nat.le_of_eq ?_)
        generalize (256 : Nat) ^ t = p
        generalize (2 : Nat) ^ 1074 = o
        rw [show (4 : Nat) = 2 * 2 from rfl]
        ac_rfl
      exact Nat.le_of_mul_le_mul_right (Nat.le_trans h3 h8) (Nat.pow_pos (by decide))
    have hlo2 : 2 ^ 52 ≤ 2 ^ (1074 - 11 * s) := Nat.pow_le_pow_right (by decide) (by omega)
    obtain ⟨a1, a2, a3, a4, a5⟩ := ch_add h1 (h.1 t) (by have := h.le (k := t) (by omega); generalize (2 : Nat) ^ 1074 = o at *; omega) h2 (h.2.2.1 t) hlo2
    refine ⟨a1, ?_, ?_⟩
    · show vD (FP.dadd (smC n b s t) (odC n b s t)).toNat = 0 ∨ _
      rcases h2 with q | q
      · rcases h.2.2.1 t with r | r
        · exact Or.inl (vD_0 (a5 (vD_n q) (vD_n r)))
        · exact Or.inr (Nat.le_trans r (vD_le a4))
      · exact Or.inr (Nat.le_trans q (vD_le a3))
    · show vD (FP.dadd (smC n b s t) (odC n b s t)).toNat * 256 ^ (t + 1) ≤ 257 ^ (t + 1) * (sumN (fun k => vD (odC n b s k).toNat) t + vD (odC n b s t).toNat)
      have pq : 256 ^ t ≤ 257 ^ t := Nat.pow_le_pow_left (by decide) t
      rw [Nat.pow_succ, Nat.pow_succ]
      generalize vD (FP.dadd (smC n b s t) (odC n b s t)).toNat = z at *
      generalize vD (smC n b s t).toNat = x at *
      generalize vD (odC n b s t).toNat = y at *
      generalize sumN (fun k => vD (odC n b s k).toNat) t = S at *
      generalize (256 : Nat) ^ t = p at *
      generalize (257 : Nat) ^ t = q at *
      have b1 := Nat.mul_le_mul_right p a2
      have b2 := Nat.mul_le_mul_right y pq
      have e1 : z * (p * 256) = 256 * z * p := by ac_rfl
      have e2 : q * 257 * (S + y) = 257 * (q * S + q * y) := by rw [← Nat.mul_add]; ac_rfl
      have e3 : 257 * (x + y) * p = 257 * (x * p + p * y) := by rw [Nat.mul_assoc, Nat.add_mul, Nat.mul_comm p y]
      rw [e1, e2]
      rw [e3] at b1
      refine Nat.le_trans b1 (Nat.mul_le_mul_left _ ?_)
      omega
/-- what the chance is like -/
theorem smC_end {n b s t : Nat} (hb : b ≤ n) (hn : n ≤ 200) (hsn : s ≤ n) (hs : s ≤ 32) (ht : t ≤ s + 1) : okD (smC n b s t) ∧ (smC n b s t).toNat < 4611686018427387904 ∧ ((smC n b s t).toNat = 0 ∨ 4503599627370496 ≤ (smC n b s t).toNat) := by
  have h := ivC hb hn hsn hs
  obtain ⟨h1, h2, h3⟩ := smC_ok h hs (t := t) (by omega)
  have mono : ∀ {a c : Nat}, a ≤ c → sumN (fun k => vD (odC n b s k).toNat) a ≤ sumN (fun k => vD (odC n b s k).toNat) c := fun {a c} hac => by
    induction c with
    | zero => rw [show a = 0 by omega]; exact Nat.le_refl _
    | succ c ihc =>
      by_cases e : a = c + 1
      · rw [e]; exact Nat.le_refl _
      · exact Nat.le_trans (ihc (by omega)) (Nat.le_add_right _ _)
  refine ⟨h1, ?_, ?_⟩
  · have h6 := h.2.2.2.2.2
    have h7 := mono ht
    have h8 : vD (smC n b s t).toNat * 256 ^ (t + 3 * s) ≤ 257 ^ (t + 3 * s) * 2 ^ 1074 := by
      rw [Nat.pow_add, Nat.pow_add]
      generalize vD (smC n b s t).toNat = x at *
      generalize sumN (fun k => vD (odC n b s k).toNat) t = S at *
      generalize sumN (fun k => vD (odC n b s k).toNat) (s + 1) = S2 at *
      generalize (256 : Nat) ^ t = p at *
      generalize (257 : Nat) ^ t = q at *
      generalize (256 : Nat) ^ (3 * s) = p2 at *
      generalize (257 : Nat) ^ (3 * s) = q2 at *
      generalize (2 : Nat) ^ 1074 = o at *
      calc x * (p * p2) = x * p * p2 := (Nat.mul_assoc _ _ _).symm
        _ ≤ q * S * p2 := Nat.mul_le_mul_right _ h3
        _ ≤ q * S2 * p2 := Nat.mul_le_mul_right _ (Nat.mul_le_mul_left _ h7)
        _ = q * (S2 * p2) := Nat.mul_assoc _ _ _
        _ ≤ q * (q2 * o) := Nat.mul_le_mul_left _ h6
        _ = q * q2 * o := (Nat.mul_assoc _ _ _).symm
    have h9 : 257 ^ (t + 3 * s) * 256 ^ (129 - (t + 3 * s)) < 2 * 256 ^ 129 := by
      refine Nat.lt_of_le_of_lt ?_ ch_end
      rw [show (257 : Nat) ^ 129 = 257 ^ (t + 3 * s) * 257 ^ (129 - (t + 3 * s)) by rw [← Nat.pow_add]; congr 1; omega]
      exact Nat.mul_le_mul_left _ (Nat.pow_le_pow_left (by decide) _)
    have h10 : vD (smC n b s t).toNat < 2 * 2 ^ 1074 := by
      refine Nat.lt_of_not_le fun q => ?_
      have a1 := Nat.mul_le_mul_right (256 ^ (129 - (t + 3 * s))) h8
      rw [Nat.mul_assoc, ← Nat.pow_add, show t + 3 * s + (129 - (t + 3 * s)) = 129 by omega, Nat.mul_right_comm] at a1
      have a2 : 257 ^ (t + 3 * s) * 256 ^ (129 - (t + 3 * s)) * 2 ^ 1074 < 2 * 256 ^ 129 * 2 ^ 1074 := Nat.mul_lt_mul_of_pos_right h9 (Nat.two_pow_pos _)
      have a3 := Nat.mul_le_mul_right (256 ^ 129) q
      rw [Nat.mul_right_comm] at a3
      omega
    have e : vD 4611686018427387904 = 2 * 2 ^ 1074 := twoD
    rw [← e] at h10
    exact FP.Core.unitsOf_lt_iff.mp h10
  · rcases h2 with q | q
    · exact Or.inl (vD_n q)
    · refine Or.inr (FP.Core.unitsOf_le_iff.mp (show vD 4503599627370496 ≤ vD _ from Nat.le_trans ?_ q))
      rw [lowD]
      exact Nat.pow_le_pow_right (by decide) (by omega)
