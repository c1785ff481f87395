/-! THE MEMORY on both sides -/
theorem onesK_sh {M r : Nat} (hr : r < 2) : ∀ q, onesK (2 * M + r) (q + 1) = onesK M q + r
  | 0 => by
    show 0 + (2 * M + r) / 2 ^ 0 % 2 = 0 + r
    omega
  | q + 1 => by
    show onesK (2 * M + r) (q + 1) + (2 * M + r) / 2 ^ (q + 1) % 2 = onesK M q + M / 2 ^ q % 2 + r
    rw [onesK_sh hr q, Nat.pow_succ, Nat.mul_comm (2 ^ q) 2, ← Nat.div_div_eq_div_mul, show (2 * M + r) / 2 = M by omega]
    omega
theorem onesK_0 {x k : Nat} (h : x < 2 ^ k) : ∀ q, k ≤ q → onesK x q = onesK x k
  | 0, hq => by rw [show k = 0 by omega]
  | q + 1, hq => by
    by_cases e : k = q + 1
    · rw [e]
    · show onesK x q + x / 2 ^ q % 2 = _
      rw [onesK_0 h q (by omega), Nat.div_eq_of_lt (Nat.lt_of_lt_of_le h (Nat.pow_le_pow_right (by decide) (by omega)))]
      rfl
theorem ones_b3 {M r : Nat} (hM : M < 2 ^ 24) (hr : r < 2) : onesK (2 * M + r) 32 = onesK M 32 + r := by
  rw [onesK_sh hr 31, onesK_0 hM 31 (by decide), onesK_0 hM 32 (by decide)]
theorem ones_b1 {M G r : Nat} (hG : M % 32 = G) (hr : r < 2) : (2 * M + r) % 32 = G * 2 ^ 1 % 32 ||| r := by
  have e : G * 2 ^ 1 % 32 = (G % 16) * 2 ^ 1 := by omega
  rw [e, shl_or hr]
  omega
theorem ones_b2 {x : Nat} (h : x < 32) : onesK x 32 = onesK x 5 := onesK_0 (k := 5) h 32 (by decide)
theorem Rel.upd {c g : Nat → Nat} {N p r y : Nat} (hr : Rel c g N) (hp : p < 4) (hm : g (22 + 10 * p + 5) + 1 ≤ insC g (g 0)) (hr2 : r < 2) (hy : y ≤ 12) (hy3 : y % 3 = 0) : Rel (up1 (up1 (up1 (up1 c (22 + 10 * p + 3) (g (22 + 10 * p + 3))) (22 + 10 * p + 4) y) (22 + 10 * p + 5) (g (22 + 10 * p + 5) + 1)) (22 + 10 * p + 6) (2 * c (22 + 10 * p + 6) + r)) (updG (up1 g (22 + 10 * p + 4) y) g (22 + 10 * p) r) N := by
  have h24 := hr.n24
  have hins : insC g (g 0) ≤ g 0 := cnt_le _ _
  have h := hr.p hp
  have hc : ∀ j, (j < 22 + 10 * p + 3 ∨ 22 + 10 * p + 7 ≤ j) → up1 (up1 (up1 (up1 c (22 + 10 * p + 3) (g (22 + 10 * p + 3))) (22 + 10 * p + 4) y) (22 + 10 * p + 5) (g (22 + 10 * p + 5) + 1)) (22 + 10 * p + 6) (2 * c (22 + 10 * p + 6) + r) j = c j := fun j h => by rw [up1_n (by omega), up1_n (by omega), up1_n (by omega), up1_n (by omega)]
  have hg : ∀ j, (j < 22 + 10 * p + 4 ∨ 22 + 10 * p + 7 < j) → updG (up1 g (22 + 10 * p + 4) y) g (22 + 10 * p) r j = g j := fun j h => by unfold updG; rw [up1_n (by omega), up1_n (by omega), up1_n (by omega), up1_n (by omega)]
  have g4 : updG (up1 g (22 + 10 * p + 4) y) g (22 + 10 * p) r (22 + 10 * p + 4) = y := by unfold updG; rw [up1_n (by omega), up1_n (by omega), up1_n (by omega), up1_s]
  have g5 : updG (up1 g (22 + 10 * p + 4) y) g (22 + 10 * p) r (22 + 10 * p + 5) = g (22 + 10 * p + 5) + 1 := by unfold updG; rw [up1_n (by omega), up1_n (by omega), up1_s]
  have g6 : updG (up1 g (22 + 10 * p + 4) y) g (22 + 10 * p) r (22 + 10 * p + 6) = g (22 + 10 * p + 6) + r := by unfold updG; rw [up1_n (by omega), up1_s]
  have g7 : updG (up1 g (22 + 10 * p + 4) y) g (22 + 10 * p) r (22 + 10 * p + 7) = g (22 + 10 * p + 7) * 2 ^ 1 % 32 ||| r := by unfold updG; rw [up1_s]
  refine Rel.prod hr (Nat.le_refl N) hp (fun j hj => hc j (by omega)) (fun j hj => hg j (by omega)) ?_ (by rw [g5]; exact hm)
  obtain ⟨h1, h2, h3, h4, h5, h6⟩ := h
  refine ⟨fun f hf => ?_, by rw [hc _ (by omega), hg _ (by omega)]; exact h2, by rw [hc _ (by omega), hg _ (by omega)]; exact h3, ?_, ?_, by rw [hg _ (by omega), hg _ (by omega)]; exact h6⟩
  · by_cases e : f < 3
    · rw [hc _ (by omega), hg _ (by omega)]; exact h1 f hf
    · obtain rfl | rfl | rfl : f = 3 ∨ f = 4 ∨ f = 5 := by omega
      · rw [hg _ (by omega), up1_n (by omega), up1_n (by omega), up1_n (by omega), up1_s]
      · rw [g4, up1_n (by omega), up1_n (by omega), up1_s]
      · rw [g5, up1_n (by omega), up1_s]
  · rw [hg _ (by omega), hg _ (by omega), hg _ (by omega), hg _ (by omega), g4]
    exact ⟨h4.1, h4.2.1, h4.2.2.1, h4.2.2.2.1, hy, hy3⟩
  · rw [up1_s, g5, g6, g7]
    obtain ⟨q1, q2, q3, q4⟩ := h5
    have hM : c (22 + 10 * p + 6) < 2 ^ 24 := Nat.lt_of_lt_of_le q2 (Nat.pow_le_pow_right (by decide) q1)
    refine ⟨by omega, ?_, ?_, ?_⟩
    · rw [Nat.pow_succ]; omega
    · rw [ones_b3 hM hr2, q3]
    · exact ones_b1 q4 hr2
/-- what a first inspection puts into the memory, on both sides; the severity then -/
theorem Rel.rem {c g : Nat → Nat} {N p f al : Nat} (hr : Rel c g N) (hp : p < 4) (h3 : ¬ g (22 + 10 * p + 3) = 3) : ∃ x3 x4 x5 x6, (∀ S a, rmH S a (g (22 + 10 * p + 3)) (g (22 + 10 * p + 4)) (g (22 + 10 * p + 5)) (c (22 + 10 * p + 6)) f al = U4 S a x3 x4 x5 x6) ∧ x3 = sevB g (22 + 10 * p) f al ∧ (g (22 + 10 * p + 5) + 1 ≤ insC g (g 0) → Rel (up1 (up1 (up1 (up1 c (22 + 10 * p + 3) x3) (22 + 10 * p + 4) x4) (22 + 10 * p + 5) x5) (22 + 10 * p + 6) x6) (swtG g (22 + 10 * p) f al) N) := by
  have h := hr.p hp
  obtain ⟨q1, q2, q3, q4⟩ := h.m
  obtain ⟨b0, b1, b2, b3, b4, b5⟩ := h.b
  have hM : c (22 + 10 * p + 6) < 2 ^ 24 := Nat.lt_of_lt_of_le q2 (Nat.pow_le_pow_right (by decide) q1)
  have o1 : onesK ((2 * c (22 + 10 * p + 6) + 1) % 32) 32 = onesK (g (22 + 10 * p + 7) * 2 ^ 1 % 32 ||| 1) 5 := by
    rw [ones_b2 (Nat.mod_lt _ (by decide)), ones_b1 q4 (by decide)]
  have o2 : onesK (2 * c (22 + 10 * p + 6) + 1) 32 = g (22 + 10 * p + 6) + 1 := by rw [ones_b3 hM (by decide), q3]
  have o3 : (2 * c (22 + 10 * p + 6) + 0) % 32 = (g (22 + 10 * p + 7) * 2 ^ 1 % 32 ||| 0) := ones_b1 q4 (by decide)
  have hF : ∀ s, s ≤ 3 → sevB g (22 + 10 * p) f al = s → ¬ s = g (22 + 10 * p + 3) → (g (22 + 10 * p + 5) + 1 ≤ insC g (g 0) → Rel (up1 (up1 (up1 (up1 c (22 + 10 * p + 3) s) (22 + 10 * p + 4) 0) (22 + 10 * p + 5) 0) (22 + 10 * p + 6) 0) (swtG g (22 + 10 * p) f al) N) := fun s hs e ne _ => by
    unfold swtG
    rw [e, if_neg ne]
    exact Rel.forgets hr hp hs
  have hK : ∀ s r y g1, s = g (22 + 10 * p + 3) → r < 2 → y ≤ 12 → y % 3 = 0 → up1 g (22 + 10 * p + 4) y = g1 → swtG g (22 + 10 * p) f al = updG g1 g (22 + 10 * p) r → (g (22 + 10 * p + 5) + 1 ≤ insC g (g 0) → Rel (up1 (up1 (up1 (up1 c (22 + 10 * p + 3) s) (22 + 10 * p + 4) y) (22 + 10 * p + 5) (g (22 + 10 * p + 5) + 1)) (22 + 10 * p + 6) (2 * c (22 + 10 * p + 6) + r)) (swtG g (22 + 10 * p) f al) N) := fun s r y g1 hs hr2 hy hy3 hg1 hsw hm => by
    rw [hsw, ← hg1, hs]
    exact Rel.upd hr hp hm hr2 hy hy3
  by_cases cf : al < f
  · by_cases z0 : g (22 + 10 * p + 3) = 0
    · by_cases z1 : 2 ≤ onesK ((2 * c (22 + 10 * p + 6) + 1) % 32) 32
      · have hs : sevB g (22 + 10 * p) f al = 1 := by unfold sevB; rw [if_pos cf, if_pos z0, if_pos (by rw [← o1]; exact z1)]
        exact ⟨1, 0, 0, 0, fun S a => by unfold rmH; rw [if_pos cf, if_pos z0, if_pos z1], hs.symm, hF 1 (by decide) hs (by rw [z0]; decide)⟩
      · have hs : sevB g (22 + 10 * p) f al = 0 := by unfold sevB; rw [if_pos cf, if_pos z0, if_neg (by rw [← o1]; exact z1)]
        exact ⟨0, 0, _, _, fun S a => by unfold rmH; rw [if_pos cf, if_pos z0, if_neg z1], hs.symm, hK 0 1 0 _ z0.symm (by decide) (by decide) (by decide) rfl (by unfold swtG; rw [hs, if_pos z0.symm, if_pos cf, if_pos rfl])⟩
    · by_cases z1 : g (22 + 10 * p + 3) = 1
      · by_cases z2 : 5 ≤ onesK (2 * c (22 + 10 * p + 6) + 1) 32
        · have hs : sevB g (22 + 10 * p) f al = 3 := by unfold sevB; rw [if_pos cf, if_neg z0, if_pos z1, if_pos (by rw [← o2]; exact z2)]
          exact ⟨3, 0, 0, 0, fun S a => by unfold rmH; rw [if_pos cf, if_neg z0, if_pos z1, if_pos z2], hs.symm, hF 3 (by decide) hs (by rw [z1]; decide)⟩
        · have hs : sevB g (22 + 10 * p) f al = 1 := by unfold sevB; rw [if_pos cf, if_neg z0, if_pos z1, if_neg (by rw [← o2]; exact z2)]
          exact ⟨1, g (22 + 10 * p + 4), _, _, fun S a => by unfold rmH; rw [if_pos cf, if_neg z0, if_pos z1, if_neg z2], hs.symm, hK 1 1 _ _ z1.symm (by decide) b4 b5 up1_self (by unfold swtG; rw [hs, if_pos z1.symm, if_pos cf, if_neg (by decide)])⟩
      · have z2 : g (22 + 10 * p + 3) = 2 := by omega
        have hs : sevB g (22 + 10 * p) f al = 0 := by unfold sevB; rw [if_pos cf, if_neg z0, if_neg z1]
        exact ⟨0, 0, 0, 0, fun S a => by unfold rmH; rw [if_pos cf, if_neg z0, if_neg z1, if_pos z2], hs.symm, hF 0 (by decide) hs (by rw [z2]; decide)⟩
  · by_cases z0 : g (22 + 10 * p + 3) = 0
    · by_cases z1 : 2 * f ≤ al
      · by_cases z2 : g (22 + 10 * p + 4) + 3 = 15
        · have hs : sevB g (22 + 10 * p) f al = 2 := by unfold sevB; rw [if_neg cf, if_pos z0, if_pos z1, if_pos (by omega)]
          exact ⟨2, 0, 0, 0, fun S a => by unfold rmH; rw [if_neg cf, if_pos z0, if_pos z1, if_pos z2], hs.symm, hF 2 (by decide) hs (by rw [z0]; decide)⟩
        · have hs : sevB g (22 + 10 * p) f al = 0 := by unfold sevB; rw [if_neg cf, if_pos z0, if_pos z1, if_neg (by omega)]
          exact ⟨0, _, _, _, fun S a => by unfold rmH; rw [if_neg cf, if_pos z0, if_pos z1, if_neg z2], hs.symm, hK 0 0 _ _ z0.symm (by decide) (by omega) (by omega) rfl (by unfold swtG; rw [hs, if_pos z0.symm, if_neg cf, if_pos rfl, if_pos z1])⟩
      · have hs : sevB g (22 + 10 * p) f al = 0 := by unfold sevB; rw [if_neg cf, if_pos z0, if_neg z1]
        exact ⟨0, 0, _, _, fun S a => by unfold rmH; rw [if_neg cf, if_pos z0, if_neg z1], hs.symm, hK 0 0 0 _ z0.symm (by decide) (by decide) (by decide) rfl (by unfold swtG; rw [hs, if_pos z0.symm, if_neg cf, if_pos rfl, if_neg z1])⟩
    · by_cases z1 : g (22 + 10 * p + 3) = 1
      · by_cases z2 : 5 ≤ g (22 + 10 * p + 5) + 1
        · by_cases z4 : (2 * c (22 + 10 * p + 6) + 0) % 32 = 0
          · have hs : sevB g (22 + 10 * p) f al = 0 := by unfold sevB; rw [if_neg cf, if_neg z0, if_pos z1, if_pos z2, if_pos (by rw [← o3]; exact z4)]
            exact ⟨0, 0, 0, 0, fun S a => by unfold rmH; rw [if_neg cf, if_neg z0, if_pos z1, if_pos z2, if_pos z4], hs.symm, hF 0 (by decide) hs (by rw [z1]; decide)⟩
          · have hs : sevB g (22 + 10 * p) f al = 1 := by unfold sevB; rw [if_neg cf, if_neg z0, if_pos z1, if_pos z2, if_neg (by rw [← o3]; exact z4)]
            exact ⟨1, g (22 + 10 * p + 4), _, _, fun S a => by unfold rmH; rw [if_neg cf, if_neg z0, if_pos z1, if_pos z2, if_neg z4], hs.symm, hK 1 0 _ _ z1.symm (by decide) b4 b5 up1_self (by unfold swtG; rw [hs, if_pos z1.symm, if_neg cf, if_neg (by decide)])⟩
        · have hs : sevB g (22 + 10 * p) f al = 1 := by unfold sevB; rw [if_neg cf, if_neg z0, if_pos z1, if_neg z2]
          exact ⟨1, g (22 + 10 * p + 4), _, _, fun S a => by unfold rmH; rw [if_neg cf, if_neg z0, if_pos z1, if_neg z2], hs.symm, hK 1 0 _ _ z1.symm (by decide) b4 b5 up1_self (by unfold swtG; rw [hs, if_pos z1.symm, if_neg cf, if_neg (by decide)])⟩
      · have z2 : g (22 + 10 * p + 3) = 2 := by omega
        by_cases z4 : al ≤ f
        · have hs : sevB g (22 + 10 * p) f al = 0 := by unfold sevB; rw [if_neg cf, if_neg z0, if_neg z1, if_pos (by omega)]
          exact ⟨0, 0, 0, 0, fun S a => by unfold rmH; rw [if_neg cf, if_neg z0, if_neg z1, if_pos z2, if_pos z4], hs.symm, hF 0 (by decide) hs (by rw [z2]; decide)⟩
        · have hs : sevB g (22 + 10 * p) f al = 2 := by unfold sevB; rw [if_neg cf, if_neg z0, if_neg z1, if_neg (by omega)]
          exact ⟨2, g (22 + 10 * p + 4), _, _, fun S a => by unfold rmH; rw [if_neg cf, if_neg z0, if_neg z1, if_pos z2, if_neg z4], hs.symm, hK 2 0 _ _ z2.symm (by decide) b4 b5 up1_self (by unfold swtG; rw [hs, if_pos z2.symm, if_neg cf, if_neg (by decide)])⟩
