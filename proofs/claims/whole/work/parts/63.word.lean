/-! FIELDS OF A UNIT'S WORD, by their bits -/
theorem fld_tb {t q n i : Nat} : (fld t q n).testBit i = (decide (i < q) && n.testBit (t + i)) := by
  unfold fld
  rw [Nat.testBit_mod_two_pow, Nat.testBit_div_two_pow, Nat.add_comm i t]
theorem fld_ext {t q n m : Nat} (h : ∀ i, i < q → n.testBit (t + i) = m.testBit (t + i)) : fld t q n = fld t q m := by
  refine Nat.eq_of_testBit_eq fun i => ?_
  rw [fld_tb, fld_tb]
  by_cases c : i < q
  · rw [h i c]
  · rw [decide_eq_false c, Bool.false_and, Bool.false_and]
theorem tb_lt {n k i : Nat} (h : n < 2 ^ k) (hi : k ≤ i) : n.testBit i = false := Nat.testBit_lt_two_pow (Nat.lt_of_lt_of_le h (Nat.pow_le_pow_right (by decide) hi))
theorem tb_sh {x s i : Nat} : (x * 2 ^ s).testBit i = (decide (s ≤ i) && x.testBit (i - s)) := by
  exact Nat.testBit_mul_two_pow x i s
theorem m16_fld {n : Nat} : n % 16 = fld 0 4 n := (fld_0 (q := 4)).symm
theorem tb_m7 : ∀ j, j < 32 → (4294966847 : Nat).testBit j = decide (¬ (6 ≤ j ∧ j < 9)) := by decide
theorem tb_bec {w st j : Nat} (hst : st < 8) (hj : j < 32) : (becN w st).testBit j = if 6 ≤ j ∧ j < 9 then st.testBit (j - 6) else w.testBit j := by
  unfold becN
  rw [Nat.testBit_or, Nat.testBit_and, tb_m7 j hj, tb_sh]
  by_cases c : 6 ≤ j ∧ j < 9
  · rw [if_pos c, decide_eq_false (fun q => q c), Bool.and_false, Bool.false_or, decide_eq_true c.1, Bool.true_and]
  · rw [if_neg c, decide_eq_true c, Bool.and_true]
    by_cases d : 6 ≤ j
    · rw [tb_lt (k := 3) hst (by omega), Bool.and_false, Bool.or_false]
    · rw [decide_eq_false d, Bool.false_and, Bool.or_false]
theorem bec_s {w st : Nat} (hst : st < 8) : sW (becN w st) = st := by
  refine Nat.eq_of_testBit_eq fun i => ?_
  unfold sW
  rw [fld_tb]
  by_cases c : i < 3
  · rw [decide_eq_true c, Bool.true_and, tb_bec hst (by omega), if_pos (by omega), Nat.add_sub_cancel_left]
  · rw [decide_eq_false c, Bool.false_and, tb_lt (k := 3) hst (by omega)]
theorem bec_f {w st t q : Nat} (hst : st < 8) (h : t + q ≤ 6 ∨ 9 ≤ t) (h2 : t + q ≤ 32) : fld t q (becN w st) = fld t q w :=
  fld_ext fun i hi => by rw [tb_bec hst (by omega), if_neg (by omega)]
theorem bec_d {w st : Nat} (hst : st < 8) : becN w st % 16 = w % 16 := by rw [m16_fld, m16_fld]; exact bec_f hst (by omega) (by omega)
theorem bec_r {w st : Nat} (hst : st < 8) : rW (becN w st) = rW w := bec_f hst (by omega) (by omega)
theorem bec_y {w st q : Nat} (hst : st < 8) (hq : q < 4) : yW (becN w st) q = yW w q := bec_f hst (by omega) (by omega)
theorem bec_c {w st : Nat} (hst : st < 8) : fld 9 1 (becN w st) = fld 9 1 w := bec_f hst (by omega) (by omega)
theorem bec_b {w st q : Nat} (hst : st < 8) : bW (becN w st) q = bW w q := by unfold bW; rw [bec_d hst]
theorem lt_tb {n k m : Nat} (hn : n < 2 ^ m) (h : ∀ i, k ≤ i → i < m → n.testBit i = false) : n < 2 ^ k := by
  refine Nat.lt_pow_two_of_testBit _ fun i hi => ?_
  by_cases c : i < m
  · exact h i hi c
  · exact tb_lt hn (by omega)
theorem bec_lt {w st : Nat} (hst : st < 8) (hw : w < 2 ^ 18) : becN w st < 2 ^ 18 := by
  have h1 : becN w st < 2 ^ 24 := becN_lt (Nat.lt_trans hw (by decide)) hst
  exact lt_tb h1 fun i h2 h3 => by rw [tb_bec hst (by omega), if_neg (by omega), tb_lt hw h2]
/-- bits as numbers -/
theorem tb_dm {n i : Nat} : n / 2 ^ i % 2 = if n.testBit i then 1 else 0 := by
  rw [Nat.testBit_eq_decide_div_mod_eq]
  by_cases c : n / 2 ^ i % 2 = 1
  · rw [if_pos (decide_eq_true c)]; exact c
  · rw [if_neg (by rw [decide_eq_false c]; decide)]; omega
theorem bW_tb {w q : Nat} (hq : q < 4) : bW w q = if w.testBit q then 1 else 0 := by
  unfold bW
  rw [tb_dm, show (16 : Nat) = 2 ^ 4 from rfl, Nat.testBit_mod_two_pow, decide_eq_true hq, Bool.true_and]
theorem bW_01 {w q : Nat} : bW w q = 0 ∨ bW w q = 1 := by unfold bW; omega
theorem tb_cau {w k y j : Nat} (hy : y < 4) : (cauN w k y).testBit j = (w.testBit j || (decide (j = k) || (decide (10 + 2 * k ≤ j ∧ j < 12 + 2 * k) && y.testBit (j - (10 + 2 * k))))) := by
  unfold cauN
  rw [Nat.testBit_or, Nat.testBit_or, tb_sh, tb_sh]
  congr 1
  have e1 : (decide (k ≤ j) && (1 : Nat).testBit (j - k)) = decide (j = k) := by
    by_cases c : j = k
    · subst c; rw [Nat.sub_self, decide_eq_true (Nat.le_refl j), decide_eq_true rfl]; decide
    · rw [decide_eq_false c]
      by_cases d : k ≤ j
      · rw [tb_lt (n := 1) (k := 1) (by decide) (by omega), Bool.and_false]
      · rw [decide_eq_false d, Bool.false_and]
  rw [e1]
  congr 1
  by_cases c : 10 + 2 * k ≤ j ∧ j < 12 + 2 * k
  · rw [decide_eq_true c, decide_eq_true c.1]
  · rw [decide_eq_false c, Bool.false_and]
    by_cases d : 10 + 2 * k ≤ j
    · rw [tb_lt (n := y) (k := 2) hy (by omega), Bool.and_false]
    · rw [decide_eq_false d, Bool.false_and]
theorem cau_f {w k y t q : Nat} (hk : k < 4) (hy : y < 4) (h : 4 ≤ t) (h2 : t + q ≤ 10) : fld t q (cauN w k y) = fld t q w :=
  fld_ext fun i hi => by rw [tb_cau hy, decide_eq_false (by omega), Bool.false_or, decide_eq_false (by omega), Bool.false_and, Bool.or_false]
theorem cau_y {w k y q : Nat} (hk : k < 4) (hy : y < 4) (hq : q < 4) (h0 : yW w k = 0) : yW (cauN w k y) q = if q = k then y else yW w q := by
  by_cases c : q = k
  · subst c
    rw [if_pos rfl]
    refine Nat.eq_of_testBit_eq fun i => ?_
    unfold yW
    rw [fld_tb]
    by_cases d : i < 2
    · have hz : (yW w q).testBit i = false := by rw [h0]; exact Nat.zero_testBit i
      unfold yW at hz
      rw [fld_tb, decide_eq_true d, Bool.true_and] at hz
      rw [decide_eq_true d, Bool.true_and, tb_cau hy, hz, decide_eq_false (by omega), Bool.false_or, Bool.false_or, decide_eq_true (by omega), Bool.true_and, Nat.add_sub_cancel_left]
    · rw [decide_eq_false d, Bool.false_and, tb_lt (n := y) (k := 2) hy (by omega)]
  · rw [if_neg c]
    exact fld_ext fun i hi => by rw [tb_cau hy, decide_eq_false (by omega), Bool.false_or, decide_eq_false (by omega), Bool.false_and, Bool.or_false]
theorem cau_d {w k y : Nat} (hk : k < 4) (hy : y < 4) : cauN w k y % 16 = w % 16 ||| 2 ^ k := by
  refine Nat.eq_of_testBit_eq fun i => ?_
  rw [Nat.testBit_or, show (16 : Nat) = 2 ^ 4 from rfl, Nat.testBit_mod_two_pow, Nat.testBit_mod_two_pow, tb_cau hy, Nat.testBit_two_pow]
  by_cases d : i < 4
  · rw [decide_eq_true d, Bool.true_and, Bool.true_and, decide_eq_false (p := 10 + 2 * k ≤ i ∧ i < 12 + 2 * k) (by omega), Bool.false_and, Bool.or_false]
    congr 1
    exact decide_eq_decide.mpr eq_comm
  · rw [decide_eq_false d, Bool.false_and, Bool.false_and, decide_eq_false (by omega)]
    rfl
theorem cau_b2 {w k y q : Nat} (hk : k < 4) (hy : y < 4) (hq : q < 4) : bW (cauN w k y) q = if q = k then 1 else bW w q := by
  rw [bW_tb hq, bW_tb hq, tb_cau hy]
  by_cases c : q = k
  · rw [decide_eq_true c, Bool.true_or, Bool.or_true, if_pos c, if_pos rfl]
  · rw [decide_eq_false c, Bool.false_or, decide_eq_false (by omega), Bool.false_and, Bool.or_false, if_neg c]
theorem cau_lt {w k y : Nat} (hk : k < 4) (hy : y < 4) (hw : w < 2 ^ 18) : cauN w k y < 2 ^ 18 := by
  have h1 : cauN w k y < 2 ^ 24 := cauN_lt (Nat.lt_trans hw (by decide)) hk hy
  refine lt_tb h1 fun i h2 h3 => ?_
  rw [tb_cau hy, tb_lt hw h2, Bool.false_or, decide_eq_false (by omega), Bool.false_or, decide_eq_false (by omega), Bool.false_and]
/-- what is lost -/
theorem tb_x {a j : Nat} (hj : j < 32) : (a ^^^ 4294967295).testBit j = !a.testBit j := by
  have h : ∀ j, j < 32 → (4294967295 : Nat).testBit j = true := by decide
  rw [Nat.testBit_xor, h j hj, Bool.xor_true]
theorem tb_lk {q j : Nat} : (1 * 2 ^ q ||| 3 * 2 ^ (10 + 2 * q)).testBit j = (decide (j = q) || decide (10 + 2 * q ≤ j ∧ j < 12 + 2 * q)) := by
  have h := tb_cau (w := 0) (k := q) (y := 3) (j := j) (by decide)
  unfold cauN at h
  rw [Nat.zero_or, Nat.zero_testBit, Bool.false_or] at h
  rw [h]
  congr 1
  by_cases c : 10 + 2 * q ≤ j ∧ j < 12 + 2 * q
  · rw [decide_eq_true c, Bool.true_and]
    obtain e | e : j - (10 + 2 * q) = 0 ∨ j - (10 + 2 * q) = 1 := by omega
    · rw [e]; decide
    · rw [e]; decide
  · rw [decide_eq_false c, Bool.false_and]
theorem tb_los {ks w j : Nat} (hj : j < 32) : ∀ q, (losK ks w q).testBit j = (w.testBit j && decide (∀ p, p < q → ks / 2 ^ p % 2 = 1 → ¬ (j = p ∨ (10 + 2 * p ≤ j ∧ j < 12 + 2 * p))))
  | 0 => by
    rw [decide_eq_true (fun p hp => absurd hp (by omega)), Bool.and_true]
    rfl
  | q + 1 => by
    by_cases c : ks / 2 ^ q % 2 = 1
    · rw [losK_t c, Nat.testBit_and, tb_los hj q, tb_x hj, tb_lk]
      by_cases d : (∀ p, p < q → ks / 2 ^ p % 2 = 1 → ¬ (j = p ∨ (10 + 2 * p ≤ j ∧ j < 12 + 2 * p)))
      · rw [decide_eq_true d, Bool.and_true]
        congr 1
        by_cases e : j = q ∨ (10 + 2 * q ≤ j ∧ j < 12 + 2 * q)
        · rw [decide_eq_false (show ¬ (∀ p, p < q + 1 → ks / 2 ^ p % 2 = 1 → ¬ (j = p ∨ (10 + 2 * p ≤ j ∧ j < 12 + 2 * p))) from fun h => h q (by omega) c e)]
          rcases e with e | e
          · rw [decide_eq_true e]; rfl
          · rw [decide_eq_true e, Bool.or_true]; rfl
        · rw [decide_eq_false (fun h => e (Or.inl h)), decide_eq_false (fun h => e (Or.inr h)), decide_eq_true]
          · rfl
          · intro p hp h1 h2
            by_cases f : p = q
            · subst f; exact e h2
            · exact d p (by omega) h1 h2
      · rw [decide_eq_false d, Bool.and_false, Bool.false_and, decide_eq_false (fun h => d fun p hp => h p (by omega)), Bool.and_false]
    · rw [losK_f c, tb_los hj q]
      congr 1
      refine decide_eq_decide.mpr ⟨fun h p hp h1 => ?_, fun h p hp => h p (by omega)⟩
      by_cases f : p = q
      · subst f; exact absurd h1 c
      · exact h p (by omega) h1
theorem los_f {ks w t q : Nat} (h : 4 ≤ t) (h2 : t + q ≤ 10) : fld t q (losK ks w 4) = fld t q w :=
  fld_ext fun i hi => by rw [tb_los (by omega), decide_eq_true (fun p hp _ => by omega), Bool.and_true]
theorem los_y {ks w q : Nat} (hq : q < 4) : yW (losK ks w 4) q = if ks / 2 ^ q % 2 = 1 then 0 else yW w q := by
  by_cases c : ks / 2 ^ q % 2 = 1
  · rw [if_pos c]
    refine Nat.eq_of_testBit_eq fun i => ?_
    unfold yW
    rw [fld_tb, Nat.zero_testBit]
    by_cases d : i < 2
    · rw [tb_los (by omega), decide_eq_false (show ¬ (∀ p, p < 4 → ks / 2 ^ p % 2 = 1 → ¬ (10 + 2 * q + i = p ∨ (10 + 2 * p ≤ 10 + 2 * q + i ∧ 10 + 2 * q + i < 12 + 2 * p))) from fun h => h q hq c (by omega)), Bool.and_false, Bool.and_false]
    · rw [decide_eq_false d, Bool.false_and]
  · rw [if_neg c]
    refine fld_ext fun i hi => ?_
    rw [tb_los (by omega), decide_eq_true, Bool.and_true]
    intro p hp h1 h2
    by_cases e : p = q
    · subst e; exact c h1
    · omega
theorem los_b {ks w q : Nat} (hq : q < 4) : bW (losK ks w 4) q = if ks / 2 ^ q % 2 = 1 then 0 else bW w q := by
  rw [bW_tb hq, bW_tb hq, tb_los (by omega)]
  by_cases c : ks / 2 ^ q % 2 = 1
  · rw [if_pos c, decide_eq_false (fun h => h q hq c (Or.inl rfl)), Bool.and_false]; rfl
  · rw [if_neg c, decide_eq_true, Bool.and_true]
    intro p hp h1 h2
    by_cases e : p = q
    · subst e; exact c h1
    · omega
theorem b16 {a b : Nat} (ha : a < 16) (hb : b < 16) (h : ∀ q, q < 4 → a / 2 ^ q % 2 = b / 2 ^ q % 2) : a = b := by
  have h0 := h 0 (by decide)
  have h1 := h 1 (by decide)
  have h2 := h 2 (by decide)
  have h3 := h 3 (by decide)
  omega
theorem los_d {ks w : Nat} : losK ks w 4 % 16 = w % 16 &&& (ks ^^^ 4294967295) := by
  refine b16 (Nat.mod_lt _ (by decide)) (Nat.lt_of_le_of_lt Nat.and_le_left (Nat.mod_lt _ (by decide))) fun q hq => ?_
  show bW (losK ks w 4) q = _
  rw [los_b hq, tb_dm (n := w % 16 &&& _), Nat.testBit_and, tb_x (by omega), bW_tb hq, show (16 : Nat) = 2 ^ 4 from rfl, Nat.testBit_mod_two_pow, decide_eq_true hq, Bool.true_and, Nat.testBit_eq_decide_div_mod_eq (x := ks)]
  by_cases c : ks / 2 ^ q % 2 = 1
  · rw [if_pos c, decide_eq_true c, Bool.not_true, Bool.and_false]; rfl
  · rw [if_neg c, decide_eq_false c, Bool.not_false, Bool.and_true]
theorem los_le {ks w : Nat} : ∀ q, losK ks w q ≤ w
  | 0 => Nat.le_refl _
  | q + 1 => by
    by_cases c : ks / 2 ^ q % 2 = 1
    · rw [losK_t c]; exact Nat.le_trans Nat.and_le_left (los_le q)
    · rw [losK_f c]; exact los_le q
/-- one more repair; one complaint -/
theorem add16 {w : Nat} (h : rW w < 3) : rW (w + 16) = rW w + 1 ∧ (w + 16) % 16 = w % 16 ∧ sW (w + 16) = sW w ∧ fld 9 1 (w + 16) = fld 9 1 w ∧ ∀ q, q < 4 → yW (w + 16) q = yW w q := by
  unfold rW sW yW fld at *
  refine ⟨by omega, by omega, by omega, by omega, fun q hq => ?_⟩
  obtain rfl | rfl | rfl | rfl : q = 0 ∨ q = 1 ∨ q = 2 ∨ q = 3 := by omega
  all_goals omega
theorem cpl {w : Nat} (h : fld 9 1 w = 0) : w ||| 1 * 2 ^ 9 = w + 512 := by
  have := or_fld (t := 9) (q := 1) (n := w) (v := 1) h (by decide)
  exact this
theorem add512 {w : Nat} (h : fld 9 1 w = 0) : fld 9 1 (w + 512) = 1 ∧ (w + 512) % 16 = w % 16 ∧ sW (w + 512) = sW w ∧ rW (w + 512) = rW w ∧ ∀ q, q < 4 → yW (w + 512) q = yW w q := by
  unfold rW sW yW fld at *
  refine ⟨by omega, by omega, by omega, by omega, fun q hq => ?_⟩
  obtain rfl | rfl | rfl | rfl : q = 0 ∨ q = 1 ∨ q = 2 ∨ q = 3 := by omega
  all_goals omega
/-- the set of defects that a repair caused -/
def frW (w : Nat) : Nat := (if yW w 0 = 2 then 1 else 0) + (if yW w 1 = 2 then 2 else 0) + (if yW w 2 = 2 then 4 else 0) + (if yW w 3 = 2 then 8 else 0)
theorem frW_lt (w : Nat) : frW w < 16 := by
  unfold frW
  split <;> split <;> split <;> split <;> decide
theorem frW_b {w q : Nat} (hq : q < 4) : frW w / 2 ^ q % 2 = if yW w q = 2 then 1 else 0 := by
  unfold frW
  obtain rfl | rfl | rfl | rfl : q = 0 ∨ q = 1 ∨ q = 2 ∨ q = 3 := by omega
  all_goals (by_cases c0 : yW w 0 = 2 <;> by_cases c1 : yW w 1 = 2 <;> by_cases c2 : yW w 2 = 2 <;> by_cases c3 : yW w 3 = 2 <;> simp only [c0, c1, c2, c3, if_true, if_false] <;> decide)
theorem frW_congr {w w' : Nat} (h : ∀ q, q < 4 → yW w' q = yW w q) : frW w' = frW w := by
  unfold frW
  rw [h 0 (by decide), h 1 (by decide), h 2 (by decide), h 3 (by decide)]
theorem frW_ext {w a : Nat} (ha : a < 16) (h : ∀ q, q < 4 → (a / 2 ^ q % 2 = 1 ↔ yW w q = 2)) : a = frW w := by
  refine b16 ha (frW_lt w) fun q hq => ?_
  rw [frW_b hq]
  have := h q hq
  by_cases c : yW w q = 2
  · rw [if_pos c]; exact this.mpr c
  · rw [if_neg c]
    have : ¬ a / 2 ^ q % 2 = 1 := fun q9 => c (this.mp q9)
    omega
theorem los_fr {ks w : Nat} : frW (losK ks w 4) = frW w &&& (ks ^^^ 4294967295) := by
  symm
  refine frW_ext (Nat.lt_of_le_of_lt Nat.and_le_left (frW_lt w)) fun q hq => ?_
  rw [los_y hq, tb_dm, Nat.testBit_and, tb_x (by omega), Nat.testBit_eq_decide_div_mod_eq (x := frW w), frW_b hq, Nat.testBit_eq_decide_div_mod_eq (x := ks)]
  by_cases c : ks / 2 ^ q % 2 = 1
  · rw [if_pos c, decide_eq_true c, Bool.not_true, Bool.and_false]
    constructor
    · intro h; exact absurd h (by decide)
    · intro h; exact absurd h (by decide)
  · rw [if_neg c, decide_eq_false c, Bool.not_false, Bool.and_true]
    by_cases d : yW w q = 2
    · rw [if_pos d]
      exact ⟨fun _ => d, fun _ => by decide⟩
    · rw [if_neg d]
      exact ⟨fun h => absurd h (by decide), fun h => absurd h d⟩
theorem cau_fr {w : Nat} (h0 : yW w 3 = 0) : frW (cauN w 3 2) = frW w ||| 8 := by
  symm
  refine frW_ext (Nat.or_lt_two_pow (n := 4) (frW_lt w) (by decide)) fun q hq => ?_
  rw [cau_y (by decide) (by decide) hq h0, tb_dm, Nat.testBit_or, Nat.testBit_eq_decide_div_mod_eq (x := frW w), frW_b hq]
  obtain rfl | rfl | rfl | rfl : q = 0 ∨ q = 1 ∨ q = 2 ∨ q = 3 := by omega
  · by_cases d : yW w 0 = 2
    · rw [if_pos d]; exact ⟨fun _ => d, fun _ => by decide⟩
    · rw [if_neg d]; exact ⟨fun h => absurd h (by decide), fun h => absurd h d⟩
  · by_cases d : yW w 1 = 2
    · rw [if_pos d]; exact ⟨fun _ => d, fun _ => by decide⟩
    · rw [if_neg d]; exact ⟨fun h => absurd h (by decide), fun h => absurd h d⟩
  · by_cases d : yW w 2 = 2
    · rw [if_pos d]; exact ⟨fun _ => d, fun _ => by decide⟩
    · rw [if_neg d]; exact ⟨fun h => absurd h (by decide), fun h => absurd h d⟩
  · rw [h0]; exact ⟨fun _ => rfl, fun _ => by decide⟩
theorem cau_fr1 {w k : Nat} (hk : k < 4) (h0 : yW w k = 0) : frW (cauN w k 1) = frW w := by
  symm
  refine frW_ext (frW_lt w) fun q hq => ?_
  rw [cau_y hk (by decide) hq h0, frW_b hq]
  by_cases c : q = k
  · rw [if_pos c, c, h0]
    exact ⟨fun h => absurd h (by decide), fun h => absurd h (by decide)⟩
  · rw [if_neg c]
    by_cases d : yW w q = 2
    · rw [if_pos d]; exact ⟨fun _ => d, fun _ => rfl⟩
    · rw [if_neg d]; exact ⟨fun h => absurd h (by decide), fun h => absurd h d⟩
