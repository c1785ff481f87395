/-! bits of unit words, by plain numbers -/
theorem nI_ex (x : Int32) : ∃ n : Nat, n < 2 ^ 32 ∧ x = nI n := ⟨x.toBitVec.toNat, x.toBitVec.isLt, by
  have h := pk_and x (m := -1) 32 (by decide)
  rw [Nat.mod_eq_of_lt x.toBitVec.isLt] at h
  rw [← h]
  exact (Int32.and_neg_one).symm⟩
theorem i32_n {x : Int32} {n : Nat} (h : x.toBitVec.toNat = n) : x = nI n := by
  subst h
  have h := pk_and x (m := -1) 32 (by decide)
  rw [Nat.mod_eq_of_lt x.toBitVec.isLt] at h
  rw [← h]
  exact (Int32.and_neg_one).symm
theorem nI_and {a b : Nat} (ha : a < 2 ^ 32) (hb : b < 2 ^ 32) : nI a &&& nI b = nI (a &&& b) := by
  apply i32_n
  rw [Int32.toBitVec_and, BitVec.toNat_and, pk_tn ha, pk_tn hb]
theorem nI_or {a b : Nat} (ha : a < 2 ^ 32) (hb : b < 2 ^ 32) : nI a ||| nI b = nI (a ||| b) := by
  apply i32_n
  rw [Int32.toBitVec_or, BitVec.toNat_or, pk_tn ha, pk_tn hb]
theorem sh_am : ∀ s : Nat, s < 31 → ((nI s &&& 31).toBitVec.smod 32).toNat = s := by decide +kernel
theorem nI_shr {n s : Nat} (h : n < 2 ^ 31) (hs : s < 31) : nI n >>> (nI s &&& 31) = nI (n / 2 ^ s) := pk_shrN h _ s (sh_am s hs)
theorem nI_shl {n s : Nat} (hs : s < 31) (h : n * 2 ^ s < 2 ^ 32) : nI n <<< (nI s &&& 31) = nI (n * 2 ^ s) := pk_shlN _ s (sh_am s hs) h
theorem nI_am {n k : Nat} (h : n < 2 ^ 32) (hk : k < 32) : nI n &&& nI (2 ^ k - 1) = nI (n % 2 ^ k) := by
  have h2 : 2 ^ k ≤ 2 ^ 31 := Nat.pow_le_pow_right (by decide) (by omega)
  rw [nI_and h (by omega), Nat.and_two_pow_sub_one_eq_mod]
/-- a field of a word -/
def fld (t q n : Nat) : Nat := n / 2 ^ t % 2 ^ q
theorem fld_lt (t q n : Nat) : fld t q n < 2 ^ q := Nat.mod_lt _ (Nat.two_pow_pos q)
theorem nI_fld {n t q : Nat} (h : n < 2 ^ 31) (ht : t < 31) (hq : q < 31) : (nI n >>> (nI t &&& 31)) &&& nI (2 ^ q - 1) = nI (fld t q n) := by
  rw [nI_shr h ht, nI_am (Nat.lt_of_le_of_lt (Nat.div_le_self _ _) (by omega)) (by omega)]
  rfl
theorem fld_0 {q n : Nat} : fld 0 q n = n % 2 ^ q := by unfold fld; rw [Nat.pow_zero, Nat.div_one]
theorem sp_and {t x y a b : Nat} (ha : a < 2 ^ t) (hb : b < 2 ^ t) : (2 ^ t * x + a) &&& (2 ^ t * y + b) = 2 ^ t * (x &&& y) + (a &&& b) := by
  apply Nat.eq_of_testBit_eq
  intro i
  rw [Nat.testBit_and, Nat.testBit_two_pow_mul_add _ ha, Nat.testBit_two_pow_mul_add _ hb, Nat.testBit_two_pow_mul_add _ (Nat.and_lt_two_pow _ hb)]
  split <;> rw [Nat.testBit_and]
theorem sp_or {t x y a b : Nat} (ha : a < 2 ^ t) (hb : b < 2 ^ t) : (2 ^ t * x + a) ||| (2 ^ t * y + b) = 2 ^ t * (x ||| y) + (a ||| b) := by
  apply Nat.eq_of_testBit_eq
  intro i
  rw [Nat.testBit_or, Nat.testBit_two_pow_mul_add _ ha, Nat.testBit_two_pow_mul_add _ hb, Nat.testBit_two_pow_mul_add _ (Nat.or_lt_two_pow ha hb)]
  split <;> rw [Nat.testBit_or]
/-- a word cut at a field -/
theorem fld_cut (t q n : Nat) : ∃ h lo, lo < 2 ^ t ∧ n = 2 ^ t * (2 ^ q * h + fld t q n) + lo := by
  refine ⟨n / 2 ^ t / 2 ^ q, n % 2 ^ t, Nat.mod_lt _ (Nat.two_pow_pos t), ?_⟩
  unfold fld
  rw [Nat.div_add_mod, Nat.div_add_mod]
theorem fld_of {t q h f lo : Nat} (hl : lo < 2 ^ t) (hf : f < 2 ^ q) : fld t q (2 ^ t * (2 ^ q * h + f) + lo) = f := by
  unfold fld
  rw [Nat.mul_add_div (Nat.two_pow_pos t), Nat.div_eq_of_lt hl, Nat.add_zero, Nat.mul_add_mod, Nat.mod_eq_of_lt hf]
/-- a field that is 0 is filled -/
theorem or_fld {t q n v : Nat} (h : fld t q n = 0) (hv : v < 2 ^ q) : n ||| v * 2 ^ t = n + v * 2 ^ t := by
  obtain ⟨k, lo, hl, e⟩ := fld_cut t q n
  rw [h] at e
  have e2 : v * 2 ^ t = 2 ^ t * (2 ^ q * 0 + v) + 0 := by rw [Nat.mul_zero, Nat.zero_add, Nat.add_zero, Nat.mul_comm]
  rw [e2, e, sp_or hl (Nat.two_pow_pos t), sp_or (Nat.two_pow_pos q) hv, Nat.or_zero, Nat.or_zero, Nat.zero_or, Nat.mul_zero, Nat.zero_add, Nat.add_zero, Nat.add_zero, Nat.mul_add]
  omega
/-- a field is cleared -/
theorem and_fld {t q n r : Nat} (hr : n < 2 ^ (t + q + r)) : n &&& (2 ^ (t + q + r) - 1 - (2 ^ q - 1) * 2 ^ t) = n - fld t q n * 2 ^ t := by
  obtain ⟨k, lo, hl, e⟩ := fld_cut t q n
  have hf := fld_lt t q n
  have p1 := Nat.two_pow_pos t
  have p2 := Nat.two_pow_pos q
  have p3 := Nat.two_pow_pos r
  have e3 : 2 ^ (t + q + r) - 1 - (2 ^ q - 1) * 2 ^ t = 2 ^ t * (2 ^ q * (2 ^ r - 1) + 0) + (2 ^ t - 1) := by
    have a1 : 2 ^ (t + q + r) = 2 ^ t * (2 ^ q * 2 ^ r) := by rw [Nat.pow_add, Nat.pow_add, Nat.mul_assoc]
    have a2 : 2 ^ q * 2 ^ r = 2 ^ q * (2 ^ r - 1) + (2 ^ q - 1) + 1 := by
      have : 2 ^ q * 2 ^ r = 2 ^ q * (2 ^ r - 1 + 1) := by rw [Nat.sub_add_cancel p3]
      rw [this, Nat.mul_add, Nat.mul_one]
      omega
    rw [a1, a2, Nat.add_zero, Nat.mul_add, Nat.mul_one, Nat.mul_add, Nat.mul_comm (2 ^ q - 1)]
    generalize 2 ^ t * (2 ^ q * (2 ^ r - 1)) = A
    generalize 2 ^ t * (2 ^ q - 1) = B
    omega
  have hk : k < 2 ^ r := by
    apply Nat.lt_of_not_le
    intro hge
    have b1 : 2 ^ (t + q + r) = 2 ^ t * (2 ^ q * 2 ^ r) := by rw [Nat.pow_add, Nat.pow_add, Nat.mul_assoc]
    have b2 : 2 ^ t * (2 ^ q * 2 ^ r) ≤ 2 ^ t * (2 ^ q * k + fld t q n) := Nat.mul_le_mul_left _ (Nat.le_trans (Nat.mul_le_mul_left _ hge) (Nat.le_add_right _ _))
    omega
  have g : n &&& (2 ^ (t + q + r) - 1 - (2 ^ q - 1) * 2 ^ t) = 2 ^ t * (2 ^ q * k + 0) + lo := by
    have h1 : n &&& (2 ^ (t + q + r) - 1 - (2 ^ q - 1) * 2 ^ t) = (2 ^ t * (2 ^ q * k + fld t q n) + lo) &&& (2 ^ t * (2 ^ q * (2 ^ r - 1) + 0) + (2 ^ t - 1)) := by rw [← e, e3]
    rw [h1, sp_and hl (by omega), sp_and hf p2, Nat.and_two_pow_sub_one_eq_mod, Nat.and_two_pow_sub_one_eq_mod, Nat.and_zero, Nat.mod_eq_of_lt hl, Nat.mod_eq_of_lt hk]
  rw [g]
  have h2 : n = 2 ^ t * (2 ^ q * k) + fld t q n * 2 ^ t + lo := by
    have := e
    rw [Nat.mul_add, Nat.mul_comm (2 ^ t) (fld t q n)] at this
    exact this
  rw [Nat.add_zero]
  omega
