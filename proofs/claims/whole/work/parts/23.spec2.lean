/-! copies between rows of the reference -/
def cpV (V : RVal) (j p j' q n : Nat) : RVal := fun a b => if a = j' ∧ q ≤ b ∧ b < q + n then V j (p + (b - q)) else V a b
theorem cpV_0 {V : RVal} {j p j' q : Nat} : cpV V j p j' q 0 = V := by
  funext a b
  unfold cpV
  rw [if_neg (by omega)]
theorem cpV_s {V : RVal} {j p j' q n : Nat} (h : j ≠ j' ∨ q + n ≤ p ∨ p + n < q) : up2 (cpV V j p j' q n) j' (q + n) (cpV V j p j' q n j (p + n)) = cpV V j p j' q (n + 1) := by
  have e : cpV V j p j' q n j (p + n) = V j (p + n) := by
    unfold cpV
    rw [if_neg (by omega)]
  rw [e]
  funext a b
  unfold up2 cpV
  by_cases h1 : a = j' ∧ b = q + n
  · rw [if_pos h1, if_pos (by omega)]
    rw [show p + (b - q) = p + n by omega]
  · rw [if_neg h1]
    by_cases h2 : a = j' ∧ q ≤ b ∧ b < q + n
    · rw [if_pos h2, if_pos (by omega)]
    · rw [if_neg h2, if_neg (by omega)]
theorem up2_s {V : RVal} {j i : Nat} {x : Int32} : up2 V j i x j i = x := by unfold up2; rw [if_pos ⟨rfl, rfl⟩]
theorem up2_n {V : RVal} {j i a b : Nat} {x : Int32} (h : a ≠ j ∨ b ≠ i) : up2 V j i x a b = V a b := by unfold up2; rw [if_neg (by omega)]
