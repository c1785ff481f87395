/-! contracts whose heap is known but for two numbers -/
def Fx (M : MI) (G : GI) (av : List Value) (S : Hp) (v : Option Value) (Sf : Int32 → Int32 → Hp) : Prop := Cn M G av S (fun o T => o = .inl v ∧ ∃ x y, T = Sf x y)
/-- the reference's place where a cause was found -/
def l78 (V : RVal) (x y : Int32) : RVal := up2 (up2 V 0 7 x) 0 8 y
theorem l78_l {V : RVal} {x y x' y' : Int32} : up2 (up2 (l78 V x y) 0 7 x') 0 8 y' = l78 V x' y' := by
  funext a b
  unfold l78 up2
  by_cases h1 : a = 0 ∧ b = 8
  · rw [if_pos h1, if_pos h1]
  · rw [if_neg h1, if_neg h1]
    by_cases h2 : a = 0 ∧ b = 7
    · rw [if_pos h2, if_neg h1, if_pos h2]
    · rw [if_neg h2, if_neg h1, if_neg h2]
      rw [if_neg h2]
theorem l78_ll {V : RVal} {x y x' y' : Int32} : l78 (l78 V x y) x' y' = l78 V x' y' := l78_l
theorem l78_n {V : RVal} {x y : Int32} {j i : Nat} (h : j ≠ 0 ∨ (i ≠ 7 ∧ i ≠ 8)) : l78 V x y j i = V j i := by
  unfold l78
  rw [up2_n (by omega), up2_n (by omega)]
theorem l78_up {V : RVal} {x y v : Int32} {j i : Nat} (h : j ≠ 0 ∨ (i ≠ 7 ∧ i ≠ 8)) : up2 (l78 V x y) j i v = l78 (up2 V j i v) x y := by
  funext a b
  unfold l78 up2
  by_cases h1 : a = j ∧ b = i
  · rw [if_pos h1, if_neg (by omega), if_neg (by omega), if_pos h1]
  · rw [if_neg h1]
    by_cases h2 : a = 0 ∧ b = 8
    · rw [if_pos h2, if_pos h2]
    · rw [if_neg h2, if_neg h2]
      by_cases h3 : a = 0 ∧ b = 7
      · rw [if_pos h3, if_pos h3]
      · rw [if_neg h3, if_neg h3, if_neg h1]
theorem l78_self {V : RVal} : l78 V (V 0 7) (V 0 8) = V := by
  funext a b
  unfold l78 up2
  by_cases h1 : a = 0 ∧ b = 8
  · obtain ⟨rfl, rfl⟩ := h1
    exact if_pos ⟨rfl, rfl⟩
  · rw [if_neg h1]
    by_cases h2 : a = 0 ∧ b = 7
    · obtain ⟨rfl, rfl⟩ := h2
      exact if_pos ⟨rfl, rfl⟩
    · rw [if_neg h2]
section FxRules
variable {M M2 : MI} {G : GI} {S : Hp} {pc : Nat} {lv : List (Nat × Value)} {st : List Value} {Q : OV → Hp → Prop}
theorem r_fxV {idx n b ci : Nat} {r : vw_C} {As rest : List Value} {v : Option Value} {Sf : Int32 → Int32 → Hp} {st' : List Value} (hd : decode (mB M) pc = .ok (.invokevirtual idx, 3)) (hcs : cV M M2 idx n) (hh : mH M2 = []) (hn : As.length = n) (hst : st = As.reverse ++ .ref b :: rest) (hcat : (rest.map fun v => v.category).sum ≤ 8)
    (hbt : zT S b = ci + 1) (hc0 : vwCl[ci]? = some r) (hr1 : r.1 = (mY M2).cls) (h3 : ci < 100) (hf : Fx M2 G (.ref b :: As) S v Sf) (hs : v.toList ++ rest = st') (kk : ∀ x y, Wx M G (Sf x y) (pc + 3) lv st' Q) : Wx M G S pc lv st Q :=
  r_callV hd hcs hh hn hst hcat hbt hc0 hr1 h3 hf (fun v1 T h => by obtain ⟨h1, x, y, rfl⟩ := h; cases h1; rw [hs]; exact kk x y) (fun E T h => by cases h.1)
end FxRules
