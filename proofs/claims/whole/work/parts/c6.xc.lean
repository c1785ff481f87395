/-! THE CLASS MADE: as the law's state wants it -/
def vN (v : Int32) : Nat := v.toBitVec.toNat
theorem vN_e (x : Int32) : x = nI (vN x) := by
  have h := pk_and x (m := -1) 32 (by decide)
  rw [Nat.mod_eq_of_lt x.toBitVec.isLt] at h
  show x = nI x.toBitVec.toNat
  rw [← h]
  exact (Int32.and_neg_one).symm
theorem vN_0 : vN 0 = 0 := by decide
def xE (T : Hp) (x : Nat) : Nat → Nat → Nat := fun f a => if f = 999 ∧ a = 56 then 16 else if f < 1000 then vN (zI T f (x + a)) else vN (zA T (x + a) (f - 1000))
def xK (x : Nat) : Nat → Nat := fun i => if i < 2 then i else if i < 10 then i + 1 else if i = 10 then x + 56 else 0
theorem xK_r {x i : Nat} (hi : i < 10) : (i < 2 ∧ xK x i = i) ∨ (2 ≤ i ∧ xK x i = i + 1) := by
  unfold xK
  by_cases h : i < 2
  · exact Or.inl ⟨h, if_pos h⟩
  · exact Or.inr ⟨by omega, by rw [if_neg h, if_pos hi]⟩
theorem xK_perm {x : Nat} : Perm (xK x) := fun i hi => by
  have h := xK_r (x := x) hi
  refine ⟨by omega, by omega, fun j hj e => ?_⟩
  have h2 := xK_r (x := x) hj
  omega
theorem sF_le24 {A : Nat → Nat → Nat} : ∀ {n : Nat}, sF A n ≤ 24 * n
  | 0 => Nat.le_refl _
  | n + 1 => by
    have h := sF_le24 (A := A) (n := n)
    have h2 : fre (A n) ≤ 24 := cnt_le _ 24
    show sF A n + fre (A n) ≤ _
    omega
theorem xP_m {f a : Nat} (h : mP f a ≠ 0) : xP f a = mP f a := by
  unfold xP
  rw [if_neg (fun q => h (by rw [q.1, q.2]; rfl)), if_neg (fun q => h (by rw [q.1, q.2]; rfl)), if_neg (fun q => h (by rw [q.1, q.2]; rfl))]
theorem mP_in {f a : Nat} (ha : a < 210) (h : mP f a ≠ 0) : (f, a) ∈ xLL ∨ ∃ i k, i < 4 ∧ k < 4 ∧ a = 190 + 5 * i ∧ f = 194 + k := by
  unfold mP at h
  by_cases a0 : a = 0
  · subst a0
    rw [if_pos rfl] at h
    by_cases f1 : f = 418
    · subst f1; exact Or.inl (by decide)
    by_cases f2 : f = 421
    · subst f2; exact Or.inl (by decide)
    by_cases f3 : f = 423
    · subst f3; exact Or.inl (by decide)
    by_cases f4 : f = 424
    · subst f4; exact Or.inl (by decide)
    by_cases f5 : f = 425
    · subst f5; exact Or.inl (by decide)
    by_cases f6 : f = 426
    · subst f6; exact Or.inl (by decide)
    by_cases f7 : f = 427
    · subst f7; exact Or.inl (by decide)
    by_cases f8 : f = 428
    · subst f8; exact Or.inl (by decide)
    rw [if_neg f1, if_neg f2, if_neg f3, if_neg f4, if_neg f5, if_neg f6, if_neg f7, if_neg f8] at h
    exact absurd rfl h
  rw [if_neg a0] at h
  by_cases a1 : a = 51
  · subst a1
    rw [if_pos rfl] at h
    by_cases f1 : f = 160
    · subst f1; exact Or.inl (by decide)
    by_cases f2 : f = 166
    · subst f2; exact Or.inl (by decide)
    rw [if_neg f1, if_neg f2] at h
    exact absurd rfl h
  rw [if_neg a1] at h
  by_cases a2 : a = 54
  · subst a2
    rw [if_pos rfl] at h
    by_cases f1 : f = 384
    · subst f1; exact Or.inl (by decide)
    rw [if_neg f1] at h
    exact absurd rfl h
  rw [if_neg a2] at h
  by_cases a3 : a = 57
  · subst a3
    rw [if_pos rfl] at h
    by_cases f1 : f = 352
    · subst f1; exact Or.inl (by decide)
    rw [if_neg f1] at h
    exact absurd rfl h
  rw [if_neg a3] at h
  by_cases a4 : a = 59
  · subst a4
    rw [if_pos rfl] at h
    by_cases f1 : f = 128
    · subst f1; exact Or.inl (by decide)
    rw [if_neg f1] at h
    exact absurd rfl h
  rw [if_neg a4] at h
  by_cases c : 190 ≤ a ∧ a % 5 = 0 ∧ 194 ≤ f ∧ f < 198
  · exact Or.inr ⟨(a - 190) / 5, f - 194, by omega, by omega, by omega, by omega⟩
  · rw [if_neg c] at h
    exact absurd rfl h
section XcRules
variable {S0 T : Hp} {x u : Nat}
theorem xE_i {f a : Nat} (h : f < 1000) (h2 : ¬ (f = 999 ∧ a = 56)) : xE T x f a = vN (zI T f (x + a)) := by
  unfold xE
  rw [if_neg h2, if_pos h]
theorem xE_a {i a : Nat} : xE T x (1000 + i) a = vN (zA T (x + a) i) := by
  unfold xE
  rw [if_neg (by omega), if_neg (by omega), Nat.add_sub_cancel_left]
theorem xE_l : xE T x 999 56 = 16 := if_pos ⟨rfl, rfl⟩
theorem XB.e0 (h : XB S0 x 210 u xLL True 8 4 T) {f a : Nat} (ha : a < 210) (hz : xT a ≠ 0) (h1 : xT a < 100) (h2 : a ≠ 61) (h3 : a = 51 → f ≠ 163) (hf : f < 999) : xE T x f a = 0 := by
  rw [xE_i (by omega) (by omega), (h.2.1 a ha hz).2 f h1 h2 h3]
  exact vN_0
theorem XB.ea (h : XB S0 x 210 u xLL True 8 4 T) {i a : Nat} (ha : a < 210) (h1 : 100 < xT a) : xE T x (1000 + i) a = 0 := by
  rw [xE_a, ((h.2.1 a ha (by omega)).1.2 h1).2]
  exact vN_0
theorem XB.mx (h : XB S0 x 210 u xLL True 8 4 T) : MX T (xw x) x (xK x) (xE T x) := by
  refine ⟨fun a ha => ?_, ⟨?_, ?_, fun i hi => ?_, fun i hi => (h.2.2.2.2.2 i hi).1.2⟩, ?_, ?_⟩
  · have h56 : a ≠ 56 := fun e => by subst e; exact ha rfl
    have hx : xT a = mT a := if_neg h56
    have hz : xT a ≠ 0 := by rw [hx]; exact ha
    have ha2 : a < 210 := by have := xT_in hz; omega
    obtain ⟨⟨q1, q2⟩, q3⟩ := h.2.1 a ha2 hz
    refine ⟨⟨⟨q1.trans hx, fun z => (q2 (by rw [hx]; exact z)).1.trans (if_neg h56)⟩, fun f hf => ?_, xw_own hz⟩, fun f hf => ?_, fun i => ?_⟩
    · rcases mP_in ha2 hf with hm | ⟨i, k, hi, hk, e1, e2⟩
      · have z := (h.2.2.1.1 _ hm).2
        rw [← xP_m hf]
        exact z
      · subst e1 e2
        rw [mP_d hi hk]
        exact ((h.2.2.2.2.2 i hi).2 k hk).2
    · rw [xE_i hf (fun q => h56 q.2)]; exact vN_e _
    · rw [xE_a]; exact vN_e _
  · show zP T 416 x = some (x + 1)
    exact (h.2.2.1.1 (416, 0) (by decide)).2
  · show zP T 417 x = some (x + 17)
    exact (h.2.2.1.1 (417, 0) (by decide)).2
  · have e : Pl x (xK x (2 + i)) = x + (62 + 16 * i) := by
      have h1 := xK_r (x := x) (i := 2 + i) (by omega)
      have e1 : xK x (2 + i) = i + 3 := by omega
      have h2 := Pl_r (e := i + 3) (by omega)
      rw [e1, Pl_x]
      omega
    rw [e]
    exact (h.2.2.2.2.1 i hi).2
  · have c := (h.2.1 56 (by decide) (by decide)).1
    refine ⟨(h.2.2.1.1 (32, 55) (by decide)).2, c.1, xw_own (by decide), fun a ha e => ?_, (c.2 (by decide)).1, fun i => ?_⟩
    · have e2 : a = 56 := by have e3 : x + 56 = x + a := e; omega
      subst e2
      exact ha rfl
    · rw [xE_a]; exact vN_e _
  · exact h.2.2.1.2.1 (by decide)
theorem XB.cst (h : XB S0 x 210 u xLL True 8 4 T) : CSt (fun _ => False) T x (zX T + 2112) (zU T + 322080) (xE T x) oiC 0 0 (fun _ _ => 0) 0 (fun _ => 0) := by
  refine ⟨xw x, xK x, xE T x, fun _ _ => 0, fun _ => oiC, ⟨h.mx, fun e he => h.2.2.2.1 e he (by have := Pl_r he; omega), ⟨?_, ?_⟩, h.1.2.2.1⟩, xK_perm, ⟨Rel_new, fun l hl => absurd hl (Nat.not_lt_zero l)⟩, fun f a _ => rfl, ⟨0, by decide, h.e0 (a := 0) (by decide) (by decide) (by decide) (by decide) (by decide) (by decide), h.e0 (a := 0) (by decide) (by decide) (by decide) (by decide) (by decide) (by decide), Nat.zero_le _, fun j hj => absurd hj (Nat.not_lt_zero _)⟩, ⟨h.e0 (a := 0) (by decide) (by decide) (by decide) (by decide) (by decide) (by decide), by decide, fun z => absurd z (by decide)⟩, fun a ha => ha.elim⟩
  · have := sF_le24 (A := fun _ _ => 0) (n := 11); omega
  · have := sF_le24 (A := fun _ _ => 0) (n := 11); omega
theorem XB.pd (h : XB S0 x 210 u xLL True 8 4 T) : PD (xE T x) [] := by
  refine ⟨⟨congrArg nI (h.e0 (a := 55) (by decide) (by decide) (by decide) (by decide) (by decide) (by decide)), congrArg nI (h.e0 (a := 55) (by decide) (by decide) (by decide) (by decide) (by decide) (by decide))⟩, Or.inl xE_l, Nat.zero_le _, fun i => ?_, fun i hi => absurd hi (Nat.not_lt_zero _)⟩
  rw [h.ea (a := 56) (by decide) (by decide)]
  decide
theorem XB.dv (h : XB S0 x 210 u xLL True 8 4 T) : DV mV0 (xE T x) ∧ xE T x 161 51 = 0 := by
  have e161 : xE T x 161 51 = 0 := h.e0 (a := 51) (by decide) (by decide) (by decide) (by decide) (by decide) (by decide)
  have z : ∀ j i, j = 8 ∨ i = 14 → mV0 j i = nI 0 := fun j i hj => by
    unfold mV0
    rw [if_neg (by omega)]; exact nI_0.symm
  refine ⟨⟨fun d hd => ?_, ⟨?_, ?_, fun i hi => ?_⟩, ?_⟩, e161⟩
  · have hd0 := xT_d (k := 0) hd (by decide)
    rw [Nat.add_zero] at hd0
    have t7 : xT (190 + 5 * d) = 7 := hd0.1
    have e1 : xE T x 192 (190 + 5 * d) = 0 := h.e0 (by omega) (by omega) (by omega) (by omega) (by omega) (by decide)
    have e2 : xE T x 193 (190 + 5 * d) = 0 := h.e0 (by omega) (by omega) (by omega) (by omega) (by omega) (by decide)
    rw [e1, e2]
    refine ⟨z _ _ (Or.inl rfl), by decide, z _ _ (Or.inl rfl), by decide, fun i k hi hk => ?_⟩
    have hd1 := (xT_d (k := 1 + k) hd (by omega)).1
    rw [if_neg (by omega)] at hd1
    rw [h.ea (a := 190 + 5 * d + (1 + k)) (by omega) (by omega)]
    exact z _ _ (Or.inl rfl)
  · rw [e161]; exact z _ _ (Or.inr rfl)
  · rw [e161]; decide
  · rw [e161] at hi; exact absurd hi (Nat.not_lt_zero _)
  · show mV0 0 15 = nI (xE T x 163 51)
    rw [xE_i (by decide) (by decide), (h.2.2.1.2.2 trivial).2]
    exact vN_e _
end XcRules
