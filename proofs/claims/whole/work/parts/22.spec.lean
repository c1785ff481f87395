/-! plain words for truth, counts, bits of a unit's word -/
noncomputable def bI (P : Prop) : Int32 := @ite _ P (Classical.propDecidable P) (nI 1) (nI 0)
theorem bI_t {P : Prop} (h : P) : bI P = nI 1 := by unfold bI; exact if_pos h
theorem bI_f {P : Prop} (h : ¬ P) : bI P = nI 0 := by unfold bI; exact if_neg h
theorem bI_iff {P P' : Prop} (h : P ↔ P') : bI P = bI P' := by rw [propext h]
theorem bI_0 {P : Prop} : bI P = 0 ↔ ¬ P := by
  by_cases h : P
  · rw [bI_t h]
    exact ⟨fun q => absurd q (by decide), fun q => absurd h q⟩
  · rw [bI_f h]
    exact ⟨fun _ => h, fun _ => rfl⟩
theorem bI_nar {P : Prop} : narrow .boolean (.int (bI P)) = .int (bI P) := by
  by_cases h : P
  · rw [bI_t h]; decide
  · rw [bI_f h]; decide
theorem bI_fit {P : Prop} : fits .boolean (.int (bI P)) = true := by
  by_cases h : P
  · rw [bI_t h]; decide
  · rw [bI_f h]; decide
noncomputable def cnt (p : Nat → Prop) : Nat → Nat
  | 0 => 0
  | n + 1 => cnt p n + @ite _ (p n) (Classical.propDecidable (p n)) 1 0
theorem cnt_t {p : Nat → Prop} {n : Nat} (h : p n) : cnt p (n + 1) = cnt p n + 1 := by
  show cnt p n + _ = _
  rw [if_pos h]
theorem cnt_f {p : Nat → Prop} {n : Nat} (h : ¬ p n) : cnt p (n + 1) = cnt p n := by
  show cnt p n + _ = _
  rw [if_neg h]
  rfl
theorem cnt_le (p : Nat → Prop) : ∀ n, cnt p n ≤ n
  | 0 => Nat.le_refl 0
  | n + 1 => by
    have := cnt_le p n
    by_cases h : p n
    · rw [cnt_t h]; omega
    · rw [cnt_f h]; omega
theorem cnt_congr {p q : Nat → Prop} : ∀ {n : Nat}, (∀ i, i < n → (p i ↔ q i)) → cnt p n = cnt q n
  | 0, _ => rfl
  | n + 1, h => by
    have e := cnt_congr (fun i hi => h i (by omega) : ∀ i, i < n → (p i ↔ q i))
    by_cases c : p n
    · rw [cnt_t c, cnt_t ((h n (by omega)).mp c), e]
    · rw [cnt_f c, cnt_f (fun q9 => c ((h n (by omega)).mpr q9)), e]
def wD (w : Int32) : Int32 := w &&& nI 15
def wR (w : Int32) : Int32 := (w >>> (nI 4 &&& 31)) &&& nI 3
def wS (w : Int32) : Int32 := (w >>> (nI 6 &&& 31)) &&& nI 7
def wC (w : Int32) : Int32 := (w >>> (nI 9 &&& 31)) &&& nI 1
def wP (w : Int32) (k : Nat) : Int32 := (w >>> (nI (8 * k) &&& 31)) &&& nI 255
def wY (w : Int32) (k : Nat) : Int32 := (w >>> (nI (10 + 2 * k) &&& 31)) &&& nI 3
theorem inR_iff {x : Int32} {n : Nat} (h0 : 0 < n) (hn : n < 2 ^ 31) : (nI 0 ≤ x ∧ x ≤ nI n - nI 1) ↔ vp_in x n := by
  rw [pk_sub (by omega : 1 ≤ n)]
  constructor
  · rintro ⟨h1, h2⟩ h
    rcases h with h | h
    · exact absurd h1 (Int32.not_le.mpr (by rw [nI_0]; exact h))
    · obtain ⟨j, hj, rfl⟩ := nI_of (x := x) (fun q => absurd h1 (Int32.not_le.mpr (by rw [nI_0]; exact q)))
      rw [nI_clamp hj] at h
      have := (nI_leI hj (by omega)).mp h2
      omega
  · intro h
    obtain ⟨j, hj, rfl⟩ := vp_in_of h hn
    exact ⟨nI_le (by omega) (by omega), nI_le (by omega) (by omega)⟩
theorem inR_iff0 {x : Int32} {n : Nat} (hn : n < 2 ^ 31) : (nI 0 ≤ x ∧ x ≤ nI n - nI 1) ↔ vp_in x n := by
  by_cases h0 : 0 < n
  · exact inR_iff h0 hn
  · have e : n = 0 := by omega
    subst e
    constructor
    · rintro ⟨h1, h2⟩
      have h3 : nI 0 ≤ nI 0 - nI 1 := Int32.le_trans h1 h2
      exact absurd h3 (by decide)
    · intro h
      obtain ⟨j, hj, -⟩ := vp_in_of h (by decide)
      omega
theorem inR_le {x : Int32} {n : Nat} (hn : n + 1 < 2 ^ 31) : (nI 0 ≤ x ∧ x ≤ nI n) ↔ vp_in x (n + 1) := by
  have h := inR_iff (x := x) (n := n + 1) (by omega) hn
  rw [pk_sub (by omega : 1 ≤ n + 1), Nat.add_sub_cancel] at h
  exact h
theorem bI_n0 {x : Int32} : bI (¬ x = 0) = if x = 0 then nI 0 else nI 1 := by
  by_cases h : x = 0
  · rw [bI_f (fun q => q h), if_pos h]
  · rw [bI_t h, if_neg h]
section LoopRules
variable {M M2 : MI} {G : GI} {S : Hp} {pc : Nat} {lv : List (Nat × Value)} {st : List Value} {Q : OV → Hp → Prop}
/-- a loop that counts up to e, its heap and locals known at each count -/
theorem Wx.loop (Sf : Nat → Hp) (lvf : Nat → List (Nat × Value)) (e i : Nat) (hi : i ≤ e) (step : ∀ u, i ≤ u → u ≤ e → (u < e → Wx M G (Sf (u + 1)) pc (lvf (u + 1)) st Q) → Wx M G (Sf u) pc (lvf u) st Q) : Wx M G (Sf i) pc (lvf i) st Q := by
  have key : ∀ k u, i ≤ u → u ≤ e → e < u + k → Wx M G (Sf u) pc (lvf u) st Q := by
    intro k
    induction k with
    | zero => intro u _ h1 h2; omega
    | succ k ih => intro u h0 h1 h2; exact step u h0 h1 (fun h => ih (u + 1) (by omega) (by omega) (by omega))
  exact key (e + 1) i (Nat.le_refl i) hi (by omega)
/-- .. of which only an invariant is known -/
theorem Wx.loopR (Inv : Nat → Hp → List (Nat × Value) → Prop) (e i : Nat) (hi : i ≤ e) (h : Inv i S lv) (step : ∀ u S lv, i ≤ u → u ≤ e → Inv u S lv → (∀ S' lv', u < e → Inv (u + 1) S' lv' → Wx M G S' pc lv' st Q) → Wx M G S pc lv st Q) : Wx M G S pc lv st Q := by
  have key : ∀ k u S lv, i ≤ u → u ≤ e → e < u + k → Inv u S lv → Wx M G S pc lv st Q := by
    intro k
    induction k with
    | zero => intro u _ _ _ h1 h2; omega
    | succ k ih => intro u S lv h0 h1 h2 hI; exact step u S lv h0 h1 hI (fun S' lv' h hI' => ih (u + 1) S' lv' (by omega) (by omega) (by omega) hI')
  exact key (e + 1) i S lv (Nat.le_refl i) hi (by omega) h
theorem Wx.top {x y : Int32} (h : x = y) (kk : Wx M G S pc lv (.int y :: st) Q) : Wx M G S pc lv (.int x :: st) Q := h ▸ kk
theorem Wx.loc {lv' : List (Nat × Value)} (h : lv = lv') (kk : Wx M G S pc lv' st Q) : Wx M G S pc lv st Q := h ▸ kk
theorem r_if_eqB {P : Prop} {off : Int} {tgt : Nat} (hd : decode (mB M) pc = .ok (.ifCond .eq off, 3)) (ht : (pc : Int) + off = (tgt : Int)) (kt : ¬ P → Wx M G S tgt lv st Q) (kf : P → Wx M G S (pc + 3) lv st Q) : Wx M G S pc lv (.int (bI P) :: st) Q :=
  r_if_eq hd ht (fun h => kt (bI_0.mp h)) (fun h => kf (Classical.not_not.mp fun q => h (bI_0.mpr q)))
theorem r_if_neB {P : Prop} {off : Int} {tgt : Nat} (hd : decode (mB M) pc = .ok (.ifCond .ne off, 3)) (ht : (pc : Int) + off = (tgt : Int)) (kt : P → Wx M G S tgt lv st Q) (kf : ¬ P → Wx M G S (pc + 3) lv st Q) : Wx M G S pc lv (.int (bI P) :: st) Q :=
  r_if_ne hd ht (fun h => kt (Classical.not_not.mp fun q => h (bI_0.mpr q))) (fun h => kf (bI_0.mp h))
end LoopRules
