/-! TEXTS OF COMMANDS: what a text says -/
def cha (t : Nat → Nat) (L i : Nat) : Nat := if i < L then t i else 0
theorem cha_t {t : Nat → Nat} {L i : Nat} (h : i < L) : cha t L i = t i := if_pos h
theorem cha_f {t : Nat → Nat} {L i : Nat} (h : ¬ i < L) : cha t L i = 0 := if_neg h
def letP (t : Nat → Nat) (i : Nat) : Prop := 97 ≤ t i ∧ t i ≤ 122
/-- letters are read from i on, up to e -/
def LtE (t : Nat → Nat) (L i e : Nat) : Prop := i ≤ e ∧ (∀ k, i ≤ k → k < e → k < L ∧ letP t k) ∧ ¬ (e < L ∧ letP t e)
def WdP (t : Nat → Nat) (i e w : Nat) : Prop := w < 9 ∧ e = i + strL.getD w 0 ∧ ∀ k, k < strL.getD w 0 → t (i + k) = sBn w k
def dgP (t : Nat → Nat) (L i : Nat) : Prop := 48 ≤ cha t L i ∧ cha t L i ≤ 57
/-- n numbers, a comma behind each; then comes s -/
def NumsP (t : Nat → Nat) (L p : Nat) (v : Nat → Nat) : Nat → Nat → Prop
  | 0, s => s = p
  | n + 1, s => ∃ s' c, NumsP t L p v n s' ∧ NumP t L s' c ∧ v n = numI t s' c ∧ cha t L (s' + c) = 44 ∧ s = s' + c + 1
/-- the command at i: the word w, n + 1 numbers v, its end e -/
def CmdP (t : Nat → Nat) (L i w n : Nat) (v : Nat → Nat) (e : Nat) : Prop := ∃ q s c, LtE t L i q ∧ WdP t i q w ∧ cha t L q = 58 ∧ NumsP t L (q + 1) v n s ∧ NumP t L s c ∧ v n = numI t s c ∧ (fewN w ≤ n + 1 ∧ n + 1 ≤ mosN w) ∧ cha t L (s + c) = 59 ∧ e = s + c + 1
/-- no command at i: the error is at p -/
def BadP (t : Nat → Nat) (L i p : Nat) : Prop := (∃ q, LtE t L i q ∧ (∀ w, ¬ WdP t i q w) ∧ p = i) ∨ (∃ q w, LtE t L i q ∧ WdP t i q w ∧ ¬ cha t L q = 58 ∧ p = q) ∨
  (∃ q w n v s, LtE t L i q ∧ WdP t i q w ∧ cha t L q = 58 ∧ NumsP t L (q + 1) v n s ∧ n < mosN w ∧ ¬ dgP t L s ∧ p = s) ∨
  ∃ q w n v s c, LtE t L i q ∧ WdP t i q w ∧ cha t L q = 58 ∧ NumsP t L (q + 1) v n s ∧ n < mosN w ∧ NumP t L s c ∧ ¬ (fewN w ≤ n + 1 ∧ cha t L (s + c) = 59) ∧ ¬ (n + 1 < mosN w ∧ cha t L (s + c) = 44) ∧ p = s + c
theorem LtE.u {t : Nat → Nat} {L i e e' : Nat} (h : LtE t L i e) (h' : LtE t L i e') : e = e' := by
  obtain ⟨h1, h2, h3⟩ := h
  obtain ⟨h1', h2', h3'⟩ := h'
  rcases Nat.lt_trichotomy e e' with q | q | q
  · exact absurd (h2' e h1 q) h3
  · exact q
  · exact absurd (h2 e' h1' q) h3'
theorem LtE.le {t : Nat → Nat} {L i e : Nat} (h : LtE t L i e) (hi : i ≤ L) : e ≤ L := by
  refine Nat.le_of_not_lt fun q => ?_
  have := (h.2.1 (e - 1) (by omega) (by omega)).1
  omega
theorem sBn_u : ∀ w, w < 9 → ∀ w', w' < 9 → strL.getD w 0 = strL.getD w' 0 → (∀ k, k < strL.getD w 0 → sBn w k = sBn w' k) → w = w' := by decide +kernel
theorem sBn_l : ∀ w, w < 9 → 3 ≤ strL.getD w 0 ∧ strL.getD w 0 ≤ 7 ∧ ∀ k, k < strL.getD w 0 → 97 ≤ sBn w k ∧ sBn w k ≤ 122 := by decide +kernel
theorem WdP.u {t : Nat → Nat} {i e w w' : Nat} (h : WdP t i e w) (h' : WdP t i e w') : w = w' := by
  obtain ⟨h1, h2, h3⟩ := h
  obtain ⟨h1', h2', h3'⟩ := h'
  have hl : strL.getD w 0 = strL.getD w' 0 := by omega
  exact sBn_u w h1 w' h1' hl fun k hk => (h3 k hk).symm.trans (h3' k (by omega))
theorem digP_of {t : Nat → Nat} {L i : Nat} (h : dgP t L i) : digP (nwI t L i) := by
  unfold dgP at h
  by_cases c : i < L
  · rw [cha_t c] at h
    unfold digP
    rw [nwI_t c]
    exact ⟨nI_le h.1 (by omega), nI_le h.2 (by decide)⟩
  · rw [cha_f c] at h; omega
theorem dgP_of {t : Nat → Nat} {L i : Nat} (ht : ∀ k, k < L → t k < 128) (h : digP (nwI t L i)) : dgP t L i := by
  unfold digP at h
  unfold dgP
  by_cases c : i < L
  · rw [nwI_t c] at h
    rw [cha_t c]
    have := ht i c
    exact ⟨(nI_leI (by decide) (by omega)).mp h.1, (nI_leI (by omega) (by decide)).mp h.2⟩
  · rw [nwI_f c] at h
    exact absurd h.1 (by decide)
theorem NumP.dg {t : Nat → Nat} {L h c i : Nat} (q : NumP t L h c) (hi : i < c) : dgP t L (h + i) := by
  unfold dgP
  rw [cha_t (by have := q.2.2.1; omega)]
  exact q.2.2.2.1 i hi
theorem NumP.u {t : Nat → Nat} {L h c c' : Nat} (q : NumP t L h c) (q' : NumP t L h c') : c = c' := by
  rcases Nat.lt_trichotomy c c' with r | r | r
  · rcases q.2.2.2.2.2 with z | z | z
    · have := q'.2.1; omega
    · have := q'.2.2.2.2.1 c q.1 r; omega
    · exact absurd (digP_of (q'.dg r)) z
  · exact r
  · rcases q'.2.2.2.2.2 with z | z | z
    · have := q.2.1; omega
    · have := q.2.2.2.2.1 c' q'.1 r; omega
    · exact absurd (digP_of (q.dg r)) z
theorem NumsP.u {t : Nat → Nat} {L p : Nat} {v v' : Nat → Nat} : ∀ {n s s' : Nat}, NumsP t L p v n s → NumsP t L p v' n s' → s = s' ∧ ∀ k, k < n → v k = v' k
  | 0, s, s', h, h' => ⟨(show s = p from h).trans (show s' = p from h').symm, fun k hk => absurd hk (Nat.not_lt_zero k)⟩
  | n + 1, s, s', h, h' => by
    obtain ⟨a, c, h1, h2, h3, h4, h5⟩ := h
    obtain ⟨a', c', h1', h2', h3', h4', h5'⟩ := h'
    obtain ⟨e1, e2⟩ := NumsP.u h1 h1'
    subst e1
    have e3 := h2.u h2'
    subst e3
    refine ⟨by omega, fun k hk => ?_⟩
    by_cases q : k = n
    · rw [q, h3, h3']
    · exact e2 k (by omega)
theorem NumsP.pre {t : Nat → Nat} {L p : Nat} {v : Nat → Nat} {n : Nat} : ∀ {m s : Nat}, NumsP t L p v m s → n < m → ∃ s' c, NumsP t L p v n s' ∧ NumP t L s' c ∧ v n = numI t s' c ∧ cha t L (s' + c) = 44
  | 0, s, h, hn => absurd hn (Nat.not_lt_zero n)
  | m + 1, s, h, hn => by
    obtain ⟨a, c, h1, h2, h3, h4, h5⟩ := h
    by_cases q : n = m
    · subst q; exact ⟨a, c, h1, h2, h3, h4⟩
    · exact NumsP.pre h1 (by omega)
theorem NumsP.cg {t : Nat → Nat} {L p : Nat} {v v' : Nat → Nat} : ∀ {n s : Nat}, (∀ k, k < n → v' k = v k) → NumsP t L p v n s → NumsP t L p v' n s
  | 0, _, _, h => h
  | n + 1, s, e, h => by
    obtain ⟨a, c, h1, h2, h3, h4, h5⟩ := h
    exact ⟨a, c, NumsP.cg (fun k hk => e k (by omega)) h1, h2, (e n (by omega)).trans h3, h4, h5⟩
theorem CmdP.u {t : Nat → Nat} {L i w n e w' n' e' : Nat} {v v' : Nat → Nat} (h : CmdP t L i w n v e) (h' : CmdP t L i w' n' v' e') : w = w' ∧ n = n' ∧ e = e' ∧ ∀ k, k ≤ n → v k = v' k := by
  obtain ⟨q, s, c, h1, h2, h3, h4, h5, h6, h7, h8, h9⟩ := h
  obtain ⟨q', s', c', h1', h2', h3', h4', h5', h6', h7', h8', h9'⟩ := h'
  have e1 := h1.u h1'
  subst e1
  have e2 := h2.u h2'
  subst e2
  rcases Nat.lt_trichotomy n n' with r | r | r
  · obtain ⟨a, d, z1, z2, z3, z4⟩ := h4'.pre r
    have := (NumsP.u z1 h4).1
    subst this
    have := z2.u h5
    subst this
    omega
  · subst r
    obtain ⟨z1, z2⟩ := NumsP.u h4 h4'
    subst z1
    have := h5.u h5'
    subst this
    refine ⟨rfl, rfl, by omega, fun k hk => ?_⟩
    by_cases z : k = n
    · rw [z, h6, h6']
    · exact z2 k (by omega)
  · obtain ⟨a, d, z1, z2, z3, z4⟩ := h4.pre r
    have := (NumsP.u z1 h4').1
    subst this
    have := z2.u h5'
    subst this
    omega
theorem CmdP.nb {t : Nat → Nat} {L i w n e p : Nat} {v : Nat → Nat} (h : CmdP t L i w n v e) (h' : BadP t L i p) : False := by
  obtain ⟨q, s, c, h1, h2, h3, h4, h5, h6, h7, h8, h9⟩ := h
  rcases h' with ⟨q', b1, b2, -⟩ | ⟨q', w', b1, b2, b3, -⟩ | ⟨q', w', n', v', s', b1, b2, b3, b4, b5, b6, -⟩ | ⟨q', w', n', v', s', c', b1, b2, b3, b4, b5, b6, b7, b8, -⟩
  · have := h1.u b1; subst this; exact b2 w h2
  · have := h1.u b1; subst this; exact b3 h3
  · have := h1.u b1; subst this
    have := h2.u b2; subst this
    rcases Nat.lt_trichotomy n' n with r | r | r
    · obtain ⟨a, d, z1, z2, z3, z4⟩ := h4.pre r
      have := (NumsP.u z1 b4).1; subst this
      exact b6 (z2.dg (i := 0) z2.1)
    · subst r
      have := (NumsP.u h4 b4).1; subst this
      exact b6 (h5.dg (i := 0) h5.1)
    · obtain ⟨a, d, z1, z2, z3, z4⟩ := b4.pre r
      have := (NumsP.u z1 h4).1; subst this
      have := z2.u h5; subst this
      omega
  · have := h1.u b1; subst this
    have := h2.u b2; subst this
    rcases Nat.lt_trichotomy n' n with r | r | r
    · obtain ⟨a, d, z1, z2, z3, z4⟩ := h4.pre r
      have := (NumsP.u z1 b4).1; subst this
      have := z2.u b6; subst this
      exact b8 ⟨by omega, z4⟩
    · subst r
      have := (NumsP.u h4 b4).1; subst this
      have := h5.u b6; subst this
      exact b7 ⟨h7.1, h8⟩
    · obtain ⟨a, d, z1, z2, z3, z4⟩ := b4.pre r
      have := (NumsP.u z1 h4).1; subst this
      have := z2.u h5; subst this
      omega
theorem BadP.u {t : Nat → Nat} {L i p p' : Nat} (h : BadP t L i p) (h' : BadP t L i p') : p = p' := by
  rcases h with ⟨q, a1, a2, a3⟩ | ⟨q, w, a1, a2, a3, a4⟩ | ⟨q, w, n, v, s, a1, a2, a3, a4, a5, a6, a7⟩ | ⟨q, w, n, v, s, c, a1, a2, a3, a4, a5, a6, a7, a8, a9⟩
  · rcases h' with ⟨q', b1, b2, b3⟩ | ⟨q', w', b1, b2, b3, b4⟩ | ⟨q', w', n', v', s', b1, b2, b3, b4, b5, b6, b7⟩ | ⟨q', w', n', v', s', c', b1, b2, b3, b4, b5, b6, b7, b8, b9⟩
    · omega
    all_goals (have := a1.u b1; subst this; exact absurd b2 (a2 w'))
  · rcases h' with ⟨q', b1, b2, b3⟩ | ⟨q', w', b1, b2, b3, b4⟩ | ⟨q', w', n', v', s', b1, b2, b3, b4, b5, b6, b7⟩ | ⟨q', w', n', v', s', c', b1, b2, b3, b4, b5, b6, b7, b8, b9⟩
    · have := a1.u b1; subst this; exact absurd a2 (b2 w)
    · have := a1.u b1; omega
    all_goals (have := a1.u b1; subst this; exact absurd b3 a3)
  · rcases h' with ⟨q', b1, b2, b3⟩ | ⟨q', w', b1, b2, b3, b4⟩ | ⟨q', w', n', v', s', b1, b2, b3, b4, b5, b6, b7⟩ | ⟨q', w', n', v', s', c', b1, b2, b3, b4, b5, b6, b7, b8, b9⟩
    · have := a1.u b1; subst this; exact absurd a2 (b2 w)
    · have := a1.u b1; subst this; exact absurd a3 b3
    · have := a1.u b1; subst this
      have := a2.u b2; subst this
      rcases Nat.lt_trichotomy n n' with r | r | r
      · obtain ⟨a, d, z1, z2, z3, z4⟩ := b4.pre r
        have := (NumsP.u z1 a4).1; subst this
        exact absurd (z2.dg (i := 0) z2.1) a6
      · subst r
        have := (NumsP.u a4 b4).1
        omega
      · obtain ⟨a, d, z1, z2, z3, z4⟩ := a4.pre r
        have := (NumsP.u z1 b4).1; subst this
        exact absurd (z2.dg (i := 0) z2.1) b6
    · have := a1.u b1; subst this
      have := a2.u b2; subst this
      rcases Nat.lt_trichotomy n n' with r | r | r
      · obtain ⟨a, d, z1, z2, z3, z4⟩ := b4.pre r
        have := (NumsP.u z1 a4).1; subst this
        exact absurd (z2.dg (i := 0) z2.1) a6
      · subst r
        have := (NumsP.u a4 b4).1; subst this
        exact absurd (b6.dg (i := 0) b6.1) a6
      · obtain ⟨a, d, z1, z2, z3, z4⟩ := a4.pre r
        have := (NumsP.u z1 b4).1; subst this
        have := z2.u b6; subst this
        exact absurd ⟨by omega, z4⟩ b8
  · rcases h' with ⟨q', b1, b2, b3⟩ | ⟨q', w', b1, b2, b3, b4⟩ | ⟨q', w', n', v', s', b1, b2, b3, b4, b5, b6, b7⟩ | ⟨q', w', n', v', s', c', b1, b2, b3, b4, b5, b6, b7, b8, b9⟩
    · have := a1.u b1; subst this; exact absurd a2 (b2 w)
    · have := a1.u b1; subst this; exact absurd a3 b3
    · have := a1.u b1; subst this
      have := a2.u b2; subst this
      rcases Nat.lt_trichotomy n n' with r | r | r
      · obtain ⟨a, d, z1, z2, z3, z4⟩ := b4.pre r
        have := (NumsP.u z1 a4).1; subst this
        have := z2.u a6; subst this
        exact absurd ⟨by omega, z4⟩ a8
      · subst r
        have := (NumsP.u a4 b4).1; subst this
        exact absurd (a6.dg (i := 0) a6.1) b6
      · obtain ⟨a, d, z1, z2, z3, z4⟩ := a4.pre r
        have := (NumsP.u z1 b4).1; subst this
        exact absurd (z2.dg (i := 0) z2.1) b6
    · have := a1.u b1; subst this
      have := a2.u b2; subst this
      rcases Nat.lt_trichotomy n n' with r | r | r
      · obtain ⟨a, d, z1, z2, z3, z4⟩ := b4.pre r
        have := (NumsP.u z1 a4).1; subst this
        have := z2.u a6; subst this
        exact absurd ⟨by omega, z4⟩ a8
      · subst r
        have := (NumsP.u a4 b4).1; subst this
        have := a6.u b6; subst this
        omega
      · obtain ⟨a, d, z1, z2, z3, z4⟩ := a4.pre r
        have := (NumsP.u z1 b4).1; subst this
        have := z2.u b6; subst this
        exact absurd ⟨by omega, z4⟩ b8
theorem NumsP.ge {t : Nat → Nat} {L p : Nat} {v : Nat → Nat} : ∀ {n s : Nat}, NumsP t L p v n s → p ≤ s
  | 0, s, h => Nat.le_of_eq (show s = p from h).symm
  | n + 1, s, h => by
    obtain ⟨a, c, h1, h2, h3, h4, h5⟩ := h
    have := NumsP.ge h1
    omega
theorem CmdP.le {t : Nat → Nat} {L i w n e : Nat} {v : Nat → Nat} (h : CmdP t L i w n v e) : i + 6 ≤ e ∧ e ≤ L ∧ w < 9 ∧ n < 6 := by
  obtain ⟨q, s, c, h1, h2, h3, h4, h5, h6, h7, h8, h9⟩ := h
  have := h4.ge
  have := h5.1
  have := (sBn_l w h2.1).1
  have := h2.2.1
  refine ⟨by omega, ?_, h2.1, ?_⟩
  · refine Nat.le_of_not_lt fun r => ?_
    rw [cha_f (by omega)] at h8
    omega
  · have := h7.2
    have : mosN w ≤ 6 := by unfold mosN fewN; (repeat' split) <;> omega
    omega
theorem BadP.le {t : Nat → Nat} {L i p : Nat} (h : BadP t L i p) (hi : i ≤ L) : p ≤ L := by
  have nl : ∀ {p v n s}, p ≤ L → NumsP t L p v n s → s ≤ L := fun {p v n s} hp hn => by
    cases n with
    | zero => rw [show s = p from hn]; exact hp
    | succ n =>
      obtain ⟨a, c, h1, h2, h3, h4, h5⟩ := hn
      refine Nat.le_of_not_lt fun r => ?_
      rw [cha_f (by omega)] at h4
      omega
  have hc : ∀ {q}, cha t L q = 58 → q + 1 ≤ L := fun {q} h => by
    refine Nat.le_of_not_lt fun r => ?_
    rw [cha_f (by omega)] at h
    omega
  rcases h with ⟨q, a1, a2, a3⟩ | ⟨q, w, a1, a2, a3, a4⟩ | ⟨q, w, n, v, s, a1, a2, a3, a4, a5, a6, a7⟩ | ⟨q, w, n, v, s, c, a1, a2, a3, a4, a5, a6, a7, a8, a9⟩
  · omega
  · have := a1.le hi; omega
  · have := nl (hc a3) a4; omega
  · have := a6.2.2.1; omega
/-- c commands one behind the other -/
def CmsP (t : Nat → Nat) (L : Nat) (W Kn P : Nat → Nat) (Vv : Nat → Nat → Nat) (c : Nat) : Prop := P 0 = 0 ∧ ∀ j, j < c → P j < L ∧ CmdP t L (P j) (W j) (Kn j) (Vv j) (P (j + 1))
theorem CmsP.le {t : Nat → Nat} {L : Nat} {W Kn P : Nat → Nat} {Vv : Nat → Nat → Nat} {c : Nat} (h : CmsP t L W Kn P Vv c) : ∀ {j}, j ≤ c → 6 * j ≤ P j ∧ P j ≤ L
  | 0, _ => by rw [h.1]; omega
  | j + 1, hj => by
    have h1 := (h.2 j (by omega)).2.le
    have h2 := CmsP.le h (j := j) (by omega)
    omega
theorem CmsP.u {t : Nat → Nat} {L : Nat} {W Kn P W' Kn' P' : Nat → Nat} {Vv Vv' : Nat → Nat → Nat} {c c' : Nat} (h : CmsP t L W Kn P Vv c) (h' : CmsP t L W' Kn' P' Vv' c') : ∀ {j}, j ≤ c → j ≤ c' → P j = P' j
  | 0, _, _ => h.1.trans h'.1.symm
  | j + 1, h1, h2 => by
    have e := CmsP.u h h' (j := j) (by omega) (by omega)
    have a := (h.2 j (by omega)).2
    have b := (h'.2 j (by omega)).2
    rw [e] at a
    exact (a.u b).2.2.1
def TextP (t : Nat → Nat) (L : Nat) (W Kn P : Nat → Nat) (Vv : Nat → Nat → Nat) (c : Nat) : Prop := 0 < c ∧ CmsP t L W Kn P Vv c ∧ P c = L
def BadT (t : Nat → Nat) (L p : Nat) : Prop := ∃ W Kn P Vv c, CmsP t L W Kn P Vv c ∧ (c = 0 ∨ P c < L) ∧ BadP t L (P c) p
theorem TextP.u {t : Nat → Nat} {L : Nat} {W Kn P W' Kn' P' : Nat → Nat} {Vv Vv' : Nat → Nat → Nat} {c c' : Nat} (h : TextP t L W Kn P Vv c) (h' : TextP t L W' Kn' P' Vv' c') : c = c' ∧ (∀ j, j ≤ c → P j = P' j) ∧ ∀ j, j < c → W j = W' j ∧ Kn j = Kn' j ∧ ∀ k, k ≤ Kn j → Vv j k = Vv' j k := by
  obtain ⟨h1, h2, h3⟩ := h
  obtain ⟨h1', h2', h3'⟩ := h'
  have ec : c = c' := by
    rcases Nat.lt_trichotomy c c' with r | r | r
    · have e := h2.u h2' (j := c) (by omega) (by omega)
      have := (h2'.2 c r).1
      omega
    · exact r
    · have e := h2.u h2' (j := c') (by omega) (by omega)
      have := (h2.2 c' r).1
      omega
  subst ec
  refine ⟨rfl, fun j hj => h2.u h2' hj hj, fun j hj => ?_⟩
  have e := h2.u h2' (j := j) (by omega) (by omega)
  have a := (h2.2 j hj).2
  have b := (h2'.2 j hj).2
  rw [e] at a
  have z := a.u b
  exact ⟨z.1, z.2.1, z.2.2.2⟩
theorem TextP.nb {t : Nat → Nat} {L p : Nat} {W Kn P : Nat → Nat} {Vv : Nat → Nat → Nat} {c : Nat} (h : TextP t L W Kn P Vv c) (h' : BadT t L p) : False := by
  obtain ⟨h1, h2, h3⟩ := h
  obtain ⟨W', Kn', P', Vv', c', b1, b2, b3⟩ := h'
  rcases Nat.lt_trichotomy c c' with r | r | r
  · have e := h2.u b1 (j := c) (by omega) (by omega)
    have := (b1.2 c r).1
    omega
  · subst r
    have e := h2.u b1 (j := c) (by omega) (by omega)
    omega
  · have e := h2.u b1 (j := c') (by omega) (by omega)
    have a := (h2.2 c' r).2
    rw [e] at a
    exact a.nb b3
theorem BadT.u {t : Nat → Nat} {L p p' : Nat} (h : BadT t L p) (h' : BadT t L p') : p = p' := by
  obtain ⟨W, Kn, P, Vv, c, a1, a2, a3⟩ := h
  obtain ⟨W', Kn', P', Vv', c', b1, b2, b3⟩ := h'
  rcases Nat.lt_trichotomy c c' with r | r | r
  · have e := a1.u b1 (j := c) (by omega) (by omega)
    have a := (b1.2 c r).2
    rw [← e] at a
    exact (a.nb a3).elim
  · subst r
    have e := a1.u b1 (j := c) (by omega) (by omega)
    rw [e] at a3
    exact a3.u b3
  · have e := a1.u b1 (j := c') (by omega) (by omega)
    have a := (a1.2 c' r).2
    rw [e] at a
    exact (a.nb b3).elim
theorem BadT.le {t : Nat → Nat} {L p : Nat} (h : BadT t L p) : p ≤ L := by
  obtain ⟨W, Kn, P, Vv, c, a1, a2, a3⟩ := h
  exact a3.le (a1.le (Nat.le_refl c)).2
theorem BadT.zero {t : Nat → Nat} : BadT t 0 0 := ⟨fun _ => 0, fun _ => 0, fun _ => 0, fun _ _ => 0, 0, ⟨rfl, fun j hj => absurd hj (Nat.not_lt_zero j)⟩, Or.inl rfl, Or.inl ⟨0, ⟨Nat.le_refl 0, fun k h1 h2 => absurd h2 (Nat.not_lt_zero k), fun h => absurd h.1 (Nat.not_lt_zero 0)⟩, fun w h => by
  have h1 := (sBn_l w h.1).1
  have h2 := h.2.1
  omega, rfl⟩⟩
theorem LtE.ex {t : Nat → Nat} {L i : Nat} (hi : i ≤ L) : ∃ e, LtE t L i e := by
  have key : ∀ f i, i + f = L → ∃ e, LtE t L i e := fun f => by
    induction f with
    | zero => exact fun i h => ⟨i, Nat.le_refl i, fun k a b => absurd b (by omega), fun q => by omega⟩
    | succ f ih =>
      intro i h
      by_cases c : letP t i
      · obtain ⟨e, h1, h2, h3⟩ := ih (i + 1) (by omega)
        refine ⟨e, by omega, fun k a b => ?_, h3⟩
        by_cases q : k = i
        · subst q; exact ⟨by omega, c⟩
        · exact h2 k (by omega) b
      · exact ⟨i, Nat.le_refl i, fun k a b => absurd b (by omega), fun q => c q.2⟩
  exact key (L - i) i (by omega)
