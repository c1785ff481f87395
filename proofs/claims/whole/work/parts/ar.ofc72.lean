/-! THE PASTS, of the reference -/
def PsV (V : RVal) (ps : Nat) (gq : Nat → Nat → Nat) : Prop := V 0 5 = nI ps ∧ ps ≤ 8 ∧ ∀ j, j < ps → gq j 0 ≤ 24 ∧ ∀ i, i < 402 + 400 * gq j 0 → V 4 (10002 * (ps - 1 - j) + i) = nI (gq j i)
/-- all but the pasts -/
def EqP (V V' : RVal) : Prop := ∀ j i, j ≠ 4 → ¬ (j = 0 ∧ i = 5) → V' j i = V j i
theorem PsV.cg {V V' : RVal} {ps : Nat} {gq : Nat → Nat → Nat} (h : PsV V ps gq) (e1 : V' 0 5 = V 0 5) (e2 : ∀ i, V' 4 i = V 4 i) : PsV V' ps gq := ⟨e1.trans h.1, h.2.1, fun j hj => ⟨(h.2.2 j hj).1, fun i hi => (e2 _).trans ((h.2.2 j hj).2 i hi)⟩⟩
theorem push1 {G : GI} {T : Hp} {m : Nat} {V : RVal} {g : Nat → Nat} {od : Nat → UInt64} (hs : RS T m) {ps : Nat} {gq : Nat → Nat → Nat} (h : PsV V ps gq) (h24 : g 0 ≤ 24) : ∃ V2, Fn m_X13_changes G [.ref m, .ref (m + 1)] (rput T m (sg V g) od) none (rput T m (sg V2 g) od) ∧ PsV V2 (if ps < 8 then ps + 1 else ps) (psh g gq) ∧ EqP V V2 := by
  obtain ⟨h5, h8, hq⟩ := h
  by_cases hp : ps < 8
  · refine ⟨_, g_changes1 hs hp h5 h24, ?_, fun j i h1 h2 => (up2_n (by omega)).trans (cpR_n (by omega))⟩
    rw [if_pos hp]
    refine ⟨up2_s, by omega, fun j hj => ?_⟩
    cases j with
    | zero =>
      refine ⟨h24, fun i hi => ?_⟩
      have hi2 : i < 402 + 400 * g 0 := hi
      have e : 10002 * (ps + 1 - 1 - 0) + i = 10002 * ps + i := by omega
      rw [e]
      refine (up2_n (by omega)).trans ((cpR_r hi2).trans ?_)
      show nI (g (0 + i)) = nI (g i)
      rw [Nat.zero_add]
    | succ j =>
      have hq' := hq j (by omega)
      have e0 : psh g gq (j + 1) = gq j := rfl
      rw [e0]
      refine ⟨hq'.1, fun i hi => ?_⟩
      have e : ps + 1 - 1 - (j + 1) = ps - 1 - j := by omega
      rw [e]
      exact (up2_n (by omega)).trans ((cpR_n (by have := hq'.1; omega)).trans (hq'.2 i hi))
  · obtain rfl : ps = 8 := by omega
    have hns : ∀ k, (fun k => gq (7 - k) 0) k ≤ 24 := fun k => (hq (7 - k) (by omega)).1
    have hpk : ∀ k, k < 8 → V 4 (10002 * k) = nI ((fun k => gq (7 - k) 0) k) := fun k hk => by
      have z := (hq (7 - k) (by omega)).2 0 (by omega)
      have e : 10002 * (8 - 1 - (7 - k)) + 0 = 10002 * k := by omega
      rw [e] at z
      exact z
    refine ⟨_, g_changes1f hs hns h5 hpk h24, ?_, fun j i h1 h2 => (up2_n (by omega)).trans ((cpR_n (by omega)).trans ((up2_n (by omega)).trans (shI_n hns (by omega))))⟩
    rw [if_neg (by decide)]
    refine ⟨up2_s, by omega, fun j hj => ?_⟩
    cases j with
    | zero =>
      refine ⟨h24, fun i hi => ?_⟩
      have hi2 : i < 402 + 400 * g 0 := hi
      have e : 10002 * (8 - 1 - 0) + i = 10002 * 7 + i := by omega
      rw [e]
      refine (up2_n (by omega)).trans ((cpR_r hi2).trans ?_)
      show nI (g (0 + i)) = nI (g i)
      rw [Nat.zero_add]
    | succ j =>
      have hq' := hq j (by omega)
      have e0 : psh g gq (j + 1) = gq j := rfl
      rw [e0]
      refine ⟨hq'.1, fun i hi => ?_⟩
      have e : 8 - 1 - (j + 1) = 6 - j := by omega
      have e2 : 8 - 1 - j = 6 - j + 1 := by omega
      have e3 : 7 - (6 - j + 1) = j := by omega
      rw [e]
      refine (up2_n (by omega)).trans ((cpR_n (by have := hq'.1; omega)).trans ((up2_n (by omega)).trans ((shI_r hns (k := 6 - j) (u := 7) (show i < 402 + 400 * gq (7 - (6 - j + 1)) 0 by rw [e3]; exact hi) (by omega)).trans ?_)))
      have z := hq'.2 i hi
      rw [e2] at z
      exact z
theorem push3 {G : GI} {T : Hp} {m : Nat} {V : RVal} {g : Nat → Nat} {od : Nat → UInt64} (hs : RS T m) {ps : Nat} {gq : Nat → Nat → Nat} (h : PsV V ps gq) {f : Nat → Nat} (hf : ∀ i, i < 402 + 400 * f 0 → V 3 i = nI (f i)) (h24 : f 0 ≤ 24) : ∃ V2, Fn m_X13_changes G [.ref m, .ref (m + 3)] (rput T m (sg V g) od) none (rput T m (sg V2 g) od) ∧ PsV V2 (if ps < 8 then ps + 1 else ps) (psh f gq) ∧ EqP V V2 := by
  obtain ⟨h5, h8, hq⟩ := h
  by_cases hp : ps < 8
  · refine ⟨_, g_changes3 hs hp h5 (hf 0 (by omega)) h24, ?_, fun j i h1 h2 => (up2_n (by omega)).trans (cpR_n (by omega))⟩
    rw [if_pos hp]
    refine ⟨up2_s, by omega, fun j hj => ?_⟩
    cases j with
    | zero =>
      refine ⟨h24, fun i hi => ?_⟩
      have hi2 : i < 402 + 400 * f 0 := hi
      have e : 10002 * (ps + 1 - 1 - 0) + i = 10002 * ps + i := by omega
      rw [e]
      refine (up2_n (by omega)).trans ((cpR_r hi2).trans ?_)
      show sg V g 3 (0 + i) = nI (f i)
      rw [Nat.zero_add, sg_n (by decide)]
      exact hf i hi2
    | succ j =>
      have hq' := hq j (by omega)
      have e0 : psh f gq (j + 1) = gq j := rfl
      rw [e0]
      refine ⟨hq'.1, fun i hi => ?_⟩
      have e : ps + 1 - 1 - (j + 1) = ps - 1 - j := by omega
      rw [e]
      exact (up2_n (by omega)).trans ((cpR_n (by have := hq'.1; omega)).trans (hq'.2 i hi))
  · obtain rfl : ps = 8 := by omega
    have hns : ∀ k, (fun k => gq (7 - k) 0) k ≤ 24 := fun k => (hq (7 - k) (by omega)).1
    have hpk : ∀ k, k < 8 → V 4 (10002 * k) = nI ((fun k => gq (7 - k) 0) k) := fun k hk => by
      have z := (hq (7 - k) (by omega)).2 0 (by omega)
      have e : 10002 * (8 - 1 - (7 - k)) + 0 = 10002 * k := by omega
      rw [e] at z
      exact z
    refine ⟨_, g_changes3f hs hns h5 hpk (hf 0 (by omega)) h24, ?_, fun j i h1 h2 => (up2_n (by omega)).trans ((cpR_n (by omega)).trans ((up2_n (by omega)).trans (shI_n hns (by omega))))⟩
    rw [if_neg (by decide)]
    refine ⟨up2_s, by omega, fun j hj => ?_⟩
    cases j with
    | zero =>
      refine ⟨h24, fun i hi => ?_⟩
      have hi2 : i < 402 + 400 * f 0 := hi
      have e : 10002 * (8 - 1 - 0) + i = 10002 * 7 + i := by omega
      rw [e]
      refine (up2_n (by omega)).trans ((cpR_r hi2).trans ?_)
      show sg (up2 (shI V (fun k => gq (7 - k) 0) 7) 0 5 (nI 7)) g 3 (0 + i) = nI (f i)
      rw [Nat.zero_add, sg_n (by decide), up2_n (by omega), shI_n hns (by omega)]
      exact hf i hi2
    | succ j =>
      have hq' := hq j (by omega)
      have e0 : psh f gq (j + 1) = gq j := rfl
      rw [e0]
      refine ⟨hq'.1, fun i hi => ?_⟩
      have e : 8 - 1 - (j + 1) = 6 - j := by omega
      have e2 : 8 - 1 - j = 6 - j + 1 := by omega
      have e3 : 7 - (6 - j + 1) = j := by omega
      rw [e]
      refine (up2_n (by omega)).trans ((cpR_n (by have := hq'.1; omega)).trans ((up2_n (by omega)).trans ((shI_r hns (k := 6 - j) (u := 7) (show i < 402 + 400 * gq (7 - (6 - j + 1)) 0 by rw [e3]; exact hi) (by omega)).trans ?_)))
      have z := hq'.2 i hi
      rw [e2] at z
      exact z
