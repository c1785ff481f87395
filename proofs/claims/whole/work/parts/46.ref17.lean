def isQ (g : Nat → Nat) (a : Nat) (Mk : Nat → Prop) (l u k : Nat) : Prop := l = a ∨ ∃ q, q < k ∧ Mk (200 * g (90 + 13 * l + (10 + q)) + pW (g (402 + 2 * (200 * l + u) + 1)) q)
/-- Mk tells the units that are marked when lot a's are -/
def MarkP (g : Nat → Nat) (a : Nat) (Mk : Nat → Prop) : Prop := ∀ l u, l < g 0 → u < g (90 + 13 * l + 1) → (Mk (200 * l + u) ↔ isQ g a Mk l u (g (90 + 13 * l + 8)))
def PartW (g : Nat → Nat) : Prop := ∀ l, l < g 0 → g (90 + 13 * l + 1) ≤ 200 ∧ g (90 + 13 * l + 8) ≤ 3 ∧ ∀ k, k < g (90 + 13 * l + 8) → g (90 + 13 * l + (10 + k)) < l ∧ ∀ u, u < g (90 + 13 * l + 1) → pW (g (402 + 2 * (200 * l + u) + 1)) k < g (90 + 13 * g (90 + 13 * l + (10 + k)) + 1)
noncomputable def mkV (V : RVal) (g : Nat → Nat) (Mk : Nat → Prop) (l u : Nat) : RVal := fun j i => if j = 7 ∧ (i / 200 < l ∨ (i / 200 = l ∧ i % 200 < u)) ∧ i % 200 < g (90 + 13 * (i / 200) + 1) then bI (Mk i) else V j i
theorem mkV_0 {V : RVal} {g : Nat → Nat} {Mk : Nat → Prop} : mkV V g Mk 0 0 = V := by
  funext j i; unfold mkV; rw [if_neg (by omega)]
theorem mkV_n {V : RVal} {g : Nat → Nat} {Mk : Nat → Prop} {l : Nat} : mkV V g Mk l (g (90 + 13 * l + 1)) = mkV V g Mk (l + 1) 0 := by
  funext j i
  unfold mkV
  by_cases h : j = 7 ∧ (i / 200 < l ∨ (i / 200 = l ∧ i % 200 < g (90 + 13 * l + 1))) ∧ i % 200 < g (90 + 13 * (i / 200) + 1)
  · rw [if_pos h, if_pos ⟨h.1, by omega, h.2.2⟩]
  · rw [if_neg h, if_neg (fun q => h ⟨q.1, by
      rcases q.2.1 with q1 | q1
      · by_cases e : i / 200 = l
        · exact Or.inr ⟨e, by have := q.2.2; rw [e] at this; exact this⟩
        · exact Or.inl (by omega)
      · omega, q.2.2⟩)]
theorem mkV_s {V : RVal} {g : Nat → Nat} {Mk : Nat → Prop} {l u : Nat} {P : Prop} (hu : u < g (90 + 13 * l + 1)) (hz : g (90 + 13 * l + 1) ≤ 200) (hP : Mk (200 * l + u) ↔ P) : up2 (mkV V g Mk l u) 7 (200 * l + u) (bI P) = mkV V g Mk l (u + 1) := by
  funext j i
  have e1 : (200 * l + u) / 200 = l := by omega
  have e2 : (200 * l + u) % 200 = u := by omega
  unfold up2 mkV
  by_cases h : j = 7 ∧ i = 200 * l + u
  · obtain ⟨rfl, rfl⟩ := h
    rw [if_pos ⟨rfl, rfl⟩, e1, e2, if_pos ⟨rfl, Or.inr ⟨rfl, by omega⟩, hu⟩]
    exact (bI_iff hP).symm
  · rw [if_neg h]
    by_cases h2 : j = 7 ∧ (i / 200 < l ∨ (i / 200 = l ∧ i % 200 < u)) ∧ i % 200 < g (90 + 13 * (i / 200) + 1)
    · rw [if_pos h2, if_pos ⟨h2.1, by omega, h2.2.2⟩]
    · rw [if_neg h2, if_neg (fun q => h2 ⟨q.1, by omega, q.2.2⟩)]
theorem mkV_r {V : RVal} {g : Nat → Nat} {Mk : Nat → Prop} {l u p q : Nat} (hp : p < l) (hq : q < g (90 + 13 * p + 1)) (h2 : q < 200) : mkV V g Mk l u 7 (200 * p + q) = bI (Mk (200 * p + q)) := by
  have e1 : (200 * p + q) / 200 = p := by omega
  have e2 : (200 * p + q) % 200 = q := by omega
  unfold mkV
  rw [e1, e2, if_pos ⟨rfl, Or.inl hp, hq⟩]
def hasM (Mk : Nat → Prop) (l n : Nat) : Prop := ∃ u, u < n ∧ Mk (200 * l + u)
noncomputable def setM (Mk : Nat → Prop) (l n s : Nat) : Nat := @ite _ (hasM Mk l n) (Classical.propDecidable _) (s ||| 1 * 2 ^ l) s
noncomputable def recI (g : Nat → Nat) (Mk : Nat → Prop) : Nat → Nat
  | 0 => 0
  | l + 1 => setM Mk l (g (90 + 13 * l + 1)) (recI g Mk l)
theorem setM_0 {Mk : Nat → Prop} {l s : Nat} : setM Mk l 0 s = s := by
  unfold setM; rw [if_neg (fun ⟨u, h, _⟩ => by omega)]
theorem setM_t {Mk : Nat → Prop} {l u s : Nat} (h : Mk (200 * l + u)) : setM Mk l u s ||| 1 * 2 ^ l = setM Mk l (u + 1) s := by
  unfold setM
  rw [if_pos (show hasM Mk l (u + 1) from ⟨u, by omega, h⟩)]
  by_cases c : hasM Mk l u
  · rw [if_pos c, Nat.or_assoc, Nat.or_self]
  · rw [if_neg c]
theorem setM_f {Mk : Nat → Prop} {l u s : Nat} (h : ¬ Mk (200 * l + u)) : setM Mk l u s ||| 0 = setM Mk l (u + 1) s := by
  rw [Nat.or_zero]
  unfold setM
  by_cases c : hasM Mk l u
  · obtain ⟨v, h1, h2⟩ := c
    rw [if_pos ⟨v, h1, h2⟩, if_pos (show hasM Mk l (u + 1) from ⟨v, by omega, h2⟩)]
  · rw [if_neg c, if_neg (fun ⟨v, h1, h2⟩ => c ⟨v, by
      have : v ≠ u := fun e => h (e ▸ h2)
      omega, h2⟩)]
theorem setM_lt {Mk : Nat → Prop} {l n s : Nat} (hl : l < 24) (h : s < 2 ^ 24) : setM Mk l n s < 2 ^ 24 := by
  unfold setM
  have h2 : 2 ^ l ≤ 2 ^ 23 := Nat.pow_le_pow_right (by decide) (by omega)
  by_cases c : hasM Mk l n
  · rw [if_pos c]; exact Nat.or_lt_two_pow h (by omega)
  · rw [if_neg c]; exact h
theorem recI_lt {g : Nat → Nat} {Mk : Nat → Prop} : ∀ {l : Nat}, l ≤ 24 → recI g Mk l < 2 ^ 24
  | 0, _ => (by decide : 0 < 2 ^ 24)
  | l + 1, h => setM_lt (by omega) (recI_lt (by omega))
theorem bI_vnar {P : Prop} : vp_nar .boolean (bI P) = bI P := by
  by_cases h : P
  · rw [bI_t h]; decide
  · rw [bI_f h]; decide
set_option maxRecDepth 4000 in
theorem g_marks {G : GI} {T : Hp} {m : Nat} {V : RVal} {g : Nat → Nat} {od : Nat → UInt64} (hs : RS T m)  (h24 : g 0 ≤ 24) (hb : WB g) {a : Nat} {Mk : Nat → Prop} (ha : a < g 0) (hw : PartW g) (hmk : MarkP g a Mk) : Fn m_X13_marks G [.ref (m), .int (nI (a))] (rput T m (sg V g) od) (some (.int (nI (recI g Mk (g 0))))) (rput T m (sg (mkV V g Mk (g 0) 0) (g)) od) := by
  refine Cn.of rfl (by decide) (Nat.le_of_ble_eq_true rfl) (fun hN hM => ?_)
  show Wx _ G _ 0 [(0, .ref (m)), (1, .int (nI (a)))] [] _
  refine r_iconst (v := nI 0) dX13_marks_0 (by decide) ?_
  refine r_istore_n (lv' := [(2, .int (nI (0))), (0, .ref (m)), (1, .int (nI (a)))]) dX13_marks_1 rfl (by decide) rfl ?_
  refine r_iconst (v := nI 0) dX13_marks_2 (by decide) ?_
  refine r_istore_n (lv' := [(3, .int (nI (0))), (2, .int (nI (0))), (0, .ref (m)), (1, .int (nI (a)))]) dX13_marks_3 rfl (by decide) rfl ?_
  refine Wx.sub [2, 3, 1, 0] rfl ?_
  refine Wx.st' (S' := rput T m (sg (mkV V g Mk 0 0) g) od) (by rw [mkV_0]) ?_
  refine Wx.loop (fun l => rput T m (sg (mkV V g Mk l 0) g) od) (fun l => [(0, .ref (m)), (1, .int (nI (a))), (2, .int (nI (recI g Mk l))), (3, .int (nI (l)))]) (g 0) (0) (Nat.zero_le _) (fun l hge hle next => ?_)
  show Wx _ G (rput T m (sg (mkV V g Mk l 0) g) od) 4 [(0, .ref (m)), (1, .int (nI (a))), (2, .int (nI (recI g Mk l))), (3, .int (nI (l)))] [] _
  refine r_iload_n dX13_marks_4 rfl 3 rfl ?_
  refine r_aload_n dX13_marks_5 rfl 0 rfl ?_
  refine m_ref (k := 0) (j := 1) hs hs.2.1.1 dX13_marks_6 fr_X13_7 rfl ?_
  refine r_iconst (v := nI 0) dX13_marks_9 (by decide) ?_
  refine g_iald (i := 0) hs dX13_marks_10 (by (first | omega | (have := hw l (by omega); omega) | (have hq1 := hw l (by omega); have hq2 := hq1.2.2 k (by omega); have hq3 := hq2.2 u (by omega); have hq4 := hw _ (show g (90 + 13 * l + (10 + k)) < g 0 by omega); omega) | (have hq1 : setM Mk l u (recI g Mk l) < 2 ^ 24 := setM_lt (by omega) (recI_lt (by omega)); have hq2 : 2 ^ l ≤ 2 ^ 23 := Nat.pow_le_pow_right (by decide) (by omega); omega))) ?_
  refine r_icmp_geN (tgt := 147) dX13_marks_11 (by decide) (by (first | omega | (have := hw l (by omega); omega) | (have hq1 := hw l (by omega); have hq2 := hq1.2.2 k (by omega); have hq3 := hq2.2 u (by omega); have hq4 := hw _ (show g (90 + 13 * l + (10 + k)) < g 0 by omega); omega) | (have hq1 : setM Mk l u (recI g Mk l) < 2 ^ 24 := setM_lt (by omega) (recI_lt (by omega)); have hq2 : 2 ^ l ≤ 2 ^ 23 := Nat.pow_le_pow_right (by decide) (by omega); omega))) (by (first | omega | (have := hw l (by omega); omega) | (have hq1 := hw l (by omega); have hq2 := hq1.2.2 k (by omega); have hq3 := hq2.2 u (by omega); have hq4 := hw _ (show g (90 + 13 * l + (10 + k)) < g 0 by omega); omega) | (have hq1 : setM Mk l u (recI g Mk l) < 2 ^ 24 := setM_lt (by omega) (recI_lt (by omega)); have hq2 : 2 ^ l ≤ 2 ^ 23 := Nat.pow_le_pow_right (by decide) (by omega); omega))) (fun h11 => ?_) (fun h11 => ?_)
  · refine r_iload_n dX13_marks_147 rfl 2 rfl ?_
    obtain rfl : l = g 0 := by omega
    exact r_iret (ty := .int) dX13_marks_148 rfl rfl ⟨rfl, rfl⟩
  · refine r_iconst (v := nI 0) dX13_marks_14 (by decide) ?_
    refine r_istore (lv' := [(4, .int (nI (0))), (0, .ref (m)), (1, .int (nI (a))), (2, .int (nI (recI g Mk l))), (3, .int (nI (l)))]) dX13_marks_15 (by decide) rfl ?_
    refine Wx.sub [1, 2, 3, 4, 0] rfl ?_
    refine Wx.loc (lv' := [(0, .ref (m)), (1, .int (nI (a))), (2, .int (nI (setM Mk l 0 (recI g Mk l)))), (3, .int (nI (l))), (4, .int (nI (0)))]) (by rw [setM_0] <;> rfl) ?_
    refine Wx.loop (fun u => rput T m (sg (mkV V g Mk l u) g) od) (fun u => [(0, .ref (m)), (1, .int (nI (a))), (2, .int (nI (setM Mk l u (recI g Mk l)))), (3, .int (nI (l))), (4, .int (nI (u)))]) (g (90 + 13 * l + 1)) (0) (Nat.zero_le _) (fun u hge_1 hle_1 next_1 => ?_)
    show Wx _ G (rput T m (sg (mkV V g Mk l u) g) od) 17 [(0, .ref (m)), (1, .int (nI (a))), (2, .int (nI (setM Mk l u (recI g Mk l)))), (3, .int (nI (l))), (4, .int (nI (u)))] [] _
    refine r_iload dX13_marks_17 4 rfl ?_
    refine r_aload_n dX13_marks_19 rfl 0 rfl ?_
    refine r_iload_n dX13_marks_20 rfl 3 rfl ?_
    refine r_fnV (M2 := m_X13_size) (As := [.int (nI (l))]) (rest := [.int (nI (u))]) (v := some (.int (nI (g (90 + 13 * l + 1))))) dX13_marks_21 cc_X13_marks_80 rfl rfl rfl (Nat.le_of_ble_eq_true rfl) hs.1 rfl rfl (by decide) (g_size hs (by (first | omega | (have := hw l (by omega); omega) | (have hq1 := hw l (by omega); have hq2 := hq1.2.2 k (by omega); have hq3 := hq2.2 u (by omega); have hq4 := hw _ (show g (90 + 13 * l + (10 + k)) < g 0 by omega); omega) | (have hq1 : setM Mk l u (recI g Mk l) < 2 ^ 24 := setM_lt (by omega) (recI_lt (by omega)); have hq2 : 2 ^ l ≤ 2 ^ 23 := Nat.pow_le_pow_right (by decide) (by omega); omega)))) rfl ?_
    refine r_icmp_geN (tgt := 141) dX13_marks_24 (by decide) (by (first | omega | (have := hw l (by omega); omega) | (have hq1 := hw l (by omega); have hq2 := hq1.2.2 k (by omega); have hq3 := hq2.2 u (by omega); have hq4 := hw _ (show g (90 + 13 * l + (10 + k)) < g 0 by omega); omega) | (have hq1 : setM Mk l u (recI g Mk l) < 2 ^ 24 := setM_lt (by omega) (recI_lt (by omega)); have hq2 : 2 ^ l ≤ 2 ^ 23 := Nat.pow_le_pow_right (by decide) (by omega); omega))) (by (first | omega | (have := hw l (by omega); omega) | (have hq1 := hw l (by omega); have hq2 := hq1.2.2 k (by omega); have hq3 := hq2.2 u (by omega); have hq4 := hw _ (show g (90 + 13 * l + (10 + k)) < g 0 by omega); omega) | (have hq1 : setM Mk l u (recI g Mk l) < 2 ^ 24 := setM_lt (by omega) (recI_lt (by omega)); have hq2 : 2 ^ l ≤ 2 ^ 23 := Nat.pow_le_pow_right (by decide) (by omega); omega))) (fun h24 => ?_) (fun h24 => ?_)
    · refine r_iincN (k := 1) (lv' := [(3, .int (nI (l + 1))), (0, .ref (m)), (1, .int (nI (a))), (2, .int (nI (setM Mk l u (recI g Mk l)))), (4, .int (nI (u)))]) dX13_marks_141 (by decide) 3 rfl (by decide) rfl ?_
      refine r_goto (tgt := 4) dX13_marks_144 (by decide) ?_
      refine Wx.sub [1, 2, 3, 0] rfl ?_
      obtain rfl : u = g (90 + 13 * l + 1) := by omega
      have n2 := next (by omega)
      rw [← mkV_n] at n2
      exact n2
    · refine r_iload_n dX13_marks_27 rfl 3 rfl ?_
      refine r_iload_n dX13_marks_28 rfl 1 rfl ?_
      refine r_icmp_neN (tgt := 36) dX13_marks_29 (by decide) (by (first | omega | (have := hw l (by omega); omega) | (have hq1 := hw l (by omega); have hq2 := hq1.2.2 k (by omega); have hq3 := hq2.2 u (by omega); have hq4 := hw _ (show g (90 + 13 * l + (10 + k)) < g 0 by omega); omega) | (have hq1 : setM Mk l u (recI g Mk l) < 2 ^ 24 := setM_lt (by omega) (recI_lt (by omega)); have hq2 : 2 ^ l ≤ 2 ^ 23 := Nat.pow_le_pow_right (by decide) (by omega); omega))) (by (first | omega | (have := hw l (by omega); omega) | (have hq1 := hw l (by omega); have hq2 := hq1.2.2 k (by omega); have hq3 := hq2.2 u (by omega); have hq4 := hw _ (show g (90 + 13 * l + (10 + k)) < g 0 by omega); omega) | (have hq1 : setM Mk l u (recI g Mk l) < 2 ^ 24 := setM_lt (by omega) (recI_lt (by omega)); have hq2 : 2 ^ l ≤ 2 ^ 23 := Nat.pow_le_pow_right (by decide) (by omega); omega))) (fun h29 => ?_) (fun h29 => ?_)
      · refine r_iconst (v := nI 0) dX13_marks_36 (by decide) ?_
        refine r_istore (lv' := [(5, .int (nI (0))), (0, .ref (m)), (1, .int (nI (a))), (2, .int (nI (setM Mk l u (recI g Mk l)))), (3, .int (nI (l))), (4, .int (nI (u)))]) dX13_marks_37 (by decide) rfl ?_
        refine r_iconst (v := nI 0) dX13_marks_39 (by decide) ?_
        refine r_istore (lv' := [(6, .int (nI (0))), (5, .int (nI (0))), (0, .ref (m)), (1, .int (nI (a))), (2, .int (nI (setM Mk l u (recI g Mk l)))), (3, .int (nI (l))), (4, .int (nI (u)))]) dX13_marks_40 (by decide) rfl ?_
        refine Wx.sub [2, 3, 4, 5, 6, 1, 0] rfl ?_
        refine Wx.loc (lv' := [(0, .ref (m)), (1, .int (nI (a))), (2, .int (nI (setM Mk l u (recI g Mk l)))), (3, .int (nI (l))), (4, .int (nI (u))), (5, .int (bI (isQ g a Mk l u 0))), (6, .int (nI (0)))]) (by rw [bI_f (show ¬ isQ g a Mk l u 0 from fun q => q.elim h29 (fun ⟨q, h, _⟩ => by omega))] <;> rfl) ?_
        refine Wx.loop (fun k => rput T m (sg (mkV V g Mk l u) g) od) (fun k => [(0, .ref (m)), (1, .int (nI (a))), (2, .int (nI (setM Mk l u (recI g Mk l)))), (3, .int (nI (l))), (4, .int (nI (u))), (5, .int (bI (isQ g a Mk l u k))), (6, .int (nI (k)))]) (g (90 + 13 * l + 8)) (0) (Nat.zero_le _) (fun k hge_2 hle_2 next_2 => ?_)
        show Wx _ G (rput T m (sg (mkV V g Mk l u) g) od) 42 [(0, .ref (m)), (1, .int (nI (a))), (2, .int (nI (setM Mk l u (recI g Mk l)))), (3, .int (nI (l))), (4, .int (nI (u))), (5, .int (bI (isQ g a Mk l u k))), (6, .int (nI (k)))] [] _
        refine r_iload dX13_marks_42 6 rfl ?_
        refine r_aload_n dX13_marks_44 rfl 0 rfl ?_
        refine m_ref (k := 0) (j := 1) hs hs.2.1.1 dX13_marks_45 fr_X13_7 rfl ?_
        refine r_iload_n dX13_marks_48 rfl 3 rfl ?_
        refine r_bipush (v := nI 8) dX13_marks_49 (by decide) ?_
        refine r_fnS (M2 := m_X13_at) (As := [.int (nI (l)), .int (nI (8))]) (rest := [.ref (m + 1), .int (nI (k))]) (v := some (.int (nI (90 + 13 * l + 8)))) dX13_marks_51 cc_X13_marks_72 rfl rfl rfl (Nat.le_of_ble_eq_true rfl) f_at rfl ?_
        refine g_iald (i := 90 + 13 * l + 8) hs dX13_marks_54 (by (first | omega | (have := hw l (by omega); omega) | (have hq1 := hw l (by omega); have hq2 := hq1.2.2 k (by omega); have hq3 := hq2.2 u (by omega); have hq4 := hw _ (show g (90 + 13 * l + (10 + k)) < g 0 by omega); omega) | (have hq1 : setM Mk l u (recI g Mk l) < 2 ^ 24 := setM_lt (by omega) (recI_lt (by omega)); have hq2 : 2 ^ l ≤ 2 ^ 23 := Nat.pow_le_pow_right (by decide) (by omega); omega))) ?_
        refine r_icmp_geN (tgt := 105) dX13_marks_55 (by decide) (by (first | omega | (have := hw l (by omega); omega) | (have hq1 := hw l (by omega); have hq2 := hq1.2.2 k (by omega); have hq3 := hq2.2 u (by omega); have hq4 := hw _ (show g (90 + 13 * l + (10 + k)) < g 0 by omega); omega) | (have hq1 : setM Mk l u (recI g Mk l) < 2 ^ 24 := setM_lt (by omega) (recI_lt (by omega)); have hq2 : 2 ^ l ≤ 2 ^ 23 := Nat.pow_le_pow_right (by decide) (by omega); omega))) (by (first | omega | (have := hw l (by omega); omega) | (have hq1 := hw l (by omega); have hq2 := hq1.2.2 k (by omega); have hq3 := hq2.2 u (by omega); have hq4 := hw _ (show g (90 + 13 * l + (10 + k)) < g 0 by omega); omega) | (have hq1 : setM Mk l u (recI g Mk l) < 2 ^ 24 := setM_lt (by omega) (recI_lt (by omega)); have hq2 : 2 ^ l ≤ 2 ^ 23 := Nat.pow_le_pow_right (by decide) (by omega); omega))) (fun h55 => ?_) (fun h55 => ?_)
        · obtain rfl : k = g (90 + 13 * l + 8) := by omega
          have hMk := hmk l u (by omega) (by omega)
          refine r_aload_n dX13_marks_105 rfl 0 rfl ?_
          refine m_ref (k := 11) (j := 7) hs hs.2.1.2.2.2.2.2.2.1 dX13_marks_106 fr_X13_31 rfl ?_
          refine r_sipush (v := nI 200) dX13_marks_109 (by decide) ?_
          refine r_iload_n dX13_marks_112 rfl 3 rfl ?_
          refine r_imulN dX13_marks_113 ?_
          refine r_iload dX13_marks_114 4 rfl ?_
          refine r_iaddN dX13_marks_116 ?_
          refine r_iload dX13_marks_117 5 rfl ?_
          refine o_zast (j := 7) (n := 4800) (i := 200 * l + u) (by decide) hs rw7 dX13_marks_119 (by (first | omega | (have := hw l (by omega); omega) | (have hq1 := hw l (by omega); have hq2 := hq1.2.2 k (by omega); have hq3 := hq2.2 u (by omega); have hq4 := hw _ (show g (90 + 13 * l + (10 + k)) < g 0 by omega); omega) | (have hq1 : setM Mk l u (recI g Mk l) < 2 ^ 24 := setM_lt (by omega) (recI_lt (by omega)); have hq2 : 2 ^ l ≤ 2 ^ 23 := Nat.pow_le_pow_right (by decide) (by omega); omega))) (by decide) bI_vnar ?_
          refine Wx.st' (S' := rput T m (sg (mkV V g Mk l (u + 1)) g) od) (congrArg (fun V => rput T m (sg V g) od) (mkV_s (by omega) (hw l (by omega)).1 hMk)) ?_
          refine r_iload_n dX13_marks_120 rfl 2 rfl ?_
          refine r_iload dX13_marks_121 5 rfl ?_
          refine r_if_eqB (tgt := 132) dX13_marks_123 (by decide) (fun h123 => ?_) (fun h123 => ?_)
          · refine r_iconst (v := nI 0) dX13_marks_132 (by decide) ?_
            refine r_iorN dX13_marks_133 (by (first | omega | (have := hw l (by omega); omega) | (have hq1 := hw l (by omega); have hq2 := hq1.2.2 k (by omega); have hq3 := hq2.2 u (by omega); have hq4 := hw _ (show g (90 + 13 * l + (10 + k)) < g 0 by omega); omega) | (have hq1 : setM Mk l u (recI g Mk l) < 2 ^ 24 := setM_lt (by omega) (recI_lt (by omega)); have hq2 : 2 ^ l ≤ 2 ^ 23 := Nat.pow_le_pow_right (by decide) (by omega); omega))) (by (first | omega | (have := hw l (by omega); omega) | (have hq1 := hw l (by omega); have hq2 := hq1.2.2 k (by omega); have hq3 := hq2.2 u (by omega); have hq4 := hw _ (show g (90 + 13 * l + (10 + k)) < g 0 by omega); omega) | (have hq1 : setM Mk l u (recI g Mk l) < 2 ^ 24 := setM_lt (by omega) (recI_lt (by omega)); have hq2 : 2 ^ l ≤ 2 ^ 23 := Nat.pow_le_pow_right (by decide) (by omega); omega))) ?_
            refine r_istore_n (lv' := [(2, .int (nI ((setM Mk l u (recI g Mk l)) ||| 0))), (0, .ref (m)), (1, .int (nI (a))), (3, .int (nI (l))), (4, .int (nI (u))), (5, .int (bI (isQ g a Mk l u (g (90 + 13 * l + 8))))), (6, .int (nI (g (90 + 13 * l + 8))))]) dX13_marks_134 rfl (by decide) rfl ?_
            refine r_iincN (k := 1) (lv' := [(4, .int (nI (u + 1))), (2, .int (nI ((setM Mk l u (recI g Mk l)) ||| 0))), (0, .ref (m)), (1, .int (nI (a))), (3, .int (nI (l))), (5, .int (bI (isQ g a Mk l u (g (90 + 13 * l + 8))))), (6, .int (nI (g (90 + 13 * l + 8))))]) dX13_marks_135 (by decide) 4 rfl (by decide) rfl ?_
            refine r_goto (tgt := 17) dX13_marks_138 (by decide) ?_
            refine Wx.sub [2, 3, 1, 4, 0] rfl ?_
            have n2 := next_1 (by omega)
            rw [← setM_f (s := recI g Mk l) (fun q => h123 (hMk.mp q))] at n2
            exact n2
          · refine r_iconst (v := nI 1) dX13_marks_126 (by decide) ?_
            refine r_iload_n dX13_marks_127 rfl 3 rfl ?_
            refine r_ishlN dX13_marks_128 (by (first | omega | (have := hw l (by omega); omega) | (have hq1 := hw l (by omega); have hq2 := hq1.2.2 k (by omega); have hq3 := hq2.2 u (by omega); have hq4 := hw _ (show g (90 + 13 * l + (10 + k)) < g 0 by omega); omega) | (have hq1 : setM Mk l u (recI g Mk l) < 2 ^ 24 := setM_lt (by omega) (recI_lt (by omega)); have hq2 : 2 ^ l ≤ 2 ^ 23 := Nat.pow_le_pow_right (by decide) (by omega); omega))) (by (first | omega | (have := hw l (by omega); omega) | (have hq1 := hw l (by omega); have hq2 := hq1.2.2 k (by omega); have hq3 := hq2.2 u (by omega); have hq4 := hw _ (show g (90 + 13 * l + (10 + k)) < g 0 by omega); omega) | (have hq1 : setM Mk l u (recI g Mk l) < 2 ^ 24 := setM_lt (by omega) (recI_lt (by omega)); have hq2 : 2 ^ l ≤ 2 ^ 23 := Nat.pow_le_pow_right (by decide) (by omega); omega))) ?_
            refine r_goto (tgt := 133) dX13_marks_129 (by decide) ?_
            refine r_iorN dX13_marks_133 (by (first | omega | (have := hw l (by omega); omega) | (have hq1 := hw l (by omega); have hq2 := hq1.2.2 k (by omega); have hq3 := hq2.2 u (by omega); have hq4 := hw _ (show g (90 + 13 * l + (10 + k)) < g 0 by omega); omega) | (have hq1 : setM Mk l u (recI g Mk l) < 2 ^ 24 := setM_lt (by omega) (recI_lt (by omega)); have hq2 : 2 ^ l ≤ 2 ^ 23 := Nat.pow_le_pow_right (by decide) (by omega); omega))) (by (first | omega | (have := hw l (by omega); omega) | (have hq1 := hw l (by omega); have hq2 := hq1.2.2 k (by omega); have hq3 := hq2.2 u (by omega); have hq4 := hw _ (show g (90 + 13 * l + (10 + k)) < g 0 by omega); omega) | (have hq1 : setM Mk l u (recI g Mk l) < 2 ^ 24 := setM_lt (by omega) (recI_lt (by omega)); have hq2 : 2 ^ l ≤ 2 ^ 23 := Nat.pow_le_pow_right (by decide) (by omega); omega))) ?_
            refine r_istore_n (lv' := [(2, .int (nI ((setM Mk l u (recI g Mk l)) ||| (1 * 2 ^ l)))), (0, .ref (m)), (1, .int (nI (a))), (3, .int (nI (l))), (4, .int (nI (u))), (5, .int (bI (isQ g a Mk l u (g (90 + 13 * l + 8))))), (6, .int (nI (g (90 + 13 * l + 8))))]) dX13_marks_134 rfl (by decide) rfl ?_
            refine r_iincN (k := 1) (lv' := [(4, .int (nI (u + 1))), (2, .int (nI ((setM Mk l u (recI g Mk l)) ||| (1 * 2 ^ l)))), (0, .ref (m)), (1, .int (nI (a))), (3, .int (nI (l))), (5, .int (bI (isQ g a Mk l u (g (90 + 13 * l + 8))))), (6, .int (nI (g (90 + 13 * l + 8))))]) dX13_marks_135 (by decide) 4 rfl (by decide) rfl ?_
            refine r_goto (tgt := 17) dX13_marks_138 (by decide) ?_
            refine Wx.sub [2, 3, 1, 4, 0] rfl ?_
            have n2 := next_1 (by omega)
            rw [← setM_t (s := recI g Mk l) (hMk.mpr h123)] at n2
            exact n2
        · refine r_iload dX13_marks_58 5 rfl ?_
          refine r_if_neB (tgt := 92) dX13_marks_60 (by decide) (fun h60 => ?_) (fun h60 => ?_)
          · refine r_iconst (v := nI 1) dX13_marks_92 (by decide) ?_
            refine r_goto (tgt := 97) dX13_marks_93 (by decide) ?_
            refine r_istore (lv' := [(5, .int (nI (1))), (0, .ref (m)), (1, .int (nI (a))), (2, .int (nI (setM Mk l u (recI g Mk l)))), (3, .int (nI (l))), (4, .int (nI (u))), (6, .int (nI (k)))]) dX13_marks_97 (by decide) rfl ?_
            refine r_iincN (k := 1) (lv' := [(6, .int (nI (k + 1))), (5, .int (nI (1))), (0, .ref (m)), (1, .int (nI (a))), (2, .int (nI (setM Mk l u (recI g Mk l)))), (3, .int (nI (l))), (4, .int (nI (u)))]) dX13_marks_99 (by decide) 6 rfl (by decide) rfl ?_
            refine r_goto (tgt := 42) dX13_marks_102 (by decide) ?_
            refine Wx.sub [2, 3, 4, 5, 6, 1, 0] rfl ?_
            have n2 := next_2 (by omega)
            rw [(bI_t (show isQ g a Mk l u (k + 1) from h60.elim Or.inl (fun ⟨q, q1, q2⟩ => Or.inr ⟨q, by omega, q2⟩)))] at n2
            exact n2
          · refine r_aload_n dX13_marks_63 rfl 0 rfl ?_
            refine m_ref (k := 11) (j := 7) hs hs.2.1.2.2.2.2.2.2.1 dX13_marks_64 fr_X13_31 rfl ?_
            refine r_sipush (v := nI 200) dX13_marks_67 (by decide) ?_
            refine r_aload_n dX13_marks_70 rfl 0 rfl ?_
            refine r_iload_n dX13_marks_71 rfl 3 rfl ?_
            refine r_iload dX13_marks_72 6 rfl ?_
            refine r_fnV (M2 := m_X13_part) (As := [.int (nI (l)), .int (nI (k))]) (rest := [.int (nI (200)), .ref (m + 7)]) (v := some (.int (nI (g (90 + 13 * l + (10 + k)))))) dX13_marks_74 cc_X13_marks_203 rfl rfl rfl (Nat.le_of_ble_eq_true rfl) hs.1 rfl rfl (by decide) (g_part hs (by (first | omega | (have := hw l (by omega); omega) | (have hq1 := hw l (by omega); have hq2 := hq1.2.2 k (by omega); have hq3 := hq2.2 u (by omega); have hq4 := hw _ (show g (90 + 13 * l + (10 + k)) < g 0 by omega); omega) | (have hq1 : setM Mk l u (recI g Mk l) < 2 ^ 24 := setM_lt (by omega) (recI_lt (by omega)); have hq2 : 2 ^ l ≤ 2 ^ 23 := Nat.pow_le_pow_right (by decide) (by omega); omega))) (by (first | omega | (have := hw l (by omega); omega) | (have hq1 := hw l (by omega); have hq2 := hq1.2.2 k (by omega); have hq3 := hq2.2 u (by omega); have hq4 := hw _ (show g (90 + 13 * l + (10 + k)) < g 0 by omega); omega) | (have hq1 : setM Mk l u (recI g Mk l) < 2 ^ 24 := setM_lt (by omega) (recI_lt (by omega)); have hq2 : 2 ^ l ≤ 2 ^ 23 := Nat.pow_le_pow_right (by decide) (by omega); omega)))) rfl ?_
            refine r_imulN dX13_marks_77 ?_
            refine r_aload_n dX13_marks_78 rfl 0 rfl ?_
            refine r_iload_n dX13_marks_79 rfl 3 rfl ?_
            refine r_iload dX13_marks_80 4 rfl ?_
            refine r_iload dX13_marks_82 6 rfl ?_
            refine r_fnV (M2 := m_X13_partUnit) (As := [.int (nI (l)), .int (nI (u)), .int (nI (k))]) (rest := [.int (nI (200 * (g (90 + 13 * l + (10 + k))))), .ref (m + 7)]) (v := some (.int (nI (pW (g (402 + 2 * (200 * l + u) + 1)) k)))) dX13_marks_84 cc_X13_marks_206 rfl rfl rfl (Nat.le_of_ble_eq_true rfl) hs.1 rfl rfl (by decide) (g_partUnit hs hb (by (first | omega | (have := hw l (by omega); omega) | (have hq1 := hw l (by omega); have hq2 := hq1.2.2 k (by omega); have hq3 := hq2.2 u (by omega); have hq4 := hw _ (show g (90 + 13 * l + (10 + k)) < g 0 by omega); omega) | (have hq1 : setM Mk l u (recI g Mk l) < 2 ^ 24 := setM_lt (by omega) (recI_lt (by omega)); have hq2 : 2 ^ l ≤ 2 ^ 23 := Nat.pow_le_pow_right (by decide) (by omega); omega))) (by (first | omega | (have := hw l (by omega); omega) | (have hq1 := hw l (by omega); have hq2 := hq1.2.2 k (by omega); have hq3 := hq2.2 u (by omega); have hq4 := hw _ (show g (90 + 13 * l + (10 + k)) < g 0 by omega); omega) | (have hq1 : setM Mk l u (recI g Mk l) < 2 ^ 24 := setM_lt (by omega) (recI_lt (by omega)); have hq2 : 2 ^ l ≤ 2 ^ 23 := Nat.pow_le_pow_right (by decide) (by omega); omega))) (by (first | omega | (have := hw l (by omega); omega) | (have hq1 := hw l (by omega); have hq2 := hq1.2.2 k (by omega); have hq3 := hq2.2 u (by omega); have hq4 := hw _ (show g (90 + 13 * l + (10 + k)) < g 0 by omega); omega) | (have hq1 : setM Mk l u (recI g Mk l) < 2 ^ 24 := setM_lt (by omega) (recI_lt (by omega)); have hq2 : 2 ^ l ≤ 2 ^ 23 := Nat.pow_le_pow_right (by decide) (by omega); omega)))) rfl ?_
            refine r_iaddN dX13_marks_87 ?_
            have hq1 := hw l (by omega)
            have hq2 := hq1.2.2 k (by omega)
            have hq3 := hq2.2 u (by omega)
            have hq4 := hw _ (show g (90 + 13 * l + (10 + k)) < g 0 by omega)
            refine o_zald (j := 7) (n := 4800) (i := 200 * (g (90 + 13 * l + (10 + k))) + (pW (g (402 + 2 * (200 * l + u) + 1)) k)) (by decide) hs rw7 dX13_marks_88 (by (first | omega | (have := hw l (by omega); omega) | (have hq1 := hw l (by omega); have hq2 := hq1.2.2 k (by omega); have hq3 := hq2.2 u (by omega); have hq4 := hw _ (show g (90 + 13 * l + (10 + k)) < g 0 by omega); omega) | (have hq1 : setM Mk l u (recI g Mk l) < 2 ^ 24 := setM_lt (by omega) (recI_lt (by omega)); have hq2 : 2 ^ l ≤ 2 ^ 23 := Nat.pow_le_pow_right (by decide) (by omega); omega))) (by decide) ?_
            refine Wx.top (mkV_r hq2.1 hq3 (by omega)) ?_
            refine r_if_eqB (tgt := 96) dX13_marks_89 (by decide) (fun h89 => ?_) (fun h89 => ?_)
            · refine r_iconst (v := nI 0) dX13_marks_96 (by decide) ?_
              refine r_istore (lv' := [(5, .int (nI (0))), (0, .ref (m)), (1, .int (nI (a))), (2, .int (nI (setM Mk l u (recI g Mk l)))), (3, .int (nI (l))), (4, .int (nI (u))), (6, .int (nI (k)))]) dX13_marks_97 (by decide) rfl ?_
              refine r_iincN (k := 1) (lv' := [(6, .int (nI (k + 1))), (5, .int (nI (0))), (0, .ref (m)), (1, .int (nI (a))), (2, .int (nI (setM Mk l u (recI g Mk l)))), (3, .int (nI (l))), (4, .int (nI (u)))]) dX13_marks_99 (by decide) 6 rfl (by decide) rfl ?_
              refine r_goto (tgt := 42) dX13_marks_102 (by decide) ?_
              refine Wx.sub [2, 3, 4, 5, 6, 1, 0] rfl ?_
              have n2 := next_2 (by omega)
              rw [(bI_f (show ¬ isQ g a Mk l u (k + 1) from fun q => q.elim (fun z => h60 (Or.inl z)) (fun ⟨q, q1, q2⟩ => by
                  by_cases e : q = k
                  · subst e; exact h89 q2
                  · exact h60 (Or.inr ⟨q, by omega, q2⟩))))] at n2
              exact n2
            · refine r_iconst (v := nI 1) dX13_marks_92 (by decide) ?_
              refine r_goto (tgt := 97) dX13_marks_93 (by decide) ?_
              refine r_istore (lv' := [(5, .int (nI (1))), (0, .ref (m)), (1, .int (nI (a))), (2, .int (nI (setM Mk l u (recI g Mk l)))), (3, .int (nI (l))), (4, .int (nI (u))), (6, .int (nI (k)))]) dX13_marks_97 (by decide) rfl ?_
              refine r_iincN (k := 1) (lv' := [(6, .int (nI (k + 1))), (5, .int (nI (1))), (0, .ref (m)), (1, .int (nI (a))), (2, .int (nI (setM Mk l u (recI g Mk l)))), (3, .int (nI (l))), (4, .int (nI (u)))]) dX13_marks_99 (by decide) 6 rfl (by decide) rfl ?_
              refine r_goto (tgt := 42) dX13_marks_102 (by decide) ?_
              refine Wx.sub [2, 3, 4, 5, 6, 1, 0] rfl ?_
              have n2 := next_2 (by omega)
              rw [(bI_t (show isQ g a Mk l u (k + 1) from Or.inr ⟨k, by omega, h89⟩))] at n2
              exact n2
      · refine r_iconst (v := nI 1) dX13_marks_32 (by decide) ?_
        refine r_goto (tgt := 37) dX13_marks_33 (by decide) ?_
        refine r_istore (lv' := [(5, .int (nI (1))), (0, .ref (m)), (1, .int (nI (a))), (2, .int (nI (setM Mk l u (recI g Mk l)))), (3, .int (nI (l))), (4, .int (nI (u)))]) dX13_marks_37 (by decide) rfl ?_
        refine r_iconst (v := nI 0) dX13_marks_39 (by decide) ?_
        refine r_istore (lv' := [(6, .int (nI (0))), (5, .int (nI (1))), (0, .ref (m)), (1, .int (nI (a))), (2, .int (nI (setM Mk l u (recI g Mk l)))), (3, .int (nI (l))), (4, .int (nI (u)))]) dX13_marks_40 (by decide) rfl ?_
        refine Wx.sub [2, 3, 4, 5, 6, 1, 0] rfl ?_
        refine Wx.loc (lv' := [(0, .ref (m)), (1, .int (nI (a))), (2, .int (nI (setM Mk l u (recI g Mk l)))), (3, .int (nI (l))), (4, .int (nI (u))), (5, .int (bI (isQ g a Mk l u 0))), (6, .int (nI (0)))]) (by rw [bI_t (show isQ g a Mk l u 0 from Or.inl h29)] <;> rfl) ?_
        refine Wx.loop (fun k => rput T m (sg (mkV V g Mk l u) g) od) (fun k => [(0, .ref (m)), (1, .int (nI (a))), (2, .int (nI (setM Mk l u (recI g Mk l)))), (3, .int (nI (l))), (4, .int (nI (u))), (5, .int (bI (isQ g a Mk l u k))), (6, .int (nI (k)))]) (g (90 + 13 * l + 8)) (0) (Nat.zero_le _) (fun k hge_3 hle_3 next_3 => ?_)
        show Wx _ G (rput T m (sg (mkV V g Mk l u) g) od) 42 [(0, .ref (m)), (1, .int (nI (a))), (2, .int (nI (setM Mk l u (recI g Mk l)))), (3, .int (nI (l))), (4, .int (nI (u))), (5, .int (bI (isQ g a Mk l u k))), (6, .int (nI (k)))] [] _
        refine r_iload dX13_marks_42 6 rfl ?_
        refine r_aload_n dX13_marks_44 rfl 0 rfl ?_
        refine m_ref (k := 0) (j := 1) hs hs.2.1.1 dX13_marks_45 fr_X13_7 rfl ?_
        refine r_iload_n dX13_marks_48 rfl 3 rfl ?_
        refine r_bipush (v := nI 8) dX13_marks_49 (by decide) ?_
        refine r_fnS (M2 := m_X13_at) (As := [.int (nI (l)), .int (nI (8))]) (rest := [.ref (m + 1), .int (nI (k))]) (v := some (.int (nI (90 + 13 * l + 8)))) dX13_marks_51 cc_X13_marks_72 rfl rfl rfl (Nat.le_of_ble_eq_true rfl) f_at rfl ?_
        refine g_iald (i := 90 + 13 * l + 8) hs dX13_marks_54 (by (first | omega | (have := hw l (by omega); omega) | (have hq1 := hw l (by omega); have hq2 := hq1.2.2 k (by omega); have hq3 := hq2.2 u (by omega); have hq4 := hw _ (show g (90 + 13 * l + (10 + k)) < g 0 by omega); omega) | (have hq1 : setM Mk l u (recI g Mk l) < 2 ^ 24 := setM_lt (by omega) (recI_lt (by omega)); have hq2 : 2 ^ l ≤ 2 ^ 23 := Nat.pow_le_pow_right (by decide) (by omega); omega))) ?_
        refine r_icmp_geN (tgt := 105) dX13_marks_55 (by decide) (by (first | omega | (have := hw l (by omega); omega) | (have hq1 := hw l (by omega); have hq2 := hq1.2.2 k (by omega); have hq3 := hq2.2 u (by omega); have hq4 := hw _ (show g (90 + 13 * l + (10 + k)) < g 0 by omega); omega) | (have hq1 : setM Mk l u (recI g Mk l) < 2 ^ 24 := setM_lt (by omega) (recI_lt (by omega)); have hq2 : 2 ^ l ≤ 2 ^ 23 := Nat.pow_le_pow_right (by decide) (by omega); omega))) (by (first | omega | (have := hw l (by omega); omega) | (have hq1 := hw l (by omega); have hq2 := hq1.2.2 k (by omega); have hq3 := hq2.2 u (by omega); have hq4 := hw _ (show g (90 + 13 * l + (10 + k)) < g 0 by omega); omega) | (have hq1 : setM Mk l u (recI g Mk l) < 2 ^ 24 := setM_lt (by omega) (recI_lt (by omega)); have hq2 : 2 ^ l ≤ 2 ^ 23 := Nat.pow_le_pow_right (by decide) (by omega); omega))) (fun h55_1 => ?_) (fun h55_1 => ?_)
        · obtain rfl : k = g (90 + 13 * l + 8) := by omega
          have hMk := hmk l u (by omega) (by omega)
          refine r_aload_n dX13_marks_105 rfl 0 rfl ?_
          refine m_ref (k := 11) (j := 7) hs hs.2.1.2.2.2.2.2.2.1 dX13_marks_106 fr_X13_31 rfl ?_
          refine r_sipush (v := nI 200) dX13_marks_109 (by decide) ?_
          refine r_iload_n dX13_marks_112 rfl 3 rfl ?_
          refine r_imulN dX13_marks_113 ?_
          refine r_iload dX13_marks_114 4 rfl ?_
          refine r_iaddN dX13_marks_116 ?_
          refine r_iload dX13_marks_117 5 rfl ?_
          refine o_zast (j := 7) (n := 4800) (i := 200 * l + u) (by decide) hs rw7 dX13_marks_119 (by (first | omega | (have := hw l (by omega); omega) | (have hq1 := hw l (by omega); have hq2 := hq1.2.2 k (by omega); have hq3 := hq2.2 u (by omega); have hq4 := hw _ (show g (90 + 13 * l + (10 + k)) < g 0 by omega); omega) | (have hq1 : setM Mk l u (recI g Mk l) < 2 ^ 24 := setM_lt (by omega) (recI_lt (by omega)); have hq2 : 2 ^ l ≤ 2 ^ 23 := Nat.pow_le_pow_right (by decide) (by omega); omega))) (by decide) bI_vnar ?_
          refine Wx.st' (S' := rput T m (sg (mkV V g Mk l (u + 1)) g) od) (congrArg (fun V => rput T m (sg V g) od) (mkV_s (by omega) (hw l (by omega)).1 hMk)) ?_
          refine r_iload_n dX13_marks_120 rfl 2 rfl ?_
          refine r_iload dX13_marks_121 5 rfl ?_
          refine r_if_eqB (tgt := 132) dX13_marks_123 (by decide) (fun h123_1 => ?_) (fun h123_1 => ?_)
          · refine r_iconst (v := nI 0) dX13_marks_132 (by decide) ?_
            refine r_iorN dX13_marks_133 (by (first | omega | (have := hw l (by omega); omega) | (have hq1 := hw l (by omega); have hq2 := hq1.2.2 k (by omega); have hq3 := hq2.2 u (by omega); have hq4 := hw _ (show g (90 + 13 * l + (10 + k)) < g 0 by omega); omega) | (have hq1 : setM Mk l u (recI g Mk l) < 2 ^ 24 := setM_lt (by omega) (recI_lt (by omega)); have hq2 : 2 ^ l ≤ 2 ^ 23 := Nat.pow_le_pow_right (by decide) (by omega); omega))) (by (first | omega | (have := hw l (by omega); omega) | (have hq1 := hw l (by omega); have hq2 := hq1.2.2 k (by omega); have hq3 := hq2.2 u (by omega); have hq4 := hw _ (show g (90 + 13 * l + (10 + k)) < g 0 by omega); omega) | (have hq1 : setM Mk l u (recI g Mk l) < 2 ^ 24 := setM_lt (by omega) (recI_lt (by omega)); have hq2 : 2 ^ l ≤ 2 ^ 23 := Nat.pow_le_pow_right (by decide) (by omega); omega))) ?_
            refine r_istore_n (lv' := [(2, .int (nI ((setM Mk l u (recI g Mk l)) ||| 0))), (0, .ref (m)), (1, .int (nI (a))), (3, .int (nI (l))), (4, .int (nI (u))), (5, .int (bI (isQ g a Mk l u (g (90 + 13 * l + 8))))), (6, .int (nI (g (90 + 13 * l + 8))))]) dX13_marks_134 rfl (by decide) rfl ?_
            refine r_iincN (k := 1) (lv' := [(4, .int (nI (u + 1))), (2, .int (nI ((setM Mk l u (recI g Mk l)) ||| 0))), (0, .ref (m)), (1, .int (nI (a))), (3, .int (nI (l))), (5, .int (bI (isQ g a Mk l u (g (90 + 13 * l + 8))))), (6, .int (nI (g (90 + 13 * l + 8))))]) dX13_marks_135 (by decide) 4 rfl (by decide) rfl ?_
            refine r_goto (tgt := 17) dX13_marks_138 (by decide) ?_
            refine Wx.sub [2, 3, 1, 4, 0] rfl ?_
            have n2 := next_1 (by omega)
            rw [← setM_f (s := recI g Mk l) (fun q => h123_1 (hMk.mp q))] at n2
            exact n2
          · refine r_iconst (v := nI 1) dX13_marks_126 (by decide) ?_
            refine r_iload_n dX13_marks_127 rfl 3 rfl ?_
            refine r_ishlN dX13_marks_128 (by (first | omega | (have := hw l (by omega); omega) | (have hq1 := hw l (by omega); have hq2 := hq1.2.2 k (by omega); have hq3 := hq2.2 u (by omega); have hq4 := hw _ (show g (90 + 13 * l + (10 + k)) < g 0 by omega); omega) | (have hq1 : setM Mk l u (recI g Mk l) < 2 ^ 24 := setM_lt (by omega) (recI_lt (by omega)); have hq2 : 2 ^ l ≤ 2 ^ 23 := Nat.pow_le_pow_right (by decide) (by omega); omega))) (by (first | omega | (have := hw l (by omega); omega) | (have hq1 := hw l (by omega); have hq2 := hq1.2.2 k (by omega); have hq3 := hq2.2 u (by omega); have hq4 := hw _ (show g (90 + 13 * l + (10 + k)) < g 0 by omega); omega) | (have hq1 : setM Mk l u (recI g Mk l) < 2 ^ 24 := setM_lt (by omega) (recI_lt (by omega)); have hq2 : 2 ^ l ≤ 2 ^ 23 := Nat.pow_le_pow_right (by decide) (by omega); omega))) ?_
            refine r_goto (tgt := 133) dX13_marks_129 (by decide) ?_
            refine r_iorN dX13_marks_133 (by (first | omega | (have := hw l (by omega); omega) | (have hq1 := hw l (by omega); have hq2 := hq1.2.2 k (by omega); have hq3 := hq2.2 u (by omega); have hq4 := hw _ (show g (90 + 13 * l + (10 + k)) < g 0 by omega); omega) | (have hq1 : setM Mk l u (recI g Mk l) < 2 ^ 24 := setM_lt (by omega) (recI_lt (by omega)); have hq2 : 2 ^ l ≤ 2 ^ 23 := Nat.pow_le_pow_right (by decide) (by omega); omega))) (by (first | omega | (have := hw l (by omega); omega) | (have hq1 := hw l (by omega); have hq2 := hq1.2.2 k (by omega); have hq3 := hq2.2 u (by omega); have hq4 := hw _ (show g (90 + 13 * l + (10 + k)) < g 0 by omega); omega) | (have hq1 : setM Mk l u (recI g Mk l) < 2 ^ 24 := setM_lt (by omega) (recI_lt (by omega)); have hq2 : 2 ^ l ≤ 2 ^ 23 := Nat.pow_le_pow_right (by decide) (by omega); omega))) ?_
            refine r_istore_n (lv' := [(2, .int (nI ((setM Mk l u (recI g Mk l)) ||| (1 * 2 ^ l)))), (0, .ref (m)), (1, .int (nI (a))), (3, .int (nI (l))), (4, .int (nI (u))), (5, .int (bI (isQ g a Mk l u (g (90 + 13 * l + 8))))), (6, .int (nI (g (90 + 13 * l + 8))))]) dX13_marks_134 rfl (by decide) rfl ?_
            refine r_iincN (k := 1) (lv' := [(4, .int (nI (u + 1))), (2, .int (nI ((setM Mk l u (recI g Mk l)) ||| (1 * 2 ^ l)))), (0, .ref (m)), (1, .int (nI (a))), (3, .int (nI (l))), (5, .int (bI (isQ g a Mk l u (g (90 + 13 * l + 8))))), (6, .int (nI (g (90 + 13 * l + 8))))]) dX13_marks_135 (by decide) 4 rfl (by decide) rfl ?_
            refine r_goto (tgt := 17) dX13_marks_138 (by decide) ?_
            refine Wx.sub [2, 3, 1, 4, 0] rfl ?_
            have n2 := next_1 (by omega)
            rw [← setM_t (s := recI g Mk l) (hMk.mpr h123_1)] at n2
            exact n2
        · refine r_iload dX13_marks_58 5 rfl ?_
          refine r_if_neB (tgt := 92) dX13_marks_60 (by decide) (fun h60_1 => ?_) (fun h60_1 => ?_)
          · refine r_iconst (v := nI 1) dX13_marks_92 (by decide) ?_
            refine r_goto (tgt := 97) dX13_marks_93 (by decide) ?_
            refine r_istore (lv' := [(5, .int (nI (1))), (0, .ref (m)), (1, .int (nI (a))), (2, .int (nI (setM Mk l u (recI g Mk l)))), (3, .int (nI (l))), (4, .int (nI (u))), (6, .int (nI (k)))]) dX13_marks_97 (by decide) rfl ?_
            refine r_iincN (k := 1) (lv' := [(6, .int (nI (k + 1))), (5, .int (nI (1))), (0, .ref (m)), (1, .int (nI (a))), (2, .int (nI (setM Mk l u (recI g Mk l)))), (3, .int (nI (l))), (4, .int (nI (u)))]) dX13_marks_99 (by decide) 6 rfl (by decide) rfl ?_
            refine r_goto (tgt := 42) dX13_marks_102 (by decide) ?_
            refine Wx.sub [2, 3, 4, 5, 6, 1, 0] rfl ?_
            have n2 := next_3 (by omega)
            rw [(bI_t (show isQ g a Mk l u (k + 1) from h60_1.elim Or.inl (fun ⟨q, q1, q2⟩ => Or.inr ⟨q, by omega, q2⟩)))] at n2
            exact n2
          · refine r_aload_n dX13_marks_63 rfl 0 rfl ?_
            refine m_ref (k := 11) (j := 7) hs hs.2.1.2.2.2.2.2.2.1 dX13_marks_64 fr_X13_31 rfl ?_
            refine r_sipush (v := nI 200) dX13_marks_67 (by decide) ?_
            refine r_aload_n dX13_marks_70 rfl 0 rfl ?_
            refine r_iload_n dX13_marks_71 rfl 3 rfl ?_
            refine r_iload dX13_marks_72 6 rfl ?_
            refine r_fnV (M2 := m_X13_part) (As := [.int (nI (l)), .int (nI (k))]) (rest := [.int (nI (200)), .ref (m + 7)]) (v := some (.int (nI (g (90 + 13 * l + (10 + k)))))) dX13_marks_74 cc_X13_marks_203 rfl rfl rfl (Nat.le_of_ble_eq_true rfl) hs.1 rfl rfl (by decide) (g_part hs (by (first | omega | (have := hw l (by omega); omega) | (have hq1 := hw l (by omega); have hq2 := hq1.2.2 k (by omega); have hq3 := hq2.2 u (by omega); have hq4 := hw _ (show g (90 + 13 * l + (10 + k)) < g 0 by omega); omega) | (have hq1 : setM Mk l u (recI g Mk l) < 2 ^ 24 := setM_lt (by omega) (recI_lt (by omega)); have hq2 : 2 ^ l ≤ 2 ^ 23 := Nat.pow_le_pow_right (by decide) (by omega); omega))) (by (first | omega | (have := hw l (by omega); omega) | (have hq1 := hw l (by omega); have hq2 := hq1.2.2 k (by omega); have hq3 := hq2.2 u (by omega); have hq4 := hw _ (show g (90 + 13 * l + (10 + k)) < g 0 by omega); omega) | (have hq1 : setM Mk l u (recI g Mk l) < 2 ^ 24 := setM_lt (by omega) (recI_lt (by omega)); have hq2 : 2 ^ l ≤ 2 ^ 23 := Nat.pow_le_pow_right (by decide) (by omega); omega)))) rfl ?_
            refine r_imulN dX13_marks_77 ?_
            refine r_aload_n dX13_marks_78 rfl 0 rfl ?_
            refine r_iload_n dX13_marks_79 rfl 3 rfl ?_
            refine r_iload dX13_marks_80 4 rfl ?_
            refine r_iload dX13_marks_82 6 rfl ?_
            refine r_fnV (M2 := m_X13_partUnit) (As := [.int (nI (l)), .int (nI (u)), .int (nI (k))]) (rest := [.int (nI (200 * (g (90 + 13 * l + (10 + k))))), .ref (m + 7)]) (v := some (.int (nI (pW (g (402 + 2 * (200 * l + u) + 1)) k)))) dX13_marks_84 cc_X13_marks_206 rfl rfl rfl (Nat.le_of_ble_eq_true rfl) hs.1 rfl rfl (by decide) (g_partUnit hs hb (by (first | omega | (have := hw l (by omega); omega) | (have hq1 := hw l (by omega); have hq2 := hq1.2.2 k (by omega); have hq3 := hq2.2 u (by omega); have hq4 := hw _ (show g (90 + 13 * l + (10 + k)) < g 0 by omega); omega) | (have hq1 : setM Mk l u (recI g Mk l) < 2 ^ 24 := setM_lt (by omega) (recI_lt (by omega)); have hq2 : 2 ^ l ≤ 2 ^ 23 := Nat.pow_le_pow_right (by decide) (by omega); omega))) (by (first | omega | (have := hw l (by omega); omega) | (have hq1 := hw l (by omega); have hq2 := hq1.2.2 k (by omega); have hq3 := hq2.2 u (by omega); have hq4 := hw _ (show g (90 + 13 * l + (10 + k)) < g 0 by omega); omega) | (have hq1 : setM Mk l u (recI g Mk l) < 2 ^ 24 := setM_lt (by omega) (recI_lt (by omega)); have hq2 : 2 ^ l ≤ 2 ^ 23 := Nat.pow_le_pow_right (by decide) (by omega); omega))) (by (first | omega | (have := hw l (by omega); omega) | (have hq1 := hw l (by omega); have hq2 := hq1.2.2 k (by omega); have hq3 := hq2.2 u (by omega); have hq4 := hw _ (show g (90 + 13 * l + (10 + k)) < g 0 by omega); omega) | (have hq1 : setM Mk l u (recI g Mk l) < 2 ^ 24 := setM_lt (by omega) (recI_lt (by omega)); have hq2 : 2 ^ l ≤ 2 ^ 23 := Nat.pow_le_pow_right (by decide) (by omega); omega)))) rfl ?_
            refine r_iaddN dX13_marks_87 ?_
            have hq1 := hw l (by omega)
            have hq2 := hq1.2.2 k (by omega)
            have hq3 := hq2.2 u (by omega)
            have hq4 := hw _ (show g (90 + 13 * l + (10 + k)) < g 0 by omega)
            refine o_zald (j := 7) (n := 4800) (i := 200 * (g (90 + 13 * l + (10 + k))) + (pW (g (402 + 2 * (200 * l + u) + 1)) k)) (by decide) hs rw7 dX13_marks_88 (by (first | omega | (have := hw l (by omega); omega) | (have hq1 := hw l (by omega); have hq2 := hq1.2.2 k (by omega); have hq3 := hq2.2 u (by omega); have hq4 := hw _ (show g (90 + 13 * l + (10 + k)) < g 0 by omega); omega) | (have hq1 : setM Mk l u (recI g Mk l) < 2 ^ 24 := setM_lt (by omega) (recI_lt (by omega)); have hq2 : 2 ^ l ≤ 2 ^ 23 := Nat.pow_le_pow_right (by decide) (by omega); omega))) (by decide) ?_
            refine Wx.top (mkV_r hq2.1 hq3 (by omega)) ?_
            refine r_if_eqB (tgt := 96) dX13_marks_89 (by decide) (fun h89_1 => ?_) (fun h89_1 => ?_)
            · refine r_iconst (v := nI 0) dX13_marks_96 (by decide) ?_
              refine r_istore (lv' := [(5, .int (nI (0))), (0, .ref (m)), (1, .int (nI (a))), (2, .int (nI (setM Mk l u (recI g Mk l)))), (3, .int (nI (l))), (4, .int (nI (u))), (6, .int (nI (k)))]) dX13_marks_97 (by decide) rfl ?_
              refine r_iincN (k := 1) (lv' := [(6, .int (nI (k + 1))), (5, .int (nI (0))), (0, .ref (m)), (1, .int (nI (a))), (2, .int (nI (setM Mk l u (recI g Mk l)))), (3, .int (nI (l))), (4, .int (nI (u)))]) dX13_marks_99 (by decide) 6 rfl (by decide) rfl ?_
              refine r_goto (tgt := 42) dX13_marks_102 (by decide) ?_
              refine Wx.sub [2, 3, 4, 5, 6, 1, 0] rfl ?_
              have n2 := next_3 (by omega)
              rw [(bI_f (show ¬ isQ g a Mk l u (k + 1) from fun q => q.elim (fun z => h60_1 (Or.inl z)) (fun ⟨q, q1, q2⟩ => by
                  by_cases e : q = k
                  · subst e; exact h89_1 q2
                  · exact h60_1 (Or.inr ⟨q, by omega, q2⟩))))] at n2
              exact n2
            · refine r_iconst (v := nI 1) dX13_marks_92 (by decide) ?_
              refine r_goto (tgt := 97) dX13_marks_93 (by decide) ?_
              refine r_istore (lv' := [(5, .int (nI (1))), (0, .ref (m)), (1, .int (nI (a))), (2, .int (nI (setM Mk l u (recI g Mk l)))), (3, .int (nI (l))), (4, .int (nI (u))), (6, .int (nI (k)))]) dX13_marks_97 (by decide) rfl ?_
              refine r_iincN (k := 1) (lv' := [(6, .int (nI (k + 1))), (5, .int (nI (1))), (0, .ref (m)), (1, .int (nI (a))), (2, .int (nI (setM Mk l u (recI g Mk l)))), (3, .int (nI (l))), (4, .int (nI (u)))]) dX13_marks_99 (by decide) 6 rfl (by decide) rfl ?_
              refine r_goto (tgt := 42) dX13_marks_102 (by decide) ?_
              refine Wx.sub [2, 3, 4, 5, 6, 1, 0] rfl ?_
              have n2 := next_3 (by omega)
              rw [(bI_t (show isQ g a Mk l u (k + 1) from Or.inr ⟨k, by omega, h89_1⟩))] at n2
              exact n2
