def ptN (g : Nat → Nat) (l j : Nat) : Nat := g (90 + 13 * l + (10 + j))
/-- where a defect comes from: the first part that has it, until a unit whose own way is told -/
def Org (g : Nat → Nat) (k : Nat) : Nat → Nat → Nat → Nat → Nat → Prop
  | 0, l, u, l', u' => l < 24 ∧ u < 200 ∧ (¬ yW (g (402 + 2 * (200 * l + u))) k = 0) ∧ l = l' ∧ u = u'
  | n + 1, l, u, l', u' => l < 24 ∧ u < 200 ∧ yW (g (402 + 2 * (200 * l + u))) k = 0 ∧ ∃ i, i < 3 ∧ (∀ j, j ≤ i → g (90 + 13 * l + (10 + j)) < l ∧ pW (g (402 + 2 * (200 * l + u) + 1)) j < 200) ∧ (∀ j, j < i → bW (g (402 + 2 * (200 * g (90 + 13 * l + (10 + j)) + pW (g (402 + 2 * (200 * l + u) + 1)) j))) k = 0) ∧ (¬ bW (g (402 + 2 * (200 * g (90 + 13 * l + (10 + i)) + pW (g (402 + 2 * (200 * l + u) + 1)) i))) k = 0) ∧ Org g k n (g (90 + 13 * l + (10 + i))) (pW (g (402 + 2 * (200 * l + u) + 1)) i) l' u'
def cauV (g : Nat → Nat) (k l u : Nat) : Nat := if yW (g (402 + 2 * (200 * l + u))) k = 2 then 6 else g (90 + 13 * l + 9)
theorem Org.congr {g g' : Nat → Nat} {k L : Nat} (h : ∀ i, 90 ≤ i → i < 402 + 2 * (200 * L) → g' i = g i) (hL : L ≤ 24) : ∀ {n l u l' u' : Nat}, l ≤ L → (l = L → g' (402 + 2 * (200 * l + u)) = g (402 + 2 * (200 * l + u)) ∧ g' (402 + 2 * (200 * l + u) + 1) = g (402 + 2 * (200 * l + u) + 1) ∧ ∀ j, 90 + 13 * L ≤ j → j < 90 + 13 * L + 13 → g' j = g j) → Org g k n l u l' u' → Org g' k n l u l' u' ∧ cauV g' k l' u' = cauV g k l' u'
  | 0, l, u, l', u', hl9, hu9, o => by
    obtain ⟨hl, hu, h9, rfl, rfl⟩ := o
    have ew : g' (402 + 2 * (200 * l + u)) = g (402 + 2 * (200 * l + u)) := by
      by_cases e : l = L
      · exact (hu9 e).1
      · exact h _ (by omega) (by omega)
    have eh : g' (90 + 13 * l + 9) = g (90 + 13 * l + 9) := h _ (by omega) (by omega)
    exact ⟨⟨hl, hu, by rw [ew]; exact h9, rfl, rfl⟩, by unfold cauV; rw [ew, eh]⟩
  | n + 1, l, u, l', u', hl9, hu9, o => by
    obtain ⟨hl, hu, h9, i, hi, hj, h0, h1, r⟩ := o
    have e1 : ∀ j, j < 3 → g' (90 + 13 * l + (10 + j)) = g (90 + 13 * l + (10 + j)) := fun j q => h _ (by omega) (by omega)
    have ew : g' (402 + 2 * (200 * l + u)) = g (402 + 2 * (200 * l + u)) := by
      by_cases e : l = L
      · exact (hu9 e).1
      · exact h _ (by omega) (by omega)
    have e2 : g' (402 + 2 * (200 * l + u) + 1) = g (402 + 2 * (200 * l + u) + 1) := by
      by_cases e : l = L
      · exact (hu9 e).2.1
      · exact h _ (by omega) (by omega)
    have e3 : ∀ j, j ≤ i → g' (402 + 2 * (200 * g (90 + 13 * l + (10 + j)) + pW (g (402 + 2 * (200 * l + u) + 1)) j)) = g (402 + 2 * (200 * g (90 + 13 * l + (10 + j)) + pW (g (402 + 2 * (200 * l + u) + 1)) j)) := fun j q => by
      have := hj j q
      exact h _ (by omega) (by omega)
    have hji := hj i (Nat.le_refl i)
    have rr := Org.congr h hL (by omega) (fun q => absurd q (by omega)) r
    exact ⟨⟨hl, hu, by rw [ew]; exact h9, i, hi, fun j q => by rw [e1 j (by omega), e2]; exact hj j q, fun j q => by rw [e1 j (by omega), e2, e3 j (by omega)]; exact h0 j q, by rw [e1 i hi, e2, e3 i (Nat.le_refl i)]; exact h1, by rw [e1 i hi, e2]; exact rr.1⟩, rr.2⟩
set_option maxRecDepth 4000 in
theorem g_causeOf {G : GI} {T : Hp} {m : Nat} {V : RVal} {g : Nat → Nat} {od : Nat → UInt64} (hs : RS T m)  (hb : WB g) {l u l' u' k n : Nat} (hk : k < 4) (ho : Org g k n l u l' u') : Fx m_X13_causeOf G [.ref (m), .int (nI (l)), .int (nI (u)), .int (nI (k))] (rput T m (sg V g) od) (some (.int (nI (cauV g k l' u')))) (fun x y => rput T m (sg (l78 V x y) (g)) od) := by
  refine Cn.of rfl (by decide) (Nat.le_of_ble_eq_true rfl) (fun hN hM => ?_)
  show Wx _ G _ 0 [(0, .ref (m)), (1, .int (nI (l))), (2, .int (nI (u))), (3, .int (nI (k)))] [] _
  refine r_iload_n dX13_causeOf_0 rfl 1 rfl ?_
  refine r_istore (lv' := [(4, .int (nI (l))), (0, .ref (m)), (1, .int (nI (l))), (2, .int (nI (u))), (3, .int (nI (k)))]) dX13_causeOf_1 (by decide) rfl ?_
  refine r_iload_n dX13_causeOf_3 rfl 3 rfl ?_
  refine r_istore (lv' := [(5, .int (nI (u))), (4, .int (nI (l))), (0, .ref (m)), (1, .int (nI (l))), (2, .int (nI (u))), (3, .int (nI (k)))]) dX13_causeOf_4 (by decide) rfl ?_
  refine Wx.sub [2, 5, 1, 0] rfl ?_
  induction n generalizing l u with
  | zero =>
    obtain ⟨hl, hu, h, rfl, rfl⟩ := ho
    refine r_aload_n dX13_causeOf_6 rfl 0 rfl ?_
    refine r_iload dX13_causeOf_7 2 rfl ?_
    refine r_iload dX13_causeOf_9 3 rfl ?_
    refine r_iload_n dX13_causeOf_11 rfl 1 rfl ?_
    refine r_fnV (M2 := m_X13_way) (As := [.int (nI (l)), .int (nI (u)), .int (nI (k))]) (rest := []) (v := some (.int (nI (yW (g (402 + 2 * (200 * l + u))) k)))) dX13_causeOf_12 cc_X13_causeOf_200 rfl rfl rfl (Nat.le_of_ble_eq_true rfl) hs.1 rfl rfl (by decide) (g_way hs hb (by (first | omega | (have := yW_lt (g (402 + 2 * (200 * l + u))) k; omega))) (by (first | omega | (have := yW_lt (g (402 + 2 * (200 * l + u))) k; omega))) (by (first | omega | (have := yW_lt (g (402 + 2 * (200 * l + u))) k; omega)))) rfl ?_
    refine r_if_neN (tgt := 85) dX13_causeOf_15 (by decide) (by (first | omega | (have := yW_lt (g (402 + 2 * (200 * l + u))) k; omega))) (fun h15 => ?_) (fun h15 => ?_)
    · refine r_aload_n dX13_causeOf_85 rfl 0 rfl ?_
      refine r_iload dX13_causeOf_86 2 rfl ?_
      refine o_put (k := 7) hs dX13_causeOf_88 fw_X13_causeOf_209 rfl rfl rfl ?_
      refine r_aload_n dX13_causeOf_91 rfl 0 rfl ?_
      refine r_iload dX13_causeOf_92 3 rfl ?_
      refine o_put (k := 8) hs dX13_causeOf_94 fw_X13_causeOf_212 rfl rfl rfl ?_
      refine r_aload_n dX13_causeOf_97 rfl 0 rfl ?_
      refine r_iload dX13_causeOf_98 2 rfl ?_
      refine r_iload dX13_causeOf_100 3 rfl ?_
      refine r_iload_n dX13_causeOf_102 rfl 1 rfl ?_
      refine r_fnV (M2 := m_X13_way) (As := [.int (nI (l)), .int (nI (u)), .int (nI (k))]) (rest := []) (v := some (.int (nI (yW (g (402 + 2 * (200 * l + u))) k)))) dX13_causeOf_103 cc_X13_causeOf_200 rfl rfl rfl (Nat.le_of_ble_eq_true rfl) hs.1 rfl rfl (by decide) (g_way hs hb (by (first | omega | (have := yW_lt (g (402 + 2 * (200 * l + u))) k; omega))) (by (first | omega | (have := yW_lt (g (402 + 2 * (200 * l + u))) k; omega))) (by (first | omega | (have := yW_lt (g (402 + 2 * (200 * l + u))) k; omega)))) rfl ?_
      refine r_iconst (v := nI 2) dX13_causeOf_106 (by decide) ?_
      refine r_icmp_neN (tgt := 115) dX13_causeOf_107 (by decide) (by (first | omega | (have := yW_lt (g (402 + 2 * (200 * l + u))) k; omega))) (by (first | omega | (have := yW_lt (g (402 + 2 * (200 * l + u))) k; omega))) (fun h107 => ?_) (fun h107 => ?_)
      · refine r_aload_n dX13_causeOf_115 rfl 0 rfl ?_
        refine m_ref (k := 0) (j := 1) hs hs.2.1.1 dX13_causeOf_116 fr_X13_7 rfl ?_
        refine r_iload dX13_causeOf_119 2 rfl ?_
        refine r_bipush (v := nI 9) dX13_causeOf_121 (by decide) ?_
        refine r_fnS (M2 := m_X13_at) (As := [.int (nI (l)), .int (nI (9))]) (rest := [.ref (m + 1)]) (v := some (.int (nI (90 + 13 * l + 9)))) dX13_causeOf_123 cc_X13_causeOf_72 rfl rfl rfl (Nat.le_of_ble_eq_true rfl) f_at rfl ?_
        refine g_iald (i := 90 + 13 * l + 9) hs dX13_causeOf_126 (by (first | omega | (have := yW_lt (g (402 + 2 * (200 * l + u))) k; omega))) ?_
        exact r_iret (ty := .int) dX13_causeOf_127 rfl rfl ⟨congrArg (fun x => Sum.inl (some (Value.int (nI x)))) (show g (90 + 13 * l + 9) = cauV g k l u from (if_neg h107).symm), nI l, nI u, rfl⟩
      · refine r_bipush (v := nI 6) dX13_causeOf_110 (by decide) ?_
        refine r_goto (tgt := 127) dX13_causeOf_112 (by decide) ?_
        exact r_iret (ty := .int) dX13_causeOf_127 rfl rfl ⟨congrArg (fun x => Sum.inl (some (Value.int (nI x)))) (show 6 = cauV g k l u from (if_pos h107).symm), nI l, nI u, rfl⟩
    · exact absurd h15 h
  | succ n ih =>
    obtain ⟨hl, hu, h, i, hi, hj, h0, h1, r⟩ := ho
    refine r_aload_n dX13_causeOf_6 rfl 0 rfl ?_
    refine r_iload dX13_causeOf_7 2 rfl ?_
    refine r_iload dX13_causeOf_9 3 rfl ?_
    refine r_iload_n dX13_causeOf_11 rfl 1 rfl ?_
    refine r_fnV (M2 := m_X13_way) (As := [.int (nI (l)), .int (nI (u)), .int (nI (k))]) (rest := []) (v := some (.int (nI (yW (g (402 + 2 * (200 * l + u))) k)))) dX13_causeOf_12 cc_X13_causeOf_200 rfl rfl rfl (Nat.le_of_ble_eq_true rfl) hs.1 rfl rfl (by decide) (g_way hs hb (by (first | omega | (have := hj q hle; have := hb (402 + 2 * (200 * g (90 + 13 * l + (10 + q)) + pW (g (402 + 2 * (200 * l + u) + 1)) q)) (by omega); have := Nat.div_le_self (g (402 + 2 * (200 * g (90 + 13 * l + (10 + q)) + pW (g (402 + 2 * (200 * l + u) + 1)) q)) % 16) (2 ^ k); omega))) (by (first | omega | (have := hj q hle; have := hb (402 + 2 * (200 * g (90 + 13 * l + (10 + q)) + pW (g (402 + 2 * (200 * l + u) + 1)) q)) (by omega); have := Nat.div_le_self (g (402 + 2 * (200 * g (90 + 13 * l + (10 + q)) + pW (g (402 + 2 * (200 * l + u) + 1)) q)) % 16) (2 ^ k); omega))) (by (first | omega | (have := hj q hle; have := hb (402 + 2 * (200 * g (90 + 13 * l + (10 + q)) + pW (g (402 + 2 * (200 * l + u) + 1)) q)) (by omega); have := Nat.div_le_self (g (402 + 2 * (200 * g (90 + 13 * l + (10 + q)) + pW (g (402 + 2 * (200 * l + u) + 1)) q)) % 16) (2 ^ k); omega)))) rfl ?_
    refine r_if_neN (tgt := 85) dX13_causeOf_15 (by decide) (by (first | omega | (have := hj q hle; have := hb (402 + 2 * (200 * g (90 + 13 * l + (10 + q)) + pW (g (402 + 2 * (200 * l + u) + 1)) q)) (by omega); have := Nat.div_le_self (g (402 + 2 * (200 * g (90 + 13 * l + (10 + q)) + pW (g (402 + 2 * (200 * l + u) + 1)) q)) % 16) (2 ^ k); omega))) (fun h15_1 => ?_) (fun h15_1 => ?_)
    · exact absurd h h15_1
    · refine r_iconst (v := nI 0) dX13_causeOf_18 (by decide) ?_
      refine r_istore (lv' := [(6, .int (nI (0))), (0, .ref (m)), (3, .int (nI (k))), (4, .int (nI (l))), (5, .int (nI (u)))]) dX13_causeOf_19 (by decide) rfl ?_
      refine Wx.sub [1, 2, 3, 4, 0] rfl ?_
      refine Wx.loop (fun q => (rput T m (sg V g) od)) (fun q => [(0, .ref (m)), (3, .int (nI (k))), (4, .int (nI (l))), (5, .int (nI (u))), (6, .int (nI (q)))]) (i) (0) (Nat.zero_le _) (fun q hge hle next => ?_)
      show Wx _ G ((rput T m (sg V g) od)) 21 [(0, .ref (m)), (3, .int (nI (k))), (4, .int (nI (l))), (5, .int (nI (u))), (6, .int (nI (q)))] [] _
      refine r_aload_n dX13_causeOf_21 rfl 0 rfl ?_
      refine r_aload_n dX13_causeOf_22 rfl 0 rfl ?_
      refine r_iload dX13_causeOf_23 2 rfl ?_
      refine r_iload dX13_causeOf_25 4 rfl ?_
      refine r_fnV (M2 := m_X13_part) (As := [.int (nI (l)), .int (nI (q))]) (rest := [.ref (m)]) (v := some (.int (nI (g (90 + 13 * l + (10 + q)))))) dX13_causeOf_27 cc_X13_causeOf_203 rfl rfl rfl (Nat.le_of_ble_eq_true rfl) hs.1 rfl rfl (by decide) (g_part hs (by (first | omega | (have := hj q hle; have := hb (402 + 2 * (200 * g (90 + 13 * l + (10 + q)) + pW (g (402 + 2 * (200 * l + u) + 1)) q)) (by omega); have := Nat.div_le_self (g (402 + 2 * (200 * g (90 + 13 * l + (10 + q)) + pW (g (402 + 2 * (200 * l + u) + 1)) q)) % 16) (2 ^ k); omega))) (by (first | omega | (have := hj q hle; have := hb (402 + 2 * (200 * g (90 + 13 * l + (10 + q)) + pW (g (402 + 2 * (200 * l + u) + 1)) q)) (by omega); have := Nat.div_le_self (g (402 + 2 * (200 * g (90 + 13 * l + (10 + q)) + pW (g (402 + 2 * (200 * l + u) + 1)) q)) % 16) (2 ^ k); omega)))) rfl ?_
      refine r_aload_n dX13_causeOf_30 rfl 0 rfl ?_
      refine r_iload dX13_causeOf_31 2 rfl ?_
      refine r_iload dX13_causeOf_33 3 rfl ?_
      refine r_iload dX13_causeOf_35 4 rfl ?_
      refine r_fnV (M2 := m_X13_partUnit) (As := [.int (nI (l)), .int (nI (u)), .int (nI (q))]) (rest := [.int (nI (g (90 + 13 * l + (10 + q)))), .ref (m)]) (v := some (.int (nI (pW (g (402 + 2 * (200 * l + u) + 1)) q)))) dX13_causeOf_37 cc_X13_causeOf_206 rfl rfl rfl (Nat.le_of_ble_eq_true rfl) hs.1 rfl rfl (by decide) (g_partUnit hs hb (by (first | omega | (have := hj q hle; have := hb (402 + 2 * (200 * g (90 + 13 * l + (10 + q)) + pW (g (402 + 2 * (200 * l + u) + 1)) q)) (by omega); have := Nat.div_le_self (g (402 + 2 * (200 * g (90 + 13 * l + (10 + q)) + pW (g (402 + 2 * (200 * l + u) + 1)) q)) % 16) (2 ^ k); omega))) (by (first | omega | (have := hj q hle; have := hb (402 + 2 * (200 * g (90 + 13 * l + (10 + q)) + pW (g (402 + 2 * (200 * l + u) + 1)) q)) (by omega); have := Nat.div_le_self (g (402 + 2 * (200 * g (90 + 13 * l + (10 + q)) + pW (g (402 + 2 * (200 * l + u) + 1)) q)) % 16) (2 ^ k); omega))) (by (first | omega | (have := hj q hle; have := hb (402 + 2 * (200 * g (90 + 13 * l + (10 + q)) + pW (g (402 + 2 * (200 * l + u) + 1)) q)) (by omega); have := Nat.div_le_self (g (402 + 2 * (200 * g (90 + 13 * l + (10 + q)) + pW (g (402 + 2 * (200 * l + u) + 1)) q)) % 16) (2 ^ k); omega)))) rfl ?_
      refine r_fnV (M2 := m_X13_defects) (As := [.int (nI (g (90 + 13 * l + (10 + q)))), .int (nI (pW (g (402 + 2 * (200 * l + u) + 1)) q))]) (rest := []) (v := some (.int (nI ((g (402 + 2 * (200 * (g (90 + 13 * l + (10 + q))) + (pW (g (402 + 2 * (200 * l + u) + 1)) q)))) % 16)))) dX13_causeOf_40 cc_X13_causeOf_87 rfl rfl rfl (Nat.le_of_ble_eq_true rfl) hs.1 rfl rfl (by decide) (g_defects hs hb (by (first | omega | (have := hj q hle; have := hb (402 + 2 * (200 * g (90 + 13 * l + (10 + q)) + pW (g (402 + 2 * (200 * l + u) + 1)) q)) (by omega); have := Nat.div_le_self (g (402 + 2 * (200 * g (90 + 13 * l + (10 + q)) + pW (g (402 + 2 * (200 * l + u) + 1)) q)) % 16) (2 ^ k); omega))) (by (first | omega | (have := hj q hle; have := hb (402 + 2 * (200 * g (90 + 13 * l + (10 + q)) + pW (g (402 + 2 * (200 * l + u) + 1)) q)) (by omega); have := Nat.div_le_self (g (402 + 2 * (200 * g (90 + 13 * l + (10 + q)) + pW (g (402 + 2 * (200 * l + u) + 1)) q)) % 16) (2 ^ k); omega)))) rfl ?_
      refine r_iload_n dX13_causeOf_43 rfl 1 rfl ?_
      refine r_ishrN dX13_causeOf_44 (by (first | omega | (have := hj q hle; have := hb (402 + 2 * (200 * g (90 + 13 * l + (10 + q)) + pW (g (402 + 2 * (200 * l + u) + 1)) q)) (by omega); have := Nat.div_le_self (g (402 + 2 * (200 * g (90 + 13 * l + (10 + q)) + pW (g (402 + 2 * (200 * l + u) + 1)) q)) % 16) (2 ^ k); omega))) (by (first | omega | (have := hj q hle; have := hb (402 + 2 * (200 * g (90 + 13 * l + (10 + q)) + pW (g (402 + 2 * (200 * l + u) + 1)) q)) (by omega); have := Nat.div_le_self (g (402 + 2 * (200 * g (90 + 13 * l + (10 + q)) + pW (g (402 + 2 * (200 * l + u) + 1)) q)) % 16) (2 ^ k); omega))) ?_
      refine r_iconst (v := nI 1) dX13_causeOf_45 (by decide) ?_
      refine r_iandM (k := 1) (c := 2) rfl rfl dX13_causeOf_46 (by decide) ?_
      refine r_if_neN (tgt := 56) dX13_causeOf_47 (by decide) (by (first | omega | (have := hj q hle; have := hb (402 + 2 * (200 * g (90 + 13 * l + (10 + q)) + pW (g (402 + 2 * (200 * l + u) + 1)) q)) (by omega); have := Nat.div_le_self (g (402 + 2 * (200 * g (90 + 13 * l + (10 + q)) + pW (g (402 + 2 * (200 * l + u) + 1)) q)) % 16) (2 ^ k); omega))) (fun h47 => ?_) (fun h47 => ?_)
      · obtain rfl : q = i := Nat.le_antisymm hle (Nat.le_of_not_lt fun hq => h47 (h0 q hq))
        refine r_aload_n dX13_causeOf_56 rfl 0 rfl ?_
        refine r_iload dX13_causeOf_57 2 rfl ?_
        refine r_iload dX13_causeOf_59 3 rfl ?_
        refine r_iload dX13_causeOf_61 4 rfl ?_
        refine r_fnV (M2 := m_X13_partUnit) (As := [.int (nI (l)), .int (nI (u)), .int (nI (q))]) (rest := []) (v := some (.int (nI (pW (g (402 + 2 * (200 * l + u) + 1)) q)))) dX13_causeOf_63 cc_X13_causeOf_206 rfl rfl rfl (Nat.le_of_ble_eq_true rfl) hs.1 rfl rfl (by decide) (g_partUnit hs hb (by (first | omega | (have := hj q hle; have := hb (402 + 2 * (200 * g (90 + 13 * l + (10 + q)) + pW (g (402 + 2 * (200 * l + u) + 1)) q)) (by omega); have := Nat.div_le_self (g (402 + 2 * (200 * g (90 + 13 * l + (10 + q)) + pW (g (402 + 2 * (200 * l + u) + 1)) q)) % 16) (2 ^ k); omega))) (by (first | omega | (have := hj q hle; have := hb (402 + 2 * (200 * g (90 + 13 * l + (10 + q)) + pW (g (402 + 2 * (200 * l + u) + 1)) q)) (by omega); have := Nat.div_le_self (g (402 + 2 * (200 * g (90 + 13 * l + (10 + q)) + pW (g (402 + 2 * (200 * l + u) + 1)) q)) % 16) (2 ^ k); omega))) (by (first | omega | (have := hj q hle; have := hb (402 + 2 * (200 * g (90 + 13 * l + (10 + q)) + pW (g (402 + 2 * (200 * l + u) + 1)) q)) (by omega); have := Nat.div_le_self (g (402 + 2 * (200 * g (90 + 13 * l + (10 + q)) + pW (g (402 + 2 * (200 * l + u) + 1)) q)) % 16) (2 ^ k); omega)))) rfl ?_
        refine r_istore (lv' := [(7, .int (nI (pW (g (402 + 2 * (200 * l + u) + 1)) q))), (0, .ref (m)), (3, .int (nI (k))), (4, .int (nI (l))), (5, .int (nI (u))), (6, .int (nI (q)))]) dX13_causeOf_66 (by decide) rfl ?_
        refine r_aload_n dX13_causeOf_68 rfl 1 rfl ?_
        refine r_iload dX13_causeOf_69 3 rfl ?_
        refine r_iload dX13_causeOf_71 5 rfl ?_
        refine r_fnV (M2 := m_X13_part) (As := [.int (nI (l)), .int (nI (q))]) (rest := []) (v := some (.int (nI (g (90 + 13 * l + (10 + q)))))) dX13_causeOf_73 cc_X13_causeOf_203 rfl rfl rfl (Nat.le_of_ble_eq_true rfl) hs.1 rfl rfl (by decide) (g_part hs (by (first | omega | (have := hj q hle; have := hb (402 + 2 * (200 * g (90 + 13 * l + (10 + q)) + pW (g (402 + 2 * (200 * l + u) + 1)) q)) (by omega); have := Nat.div_le_self (g (402 + 2 * (200 * g (90 + 13 * l + (10 + q)) + pW (g (402 + 2 * (200 * l + u) + 1)) q)) % 16) (2 ^ k); omega))) (by (first | omega | (have := hj q hle; have := hb (402 + 2 * (200 * g (90 + 13 * l + (10 + q)) + pW (g (402 + 2 * (200 * l + u) + 1)) q)) (by omega); have := Nat.div_le_self (g (402 + 2 * (200 * g (90 + 13 * l + (10 + q)) + pW (g (402 + 2 * (200 * l + u) + 1)) q)) % 16) (2 ^ k); omega)))) rfl ?_
        refine r_istore (lv' := [(4, .int (nI (g (90 + 13 * l + (10 + q))))), (7, .int (nI (pW (g (402 + 2 * (200 * l + u) + 1)) q))), (0, .ref (m)), (3, .int (nI (k))), (5, .int (nI (u))), (6, .int (nI (q)))]) dX13_causeOf_76 (by decide) rfl ?_
        refine r_iload dX13_causeOf_78 1 rfl ?_
        refine r_istore (lv' := [(5, .int (nI (pW (g (402 + 2 * (200 * l + u) + 1)) q))), (4, .int (nI (g (90 + 13 * l + (10 + q))))), (7, .int (nI (pW (g (402 + 2 * (200 * l + u) + 1)) q))), (0, .ref (m)), (3, .int (nI (k))), (6, .int (nI (q)))]) dX13_causeOf_80 (by decide) rfl ?_
        refine r_goto (tgt := 6) dX13_causeOf_82 (by decide) ?_
        refine Wx.sub [3, 4, 1, 0] rfl ?_
        exact ih r
      · refine r_iincN (k := 1) (lv' := [(6, .int (nI (q + 1))), (0, .ref (m)), (3, .int (nI (k))), (4, .int (nI (l))), (5, .int (nI (u)))]) dX13_causeOf_50 (by decide) 4 rfl (by decide) rfl ?_
        refine r_goto (tgt := 21) dX13_causeOf_53 (by decide) ?_
        refine Wx.sub [1, 2, 3, 4, 0] rfl ?_
        exact next (by have : q ≠ i := fun e => h1 (by rw [← e]; exact h47); omega)
theorem Org.lt0 {g : Nat → Nat} {k : Nat} : ∀ {n l u l' u' : Nat}, Org g k n l u l' u' → l < 24
  | 0, _, _, _, _, o => o.1
  | _ + 1, _, _, _, _, o => o.1
theorem cauV_le {g : Nat → Nat} {k l u : Nat} (h : g (90 + 13 * l + 9) ≤ 6) : cauV g k l u ≤ 6 := by
  unfold cauV
  split
  · exact Nat.le_refl 6
  · exact h
theorem Fx.eqv {M : MI} {G : GI} {av : List Value} {S : Hp} {v v' : Option Value} {Sf : Int32 → Int32 → Hp} (h : Fx M G av S v Sf) (e : v = v') : Fx M G av S v' Sf := e ▸ h
def blmI (g c : Nat → Nat) (l u ks : Nat) : Nat → Nat → Nat
  | 0 => g
  | q + 1 => if (g (402 + 2 * (200 * l + u)) % 16 &&& ks) / 2 ^ q % 2 = 1 then up1 (blmI g c l u ks q) (62 + 4 * c q + q) (blmI g c l u ks q (62 + 4 * c q + q) + 1) else blmI g c l u ks q
theorem blmI_t {g c : Nat → Nat} {l u ks q : Nat} (h : (g (402 + 2 * (200 * l + u)) % 16 &&& ks) / 2 ^ q % 2 = 1) : blmI g c l u ks (q + 1) = up1 (blmI g c l u ks q) (62 + 4 * c q + q) (blmI g c l u ks q (62 + 4 * c q + q) + 1) := if_pos h
theorem blmI_f {g c : Nat → Nat} {l u ks q : Nat} (h : ¬ (g (402 + 2 * (200 * l + u)) % 16 &&& ks) / 2 ^ q % 2 = 1) : blmI g c l u ks (q + 1) = blmI g c l u ks q := if_neg h
def blmG (g c : Nat → Nat) (l u ks : Nat) : Nat → Nat := blmI g c l u ks 4
theorem blmI_n {g c : Nat → Nat} {l u ks i : Nat} (hc6 : ∀ q, c q ≤ 6) (h : i < 62 ∨ 90 ≤ i) : ∀ {q : Nat}, q ≤ 4 → blmI g c l u ks q i = g i
  | 0, _ => rfl
  | q + 1, hq => by
    have := hc6 q
    by_cases hb : (g (402 + 2 * (200 * l + u)) % 16 &&& ks) / 2 ^ q % 2 = 1
    · rw [blmI_t hb, up1_n (by omega)]; exact blmI_n hc6 h (by omega)
    · rw [blmI_f hb]; exact blmI_n hc6 h (by omega)
theorem blmG_n {g c : Nat → Nat} {l u ks i : Nat} (hc6 : ∀ q, c q ≤ 6) (h : i < 62 ∨ 90 ≤ i) : blmG g c l u ks i = g i := blmI_n hc6 h (Nat.le_refl 4)
theorem WB.blmI {g c : Nat → Nat} {l u ks : Nat} (hc6 : ∀ q, c q ≤ 6) (hb : WB g) {q : Nat} (hq : q ≤ 4) : WB (blmI g c l u ks q) := fun i hi => by rw [blmI_n hc6 (by omega) hq]; exact hb i hi
theorem WB.blm {g c : Nat → Nat} {l u ks : Nat} (hc6 : ∀ q, c q ≤ 6) (hb : WB g) : WB (blmG g c l u ks) := WB.blmI hc6 hb (Nat.le_refl 4)
/-- c tells the causes of a unit's defects -/
def CauC (g : Nat → Nat) (l u ks : Nat) (c : Nat → Nat) : Prop := (∀ q, c q ≤ 6) ∧ ∀ q, q < 4 → (g (402 + 2 * (200 * l + u)) % 16 &&& ks) / 2 ^ q % 2 = 1 → ∃ n l' u', Org g q n l u l' u' ∧ c q = cauV g q l' u'
set_option maxRecDepth 4000 in
theorem g_blames {G : GI} {T : Hp} {m : Nat} {V : RVal} {g : Nat → Nat} {od : Nat → UInt64} (hs : RS T m)  (hb : WB g) {l u ks : Nat} {c : Nat → Nat} (hl : l < 24) (hu : u < 200) (hk : ks < 16) (hcc : CauC g l u ks c) : Fx m_X13_blames G [.ref (m), .int (nI (l)), .int (nI (u)), .int (nI (ks))] (rput T m (sg V g) od) none (fun x y => rput T m (sg (l78 V x y) (blmG g c l u ks)) od) := by
  refine Cn.of rfl (by decide) (Nat.le_of_ble_eq_true rfl) (fun hN hM => ?_)
  show Wx _ G _ 0 [(0, .ref (m)), (1, .int (nI (l))), (2, .int (nI (u))), (3, .int (nI (ks)))] [] _
  obtain ⟨hc6, hc⟩ := hcc
  refine r_iconst (v := nI 0) dX13_blames_0 (by decide) ?_
  refine r_istore (lv' := [(4, .int (nI (0))), (0, .ref (m)), (1, .int (nI (l))), (2, .int (nI (u))), (3, .int (nI (ks)))]) dX13_blames_1 (by decide) rfl ?_
  refine Wx.sub [1, 2, 3, 4, 0] rfl ?_
  refine Wx.loopR (fun q S lv => ∃ x y, S = rput T m (sg (l78 V x y) (blmI g c l u ks q)) od ∧ lv = [(0, .ref (m)), (1, .int (nI (l))), (2, .int (nI (u))), (3, .int (nI (ks))), (4, .int (nI (q)))]) (4) (0) (Nat.zero_le _) ⟨(V 0 7), (V 0 8), congrArg (fun V => rput T m (sg V _) od) l78_self.symm, rfl⟩ (fun q S lv hge hle hI9 next => ?_)
  obtain ⟨x, y, rfl, rfl⟩ := hI9
  have hwb := WB.blmI (l := l) (u := u) (ks := ks) hc6 hb hle
  have hI2 : ∀ i, 90 ≤ i → blmI g c l u ks q i = g i := fun i hi => blmI_n hc6 (Or.inr hi) hle
  refine r_iload dX13_blames_3 4 rfl ?_
  refine r_iconst (v := nI 4) dX13_blames_5 (by decide) ?_
  refine r_icmp_geN (tgt := 57) dX13_blames_6 (by decide) (by (first | omega | (have := hc6 q; have : g (402 + 2 * (200 * l + u)) % 16 &&& ks ≤ g (402 + 2 * (200 * l + u)) % 16 := Nat.and_le_left; have := Nat.div_le_self (g (402 + 2 * (200 * l + u)) % 16 &&& ks) (2 ^ q); omega))) (by (first | omega | (have := hc6 q; have : g (402 + 2 * (200 * l + u)) % 16 &&& ks ≤ g (402 + 2 * (200 * l + u)) % 16 := Nat.and_le_left; have := Nat.div_le_self (g (402 + 2 * (200 * l + u)) % 16 &&& ks) (2 ^ q); omega))) (fun h6 => ?_) (fun h6 => ?_)
  · obtain rfl : q = 4 := by omega
    exact r_vret dX13_blames_57 rfl ⟨rfl, x, y, rfl⟩
  · refine r_aload_n dX13_blames_9 rfl 0 rfl ?_
    refine r_iload_n dX13_blames_10 rfl 1 rfl ?_
    refine r_iload_n dX13_blames_11 rfl 2 rfl ?_
    refine r_fnV (M2 := m_X13_defects) (As := [.int (nI (l)), .int (nI (u))]) (rest := []) (v := some (.int (nI (((blmI g c l u ks q) (402 + 2 * (200 * l + u))) % 16)))) dX13_blames_12 cc_X13_blames_87 rfl rfl rfl (Nat.le_of_ble_eq_true rfl) hs.1 rfl rfl (by decide) (g_defects hs hwb (by (first | omega | (have := hc6 q; have : g (402 + 2 * (200 * l + u)) % 16 &&& ks ≤ g (402 + 2 * (200 * l + u)) % 16 := Nat.and_le_left; have := Nat.div_le_self (g (402 + 2 * (200 * l + u)) % 16 &&& ks) (2 ^ q); omega))) (by (first | omega | (have := hc6 q; have : g (402 + 2 * (200 * l + u)) % 16 &&& ks ≤ g (402 + 2 * (200 * l + u)) % 16 := Nat.and_le_left; have := Nat.div_le_self (g (402 + 2 * (200 * l + u)) % 16 &&& ks) (2 ^ q); omega)))) rfl ?_
    refine Wx.topN (congrArg (fun x => x % 16) ((fun h => blmI_n hc6 h hle) (by (first | omega | (have := hc6 q; have : g (402 + 2 * (200 * l + u)) % 16 &&& ks ≤ g (402 + 2 * (200 * l + u)) % 16 := Nat.and_le_left; have := Nat.div_le_self (g (402 + 2 * (200 * l + u)) % 16 &&& ks) (2 ^ q); omega))))) ?_
    refine r_iload_n dX13_blames_15 rfl 3 rfl ?_
    refine r_iandN dX13_blames_16 (by (first | omega | (have := hc6 q; have : g (402 + 2 * (200 * l + u)) % 16 &&& ks ≤ g (402 + 2 * (200 * l + u)) % 16 := Nat.and_le_left; have := Nat.div_le_self (g (402 + 2 * (200 * l + u)) % 16 &&& ks) (2 ^ q); omega))) (by (first | omega | (have := hc6 q; have : g (402 + 2 * (200 * l + u)) % 16 &&& ks ≤ g (402 + 2 * (200 * l + u)) % 16 := Nat.and_le_left; have := Nat.div_le_self (g (402 + 2 * (200 * l + u)) % 16 &&& ks) (2 ^ q); omega))) ?_
    refine r_iload dX13_blames_17 4 rfl ?_
    refine r_ishrN dX13_blames_19 (by (first | omega | (have := hc6 q; have : g (402 + 2 * (200 * l + u)) % 16 &&& ks ≤ g (402 + 2 * (200 * l + u)) % 16 := Nat.and_le_left; have := Nat.div_le_self (g (402 + 2 * (200 * l + u)) % 16 &&& ks) (2 ^ q); omega))) (by (first | omega | (have := hc6 q; have : g (402 + 2 * (200 * l + u)) % 16 &&& ks ≤ g (402 + 2 * (200 * l + u)) % 16 := Nat.and_le_left; have := Nat.div_le_self (g (402 + 2 * (200 * l + u)) % 16 &&& ks) (2 ^ q); omega))) ?_
    refine r_iconst (v := nI 1) dX13_blames_20 (by decide) ?_
    refine r_iandM (k := 1) (c := 2) rfl rfl dX13_blames_21 (by decide) ?_
    refine r_iconst (v := nI 1) dX13_blames_22 (by decide) ?_
    refine r_icmp_neN (tgt := 51) dX13_blames_23 (by decide) (by (first | omega | (have := hc6 q; have : g (402 + 2 * (200 * l + u)) % 16 &&& ks ≤ g (402 + 2 * (200 * l + u)) % 16 := Nat.and_le_left; have := Nat.div_le_self (g (402 + 2 * (200 * l + u)) % 16 &&& ks) (2 ^ q); omega))) (by (first | omega | (have := hc6 q; have : g (402 + 2 * (200 * l + u)) % 16 &&& ks ≤ g (402 + 2 * (200 * l + u)) % 16 := Nat.and_le_left; have := Nat.div_le_self (g (402 + 2 * (200 * l + u)) % 16 &&& ks) (2 ^ q); omega))) (fun h23 => ?_) (fun h23 => ?_)
    · refine r_iincN (k := 1) (lv' := [(4, .int (nI (q + 1))), (0, .ref (m)), (1, .int (nI (l))), (2, .int (nI (u))), (3, .int (nI (ks)))]) dX13_blames_51 (by decide) 4 rfl (by decide) rfl ?_
      refine r_goto (tgt := 3) dX13_blames_54 (by decide) ?_
      refine Wx.sub [1, 2, 3, 4, 0] rfl ?_
      exact next _ _ (by omega) ⟨x, y, congrArg (fun g => rput T m (sg _ g) od) (blmI_f h23).symm, rfl⟩
    · refine r_aload_n dX13_blames_26 rfl 0 rfl ?_
      refine m_ref (k := 0) (j := 1) hs hs.2.1.1 dX13_blames_27 fr_X13_7 rfl ?_
      refine r_bipush (v := nI 62) dX13_blames_30 (by decide) ?_
      refine r_iconst (v := nI 4) dX13_blames_32 (by decide) ?_
      refine r_aload_n dX13_blames_33 rfl 0 rfl ?_
      refine r_iload_n dX13_blames_34 rfl 1 rfl ?_
      refine r_iload_n dX13_blames_35 rfl 2 rfl ?_
      refine r_iload dX13_blames_36 4 rfl ?_
      obtain ⟨n, l', u', ho, hcq⟩ := hc q (by omega) h23
      refine r_fxV (M2 := m_X13_causeOf) (As := [.int (nI (l)), .int (nI (u)), .int (nI (q))]) (rest := [.int (nI (4)), .int (nI (62)), .ref (m + 1)]) (v := some (.int (nI (c q)))) dX13_blames_38 cc_X13_blames_215 rfl rfl rfl (Nat.le_of_ble_eq_true rfl) hs.1 rfl rfl (by decide) (Fx.eqv (g_causeOf hs hwb (by omega) (Org.congr (L := 24) (fun i hi _ => hI2 i hi) (Nat.le_refl 24) (by have := ho.lt0; omega) (fun q => absurd q (by have := ho.lt0; omega)) ho).1) (congrArg (fun x => some (Value.int (nI x))) ((Org.congr (L := 24) (fun i hi _ => hI2 i hi) (Nat.le_refl 24) (by have := ho.lt0; omega) (fun q => absurd q (by have := ho.lt0; omega)) ho).2.trans hcq.symm))) rfl (fun x_1 y_1 => ?_)
      refine Wx.st' (S' := rput T m (sg (l78 V x_1 y_1) (blmI g c l u ks q)) od) (by rw [l78_ll] <;> rfl) ?_
      refine r_imulN dX13_blames_41 ?_
      refine r_iaddN dX13_blames_42 ?_
      refine r_iload dX13_blames_43 4 rfl ?_
      refine r_iaddN dX13_blames_45 ?_
      refine r_dup2 dX13_blames_46 rfl rfl ?_
      refine g_iald (i := 62 + (4 * (c q)) + q) hs dX13_blames_47 (by (first | omega | (have := hc6 q; have : g (402 + 2 * (200 * l + u)) % 16 &&& ks ≤ g (402 + 2 * (200 * l + u)) % 16 := Nat.and_le_left; have := Nat.div_le_self (g (402 + 2 * (200 * l + u)) % 16 &&& ks) (2 ^ q); omega))) ?_
      refine r_iconst (v := nI 1) dX13_blames_48 (by decide) ?_
      refine r_iaddN dX13_blames_49 ?_
      refine g_iast (i := 62 + (4 * (c q)) + q) (x := (blmI g c l u ks q) (62 + (4 * (c q)) + q) + 1) hs dX13_blames_50 (by (first | omega | (have := hc6 q; have : g (402 + 2 * (200 * l + u)) % 16 &&& ks ≤ g (402 + 2 * (200 * l + u)) % 16 := Nat.and_le_left; have := Nat.div_le_self (g (402 + 2 * (200 * l + u)) % 16 &&& ks) (2 ^ q); omega))) ?_
      refine r_iincN (k := 1) (lv' := [(4, .int (nI (q + 1))), (0, .ref (m)), (1, .int (nI (l))), (2, .int (nI (u))), (3, .int (nI (ks)))]) dX13_blames_51 (by decide) 4 rfl (by decide) rfl ?_
      refine r_goto (tgt := 3) dX13_blames_54 (by decide) ?_
      refine Wx.sub [1, 2, 3, 4, 0] rfl ?_
      exact next _ _ (by omega) ⟨x_1, y_1, congrArg (fun g => rput T m (sg _ g) od) (blmI_t h23).symm, rfl⟩
