/-! THE BUFFER -/
theorem i2c_n {b : Nat} (h : b < 65536) : ((nI b).toUInt32 % 65536).toInt32 = nI b := by
  rw [pk_char, nI_tn, Nat.mod_eq_of_lt (a := b) (by omega), Nat.mod_eq_of_lt h]
theorem vc_n {b : Nat} (h : b < 65536) : vp_nar .char (nI b) = nI b := by unfold vp_nar; rw [(pk_charN h).1]
def shK (k : Nat) : Int32 := if k < 4 then nI (24 - 8 * k) else (-8)
theorem shK_t {k : Nat} (h : k < 4) : shK k = nI (24 - 8 * k) := if_pos h
theorem shK_s {k : Nat} (h : k < 4) : nI (24 - 8 * k) + Int32.ofInt (-8) = shK (k + 1) := by
  obtain rfl | rfl | rfl | rfl : k = 0 ∨ k = 1 ∨ k = 2 ∨ k = 3 := by omega
  all_goals decide
theorem shK_n {k : Nat} (h : k ≤ 4) : shK k < 0 ↔ k = 4 := by
  obtain rfl | rfl | rfl | rfl | rfl : k = 0 ∨ k = 1 ∨ k = 2 ∨ k = 3 ∨ k = 4 := by omega
  all_goals decide
theorem okB_iff {n k : Nat} : okB n k ↔ (byN n k = 0 ∨ (33 ≤ byN n k ∧ byN n k ≤ 126)) := by
  have hb := byN_lt n k
  unfold okB
  rw [nI_leI (by decide) (by omega), nI_leI (by omega) (by decide)]
noncomputable def txE (E : Nat → Nat → Nat) (L n : Nat) : Nat → Nat → Nat → Nat
  | 0 => E
  | k + 1 => if byN n k = 0 then txE E L n k else up2 (up2 (txE E L n k) (1000 + (L + byC n k)) 52 (byN n k)) 161 51 (L + byC n k + 1)
theorem txE_t {E : Nat → Nat → Nat} {L n k : Nat} (h : byN n k = 0) : txE E L n (k + 1) = txE E L n k := if_pos h
theorem txE_f {E : Nat → Nat → Nat} {L n k : Nat} (h : ¬ byN n k = 0) : txE E L n (k + 1) = up2 (up2 (txE E L n k) (1000 + (L + byC n k)) 52 (byN n k)) 161 51 (L + byC n k + 1) := if_neg h
theorem byC_t {n k : Nat} (h : byN n k = 0) : byC n (k + 1) = byC n k := cnt_f (p := fun k => ¬ byN n k = 0) (fun q => q h)
theorem byC_f {n k : Nat} (h : ¬ byN n k = 0) : byC n (k + 1) = byC n k + 1 := cnt_t (p := fun k => ¬ byN n k = 0) h
theorem txE_len {E : Nat → Nat → Nat} {L n : Nat} (h : E 161 51 = L) : ∀ {k : Nat}, txE E L n k 161 51 = L + byC n k
  | 0 => h
  | k + 1 => by
    by_cases c : byN n k = 0
    · rw [txE_t c, byC_t c]; exact txE_len h
    · rw [txE_f c, u2_s, byC_f c]; rfl
theorem txE_o {E : Nat → Nat → Nat} {L n f a : Nat} (h : a < 51 ∨ 52 < a ∨ (a = 51 ∧ f ≠ 161)) : ∀ {k : Nat}, txE E L n k f a = E f a
  | 0 => rfl
  | k + 1 => by
    by_cases c : byN n k = 0
    · rw [txE_t c]; exact txE_o h
    · rw [txE_f c, u2_n (by omega), u2_n (by omega)]; exact txE_o h
theorem txE_d {E D : Nat → Nat → Nat} {L n : Nat} (h : ∀ f a, (a = 52 ∨ a = 55 ∨ a = 56 ∨ 190 ≤ a ∨ a = 51 ∧ (f = 161 ∨ f = 163)) → E f a = D f a) : ∀ {k : Nat}, ∀ f a, (a = 52 ∨ a = 55 ∨ a = 56 ∨ 190 ≤ a ∨ a = 51 ∧ (f = 161 ∨ f = 163)) → txE E L n k f a = txE D L n k f a
  | 0 => h
  | k + 1 => by
    by_cases c : byN n k = 0
    · rw [txE_t c, txE_t c]; exact txE_d h
    · rw [txE_f c, txE_f c]; exact dd_up (dd_up (txE_d h))
set_option maxRecDepth 4000 in
set_option maxHeartbeats 400000 in
theorem x_chars1 {G : GI} {S : Hp} {n : Nat} (hn : n < 2 ^ 32) (hok : ∀ k, k < 4 → okB n k) : Fn m_X3_charactersIn G [.int (nI n)] S (some (.int (nI (byC n 4)))) S := by
  refine Cn.of rfl (by decide) (Nat.le_of_ble_eq_true rfl) (fun hN hM => ?_)
  show Wx _ G _ 0 [(0, .int (nI (n)))] [] _
  refine r_iconst (v := nI 0) dX3_charactersIn_0 (by decide) ?_
  refine r_istore_n (lv' := [(1, .int (nI (0))), (0, .int (nI (n)))]) dX3_charactersIn_1 rfl (by decide) rfl ?_
  refine r_bipush (v := nI 24) dX3_charactersIn_2 (by decide) ?_
  refine r_istore_n (lv' := [(2, .int (nI (24))), (1, .int (nI (0))), (0, .int (nI (n)))]) dX3_charactersIn_4 rfl (by decide) rfl ?_
  refine Wx.sub [2, 1, 0] rfl ?_
  refine Wx.loopR (fun k T lv => (∀ q, q < k → okB n q) ∧ T = S ∧ lv = [(0, .int (nI (n))), (1, .int (nI (byC n k))), (2, .int (shK k))]) 4 0 (Nat.zero_le _) ⟨fun q h9 => absurd h9 (Nat.not_lt_zero q), rfl, rfl⟩ (fun k T lv hge hle hI9 next => ?_)
  obtain ⟨hI8, rfl, rfl⟩ := hI9
  refine r_iload_n dX3_charactersIn_5 rfl 2 rfl ?_
  refine r_if_lt (tgt := 48) dX3_charactersIn_6 (by decide) (fun h6 => ?_) (fun h6 => ?_)
  · obtain rfl : k = 4 := (shK_n hle).mp h6
    refine r_iload_n dX3_charactersIn_48 rfl 1 rfl ?_
    exact r_iret (ty := .int) dX3_charactersIn_49 rfl rfl ⟨rfl, rfl⟩
  · have hk4 : k < 4 := Nat.lt_of_le_of_ne hle (fun q => h6 ((shK_n hle).mpr q))
    refine Wx.loc (show _ = [(0, .int (nI (n))), (1, .int (nI (byC n k))), (2, .int (nI (24 - 8 * k)))] from by rw [shK_t hk4]) ?_
    refine r_iload_n dX3_charactersIn_9 rfl 0 rfl ?_
    refine r_iload_n dX3_charactersIn_10 rfl 2 rfl ?_
    refine r_iushrN dX3_charactersIn_11 hn (by omega) ?_
    refine r_sipush (v := nI 255) dX3_charactersIn_12 (by decide) ?_
    refine r_iandM (k := 8) (c := 256) rfl rfl dX3_charactersIn_15 (by decide) ?_
    refine Wx.topN (show n / 2 ^ (24 - 8 * k) % 256 = byN n k from rfl) ?_
    refine r_istore_n (lv' := [(3, .int (nI (byN n k))), (0, .int (nI (n))), (1, .int (nI (byC n k))), (2, .int (nI (24 - 8 * k)))]) dX3_charactersIn_16 rfl (by decide) rfl ?_
    refine r_iload_n dX3_charactersIn_17 rfl 0 rfl ?_
    refine r_if_eqN (tgt := 35) dX3_charactersIn_18 (by decide) (by (first | omega | (have := byN_lt n k; omega) | (have : byC n k ≤ k := cnt_le _ _; omega) | (have h9 : byC n k ≤ byC n 4 := cnt_mono (by omega); omega) | (have h9 : byC n (k + 1) ≤ byC n 4 := cnt_mono (by omega); have h8 := byC_f (n := n) (k := k) (by assumption); omega))) (fun h18 => ?_) (fun h18 => ?_)
    · refine r_iload_n dX3_charactersIn_35 rfl 0 rfl ?_
      refine r_if_eqN (tgt := 42) dX3_charactersIn_36 (by decide) (by (first | omega | (have := byN_lt n k; omega) | (have : byC n k ≤ k := cnt_le _ _; omega) | (have h9 : byC n k ≤ byC n 4 := cnt_mono (by omega); omega) | (have h9 : byC n (k + 1) ≤ byC n 4 := cnt_mono (by omega); have h8 := byC_f (n := n) (k := k) (by assumption); omega))) (fun h36 => ?_) (fun h36 => ?_)
      · refine r_iinc (v := shK (k + 1)) (lv' := [(2, .int (shK (k + 1))), (3, .int (nI (byN n k))), (0, .int (nI (n))), (1, .int (nI (byC n k)))]) dX3_charactersIn_42 3 rfl (shK_s hk4) (by decide) rfl ?_
        refine r_goto (tgt := 5) dX3_charactersIn_45 (by decide) ?_
        refine Wx.sub [2, 3, 0] rfl ?_
        refine Wx.loc (show _ = [(0, .int (nI (n))), (1, .int (nI (byC n (k + 1)))), (2, .int (shK (k + 1)))] from by rw [byC_t h18]; rfl) ?_
        exact next _ _ (by omega) ⟨fun q hq9 => (Nat.lt_succ_iff_lt_or_eq.mp hq9).elim (hI8 q) (fun e9 => e9 ▸ okB_iff.mpr (Or.inl h18)), rfl, rfl⟩
      · exact absurd h18 h36
    · refine r_iload_n dX3_charactersIn_21 rfl 0 rfl ?_
      refine r_bipush (v := nI 33) dX3_charactersIn_22 (by decide) ?_
      refine r_icmp_ltN (tgt := 33) dX3_charactersIn_24 (by decide) (by (first | omega | (have := byN_lt n k; omega) | (have : byC n k ≤ k := cnt_le _ _; omega) | (have h9 : byC n k ≤ byC n 4 := cnt_mono (by omega); omega) | (have h9 : byC n (k + 1) ≤ byC n 4 := cnt_mono (by omega); have h8 := byC_f (n := n) (k := k) (by assumption); omega))) (by (first | omega | (have := byN_lt n k; omega) | (have : byC n k ≤ k := cnt_le _ _; omega) | (have h9 : byC n k ≤ byC n 4 := cnt_mono (by omega); omega) | (have h9 : byC n (k + 1) ≤ byC n 4 := cnt_mono (by omega); have h8 := byC_f (n := n) (k := k) (by assumption); omega))) (fun h24 => ?_) (fun h24 => ?_)
      · exact ((okB_iff.mp (hok k hk4)).elim h18 (fun q => by have := q.1; have := q.2; omega)).elim
      · refine r_iload_n dX3_charactersIn_27 rfl 0 rfl ?_
        refine r_bipush (v := nI 126) dX3_charactersIn_28 (by decide) ?_
        refine r_icmp_leN (tgt := 35) dX3_charactersIn_30 (by decide) (by (first | omega | (have := byN_lt n k; omega) | (have : byC n k ≤ k := cnt_le _ _; omega) | (have h9 : byC n k ≤ byC n 4 := cnt_mono (by omega); omega) | (have h9 : byC n (k + 1) ≤ byC n 4 := cnt_mono (by omega); have h8 := byC_f (n := n) (k := k) (by assumption); omega))) (by (first | omega | (have := byN_lt n k; omega) | (have : byC n k ≤ k := cnt_le _ _; omega) | (have h9 : byC n k ≤ byC n 4 := cnt_mono (by omega); omega) | (have h9 : byC n (k + 1) ≤ byC n 4 := cnt_mono (by omega); have h8 := byC_f (n := n) (k := k) (by assumption); omega))) (fun h30 => ?_) (fun h30 => ?_)
        · refine r_iload_n dX3_charactersIn_35 rfl 0 rfl ?_
          refine r_if_eqN (tgt := 42) dX3_charactersIn_36 (by decide) (by (first | omega | (have := byN_lt n k; omega) | (have : byC n k ≤ k := cnt_le _ _; omega) | (have h9 : byC n k ≤ byC n 4 := cnt_mono (by omega); omega) | (have h9 : byC n (k + 1) ≤ byC n 4 := cnt_mono (by omega); have h8 := byC_f (n := n) (k := k) (by assumption); omega))) (fun h36_1 => ?_) (fun h36_1 => ?_)
          · exact absurd h36_1 h18
          · refine r_iincN (k := 1) (lv' := [(1, .int (nI (byC n k + 1))), (3, .int (nI (byN n k))), (0, .int (nI (n))), (2, .int (nI (24 - 8 * k)))]) dX3_charactersIn_39 (by decide) 2 rfl (by decide) rfl ?_
            refine r_iinc (v := shK (k + 1)) (lv' := [(2, .int (shK (k + 1))), (1, .int (nI (byC n k + 1))), (3, .int (nI (byN n k))), (0, .int (nI (n)))]) dX3_charactersIn_42 3 rfl (shK_s hk4) (by decide) rfl ?_
            refine r_goto (tgt := 5) dX3_charactersIn_45 (by decide) ?_
            refine Wx.sub [3, 1, 0] rfl ?_
            refine Wx.loc (show _ = [(0, .int (nI (n))), (1, .int (nI (byC n (k + 1)))), (2, .int (shK (k + 1)))] from by rw [byC_f h18]; rfl) ?_
            exact next _ _ (by omega) ⟨fun q hq9 => (Nat.lt_succ_iff_lt_or_eq.mp hq9).elim (hI8 q) (fun e9 => e9 ▸ okB_iff.mpr (Or.inr ⟨by omega, by omega⟩)), rfl, rfl⟩
        · exact ((okB_iff.mp (hok k hk4)).elim h18 (fun q => by have := q.1; have := q.2; omega)).elim
set_option maxRecDepth 4000 in
set_option maxHeartbeats 400000 in
theorem x_chars0 {G : GI} {S : Hp} {n : Nat} (hn : n < 2 ^ 32) (hok : ∃ k, k < 4 ∧ ¬ okB n k) : Fn m_X3_charactersIn G [.int (nI n)] S (some (.int (-1))) S := by
  refine Cn.of rfl (by decide) (Nat.le_of_ble_eq_true rfl) (fun hN hM => ?_)
  show Wx _ G _ 0 [(0, .int (nI (n)))] [] _
  refine r_iconst (v := nI 0) dX3_charactersIn_0 (by decide) ?_
  refine r_istore_n (lv' := [(1, .int (nI (0))), (0, .int (nI (n)))]) dX3_charactersIn_1 rfl (by decide) rfl ?_
  refine r_bipush (v := nI 24) dX3_charactersIn_2 (by decide) ?_
  refine r_istore_n (lv' := [(2, .int (nI (24))), (1, .int (nI (0))), (0, .int (nI (n)))]) dX3_charactersIn_4 rfl (by decide) rfl ?_
  refine Wx.sub [2, 1, 0] rfl ?_
  refine Wx.loopR (fun k T lv => (∀ q, q < k → okB n q) ∧ T = S ∧ lv = [(0, .int (nI (n))), (1, .int (nI (byC n k))), (2, .int (shK k))]) 4 0 (Nat.zero_le _) ⟨fun q h9 => absurd h9 (Nat.not_lt_zero q), rfl, rfl⟩ (fun k T lv hge hle hI9 next => ?_)
  obtain ⟨hI8, rfl, rfl⟩ := hI9
  refine r_iload_n dX3_charactersIn_5 rfl 2 rfl ?_
  refine r_if_lt (tgt := 48) dX3_charactersIn_6 (by decide) (fun h6 => ?_) (fun h6 => ?_)
  · obtain rfl : k = 4 := (shK_n hle).mp h6
    obtain ⟨q, hq4, hbad⟩ := hok
    exact absurd (hI8 q hq4) hbad
  · have hk4 : k < 4 := Nat.lt_of_le_of_ne hle (fun q => h6 ((shK_n hle).mpr q))
    refine Wx.loc (show _ = [(0, .int (nI (n))), (1, .int (nI (byC n k))), (2, .int (nI (24 - 8 * k)))] from by rw [shK_t hk4]) ?_
    refine r_iload_n dX3_charactersIn_9 rfl 0 rfl ?_
    refine r_iload_n dX3_charactersIn_10 rfl 2 rfl ?_
    refine r_iushrN dX3_charactersIn_11 hn (by omega) ?_
    refine r_sipush (v := nI 255) dX3_charactersIn_12 (by decide) ?_
    refine r_iandM (k := 8) (c := 256) rfl rfl dX3_charactersIn_15 (by decide) ?_
    refine Wx.topN (show n / 2 ^ (24 - 8 * k) % 256 = byN n k from rfl) ?_
    refine r_istore_n (lv' := [(3, .int (nI (byN n k))), (0, .int (nI (n))), (1, .int (nI (byC n k))), (2, .int (nI (24 - 8 * k)))]) dX3_charactersIn_16 rfl (by decide) rfl ?_
    refine r_iload_n dX3_charactersIn_17 rfl 0 rfl ?_
    refine r_if_eqN (tgt := 35) dX3_charactersIn_18 (by decide) (by (first | omega | (have := byN_lt n k; omega) | (have : byC n k ≤ k := cnt_le _ _; omega) | (have h9 : byC n k ≤ byC n 4 := cnt_mono (by omega); omega) | (have h9 : byC n (k + 1) ≤ byC n 4 := cnt_mono (by omega); have h8 := byC_f (n := n) (k := k) (by assumption); omega))) (fun h18 => ?_) (fun h18 => ?_)
    · refine r_iload_n dX3_charactersIn_35 rfl 0 rfl ?_
      refine r_if_eqN (tgt := 42) dX3_charactersIn_36 (by decide) (by (first | omega | (have := byN_lt n k; omega) | (have : byC n k ≤ k := cnt_le _ _; omega) | (have h9 : byC n k ≤ byC n 4 := cnt_mono (by omega); omega) | (have h9 : byC n (k + 1) ≤ byC n 4 := cnt_mono (by omega); have h8 := byC_f (n := n) (k := k) (by assumption); omega))) (fun h36 => ?_) (fun h36 => ?_)
      · refine r_iinc (v := shK (k + 1)) (lv' := [(2, .int (shK (k + 1))), (3, .int (nI (byN n k))), (0, .int (nI (n))), (1, .int (nI (byC n k)))]) dX3_charactersIn_42 3 rfl (shK_s hk4) (by decide) rfl ?_
        refine r_goto (tgt := 5) dX3_charactersIn_45 (by decide) ?_
        refine Wx.sub [2, 3, 0] rfl ?_
        refine Wx.loc (show _ = [(0, .int (nI (n))), (1, .int (nI (byC n (k + 1)))), (2, .int (shK (k + 1)))] from by rw [byC_t h18]; rfl) ?_
        exact next _ _ (by omega) ⟨fun q hq9 => (Nat.lt_succ_iff_lt_or_eq.mp hq9).elim (hI8 q) (fun e9 => e9 ▸ okB_iff.mpr (Or.inl h18)), rfl, rfl⟩
      · exact absurd h18 h36
    · refine r_iload_n dX3_charactersIn_21 rfl 0 rfl ?_
      refine r_bipush (v := nI 33) dX3_charactersIn_22 (by decide) ?_
      refine r_icmp_ltN (tgt := 33) dX3_charactersIn_24 (by decide) (by (first | omega | (have := byN_lt n k; omega) | (have : byC n k ≤ k := cnt_le _ _; omega) | (have h9 : byC n k ≤ byC n 4 := cnt_mono (by omega); omega) | (have h9 : byC n (k + 1) ≤ byC n 4 := cnt_mono (by omega); have h8 := byC_f (n := n) (k := k) (by assumption); omega))) (by (first | omega | (have := byN_lt n k; omega) | (have : byC n k ≤ k := cnt_le _ _; omega) | (have h9 : byC n k ≤ byC n 4 := cnt_mono (by omega); omega) | (have h9 : byC n (k + 1) ≤ byC n 4 := cnt_mono (by omega); have h8 := byC_f (n := n) (k := k) (by assumption); omega))) (fun h24 => ?_) (fun h24 => ?_)
      · refine r_iconst (v := (-1)) dX3_charactersIn_33 (by decide) ?_
        exact r_iret (ty := .int) dX3_charactersIn_34 rfl rfl ⟨rfl, rfl⟩
      · refine r_iload_n dX3_charactersIn_27 rfl 0 rfl ?_
        refine r_bipush (v := nI 126) dX3_charactersIn_28 (by decide) ?_
        refine r_icmp_leN (tgt := 35) dX3_charactersIn_30 (by decide) (by (first | omega | (have := byN_lt n k; omega) | (have : byC n k ≤ k := cnt_le _ _; omega) | (have h9 : byC n k ≤ byC n 4 := cnt_mono (by omega); omega) | (have h9 : byC n (k + 1) ≤ byC n 4 := cnt_mono (by omega); have h8 := byC_f (n := n) (k := k) (by assumption); omega))) (by (first | omega | (have := byN_lt n k; omega) | (have : byC n k ≤ k := cnt_le _ _; omega) | (have h9 : byC n k ≤ byC n 4 := cnt_mono (by omega); omega) | (have h9 : byC n (k + 1) ≤ byC n 4 := cnt_mono (by omega); have h8 := byC_f (n := n) (k := k) (by assumption); omega))) (fun h30 => ?_) (fun h30 => ?_)
        · refine r_iload_n dX3_charactersIn_35 rfl 0 rfl ?_
          refine r_if_eqN (tgt := 42) dX3_charactersIn_36 (by decide) (by (first | omega | (have := byN_lt n k; omega) | (have : byC n k ≤ k := cnt_le _ _; omega) | (have h9 : byC n k ≤ byC n 4 := cnt_mono (by omega); omega) | (have h9 : byC n (k + 1) ≤ byC n 4 := cnt_mono (by omega); have h8 := byC_f (n := n) (k := k) (by assumption); omega))) (fun h36_1 => ?_) (fun h36_1 => ?_)
          · exact absurd h36_1 h18
          · refine r_iincN (k := 1) (lv' := [(1, .int (nI (byC n k + 1))), (3, .int (nI (byN n k))), (0, .int (nI (n))), (2, .int (nI (24 - 8 * k)))]) dX3_charactersIn_39 (by decide) 2 rfl (by decide) rfl ?_
            refine r_iinc (v := shK (k + 1)) (lv' := [(2, .int (shK (k + 1))), (1, .int (nI (byC n k + 1))), (3, .int (nI (byN n k))), (0, .int (nI (n)))]) dX3_charactersIn_42 3 rfl (shK_s hk4) (by decide) rfl ?_
            refine r_goto (tgt := 5) dX3_charactersIn_45 (by decide) ?_
            refine Wx.sub [3, 1, 0] rfl ?_
            refine Wx.loc (show _ = [(0, .int (nI (n))), (1, .int (nI (byC n (k + 1)))), (2, .int (shK (k + 1)))] from by rw [byC_f h18]; rfl) ?_
            exact next _ _ (by omega) ⟨fun q hq9 => (Nat.lt_succ_iff_lt_or_eq.mp hq9).elim (hI8 q) (fun e9 => e9 ▸ okB_iff.mpr (Or.inr ⟨by omega, by omega⟩)), rfl, rfl⟩
        · refine r_iconst (v := (-1)) dX3_charactersIn_33 (by decide) ?_
          exact r_iret (ty := .int) dX3_charactersIn_34 rfl rfl ⟨rfl, rfl⟩
set_option maxRecDepth 4000 in
set_option maxHeartbeats 400000 in
theorem x_room1 {G : GI} {F : Nat → Prop} {S0 S : Hp} {w : Nat → Nat} {x : Nat} {K : Nat → Nat} {E : Nat → Nat → Nat} {A c : Nat → Nat → Nat} {bx bu : Nat} (h : XF F S0 S w x K E A c bx bu) {L m : Nat} (hL : E 161 51 = L) (hL60 : L ≤ 60) (hm : m ≤ 4) (hroom : L + m ≤ 60) : Fn m_X3_hasRoomFor G [.ref (x + 51), .int (nI (m))] S (some (.int (nI (1)))) S := by
  refine Cn.of rfl (by decide) (Nat.le_of_ble_eq_true rfl) (fun hN hM => ?_)
  show Wx _ G _ 0 [(0, .ref (x + 51)), (1, .int (nI (m)))] [] _
  refine r_aload_n dX3_hasRoomFor_0 rfl 0 rfl ?_
  refine r_getI (ci := 5) (k := 1) dX3_hasRoomFor_1 fr_X3_21 h.1.t51 rfl ?_
  refine Wx.top (h.1.i (f := 161) (by decide) (by decide)) ?_
  refine Wx.topN hL ?_
  refine r_iload_n dX3_hasRoomFor_4 rfl 1 rfl ?_
  refine r_iaddN dX3_hasRoomFor_5 ?_
  refine r_aload_n dX3_hasRoomFor_6 rfl 0 rfl ?_
  refine r_getR (ci := 5) (k := 0) (b := x + 52) dX3_hasRoomFor_7 fr_X3_9 h.1.t51 rfl h.1.p160 ?_
  refine r_alen105 dX3_hasRoomFor_10 h.1.t52 ?_
  refine Wx.top (congrArg nI h.1.n52) ?_
  refine r_icmp_gtN (tgt := 18) dX3_hasRoomFor_11 (by decide) (by omega) (by omega) (fun h11 => ?_) (fun h11 => ?_)
  · exact absurd h11 (by omega)
  · refine r_iconst (v := nI 1) dX3_hasRoomFor_14 (by decide) ?_
    refine r_goto (tgt := 19) dX3_hasRoomFor_15 (by decide) ?_
    exact r_iret (ty := .boolean) dX3_hasRoomFor_19 rfl (by decide) ⟨rfl, rfl⟩
set_option maxRecDepth 4000 in
set_option maxHeartbeats 400000 in
theorem x_room0 {G : GI} {F : Nat → Prop} {S0 S : Hp} {w : Nat → Nat} {x : Nat} {K : Nat → Nat} {E : Nat → Nat → Nat} {A c : Nat → Nat → Nat} {bx bu : Nat} (h : XF F S0 S w x K E A c bx bu) {L m : Nat} (hL : E 161 51 = L) (hL60 : L ≤ 60) (hm : m ≤ 4) (hroom : ¬ L + m ≤ 60) : Fn m_X3_hasRoomFor G [.ref (x + 51), .int (nI (m))] S (some (.int (nI (0)))) S := by
  refine Cn.of rfl (by decide) (Nat.le_of_ble_eq_true rfl) (fun hN hM => ?_)
  show Wx _ G _ 0 [(0, .ref (x + 51)), (1, .int (nI (m)))] [] _
  refine r_aload_n dX3_hasRoomFor_0 rfl 0 rfl ?_
  refine r_getI (ci := 5) (k := 1) dX3_hasRoomFor_1 fr_X3_21 h.1.t51 rfl ?_
  refine Wx.top (h.1.i (f := 161) (by decide) (by decide)) ?_
  refine Wx.topN hL ?_
  refine r_iload_n dX3_hasRoomFor_4 rfl 1 rfl ?_
  refine r_iaddN dX3_hasRoomFor_5 ?_
  refine r_aload_n dX3_hasRoomFor_6 rfl 0 rfl ?_
  refine r_getR (ci := 5) (k := 0) (b := x + 52) dX3_hasRoomFor_7 fr_X3_9 h.1.t51 rfl h.1.p160 ?_
  refine r_alen105 dX3_hasRoomFor_10 h.1.t52 ?_
  refine Wx.top (congrArg nI h.1.n52) ?_
  refine r_icmp_gtN (tgt := 18) dX3_hasRoomFor_11 (by decide) (by omega) (by omega) (fun h11 => ?_) (fun h11 => ?_)
  · refine r_iconst (v := nI 0) dX3_hasRoomFor_18 (by decide) ?_
    exact r_iret (ty := .boolean) dX3_hasRoomFor_19 rfl (by decide) ⟨rfl, rfl⟩
  · exact absurd h11 (by omega)
set_option maxRecDepth 4000 in
set_option maxHeartbeats 400000 in
theorem x_cadd {G : GI} {F : Nat → Prop} {S0 S : Hp} {w : Nat → Nat} {x : Nat} {K : Nat → Nat} {E : Nat → Nat → Nat} {A c : Nat → Nat → Nat} {bx bu : Nat} (h : XF F S0 S w x K E A c bx bu) {n L : Nat} (hn : n < 2 ^ 32) (hL : E 161 51 = L) (hroom : L + byC n 4 ≤ 60) : Cn m_X3_add G [.ref (x + 51), .int (nI n)] S (fun r T => r = .inl none ∧ XF F S0 T w x K (txE E L n 4) A c bx bu) := by
  refine Cn.of rfl (by decide) (Nat.le_of_ble_eq_true rfl) (fun hN hM => ?_)
  show Wx _ G _ 0 [(0, .ref (x + 51)), (1, .int (nI (n)))] [] _
  refine r_bipush (v := nI 24) dX3_add_0 (by decide) ?_
  refine r_istore_n (lv' := [(2, .int (nI (24))), (0, .ref (x + 51)), (1, .int (nI (n)))]) dX3_add_2 rfl (by decide) rfl ?_
  refine Wx.sub [1, 2, 0] rfl ?_
  refine Wx.loopR (fun k T lv => XF F S0 T w x K (txE E L n k) A c bx bu ∧ lv = [(0, .ref (x + 51)), (1, .int (nI (n))), (2, .int (shK k))]) 4 0 (Nat.zero_le _) ⟨h, rfl⟩ (fun k T lv hge hle hI9 next => ?_)
  obtain ⟨hk, rfl⟩ := hI9
  have hlk : txE E L n k 161 51 = L + byC n k := txE_len hL
  refine r_iload_n dX3_add_3 rfl 2 rfl ?_
  refine r_if_lt (tgt := 58) dX3_add_4 (by decide) (fun h4 => ?_) (fun h4 => ?_)
  · obtain rfl : k = 4 := (shK_n hle).mp h4
    exact r_vret dX3_add_58 rfl ⟨rfl, hk⟩
  · have hk4 : k < 4 := Nat.lt_of_le_of_ne hle (fun q => h4 ((shK_n hle).mpr q))
    refine Wx.loc (show _ = [(0, .ref (x + 51)), (1, .int (nI (n))), (2, .int (nI (24 - 8 * k)))] from by rw [shK_t hk4]) ?_
    refine r_iload_n dX3_add_7 rfl 1 rfl ?_
    refine r_iload_n dX3_add_8 rfl 2 rfl ?_
    refine r_iushrN dX3_add_9 hn (by omega) ?_
    refine r_sipush (v := nI 255) dX3_add_10 (by decide) ?_
    refine r_iandM (k := 8) (c := 256) rfl rfl dX3_add_13 (by decide) ?_
    refine Wx.topN (show n / 2 ^ (24 - 8 * k) % 256 = byN n k from rfl) ?_
    refine r_istore_n (lv' := [(3, .int (nI (byN n k))), (0, .ref (x + 51)), (1, .int (nI (n))), (2, .int (nI (24 - 8 * k)))]) dX3_add_14 rfl (by decide) rfl ?_
    refine r_iload_n dX3_add_15 rfl 0 rfl ?_
    refine r_if_eqN (tgt := 52) dX3_add_16 (by decide) (by (first | omega | (have := byN_lt n k; omega) | (have : byC n k ≤ k := cnt_le _ _; omega) | (have h9 : byC n k ≤ byC n 4 := cnt_mono (by omega); omega) | (have h9 : byC n (k + 1) ≤ byC n 4 := cnt_mono (by omega); have h8 := byC_f (n := n) (k := k) (by assumption); omega))) (fun h16 => ?_) (fun h16 => ?_)
    · refine r_iinc (v := shK (k + 1)) (lv' := [(2, .int (shK (k + 1))), (3, .int (nI (byN n k))), (0, .ref (x + 51)), (1, .int (nI (n)))]) dX3_add_52 3 rfl (shK_s hk4) (by decide) rfl ?_
      refine r_goto (tgt := 3) dX3_add_55 (by decide) ?_
      refine Wx.sub [2, 3, 0] rfl ?_
      exact next _ _ (by omega) ⟨by rw [txE_t h16]; exact hk, rfl⟩
    · refine r_aload_n dX3_add_19 rfl 1 rfl ?_
      refine r_getI (ci := 5) (k := 1) dX3_add_20 fr_X3_21 hk.1.t51 rfl ?_
      refine Wx.top (hk.1.i (f := 161) (by decide) (by decide)) ?_
      refine Wx.topN hlk ?_
      refine r_aload_n dX3_add_23 rfl 1 rfl ?_
      refine r_getR (ci := 5) (k := 0) (b := x + 52) dX3_add_24 fr_X3_9 hk.1.t51 rfl hk.1.p160 ?_
      refine r_alen105 dX3_add_27 hk.1.t52 ?_
      refine Wx.top (congrArg nI hk.1.n52) ?_
      refine r_icmp_geN (tgt := 52) dX3_add_28 (by decide) (by (first | omega | (have := byN_lt n k; omega) | (have : byC n k ≤ k := cnt_le _ _; omega) | (have h9 : byC n k ≤ byC n 4 := cnt_mono (by omega); omega) | (have h9 : byC n (k + 1) ≤ byC n 4 := cnt_mono (by omega); have h8 := byC_f (n := n) (k := k) (by assumption); omega))) (by (first | omega | (have := byN_lt n k; omega) | (have : byC n k ≤ k := cnt_le _ _; omega) | (have h9 : byC n k ≤ byC n 4 := cnt_mono (by omega); omega) | (have h9 : byC n (k + 1) ≤ byC n 4 := cnt_mono (by omega); have h8 := byC_f (n := n) (k := k) (by assumption); omega))) (fun h28 => ?_) (fun h28 => ?_)
      · exact absurd h28 (by have h9 : byC n (k + 1) ≤ byC n 4 := cnt_mono (by omega); have h8 := byC_f (n := n) (k := k) (by assumption); omega)
      · refine r_aload_n dX3_add_31 rfl 1 rfl ?_
        refine r_getR (ci := 5) (k := 0) (b := x + 52) dX3_add_32 fr_X3_9 hk.1.t51 rfl hk.1.p160 ?_
        refine r_aload_n dX3_add_35 rfl 1 rfl ?_
        refine r_getI (ci := 5) (k := 1) dX3_add_36 fr_X3_21 hk.1.t51 rfl ?_
        refine Wx.top (hk.1.i (f := 161) (by decide) (by decide)) ?_
        refine Wx.topN hlk ?_
        refine r_iload_n dX3_add_39 rfl 0 rfl ?_
        refine r_i2c dX3_add_40 ?_
        refine Wx.top (i2c_n (by have := byN_lt n k; omega)) ?_
        refine r_cast dX3_add_41 hk.1.t52 (by rw [show zN T (x + 52) = 60 from hk.1.n52]; exact vp_in_nI (by (first | omega | (have := byN_lt n k; omega) | (have : byC n k ≤ k := cnt_le _ _; omega) | (have h9 : byC n k ≤ byC n 4 := cnt_mono (by omega); omega) | (have h9 : byC n (k + 1) ≤ byC n 4 := cnt_mono (by omega); have h8 := byC_f (n := n) (k := k) (by assumption); omega))) (by decide)) ?_
        refine Wx.st' (S' := uA T (x + 52) (L + byC n k) (nI (byN n k))) (by rw [nI_clamp (by (first | omega | (have := byN_lt n k; omega) | (have : byC n k ≤ k := cnt_le _ _; omega) | (have h9 : byC n k ≤ byC n 4 := cnt_mono (by omega); omega) | (have h9 : byC n (k + 1) ≤ byC n 4 := cnt_mono (by omega); have h8 := byC_f (n := n) (k := k) (by assumption); omega)))]; rw [vc_n (by have := byN_lt n k; omega)]) ?_
        refine Wx.gp (fun T => XF F S0 T w x K (up2 (txE E L n k) (1000 + (L + byC n k)) (52) (byN n k)) A c bx bu) (hk.AA (i := L + byC n k) (by decide)) (fun T (hx : XF F S0 T w x K (up2 (txE E L n k) (1000 + (L + byC n k)) (52) (byN n k)) A c bx bu) => ?_)
        refine r_aload_n dX3_add_42 rfl 1 rfl ?_
        refine r_dup dX3_add_43 rfl ?_
        refine r_getI (ci := 5) (k := 1) dX3_add_44 fr_X3_21 hx.1.t51 rfl ?_
        refine Wx.top (hx.1.i (f := 161) (by decide) (by decide)) ?_
        refine Wx.topN (u2_n (by (first | omega | (have := byN_lt n k; omega) | (have : byC n k ≤ k := cnt_le _ _; omega) | (have h9 : byC n k ≤ byC n 4 := cnt_mono (by omega); omega) | (have h9 : byC n (k + 1) ≤ byC n 4 := cnt_mono (by omega); have h8 := byC_f (n := n) (k := k) (by assumption); omega)))) ?_
        refine Wx.topN hlk ?_
        refine r_iconst (v := nI 1) dX3_add_47 (by decide) ?_
        refine r_iaddN dX3_add_48 ?_
        refine r_putI (ci := 5) (k := 1) dX3_add_49 fw_X3_add_21 hx.1.t51 rfl rfl rfl ?_
        refine Wx.gp (fun T => XF F S0 T w x K (up2 (up2 (txE E L n k) (1000 + (L + byC n k)) (52) (byN n k)) 161 (51) (L + byC n k + 1)) A c bx bu) (hx.I (f := 161) (by decide) (by decide) (by decide)) (fun T_1 (hx_1 : XF F S0 T_1 w x K (up2 (up2 (txE E L n k) (1000 + (L + byC n k)) (52) (byN n k)) 161 (51) (L + byC n k + 1)) A c bx bu) => ?_)
        refine r_iinc (v := shK (k + 1)) (lv' := [(2, .int (shK (k + 1))), (3, .int (nI (byN n k))), (0, .ref (x + 51)), (1, .int (nI (n)))]) dX3_add_52 3 rfl (shK_s hk4) (by decide) rfl ?_
        refine r_goto (tgt := 3) dX3_add_55 (by decide) ?_
        refine Wx.sub [2, 3, 0] rfl ?_
        exact next _ _ (by omega) ⟨by rw [txE_f h16]; exact hx_1, rfl⟩
set_option maxRecDepth 4000 in
set_option maxHeartbeats 400000 in
theorem s_append_1 {G : GI} {F : Nat → Prop} {S : Hp} {x bx bu : Nat} {D : Nat → Nat → Nat} {g : Nat → Nat} {N ps : Nat} {gq : Nat → Nat → Nat} {ik : Nat} {gk : Nat → Nat} (h : CSt F S x bx bu D g N ps gq ik gk) (h1 : bx + 1 ≤ gN G) (h2 : bu + 6 ≤ gM G) {n L : Nat} (hn : n < 2 ^ 32) (hL : D 161 51 = L) (hL60 : L ≤ 60) (hok : ∃ k, k < 4 ∧ ¬ okB n k) : Cn m_X12_append G [.ref (x), .int (nI (n))] S (fun r T => r = .inr "java/lang/IllegalArgumentException" ∧ CSt F T x (bx + 1) (bu + 6) D g N ps gq ik gk ∧ FrF F S T) := by
  refine Cn.of rfl (by decide) (Nat.le_of_ble_eq_true rfl) (fun hN hM => ?_)
  show Wx _ G _ 0 [(0, .ref (x)), (1, .int (nI (n)))] [] _
  obtain ⟨w, K, E, A, c, hX, hp, hr, hD, ⟨np, hnp, e1, e2, hps, hq⟩, ⟨e3, hik, hk⟩, hF⟩ := h
  have h : XF F S S w x K E A c bx bu := ⟨hX, FrF.rfl, hF⟩
  have hk0 : K 0 < 11 := (hp 0 (by decide)).1
  have n01 : K 0 ≠ K 1 := hp.ne (by decide) (by decide) (by decide)
  have n02 : K 0 ≠ 2 := (hp 0 (by decide)).2.1
  have hb4 : byC n 4 ≤ 4 := cnt_le _ _
  refine r_iload_n dX12_append_0 rfl 1 rfl ?_
  refine r_fnS (M2 := m_X3_charactersIn) (As := [.int (nI (n))]) (rest := []) (v := some (.int ((-1)))) dX12_append_1 cc_X12_append_289 rfl rfl rfl (Nat.le_of_ble_eq_true rfl) (x_chars0 hn hok) rfl ?_
  refine r_istore_n (lv' := [(2, .int ((-1))), (0, .ref (x)), (1, .int (nI (n)))]) dX12_append_4 rfl (by decide) rfl ?_
  refine r_iload_n dX12_append_5 rfl 0 rfl ?_
  refine r_if_ge (tgt := 17) dX12_append_6 (by decide) (fun h6 => ?_) (fun h6 => ?_)
  · exact absurd h6 (by decide)
  · exact r_throw (ft_IA (by decide)) rfl dX12_append_9 dX12_append_12 dX12_append_13 dX12_append_16 (by decide) (h.hc1 h1) (h.hu6 h2) (fun y u h1 h2 h3 h4 => ⟨rfl, ⟨w, K, E, A, c, (h.X ⟨h1, h2⟩ ⟨h3, h4⟩).1, hp, hr, hD, ⟨np, hnp, e1, e2, hps, hq⟩, ⟨e3, hik, hk⟩, hF⟩, (h.X ⟨h1, h2⟩ ⟨h3, h4⟩).2.1⟩)
set_option maxRecDepth 4000 in
set_option maxHeartbeats 400000 in
theorem s_append_2 {G : GI} {F : Nat → Prop} {S : Hp} {x bx bu : Nat} {D : Nat → Nat → Nat} {g : Nat → Nat} {N ps : Nat} {gq : Nat → Nat → Nat} {ik : Nat} {gk : Nat → Nat} (h : CSt F S x bx bu D g N ps gq ik gk) (h1 : bx + 1 ≤ gN G) (h2 : bu + 6 ≤ gM G) {n L : Nat} (hn : n < 2 ^ 32) (hL : D 161 51 = L) (hL60 : L ≤ 60) (hok : ∀ k, k < 4 → okB n k) (hroom : ¬ L + byC n 4 ≤ 60) : Cn m_X12_append G [.ref (x), .int (nI (n))] S (fun r T => r = .inr "java/lang/IllegalStateException" ∧ CSt F T x (bx + 1) (bu + 6) D g N ps gq ik gk ∧ FrF F S T) := by
  refine Cn.of rfl (by decide) (Nat.le_of_ble_eq_true rfl) (fun hN hM => ?_)
  show Wx _ G _ 0 [(0, .ref (x)), (1, .int (nI (n)))] [] _
  obtain ⟨w, K, E, A, c, hX, hp, hr, hD, ⟨np, hnp, e1, e2, hps, hq⟩, ⟨e3, hik, hk⟩, hF⟩ := h
  have h : XF F S S w x K E A c bx bu := ⟨hX, FrF.rfl, hF⟩
  have hk0 : K 0 < 11 := (hp 0 (by decide)).1
  have n01 : K 0 ≠ K 1 := hp.ne (by decide) (by decide) (by decide)
  have n02 : K 0 ≠ 2 := (hp 0 (by decide)).2.1
  have hb4 : byC n 4 ≤ 4 := cnt_le _ _
  refine r_iload_n dX12_append_0 rfl 1 rfl ?_
  refine r_fnS (M2 := m_X3_charactersIn) (As := [.int (nI (n))]) (rest := []) (v := some (.int (nI (byC n 4)))) dX12_append_1 cc_X12_append_289 rfl rfl rfl (Nat.le_of_ble_eq_true rfl) (x_chars1 hn hok) rfl ?_
  refine r_istore_n (lv' := [(2, .int (nI (byC n 4))), (0, .ref (x)), (1, .int (nI (n)))]) dX12_append_4 rfl (by decide) rfl ?_
  refine r_iload_n dX12_append_5 rfl 0 rfl ?_
  refine r_if_geN (tgt := 17) dX12_append_6 (by decide) (by (first | omega | (have : byC n 4 ≤ 4 := cnt_le _ _; omega))) ?_
  refine r_aload_n dX12_append_17 rfl 1 rfl ?_
  refine r_getR (ci := 13) (k := 8) (b := x + 51) dX12_append_18 fr_X12_35 h.1.t0 rfl h.1.p424 ?_
  refine r_iload_n dX12_append_21 rfl 0 rfl ?_
  refine r_fnV (M2 := m_X3_hasRoomFor) (As := [.int (nI (byC n 4))]) (rest := []) (v := some (.int (nI (0)))) dX12_append_22 cc_X12_append_292 rfl rfl rfl (Nat.le_of_ble_eq_true rfl) h.1.t51 rfl rfl (by decide) (x_room0 h ((hD _ _ (by decide)).trans hL) hL60 hb4 hroom) rfl ?_
  refine r_if_neN (tgt := 36) dX12_append_25 (by decide) (by (first | omega | (have : byC n 4 ≤ 4 := cnt_le _ _; omega))) (fun zz25 => ?_) (fun zz25 => ?_)
  · exact absurd zz25 (by decide)
  · exact r_throw (ft_IS (by decide)) rfl dX12_append_28 dX12_append_31 dX12_append_32 dX12_append_35 (by decide) (h.hc1 h1) (h.hu6 h2) (fun y u h1 h2 h3 h4 => ⟨rfl, ⟨w, K, E, A, c, (h.X ⟨h1, h2⟩ ⟨h3, h4⟩).1, hp, hr, hD, ⟨np, hnp, e1, e2, hps, hq⟩, ⟨e3, hik, hk⟩, hF⟩, (h.X ⟨h1, h2⟩ ⟨h3, h4⟩).2.1⟩)
set_option maxRecDepth 4000 in
set_option maxHeartbeats 400000 in
theorem s_append_0 {G : GI} {F : Nat → Prop} {S : Hp} {x bx bu : Nat} {D : Nat → Nat → Nat} {g : Nat → Nat} {N ps : Nat} {gq : Nat → Nat → Nat} {ik : Nat} {gk : Nat → Nat} (h : CSt F S x bx bu D g N ps gq ik gk) {n L : Nat} (hn : n < 2 ^ 32) (hL : D 161 51 = L) (hL60 : L ≤ 60) (hok : ∀ k, k < 4 → okB n k) (hroom : L + byC n 4 ≤ 60) : Cn m_X12_append G [.ref x, .int (nI n)] S (fun r T => r = .inl (some (.int (nI (L + byC n 4)))) ∧ CSt F T x bx bu (txE D L n 4) g N ps gq ik gk ∧ FrF F S T) := by
  refine Cn.of rfl (by decide) (Nat.le_of_ble_eq_true rfl) (fun hN hM => ?_)
  show Wx _ G _ 0 [(0, .ref (x)), (1, .int (nI (n)))] [] _
  obtain ⟨w, K, E, A, c, hX, hp, hr, hD, ⟨np, hnp, e1, e2, hps, hq⟩, ⟨e3, hik, hk⟩, hF⟩ := h
  have h : XF F S S w x K E A c bx bu := ⟨hX, FrF.rfl, hF⟩
  have hk0 : K 0 < 11 := (hp 0 (by decide)).1
  have n01 : K 0 ≠ K 1 := hp.ne (by decide) (by decide) (by decide)
  have n02 : K 0 ≠ 2 := (hp 0 (by decide)).2.1
  have hb4 : byC n 4 ≤ 4 := cnt_le _ _
  refine r_iload_n dX12_append_0 rfl 1 rfl ?_
  refine r_fnS (M2 := m_X3_charactersIn) (As := [.int (nI (n))]) (rest := []) (v := some (.int (nI (byC n 4)))) dX12_append_1 cc_X12_append_289 rfl rfl rfl (Nat.le_of_ble_eq_true rfl) (x_chars1 hn hok) rfl ?_
  refine r_istore_n (lv' := [(2, .int (nI (byC n 4))), (0, .ref (x)), (1, .int (nI (n)))]) dX12_append_4 rfl (by decide) rfl ?_
  refine r_iload_n dX12_append_5 rfl 0 rfl ?_
  refine r_if_geN (tgt := 17) dX12_append_6 (by decide) (by (first | omega | (have : byC n 4 ≤ 4 := cnt_le _ _; omega))) ?_
  refine r_aload_n dX12_append_17 rfl 1 rfl ?_
  refine r_getR (ci := 13) (k := 8) (b := x + 51) dX12_append_18 fr_X12_35 h.1.t0 rfl h.1.p424 ?_
  refine r_iload_n dX12_append_21 rfl 0 rfl ?_
  refine r_fnV (M2 := m_X3_hasRoomFor) (As := [.int (nI (byC n 4))]) (rest := []) (v := some (.int (nI (1)))) dX12_append_22 cc_X12_append_292 rfl rfl rfl (Nat.le_of_ble_eq_true rfl) h.1.t51 rfl rfl (by decide) (x_room1 h ((hD _ _ (by decide)).trans hL) hL60 hb4 hroom) rfl ?_
  refine r_if_neN (tgt := 36) dX12_append_25 (by decide) (by (first | omega | (have : byC n 4 ≤ 4 := cnt_le _ _; omega))) (fun zz25 => ?_) (fun zz25 => ?_)
  · refine r_aload_n dX12_append_36 rfl 1 rfl ?_
    refine r_getR (ci := 13) (k := 8) (b := x + 51) dX12_append_37 fr_X12_35 h.1.t0 rfl h.1.p424 ?_
    refine r_iload_n dX12_append_40 rfl 2 rfl ?_
    refine r_callV (M2 := m_X3_add) (As := [.int (nI (n))]) (rest := []) dX12_append_41 cc_X12_append_296 rfl rfl rfl (Nat.le_of_ble_eq_true rfl) h.1.t51 rfl rfl (by decide) (x_cadd h hn ((hD _ _ (by decide)).trans hL) hroom) (fun v9 T hq => ?_) (fun E9 T9 hq => by cases hq.1)
    obtain ⟨hv9, hx⟩ := hq
    cases hv9
    show Wx _ G T 44 [(2, .int (nI (byC n 4))), (0, .ref (x)), (1, .int (nI (n)))] [] _
    refine r_aload_n dX12_append_44 rfl 1 rfl ?_
    refine r_getR (ci := 13) (k := 8) (b := x + 51) dX12_append_45 fr_X12_35 hx.1.t0 rfl hx.1.p424 ?_
    refine r_getI (ci := 5) (k := 1) dX12_append_48 fr_X12_299 hx.1.t51 rfl ?_
    refine Wx.top (hx.1.i (f := 161) (by decide) (by decide)) ?_
    refine Wx.topN (txE_len ((hD _ _ (by decide)).trans hL)) ?_
    exact r_iret (ty := .int) dX12_append_51 rfl rfl ⟨rfl, ⟨w, K, _, A, c, hx.1, hp, hr, txE_d hD, ⟨np, hnp, (txE_o (by omega)).trans e1, (txE_o (by omega)).trans e2, hps, hq⟩, ⟨(txE_o (by omega)).trans e3, hik, hk⟩, hx.2.2⟩, hx.2.1⟩
  · exact absurd zz25 (by decide)
set_option maxRecDepth 4000 in
set_option maxHeartbeats 400000 in
theorem s_count_4 {G : GI} {F : Nat → Prop} {S : Hp} {x bx bu : Nat} {D : Nat → Nat → Nat} {g : Nat → Nat} {N ps : Nat} {gq : Nat → Nat → Nat} {ik : Nat} {gk : Nat → Nat} (h : CSt F S x bx bu D g N ps gq ik gk) : Cn m_X12_count G [.ref (x), .int (nI (4))] S (fun r T => r = .inl (some (.int (nI (ps)))) ∧ CSt F T x bx bu D g N ps gq ik gk ∧ FrF F S T) := by
  refine Cn.of rfl (by decide) (Nat.le_of_ble_eq_true rfl) (fun hN hM => ?_)
  show Wx _ G _ 0 [(0, .ref (x)), (1, .int (nI (4)))] [] _
  obtain ⟨w, K, E, A, c, hX, hp, hr, hD, ⟨np, hnp, e1, e2, hps, hq⟩, ⟨e3, hik, hk⟩, hF⟩ := h
  have h : XF F S S w x K E A c bx bu := ⟨hX, FrF.rfl, hF⟩
  have hk0 : K 0 < 11 := (hp 0 (by decide)).1
  have n01 : K 0 ≠ K 1 := hp.ne (by decide) (by decide) (by decide)
  have n02 : K 0 ≠ 2 := (hp 0 (by decide)).2.1
  refine r_iload_n dX12_count_0 rfl 1 rfl ?_
  refine r_tableIn (off := 75) (tgt := 76) dX12_count_1 (by decide) (by decide) rfl (by decide) ?_
  refine r_aload_n dX12_count_76 rfl 0 rfl ?_
  refine r_getI (ci := 13) (k := 4) dX12_count_77 fr_X12_343 h.1.t0 rfl ?_
  refine Wx.top (h.1.i0 (f := 420) (by decide)) ?_
  refine Wx.topN e2 ?_
  exact r_iret (ty := .int) dX12_count_80 rfl rfl ⟨rfl, ⟨w, K, _, A, c, h.1, hp, hr, hD, ⟨np, hnp, e1, e2, hps, hq⟩, ⟨e3, hik, hk⟩, h.2.2⟩, h.2.1⟩
set_option maxRecDepth 4000 in
set_option maxHeartbeats 400000 in
theorem s_count_5 {G : GI} {F : Nat → Prop} {S : Hp} {x bx bu : Nat} {D : Nat → Nat → Nat} {g : Nat → Nat} {N ps : Nat} {gq : Nat → Nat → Nat} {ik : Nat} {gk : Nat → Nat} (h : CSt F S x bx bu D g N ps gq ik gk) : Cn m_X12_count G [.ref (x), .int (nI (5))] S (fun r T => r = .inl (some (.int (nI (D 161 51)))) ∧ CSt F T x bx bu D g N ps gq ik gk ∧ FrF F S T) := by
  refine Cn.of rfl (by decide) (Nat.le_of_ble_eq_true rfl) (fun hN hM => ?_)
  show Wx _ G _ 0 [(0, .ref (x)), (1, .int (nI (5)))] [] _
  obtain ⟨w, K, E, A, c, hX, hp, hr, hD, ⟨np, hnp, e1, e2, hps, hq⟩, ⟨e3, hik, hk⟩, hF⟩ := h
  have h : XF F S S w x K E A c bx bu := ⟨hX, FrF.rfl, hF⟩
  have hk0 : K 0 < 11 := (hp 0 (by decide)).1
  have n01 : K 0 ≠ K 1 := hp.ne (by decide) (by decide) (by decide)
  have n02 : K 0 ≠ 2 := (hp 0 (by decide)).2.1
  refine r_iload_n dX12_count_0 rfl 1 rfl ?_
  refine r_tableIn (off := 80) (tgt := 81) dX12_count_1 (by decide) (by decide) rfl (by decide) ?_
  refine r_aload_n dX12_count_81 rfl 0 rfl ?_
  refine r_getR (ci := 13) (k := 8) (b := x + 51) dX12_count_82 fr_X12_35 h.1.t0 rfl h.1.p424 ?_
  refine r_getI (ci := 5) (k := 1) dX12_count_85 fr_X12_299 h.1.t51 rfl ?_
  refine Wx.top (h.1.i (f := 161) (by decide) (by decide)) ?_
  refine Wx.topN (hD 161 51 (by decide)) ?_
  exact r_iret (ty := .int) dX12_count_88 rfl rfl ⟨rfl, ⟨w, K, _, A, c, h.1, hp, hr, hD, ⟨np, hnp, e1, e2, hps, hq⟩, ⟨e3, hik, hk⟩, h.2.2⟩, h.2.1⟩
set_option maxRecDepth 4000 in
set_option maxHeartbeats 400000 in
theorem s_errorPosition {G : GI} {F : Nat → Prop} {S : Hp} {x bx bu : Nat} {D : Nat → Nat → Nat} {g : Nat → Nat} {N ps : Nat} {gq : Nat → Nat → Nat} {ik : Nat} {gk : Nat → Nat} (h : CSt F S x bx bu D g N ps gq ik gk) : Cn m_X12_errorPosition G [.ref (x)] S (fun r T => r = .inl (some (.int (nI (D 163 51)))) ∧ CSt F T x bx bu D g N ps gq ik gk ∧ FrF F S T) := by
  refine Cn.of rfl (by decide) (Nat.le_of_ble_eq_true rfl) (fun hN hM => ?_)
  show Wx _ G _ 0 [(0, .ref (x))] [] _
  obtain ⟨w, K, E, A, c, hX, hp, hr, hD, ⟨np, hnp, e1, e2, hps, hq⟩, ⟨e3, hik, hk⟩, hF⟩ := h
  have h : XF F S S w x K E A c bx bu := ⟨hX, FrF.rfl, hF⟩
  have hk0 : K 0 < 11 := (hp 0 (by decide)).1
  have n01 : K 0 ≠ K 1 := hp.ne (by decide) (by decide) (by decide)
  have n02 : K 0 ≠ 2 := (hp 0 (by decide)).2.1
  refine r_aload_n dX12_errorPosition_0 rfl 0 rfl ?_
  refine r_getR (ci := 13) (k := 8) (b := x + 51) dX12_errorPosition_1 fr_X12_35 h.1.t0 rfl h.1.p424 ?_
  refine r_getI (ci := 5) (k := 3) dX12_errorPosition_4 fr_X12_321 h.1.t51 rfl ?_
  refine Wx.top (h.1.i (f := 163) (by decide) (by decide)) ?_
  refine Wx.topN (hD 163 51 (by decide)) ?_
  exact r_iret (ty := .int) dX12_errorPosition_7 rfl rfl ⟨rfl, ⟨w, K, _, A, c, h.1, hp, hr, hD, ⟨np, hnp, e1, e2, hps, hq⟩, ⟨e3, hik, hk⟩, h.2.2⟩, h.2.1⟩
