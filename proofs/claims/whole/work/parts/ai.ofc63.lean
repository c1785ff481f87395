/-! TEXTS OF COMMANDS: the reference reads -/
theorem nwL {t : Nat → Nat} {L u : Nat} (ht : ∀ k, k < L → t k < 128) : (nI 97 ≤ nwI t L u ∧ nwI t L u ≤ nI 122) ↔ u < L ∧ letP t u := by
  by_cases h : u < L
  · have := ht u h
    rw [nwI_t h, nI_leI (by decide) (by omega), nI_leI (by omega) (by decide)]
    exact ⟨fun q => ⟨h, q⟩, fun q => q.2⟩
  · rw [nwI_f h]
    exact ⟨fun q => absurd q.1 (by decide), fun q => absurd q.1 h⟩
theorem nwI_c {t : Nat → Nat} {L u ch : Nat} (ht : ∀ k, k < L → t k < 128) (h0 : 0 < ch) (hc : ch < 128) : nwI t L u = nI ch ↔ cha t L u = ch := by
  by_cases h : u < L
  · have := ht u h
    rw [nwI_t h, cha_t h, nI_eq (by omega) (by omega)]
  · rw [nwI_f h, cha_f h]
    refine ⟨fun q => ?_, fun q => by omega⟩
    have e : (nI ch).toInt = (ch : Int) := nI_toInt (by omega)
    rw [← q] at e
    have e2 : (-1 : Int32).toInt = -1 := by decide
    omega
set_option maxRecDepth 4000 in
set_option maxHeartbeats 1000000 in
theorem g_isWord {G : GI} {T : Hp} {m : Nat} {V : RVal} {g : Nat → Nat} {od : Nat → UInt64} (hs : RS T m) {t : Nat → Nat} {L h : Nat} (hx : TXT V t L h) (ht : ∀ k, k < L → t k < 128) {f e q : Nat} (hq9 : q < 9) (hfe : f ≤ e) (heL : e ≤ L) : Fn m_X13_isWord G [.ref m, .int (nI f), .int (nI e), .int (nI q)] (rput T m (sg V g) od) (some (.int (bI (WdP t f e q)))) (rput T m (sg V g) od) := by
  refine Cn.of rfl (by decide) (Nat.le_of_ble_eq_true rfl) (fun hN hM => ?_)
  show Wx _ G _ 0 [(0, .ref (m)), (1, .int (nI (f))), (2, .int (nI (e))), (3, .int (nI (q)))] [] _
  have hL60 := hx.2.2.1
  have hsl := sBn_l q hq9
  refine r_iload_n dX13_isWord_0 rfl 2 rfl ?_
  refine r_iload_n dX13_isWord_1 rfl 1 rfl ?_
  refine r_isubN dX13_isWord_2 (by (first | omega | (have := sBn_l q hq9; omega) | (have := (sBn_l q hq9).2.2 u (by omega); omega) | (have := ht (f + u) (by omega); omega))) ?_
  refine r_iload_n dX13_isWord_3 rfl 3 rfl ?_
  refine r_fnS (M2 := m_X13_word) (As := [.int (nI (q))]) (rest := [.int (nI (e - f))]) (v := some (.ref (gK G 2 q))) dX13_isWord_4 cc_X13_isWord_338 rfl rfl rfl (Nat.le_of_ble_eq_true rfl) (m_word hq9) rfl ?_
  refine r_fnVC (M2 := m_J0_length_8abf5) (As := []) (rest := [.int (nI (e - f))]) (v := some (.int (nI (strL.getD q 0)))) (fun U h => (h.2.2.2.1.1.1 q (by omega)).1) dX13_isWord_7 cc_X13_isWord_342 rfl rfl rfl (Nat.le_of_ble_eq_true rfl) (j_strLen (by omega)) rfl ?_
  refine r_icmp_neN (tgt := 17) dX13_isWord_10 (by decide) (by (first | omega | (have := sBn_l q hq9; omega) | (have := (sBn_l q hq9).2.2 u (by omega); omega) | (have := ht (f + u) (by omega); omega))) (by (first | omega | (have := sBn_l q hq9; omega) | (have := (sBn_l q hq9).2.2 u (by omega); omega) | (have := ht (f + u) (by omega); omega))) (fun h10 => ?_) (fun h10 => ?_)
  · refine r_iconst (v := nI 0) dX13_isWord_17 (by decide) ?_
    refine r_istore (lv' := [(4, .int (nI (0))), (0, .ref (m)), (1, .int (nI (f))), (2, .int (nI (e))), (3, .int (nI (q)))]) dX13_isWord_18 (by decide) rfl ?_
    refine r_iload_n dX13_isWord_20 rfl 2 rfl ?_
    refine r_istore (lv' := [(5, .int (nI (f))), (4, .int (nI (0))), (0, .ref (m)), (1, .int (nI (f))), (2, .int (nI (e))), (3, .int (nI (q)))]) dX13_isWord_21 (by decide) rfl ?_
    refine Wx.sub [1, 0, 2, 3, 4, 5] rfl ?_
    show Wx _ G (rput T m (sg V g) od) 23 [(4, .int (nI (0))), (5, .int (nI (f + 0))), (0, .ref (m)), (1, .int (nI (f))), (2, .int (nI (e))), (3, .int (nI (q)))] [] _
    refine Wx.loopR (fun u S lv => rput T m (sg V g) od = S ∧ ((lv = [(4, .int (nI (1))), (5, .int (nI (f + u))), (0, .ref (m)), (1, .int (nI (f))), (2, .int (nI (e))), (3, .int (nI (q)))] ∧ e = f + strL.getD q 0 ∧ ∀ k, k < u → t (f + k) = sBn q k) ∨ (lv = [(4, .int (nI (0))), (5, .int (nI (f + u))), (0, .ref (m)), (1, .int (nI (f))), (2, .int (nI (e))), (3, .int (nI (q)))] ∧ ¬ WdP t f e q))) (e - f) 0 (Nat.zero_le _) ⟨rfl, Or.inr ⟨rfl, fun z => h10 (by have := z.2.1; omega)⟩⟩ (fun u S lv hu0 hu hI nx => ?_)
    obtain ⟨rfl, hI⟩ := hI
    rcases hI with ⟨rfl, hel, hm⟩ | ⟨rfl, hno⟩
    · refine r_iload dX13_isWord_23 1 rfl ?_
      refine r_iload_n dX13_isWord_25 rfl 4 rfl ?_
      refine r_icmp_geN (tgt := 68) dX13_isWord_26 (by decide) (by (first | omega | (have := sBn_l q hq9; omega) | (have := (sBn_l q hq9).2.2 u (by omega); omega) | (have := ht (f + u) (by omega); omega))) (by (first | omega | (have := sBn_l q hq9; omega) | (have := (sBn_l q hq9).2.2 u (by omega); omega) | (have := ht (f + u) (by omega); omega))) (fun h26 => ?_) (fun h26 => ?_)
      · refine r_iload dX13_isWord_68 0 rfl ?_
        exact r_iret (ty := .boolean) dX13_isWord_70 rfl (by decide) ⟨congrArg (fun z => Sum.inl (some (Value.int z))) (bI_t (show WdP t f e q from ⟨hq9, hel, fun k hk => hm k (by omega)⟩)).symm, rfl⟩
      · refine r_iload dX13_isWord_29 0 rfl ?_
        refine r_if_eqN (tgt := 68) dX13_isWord_31 (by decide) (by (first | omega | (have := sBn_l q hq9; omega) | (have := (sBn_l q hq9).2.2 u (by omega); omega) | (have := ht (f + u) (by omega); omega))) (fun zz31 => ?_) (fun zz31 => ?_)
        · exact absurd zz31 (by decide)
        · refine r_aload_n dX13_isWord_34 rfl 2 rfl ?_
          refine m_ref (k := 13) (j := 9) hs hs.2.1.2.2.2.2.2.2.2.2.1 dX13_isWord_35 fr_X13_37 rfl ?_
          refine r_iload dX13_isWord_38 1 rfl ?_
          refine o_iald (j := 9) (n := 60) (i := f + u) (by decide) hs rw9 dX13_isWord_40 (by (first | omega | (have := sBn_l q hq9; omega) | (have := (sBn_l q hq9).2.2 u (by omega); omega) | (have := ht (f + u) (by omega); omega))) (by decide) ?_
          refine Wx.top (hx.2.2.2.2 (f + u) (by omega)) ?_
          refine r_iload_n dX13_isWord_41 rfl 5 rfl ?_
          refine r_fnS (M2 := m_X13_word) (As := [.int (nI (q))]) (rest := [.int (nI (t (f + u)))]) (v := some (.ref (gK G 2 q))) dX13_isWord_42 cc_X13_isWord_338 rfl rfl rfl (Nat.le_of_ble_eq_true rfl) (m_word hq9) rfl ?_
          refine r_iload dX13_isWord_45 1 rfl ?_
          refine r_iload_n dX13_isWord_47 rfl 3 rfl ?_
          refine r_isubN dX13_isWord_48 (by (first | omega | (have := sBn_l q hq9; omega) | (have := (sBn_l q hq9).2.2 u (by omega); omega) | (have := ht (f + u) (by omega); omega))) ?_
          rw [show f + u - f = u by omega]
          refine r_fnVC (M2 := m_J0_charAt_5068e) (As := [.int (nI (u))]) (rest := [.int (nI (t (f + u)))]) (v := some (.int (nI (sBn q u)))) (fun U h => (h.2.2.2.1.1.1 q (by omega)).1) dX13_isWord_49 cc_X13_isWord_346 rfl rfl rfl (Nat.le_of_ble_eq_true rfl) (j_strChar (by omega) (by omega)) rfl ?_
          refine r_icmp_neN (tgt := 59) dX13_isWord_52 (by decide) (by (first | omega | (have := sBn_l q hq9; omega) | (have := (sBn_l q hq9).2.2 u (by omega); omega) | (have := ht (f + u) (by omega); omega))) (by (first | omega | (have := sBn_l q hq9; omega) | (have := (sBn_l q hq9).2.2 u (by omega); omega) | (have := ht (f + u) (by omega); omega))) (fun h52 => ?_) (fun h52 => ?_)
          · refine r_iconst (v := nI 0) dX13_isWord_59 (by decide) ?_
            refine r_istore (lv' := [(4, .int (nI (0))), (5, .int (nI (f + u))), (0, .ref (m)), (1, .int (nI (f))), (2, .int (nI (e))), (3, .int (nI (q)))]) dX13_isWord_60 (by decide) rfl ?_
            refine r_iincN (k := 1) (lv' := [(5, .int (nI (f + u + 1))), (4, .int (nI (0))), (0, .ref (m)), (1, .int (nI (f))), (2, .int (nI (e))), (3, .int (nI (q)))]) dX13_isWord_62 (by decide) 1 rfl (by decide) rfl ?_
            refine r_goto (tgt := 23) dX13_isWord_65 (by decide) ?_
            refine Wx.sub [1, 0, 2, 3, 4, 5] rfl ?_
            exact nx _ _ (by omega) ⟨rfl, Or.inr ⟨rfl, fun z => h52 (z.2.2 u (by omega))⟩⟩
          · refine r_iconst (v := nI 1) dX13_isWord_55 (by decide) ?_
            refine r_goto (tgt := 60) dX13_isWord_56 (by decide) ?_
            refine r_istore (lv' := [(4, .int (nI (1))), (5, .int (nI (f + u))), (0, .ref (m)), (1, .int (nI (f))), (2, .int (nI (e))), (3, .int (nI (q)))]) dX13_isWord_60 (by decide) rfl ?_
            refine r_iincN (k := 1) (lv' := [(5, .int (nI (f + u + 1))), (4, .int (nI (1))), (0, .ref (m)), (1, .int (nI (f))), (2, .int (nI (e))), (3, .int (nI (q)))]) dX13_isWord_62 (by decide) 1 rfl (by decide) rfl ?_
            refine r_goto (tgt := 23) dX13_isWord_65 (by decide) ?_
            refine Wx.sub [1, 0, 2, 3, 4, 5] rfl ?_
            exact nx _ _ (by omega) ⟨rfl, Or.inl ⟨rfl, hel, fun k hk => by
              by_cases r : k = u
              · rw [r]; exact h52
              · exact hm k (by omega)⟩⟩
    · refine r_iload dX13_isWord_23 1 rfl ?_
      refine r_iload_n dX13_isWord_25 rfl 4 rfl ?_
      refine r_icmp_geN (tgt := 68) dX13_isWord_26 (by decide) (by (first | omega | (have := sBn_l q hq9; omega) | (have := (sBn_l q hq9).2.2 u (by omega); omega) | (have := ht (f + u) (by omega); omega))) (by (first | omega | (have := sBn_l q hq9; omega) | (have := (sBn_l q hq9).2.2 u (by omega); omega) | (have := ht (f + u) (by omega); omega))) (fun h26_1 => ?_) (fun h26_1 => ?_)
      · refine r_iload dX13_isWord_68 0 rfl ?_
        exact r_iret (ty := .boolean) dX13_isWord_70 rfl (by decide) ⟨congrArg (fun z => Sum.inl (some (Value.int z))) (bI_f hno).symm, rfl⟩
      · refine r_iload dX13_isWord_29 0 rfl ?_
        refine r_if_eqN (tgt := 68) dX13_isWord_31 (by decide) (by (first | omega | (have := sBn_l q hq9; omega) | (have := (sBn_l q hq9).2.2 u (by omega); omega) | (have := ht (f + u) (by omega); omega))) (fun zz31_1 => ?_) (fun zz31_1 => ?_)
        · refine r_iload dX13_isWord_68 0 rfl ?_
          exact r_iret (ty := .boolean) dX13_isWord_70 rfl (by decide) ⟨congrArg (fun z => Sum.inl (some (Value.int z))) (bI_f hno).symm, rfl⟩
        · exact absurd zz31_1 (by decide)
  · refine r_iconst (v := nI 1) dX13_isWord_13 (by decide) ?_
    refine r_goto (tgt := 18) dX13_isWord_14 (by decide) ?_
    refine r_istore (lv' := [(4, .int (nI (1))), (0, .ref (m)), (1, .int (nI (f))), (2, .int (nI (e))), (3, .int (nI (q)))]) dX13_isWord_18 (by decide) rfl ?_
    refine r_iload_n dX13_isWord_20 rfl 2 rfl ?_
    refine r_istore (lv' := [(5, .int (nI (f))), (4, .int (nI (1))), (0, .ref (m)), (1, .int (nI (f))), (2, .int (nI (e))), (3, .int (nI (q)))]) dX13_isWord_21 (by decide) rfl ?_
    refine Wx.sub [1, 0, 2, 3, 4, 5] rfl ?_
    show Wx _ G (rput T m (sg V g) od) 23 [(4, .int (nI (1))), (5, .int (nI (f + 0))), (0, .ref (m)), (1, .int (nI (f))), (2, .int (nI (e))), (3, .int (nI (q)))] [] _
    refine Wx.loopR (fun u S lv => rput T m (sg V g) od = S ∧ ((lv = [(4, .int (nI (1))), (5, .int (nI (f + u))), (0, .ref (m)), (1, .int (nI (f))), (2, .int (nI (e))), (3, .int (nI (q)))] ∧ e = f + strL.getD q 0 ∧ ∀ k, k < u → t (f + k) = sBn q k) ∨ (lv = [(4, .int (nI (0))), (5, .int (nI (f + u))), (0, .ref (m)), (1, .int (nI (f))), (2, .int (nI (e))), (3, .int (nI (q)))] ∧ ¬ WdP t f e q))) (e - f) 0 (Nat.zero_le _) ⟨rfl, Or.inl ⟨rfl, by omega, fun k hk => absurd hk (Nat.not_lt_zero k)⟩⟩ (fun u S lv hu0 hu hI nx => ?_)
    obtain ⟨rfl, hI⟩ := hI
    rcases hI with ⟨rfl, hel, hm⟩ | ⟨rfl, hno⟩
    · refine r_iload dX13_isWord_23 1 rfl ?_
      refine r_iload_n dX13_isWord_25 rfl 4 rfl ?_
      refine r_icmp_geN (tgt := 68) dX13_isWord_26 (by decide) (by (first | omega | (have := sBn_l q hq9; omega) | (have := (sBn_l q hq9).2.2 u (by omega); omega) | (have := ht (f + u) (by omega); omega))) (by (first | omega | (have := sBn_l q hq9; omega) | (have := (sBn_l q hq9).2.2 u (by omega); omega) | (have := ht (f + u) (by omega); omega))) (fun h26_2 => ?_) (fun h26_2 => ?_)
      · refine r_iload dX13_isWord_68 0 rfl ?_
        exact r_iret (ty := .boolean) dX13_isWord_70 rfl (by decide) ⟨congrArg (fun z => Sum.inl (some (Value.int z))) (bI_t (show WdP t f e q from ⟨hq9, hel, fun k hk => hm k (by omega)⟩)).symm, rfl⟩
      · refine r_iload dX13_isWord_29 0 rfl ?_
        refine r_if_eqN (tgt := 68) dX13_isWord_31 (by decide) (by (first | omega | (have := sBn_l q hq9; omega) | (have := (sBn_l q hq9).2.2 u (by omega); omega) | (have := ht (f + u) (by omega); omega))) (fun zz31_2 => ?_) (fun zz31_2 => ?_)
        · exact absurd zz31_2 (by decide)
        · refine r_aload_n dX13_isWord_34 rfl 2 rfl ?_
          refine m_ref (k := 13) (j := 9) hs hs.2.1.2.2.2.2.2.2.2.2.1 dX13_isWord_35 fr_X13_37 rfl ?_
          refine r_iload dX13_isWord_38 1 rfl ?_
          refine o_iald (j := 9) (n := 60) (i := f + u) (by decide) hs rw9 dX13_isWord_40 (by (first | omega | (have := sBn_l q hq9; omega) | (have := (sBn_l q hq9).2.2 u (by omega); omega) | (have := ht (f + u) (by omega); omega))) (by decide) ?_
          refine Wx.top (hx.2.2.2.2 (f + u) (by omega)) ?_
          refine r_iload_n dX13_isWord_41 rfl 5 rfl ?_
          refine r_fnS (M2 := m_X13_word) (As := [.int (nI (q))]) (rest := [.int (nI (t (f + u)))]) (v := some (.ref (gK G 2 q))) dX13_isWord_42 cc_X13_isWord_338 rfl rfl rfl (Nat.le_of_ble_eq_true rfl) (m_word hq9) rfl ?_
          refine r_iload dX13_isWord_45 1 rfl ?_
          refine r_iload_n dX13_isWord_47 rfl 3 rfl ?_
          refine r_isubN dX13_isWord_48 (by (first | omega | (have := sBn_l q hq9; omega) | (have := (sBn_l q hq9).2.2 u (by omega); omega) | (have := ht (f + u) (by omega); omega))) ?_
          rw [show f + u - f = u by omega]
          refine r_fnVC (M2 := m_J0_charAt_5068e) (As := [.int (nI (u))]) (rest := [.int (nI (t (f + u)))]) (v := some (.int (nI (sBn q u)))) (fun U h => (h.2.2.2.1.1.1 q (by omega)).1) dX13_isWord_49 cc_X13_isWord_346 rfl rfl rfl (Nat.le_of_ble_eq_true rfl) (j_strChar (by omega) (by omega)) rfl ?_
          refine r_icmp_neN (tgt := 59) dX13_isWord_52 (by decide) (by (first | omega | (have := sBn_l q hq9; omega) | (have := (sBn_l q hq9).2.2 u (by omega); omega) | (have := ht (f + u) (by omega); omega))) (by (first | omega | (have := sBn_l q hq9; omega) | (have := (sBn_l q hq9).2.2 u (by omega); omega) | (have := ht (f + u) (by omega); omega))) (fun h52_1 => ?_) (fun h52_1 => ?_)
          · refine r_iconst (v := nI 0) dX13_isWord_59 (by decide) ?_
            refine r_istore (lv' := [(4, .int (nI (0))), (5, .int (nI (f + u))), (0, .ref (m)), (1, .int (nI (f))), (2, .int (nI (e))), (3, .int (nI (q)))]) dX13_isWord_60 (by decide) rfl ?_
            refine r_iincN (k := 1) (lv' := [(5, .int (nI (f + u + 1))), (4, .int (nI (0))), (0, .ref (m)), (1, .int (nI (f))), (2, .int (nI (e))), (3, .int (nI (q)))]) dX13_isWord_62 (by decide) 1 rfl (by decide) rfl ?_
            refine r_goto (tgt := 23) dX13_isWord_65 (by decide) ?_
            refine Wx.sub [1, 0, 2, 3, 4, 5] rfl ?_
            exact nx _ _ (by omega) ⟨rfl, Or.inr ⟨rfl, fun z => h52_1 (z.2.2 u (by omega))⟩⟩
          · refine r_iconst (v := nI 1) dX13_isWord_55 (by decide) ?_
            refine r_goto (tgt := 60) dX13_isWord_56 (by decide) ?_
            refine r_istore (lv' := [(4, .int (nI (1))), (5, .int (nI (f + u))), (0, .ref (m)), (1, .int (nI (f))), (2, .int (nI (e))), (3, .int (nI (q)))]) dX13_isWord_60 (by decide) rfl ?_
            refine r_iincN (k := 1) (lv' := [(5, .int (nI (f + u + 1))), (4, .int (nI (1))), (0, .ref (m)), (1, .int (nI (f))), (2, .int (nI (e))), (3, .int (nI (q)))]) dX13_isWord_62 (by decide) 1 rfl (by decide) rfl ?_
            refine r_goto (tgt := 23) dX13_isWord_65 (by decide) ?_
            refine Wx.sub [1, 0, 2, 3, 4, 5] rfl ?_
            exact nx _ _ (by omega) ⟨rfl, Or.inl ⟨rfl, hel, fun k hk => by
              by_cases r : k = u
              · rw [r]; exact h52_1
              · exact hm k (by omega)⟩⟩
    · refine r_iload dX13_isWord_23 1 rfl ?_
      refine r_iload_n dX13_isWord_25 rfl 4 rfl ?_
      refine r_icmp_geN (tgt := 68) dX13_isWord_26 (by decide) (by (first | omega | (have := sBn_l q hq9; omega) | (have := (sBn_l q hq9).2.2 u (by omega); omega) | (have := ht (f + u) (by omega); omega))) (by (first | omega | (have := sBn_l q hq9; omega) | (have := (sBn_l q hq9).2.2 u (by omega); omega) | (have := ht (f + u) (by omega); omega))) (fun h26_3 => ?_) (fun h26_3 => ?_)
      · refine r_iload dX13_isWord_68 0 rfl ?_
        exact r_iret (ty := .boolean) dX13_isWord_70 rfl (by decide) ⟨congrArg (fun z => Sum.inl (some (Value.int z))) (bI_f hno).symm, rfl⟩
      · refine r_iload dX13_isWord_29 0 rfl ?_
        refine r_if_eqN (tgt := 68) dX13_isWord_31 (by decide) (by (first | omega | (have := sBn_l q hq9; omega) | (have := (sBn_l q hq9).2.2 u (by omega); omega) | (have := ht (f + u) (by omega); omega))) (fun zz31_3 => ?_) (fun zz31_3 => ?_)
        · refine r_iload dX13_isWord_68 0 rfl ?_
          exact r_iret (ty := .boolean) dX13_isWord_70 rfl (by decide) ⟨congrArg (fun z => Sum.inl (some (Value.int z))) (bI_f hno).symm, rfl⟩
        · exact absurd zz31_3 (by decide)
set_option maxRecDepth 4000 in
set_option maxHeartbeats 1000000 in
theorem g_wordHere {G : GI} {T : Hp} {m : Nat} {V : RVal} {g : Nat → Nat} {od : Nat → UInt64} (hs : RS T m) {t : Nat → Nat} {L h : Nat} (hx : TXT V t L h) (ht : ∀ k, k < L → t k < 128) {e : Nat} (hlt : LtE t L h e) : Cn m_X13_wordHere G [.ref m] (rput T m (sg V g) od) (fun r U => (∃ q, WdP t h e q ∧ r = .inl (some (.int (nI q))) ∧ U = rput T m (sg (up2 V 0 18 (nI e)) g) od) ∨ ((∀ q, ¬ WdP t h e q) ∧ r = .inl (some (.int (-1))) ∧ U = (rput T m (sg V g) od))) := by
  refine Cn.of rfl (by decide) (Nat.le_of_ble_eq_true rfl) (fun hN hM => ?_)
  show Wx _ G _ 0 [(0, .ref (m))] [] _
  have hL60 := hx.2.2.1
  have heL := hlt.le hx.2.2.2.1
  have hhL := hx.2.2.2.1
  refine r_aload_n dX13_wordHere_0 rfl 0 rfl ?_
  refine o_get (k := 18) hs dX13_wordHere_1 fr_X13_331 rfl ?_
  refine Wx.top hx.1 ?_
  refine r_istore_n (lv' := [(1, .int (nI (h))), (0, .ref (m))]) dX13_wordHere_4 rfl (by decide) rfl ?_
  refine Wx.st' (S' := rput T m (sg (up2 V 0 18 (nI h)) g) od) (by rw [up2_self hx.1]) ?_
  show Wx _ G (rput T m (sg (up2 V 0 18 (nI h)) g) od) 5 [(1, .int (nI (h))), (0, .ref (m))] [] _
  refine Wx.loop (fun u => rput T m (sg (up2 V 0 18 (nI u)) g) od) (fun u => [(1, .int (nI (h))), (0, .ref (m))]) (e) (h) hlt.1 (fun u hge hle next => ?_)
  show Wx _ G (rput T m (sg (up2 V 0 18 (nI u)) g) od) 5 [(1, .int (nI (h))), (0, .ref (m))] [] _
  have hxu : TXT (up2 V 0 18 (nI u)) t L u := hx.at (by omega)
  refine r_aload_n dX13_wordHere_5 rfl 1 rfl ?_
  refine r_fnV (M2 := m_X13_now) (As := []) (rest := []) (v := some (.int (nwI t L u))) dX13_wordHere_6 cc_X13_wordHere_334 rfl rfl rfl (Nat.le_of_ble_eq_true rfl) hs.1 rfl rfl (by decide) (g_now hs hxu) rfl ?_
  refine r_bipush (v := nI 97) dX13_wordHere_9 (by decide) ?_
  refine r_bipush (v := nI 122) dX13_wordHere_11 (by decide) ?_
  refine r_fnS (M2 := m_X13_in) (As := [.int (nwI t L u), .int (nI (97)), .int (nI (122))]) (rest := []) (v := some (.int (bI (nI 97 ≤ nwI t L u ∧ nwI t L u ≤ nI 122)))) dX13_wordHere_13 cc_X13_wordHere_68 rfl rfl rfl (Nat.le_of_ble_eq_true rfl) f_in rfl ?_
  refine r_if_eqB (tgt := 32) dX13_wordHere_16 (by decide) (fun h16 => ?_) (fun h16 => ?_)
  · obtain rfl : e = u := Nat.le_antisymm (Nat.le_of_not_lt fun q => h16 ((nwL ht).mpr (hlt.2.1 u hge q))) hle
    refine r_iconst (v := nI 0) dX13_wordHere_32 (by decide) ?_
    refine r_istore_n (lv' := [(2, .int (nI (0))), (1, .int (nI (h))), (0, .ref (m))]) dX13_wordHere_33 rfl (by decide) rfl ?_
    refine Wx.loopR (fun u S lv => rput T m (sg (up2 V 0 18 (nI e)) g) od = S ∧ (∀ q, q < u → ¬ WdP t h e q) ∧ lv = [(2, .int (nI (u))), (1, .int (nI (h))), (0, .ref (m))]) 9 0 (by decide) ⟨rfl, fun q hq => absurd hq (Nat.not_lt_zero q), rfl⟩ (fun u S lv hu0 hu hI nx => ?_)
    obtain ⟨rfl, hno, rfl⟩ := hI
    refine r_iload_n dX13_wordHere_34 rfl 0 rfl ?_
    refine r_bipush (v := nI 9) dX13_wordHere_35 (by decide) ?_
    refine r_icmp_geN (tgt := 61) dX13_wordHere_37 (by decide) (by omega) (by omega) (fun h37 => ?_) (fun h37 => ?_)
    · refine r_aload_n dX13_wordHere_61 rfl 2 rfl ?_
      refine r_iload_n dX13_wordHere_62 rfl 1 rfl ?_
      refine o_put (k := 18) hs dX13_wordHere_63 fw_X13_wordHere_331 rfl rfl rfl ?_
      refine r_iconst (v := (-1)) dX13_wordHere_66 (by decide) ?_
      exact r_iret (ty := .int) dX13_wordHere_67 rfl rfl (Or.inr ⟨fun q z => hno q (by have := z.1; omega) z, rfl, by rw [up2_up, up2_self hx.1]⟩)
    · refine r_aload_n dX13_wordHere_40 rfl 2 rfl ?_
      refine r_iload_n dX13_wordHere_41 rfl 1 rfl ?_
      refine r_aload_n dX13_wordHere_42 rfl 2 rfl ?_
      refine o_get (k := 18) hs dX13_wordHere_43 fr_X13_331 rfl ?_
      refine Wx.top u2_s ?_
      refine r_iload_n dX13_wordHere_46 rfl 0 rfl ?_
      refine r_fnV (M2 := m_X13_isWord) (As := [.int (nI (h)), .int (nI (e)), .int (nI (u))]) (rest := []) (v := some (.int (bI (WdP t h e u)))) dX13_wordHere_47 cc_X13_wordHere_350 rfl rfl rfl (Nat.le_of_ble_eq_true rfl) hs.1 rfl rfl (by decide) (g_isWord hs (hx.at heL) ht (by omega) hlt.1 heL) rfl ?_
      refine r_if_eqB (tgt := 55) dX13_wordHere_50 (by decide) (fun h50 => ?_) (fun h50 => ?_)
      · refine r_iincN (k := 1) (lv' := [(2, .int (nI (u + 1))), (1, .int (nI (h))), (0, .ref (m))]) dX13_wordHere_55 (by decide) 0 rfl (by decide) rfl ?_
        refine r_goto (tgt := 34) dX13_wordHere_58 (by decide) ?_
        exact nx _ _ (by omega) ⟨rfl, fun q hq => by
          by_cases r : q = u
          · rw [r]; exact h50
          · exact hno q (by omega), rfl⟩
      · refine r_iload_n dX13_wordHere_53 rfl 0 rfl ?_
        exact r_iret (ty := .int) dX13_wordHere_54 rfl rfl (Or.inl ⟨u, h50, rfl, rfl⟩)
  · refine r_aload_n dX13_wordHere_19 rfl 1 rfl ?_
    refine r_dup dX13_wordHere_20 rfl ?_
    refine o_get (k := 18) hs dX13_wordHere_21 fr_X13_331 rfl ?_
    refine Wx.top u2_s ?_
    refine r_iconst (v := nI 1) dX13_wordHere_24 (by decide) ?_
    refine r_iaddN dX13_wordHere_25 ?_
    refine o_put (k := 18) hs dX13_wordHere_26 fw_X13_wordHere_331 rfl rfl rfl ?_
    refine r_goto (tgt := 5) dX13_wordHere_29 (by decide) ?_
    have n2 := next (Nat.lt_of_le_of_ne hle (fun q => hlt.2.2 (q ▸ (nwL ht).mp h16)))
    rw [up2_up]
    exact n2
