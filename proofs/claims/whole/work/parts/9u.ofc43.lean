/-! What is appended -/
def sBn (q i : Nat) : Nat := ((strB.getD q []).getD i 0).toUInt32.toNat
theorem sB_n : ∀ q, q < 23 → ∀ i, i < 15 → (strB.getD q []).getD i 0 = nI (sBn q i) ∧ sBn q i < 128 := by decide +kernel
theorem sL_n : ∀ q, q < 23 → strL.getD q 0 ≤ 14 := by decide +kernel
theorem getB {S : Hp} {v q e i : Nat} {y : Nat → Nat} (hq : q < 23) (hL : strL.getD q 0 ≤ 14) (hy : ∀ i, zA S v i = nI (y i)) : va_cpy (fun j => (strB.getD q []).getD j 0) (zA S v) 0 e (strL.getD q 0) i = nI (if e ≤ i ∧ i < e + strL.getD q 0 then sBn q (i - e) else y i) := by
  show (if e ≤ i ∧ i < e + strL.getD q 0 then (strB.getD q []).getD (0 + (i - e)) 0 else zA S v i) = _
  by_cases c : e ≤ i ∧ i < e + strL.getD q 0
  · rw [if_pos c, if_pos c, Nat.zero_add]; exact (sB_n q hq _ (by omega)).1
  · rw [if_neg c, if_neg c]; exact hy i
theorem getBl {q e : Nat} {y : Nat → Nat} (hq : q < 23) (hL : strL.getD q 0 ≤ 14) (hy : ∀ i, y i < 128) (i : Nat) : (if e ≤ i ∧ i < e + strL.getD q 0 then sBn q (i - e) else y i) < 128 := by
  by_cases c : e ≤ i ∧ i < e + strL.getD q 0
  · rw [if_pos c]; exact (sB_n q hq _ (by omega)).2
  · rw [if_neg c]; exact hy i
set_option maxRecDepth 4000 in
set_option maxHeartbeats 400000 in
theorem j_strCoder {G : GI} {S : Hp} {q : Nat} (hq : q < 23) : Fn m_J0_coder_7d493 G [.ref (gK G 2 q)] S (some (.int (nI (0)))) S := by
  refine Cn.of rfl (by decide) (Nat.le_of_ble_eq_true rfl) (fun hN hM => ?_)
  show Wx _ G _ 0 [(0, .ref (gK G 2 q))] [] _
  refine r_gets (C := "java/lang/String") (n := "COMPACT_STRINGS") (d := "Z") (v := .int 1) (fun U h => h.2.2.2.2.1) dJ0_coder_7d493_0 (sg6 25 rfl rfl) ?_
  refine Wx.top (y := nI 1) (by decide) ?_
  refine r_if_eqN (tgt := 13) dJ0_coder_7d493_3 (by decide) (by omega) (fun zz3 => ?_) (fun zz3 => ?_)
  · exact absurd zz3 (by decide)
  · refine r_aload_n dJ0_coder_7d493_6 rfl 0 rfl ?_
    refine r_getC (o := "java/lang/String") (n := "coder") (d := "B") (v := .int 0) (fun U h => (h.2.2.2.1.1.1 q hq).2.1) dJ0_coder_7d493_7 (Or.inl (sg7 57 rfl rfl)) ?_
    refine Wx.top (y := nI 0) (by decide) ?_
    refine r_goto (tgt := 14) dJ0_coder_7d493_10 (by decide) ?_
    exact r_iret (ty := .byte) dJ0_coder_7d493_14 rfl (by decide) ⟨rfl, rfl⟩
set_option maxRecDepth 4000 in
set_option maxHeartbeats 400000 in
theorem j_strLen {G : GI} {S : Hp} {q : Nat} (hq : q < 23) : Fn m_J0_length_8abf5 G [.ref (gK G 2 q)] S (some (.int (nI (strL.getD q 0)))) S := by
  refine Cn.of rfl (by decide) (Nat.le_of_ble_eq_true rfl) (fun hN hM => ?_)
  show Wx _ G _ 0 [(0, .ref (gK G 2 q))] [] _
  refine r_aload_n dJ0_length_8abf5_0 rfl 0 rfl ?_
  refine r_getC (o := "java/lang/String") (n := "value") (d := "[B") (v := .ref (gK G 3 q)) (fun U h => (h.2.2.2.1.1.1 q hq).2.2.1) dJ0_length_8abf5_1 (Or.inl (sg7 56 rfl rfl)) ?_
  refine r_alenT (fun U h => (h.2.2.2.1.1.1 q hq).2.2.2) dJ0_length_8abf5_4 ?_
  refine r_aload_n dJ0_length_8abf5_5 rfl 0 rfl ?_
  refine r_fnVC (M2 := m_J0_coder_7d493) (As := []) (rest := [.int (nI (strL.getD q 0))]) (v := some (.int (nI (0)))) (fun U h => (h.2.2.2.1.1.1 q hq).1) dJ0_length_8abf5_6 cc_J0_length_8abf5_335 rfl rfl rfl (Nat.le_of_ble_eq_true rfl) (j_strCoder hq) rfl ?_
  refine r_ishrN dJ0_length_8abf5_9 (by (first | omega | (have := sL_n q hq; omega))) (by (first | omega | (have := sL_n q hq; omega))) ?_
  exact r_iret (ty := .int) dJ0_length_8abf5_10 rfl rfl ⟨congrArg (fun z => Sum.inl (some (Value.int (nI z)))) (show (strL.getD q 0) / 2 ^ 0 = strL.getD q 0 by omega), rfl⟩
set_option maxRecDepth 4000 in
set_option maxHeartbeats 400000 in
theorem j_infl {G : GI} {S0 S : Hp} {q b v0 cap0 v cap n : Nat} {y : Nat → Nat} (hq : q < 23) (h : JB S0 b v0 cap0 S v cap n y) : Fn m_J5_inflateIfNeededFor_a7421 G [.ref (b), .ref (gK G 2 q)] S none S := by
  refine Cn.of rfl (by decide) (Nat.le_of_ble_eq_true rfl) (fun hN hM => ?_)
  show Wx _ G _ 0 [(0, .ref (b)), (1, .ref (gK G 2 q))] [] _
  refine r_gets (C := "java/lang/String") (n := "COMPACT_STRINGS") (d := "Z") (v := .int 1) (fun U h => h.2.2.2.2.1) dJ5_inflateIfNeededFor_a7421_0 (sg1 207 rfl rfl) ?_
  refine Wx.top (y := nI 1) (by decide) ?_
  refine r_if_eqN (tgt := 21) dJ5_inflateIfNeededFor_a7421_3 (by decide) (by omega) (fun zz3 => ?_) (fun zz3 => ?_)
  · exact absurd zz3 (by decide)
  · refine r_aload_n dJ5_inflateIfNeededFor_a7421_6 rfl 0 rfl ?_
    refine r_getI (ci := 1) (k := 1) dJ5_inflateIfNeededFor_a7421_7 fr_J5_22 h.tb rfl ?_
    refine Wx.top h.co ?_
    refine r_aload_n dJ5_inflateIfNeededFor_a7421_10 rfl 1 rfl ?_
    refine r_fnVC (M2 := m_J0_coder_7d493) (As := []) (rest := [.int (nI (0))]) (v := some (.int (nI (0)))) (fun U h => (h.2.2.2.1.1.1 q hq).1) dJ5_inflateIfNeededFor_a7421_11 cc_J5_inflateIfNeededFor_a7421_40 rfl rfl rfl (Nat.le_of_ble_eq_true rfl) (j_strCoder hq) rfl ?_
    refine r_icmp_eqN (tgt := 21) dJ5_inflateIfNeededFor_a7421_14 (by decide) (by omega) (by omega) (fun zz14 => ?_) (fun zz14 => ?_)
    · exact r_vret dJ5_inflateIfNeededFor_a7421_21 rfl ⟨rfl, rfl⟩
    · exact absurd zz14 (by decide)
set_option maxRecDepth 4000 in
set_option maxHeartbeats 400000 in
theorem j_getBytes {G : GI} {S0 S : Hp} {q b v0 cap0 v cap n : Nat} {y : Nat → Nat} (hq : q < 23) (h : JB S0 b v0 cap0 S v cap n y) {e : Nat} (he : e + strL.getD q 0 ≤ cap) : Cn m_J0_getBytes_840e7 G [.ref (gK G 2 q), .ref (v), .int (nI (e)), .int (nI (0))] S (fun r T => r = .inl none ∧ ∃ y', JB S0 b v0 cap0 T v cap n y' ∧ (∀ i, i < e → y' i = y i) ∧ ∀ i, i < strL.getD q 0 → y' (e + i) = sBn q i) := by
  refine Cn.of rfl (by decide) (Nat.le_of_ble_eq_true rfl) (fun hN hM => ?_)
  show Wx _ G _ 0 [(0, .ref (gK G 2 q)), (1, .ref (v)), (2, .int (nI (e))), (3, .int (nI (0)))] [] _
  have hc := h.c142
  have hle := h.le
  refine r_aload_n dJ0_getBytes_840e7_0 rfl 0 rfl ?_
  refine r_fnVC (M2 := m_J0_coder_7d493) (As := []) (rest := []) (v := some (.int (nI (0)))) (fun U h => (h.2.2.2.1.1.1 q hq).1) dJ0_getBytes_840e7_1 cc_J0_getBytes_840e7_335 rfl rfl rfl (Nat.le_of_ble_eq_true rfl) (j_strCoder hq) rfl ?_
  refine r_iload_n dJ0_getBytes_840e7_4 rfl 3 rfl ?_
  refine r_icmp_neN (tgt := 28) dJ0_getBytes_840e7_5 (by decide) (by (first | omega | (have := sL_n q hq; omega))) (by (first | omega | (have := sL_n q hq; omega))) (fun zz5 => ?_) (fun zz5 => ?_)
  · exact absurd zz5 (by decide)
  · refine r_aload_n dJ0_getBytes_840e7_8 rfl 0 rfl ?_
    refine r_getC (o := "java/lang/String") (n := "value") (d := "[B") (v := .ref (gK G 3 q)) (fun U h => (h.2.2.2.1.1.1 q hq).2.2.1) dJ0_getBytes_840e7_9 (Or.inl (sg7 56 rfl rfl)) ?_
    refine r_iconst (v := nI 0) dJ0_getBytes_840e7_12 (by decide) ?_
    refine r_aload_n dJ0_getBytes_840e7_13 rfl 1 rfl ?_
    refine r_iload_n dJ0_getBytes_840e7_14 rfl 2 rfl ?_
    refine r_iload_n dJ0_getBytes_840e7_15 rfl 3 rfl ?_
    refine r_ishlN dJ0_getBytes_840e7_16 (by (first | omega | (have := sL_n q hq; omega))) (by (first | omega | (have := sL_n q hq; omega))) ?_
    refine r_aload_n dJ0_getBytes_840e7_17 rfl 0 rfl ?_
    refine r_getC (o := "java/lang/String") (n := "value") (d := "[B") (v := .ref (gK G 3 q)) (fun U h => (h.2.2.2.1.1.1 q hq).2.2.1) dJ0_getBytes_840e7_18 (Or.inl (sg7 56 rfl rfl)) ?_
    refine r_alenT (fun U h => (h.2.2.2.1.1.1 q hq).2.2.2) dJ0_getBytes_840e7_21 ?_
    have hL := sL_n q hq
    have c0 : (nI 0).toNatClampNeg = 0 := nI_clamp (by decide)
    have cl : (nI (strL.getD q 0)).toNatClampNeg = strL.getD q 0 := nI_clamp (by omega)
    have ce : (nI (e * 2 ^ 0)).toNatClampNeg = e := (nI_clamp (by omega)).trans (by omega)
    refine r_copyT (n0 := strL.getD q 0) (f := fun j => (strB.getD q []).getD j 0) (fun U h => (h.2.2.2.1.1.1 q hq).2.2.2) dJ0_getBytes_840e7_22 (sg6 213 rfl rfl) (sg2 210 rfl rfl) (sg2 209 rfl rfl) (sg1 21 rfl rfl) h.tv (by decide) (nI_nn (by omega)) (nI_nn (by omega)) (by rw [c0, cl]; omega) (by rw [ce, cl, h.nv]; omega) (fun i hi => by rw [cl] at hi; rw [c0]; show fits .byte (.int ((strB.getD q []).getD (0 + i) 0)) = true; rw [Nat.zero_add, (sB_n q hq i (by omega)).1]; exact fit_n (sB_n q hq i (by omega)).2) (by decide) (Nat.le_of_ble_eq_true rfl) ?_
    rw [c0, cl, ce]
    refine Wx.gp (fun T => JB S0 b v0 cap0 T v cap (n) (fun i => if e ≤ i ∧ i < e + strL.getD q 0 then sBn q (i - e) else y i)) (h.row (funext fun i => getB hq hL h.yv) (getBl hq hL h.lt)) (fun T (hj : JB S0 b v0 cap0 T v cap (n) (fun i => if e ≤ i ∧ i < e + strL.getD q 0 then sBn q (i - e) else y i)) => ?_)
    refine r_goto (tgt := 43) dJ0_getBytes_840e7_25 (by decide) ?_
    exact r_vret dJ0_getBytes_840e7_43 rfl ⟨rfl, _, hj, fun i hi => if_neg (by omega), fun i hi => (if_pos (by omega)).trans (congrArg (sBn q) (by omega))⟩
set_option maxRecDepth 4000 in
set_option maxHeartbeats 400000 in
theorem j_putStr {G : GI} {S0 S : Hp} {q b v0 cap0 v cap n : Nat} {y : Nat → Nat} (hq : q < 23) (h : JB S0 b v0 cap0 S v cap n y) {e : Nat} (he : e + strL.getD q 0 ≤ cap) : Cn m_J5_putStringAt_47b60 G [.ref (b), .int (nI (e)), .ref (gK G 2 q)] S (fun r T => r = .inl none ∧ ∃ y', JB S0 b v0 cap0 T v cap n y' ∧ (∀ i, i < e → y' i = y i) ∧ ∀ i, i < strL.getD q 0 → y' (e + i) = sBn q i) := by
  refine Cn.of rfl (by decide) (Nat.le_of_ble_eq_true rfl) (fun hN hM => ?_)
  show Wx _ G _ 0 [(0, .ref (b)), (1, .int (nI (e))), (2, .ref (gK G 2 q))] [] _
  have hc := h.c142
  have hle := h.le
  refine r_aload_n dJ5_putStringAt_47b60_0 rfl 0 rfl ?_
  refine r_aload_n dJ5_putStringAt_47b60_1 rfl 2 rfl ?_
  refine r_fnP (M2 := m_J5_inflateIfNeededFor_a7421) (As := [.ref (gK G 2 q)]) (rest := []) (v := none) dJ5_putStringAt_47b60_2 cu_J5_putStringAt_47b60_397 rfl rfl rfl (Nat.le_of_ble_eq_true rfl) h.tb rfl (by decide) (j_infl hq h) rfl ?_
  refine r_aload_n dJ5_putStringAt_47b60_5 rfl 2 rfl ?_
  refine r_aload_n dJ5_putStringAt_47b60_6 rfl 0 rfl ?_
  refine r_getR (ci := 1) (k := 0) (b := v) dJ5_putStringAt_47b60_7 fr_J5_15 h.tb rfl h.pv ?_
  refine r_iload_n dJ5_putStringAt_47b60_10 rfl 1 rfl ?_
  refine r_aload_n dJ5_putStringAt_47b60_11 rfl 0 rfl ?_
  refine r_getI (ci := 1) (k := 1) dJ5_putStringAt_47b60_12 fr_J5_22 h.tb rfl ?_
  refine Wx.top h.co ?_
  refine r_callVC (M2 := m_J0_getBytes_840e7) (As := [.ref (v), .int (nI (e)), .int (nI (0))]) (rest := []) (fun U h => (h.2.2.2.1.1.1 q hq).1) dJ5_putStringAt_47b60_15 cc_J5_putStringAt_47b60_399 rfl rfl rfl (Nat.le_of_ble_eq_true rfl) (j_getBytes hq h he) (fun v9 T hq9 => ?_) (fun E9 T9 hq9 => by cases hq9.1)
  obtain ⟨hv9, y1, h1, e1, e2⟩ := hq9
  cases hv9
  show Wx _ G T 18 [(0, .ref (b)), (1, .int (nI (e))), (2, .ref (gK G 2 q))] [] _
  exact r_vret dJ5_putStringAt_47b60_18 rfl ⟨rfl, _, h1, e1, e2⟩
set_option maxRecDepth 4000 in
set_option maxHeartbeats 400000 in
theorem j_appS5 {G : GI} {S0 S : Hp} {q b v0 cap0 v cap n : Nat} {y : Nat → Nat} (hq : q < 23) (h : JB S0 b v0 cap0 S v cap n y) (g1 : zX S0 + fX cap0 ≤ gN G) (g2 : zU S0 + fU cap0 ≤ gM G) (hn : n + strL.getD q 0 ≤ 142) : Cn m_J5_append_cf1ce G [.ref (b), .ref (gK G 2 q)] S (fun r T => r = .inl (some (.ref b)) ∧ AP S0 b v0 cap0 n y (strL.getD q 0) (sBn q) T) := by
  refine Cn.of rfl (by decide) (Nat.le_of_ble_eq_true rfl) (fun hN hM => ?_)
  show Wx _ G _ 0 [(0, .ref (b)), (1, .ref (gK G 2 q))] [] _
  have hc := h.c142
  have hle := h.le
  have hL := sL_n q hq
  refine r_aload_n dJ5_append_cf1ce_0 rfl 1 rfl ?_
  refine r_ifnonnull (tgt := 9) dJ5_append_cf1ce_1 (by decide) ?_
  refine r_aload_n dJ5_append_cf1ce_9 rfl 1 rfl ?_
  refine r_fnVC (M2 := m_J0_length_8abf5) (As := []) (rest := []) (v := some (.int (nI (strL.getD q 0)))) (fun U h => (h.2.2.2.1.1.1 q hq).1) dJ5_append_cf1ce_10 cc_J5_append_cf1ce_32 rfl rfl rfl (Nat.le_of_ble_eq_true rfl) (j_strLen hq) rfl ?_
  refine r_istore_n (lv' := [(2, .int (nI (strL.getD q 0))), (0, .ref (b)), (1, .ref (gK G 2 q))]) dJ5_append_cf1ce_13 rfl (by decide) rfl ?_
  refine r_aload_n dJ5_append_cf1ce_14 rfl 1 rfl ?_
  refine r_aload_n dJ5_append_cf1ce_15 rfl 1 rfl ?_
  refine r_getI (ci := 1) (k := 3) dJ5_append_cf1ce_16 fr_J5_79 h.tb rfl ?_
  refine Wx.top h.cn ?_
  refine r_iload_n dJ5_append_cf1ce_19 rfl 0 rfl ?_
  refine r_iaddN dJ5_append_cf1ce_20 ?_
  refine r_callP (M2 := m_J5_ensureCapacityInternal_d00df) (As := [.int (nI (n + (strL.getD q 0)))]) (rest := []) dJ5_append_cf1ce_21 cu_J5_append_cf1ce_100 rfl rfl rfl (Nat.le_of_ble_eq_true rfl) h.tb rfl (by decide) (j_ens h g1 g2 (m := n + (strL.getD q 0)) (by omega) (by omega)) (fun v9 T hq => ?_) (fun E9 T9 hq => by cases hq.1)
  obtain ⟨hv9, v1, cap1, y1, h1, hm1, hy1⟩ := hq
  cases hv9
  show Wx _ G T 24 [(2, .int (nI (strL.getD q 0))), (0, .ref (b)), (1, .ref (gK G 2 q))] [] _
  have hc1 := h1.c142
  have hle1 := h1.le
  refine r_aload_n dJ5_append_cf1ce_24 rfl 1 rfl ?_
  refine r_aload_n dJ5_append_cf1ce_25 rfl 1 rfl ?_
  refine r_getI (ci := 1) (k := 3) dJ5_append_cf1ce_26 fr_J5_79 h1.tb rfl ?_
  refine Wx.top h1.cn ?_
  refine r_aload_n dJ5_append_cf1ce_29 rfl 2 rfl ?_
  refine r_callP (M2 := m_J5_putStringAt_47b60) (As := [.int (nI (n)), .ref (gK G 2 q)]) (rest := []) dJ5_append_cf1ce_30 cu_J5_append_cf1ce_208 rfl rfl rfl (Nat.le_of_ble_eq_true rfl) h1.tb rfl (by decide) (j_putStr hq h1 (by omega)) (fun v9 T_1 hq => ?_) (fun E9 T9 hq => by cases hq.1)
  obtain ⟨hv9, y2, h2, e1, e2⟩ := hq
  cases hv9
  show Wx _ G T_1 33 [(2, .int (nI (strL.getD q 0))), (0, .ref (b)), (1, .ref (gK G 2 q))] [] _
  refine r_aload_n dJ5_append_cf1ce_33 rfl 1 rfl ?_
  refine r_dup dJ5_append_cf1ce_34 rfl ?_
  refine r_getI (ci := 1) (k := 3) dJ5_append_cf1ce_35 fr_J5_79 h2.tb rfl ?_
  refine Wx.top h2.cn ?_
  refine r_iload_n dJ5_append_cf1ce_38 rfl 0 rfl ?_
  refine r_iaddN dJ5_append_cf1ce_39 ?_
  refine r_putI (ci := 1) (k := 3) dJ5_append_cf1ce_40 fw_J5_append_cf1ce_79 h2.tb rfl rfl rfl ?_
  refine Wx.gp (fun T => JB S0 b v0 cap0 T v1 cap1 (n + (strL.getD q 0)) y2) (h2.cnt (n' := n + (strL.getD q 0)) (by (first | omega | (have := sL_n q hq; omega)))) (fun T_2 (hj : JB S0 b v0 cap0 T_2 v1 cap1 (n + (strL.getD q 0)) y2) => ?_)
  refine r_aload_n dJ5_append_cf1ce_43 rfl 1 rfl ?_
  exact r_aret (v := some b) dJ5_append_cf1ce_44 rfl (Or.inl ⟨_, rfl⟩) ⟨rfl, _, _, _, hj, fun i hi => (e1 i hi).trans (hy1 i hi), e2⟩
set_option maxRecDepth 4000 in
set_option maxHeartbeats 400000 in
theorem j_canEnc {G : GI} {S : Hp} {c : Nat} (hc : c < 128) : Fn m_J1_canEncode_fc78d G [.int (nI (c))] S (some (.int (nI (1)))) S := by
  refine Cn.of rfl (by decide) (Nat.le_of_ble_eq_true rfl) (fun hN hM => ?_)
  show Wx _ G _ 0 [(0, .int (nI (c)))] [] _
  refine r_iload_n dJ1_canEncode_fc78d_0 rfl 0 rfl ?_
  refine r_sipush (v := nI 255) dJ1_canEncode_fc78d_1 (by decide) ?_
  refine r_icmp_gtN (tgt := 11) dJ1_canEncode_fc78d_4 (by decide) (by omega) (by omega) (fun h4 => ?_) (fun h4 => ?_)
  · exact absurd h4 (by omega)
  · refine r_iconst (v := nI 1) dJ1_canEncode_fc78d_7 (by decide) ?_
    refine r_goto (tgt := 12) dJ1_canEncode_fc78d_8 (by decide) ?_
    exact r_iret (ty := .boolean) dJ1_canEncode_fc78d_12 rfl (by decide) ⟨rfl, rfl⟩
set_option maxRecDepth 4000 in
set_option maxHeartbeats 400000 in
theorem j_appC5 {G : GI} {S0 S : Hp} {b v0 cap0 v cap n : Nat} {y : Nat → Nat} (h : JB S0 b v0 cap0 S v cap n y) (g1 : zX S0 + fX cap0 ≤ gN G) (g2 : zU S0 + fU cap0 ≤ gM G) {c : Nat} (hc9 : c < 128) (hn : n + 1 ≤ 142) : Cn m_J5_append_3fe6f G [.ref (b), .int (nI (c))] S (fun r T => r = .inl (some (.ref b)) ∧ AP S0 b v0 cap0 n y (1) (fun _ => c) T) := by
  refine Cn.of rfl (by decide) (Nat.le_of_ble_eq_true rfl) (fun hN hM => ?_)
  show Wx _ G _ 0 [(0, .ref (b)), (1, .int (nI (c)))] [] _
  have hc := h.c142
  have hle := h.le
  refine r_aload_n dJ5_append_3fe6f_0 rfl 0 rfl ?_
  refine r_aload_n dJ5_append_3fe6f_1 rfl 0 rfl ?_
  refine r_getI (ci := 1) (k := 3) dJ5_append_3fe6f_2 fr_J5_79 h.tb rfl ?_
  refine Wx.top h.cn ?_
  refine r_iconst (v := nI 1) dJ5_append_3fe6f_5 (by decide) ?_
  refine r_iaddN dJ5_append_3fe6f_6 ?_
  refine r_callP (M2 := m_J5_ensureCapacityInternal_d00df) (As := [.int (nI (n + 1))]) (rest := []) dJ5_append_3fe6f_7 cu_J5_append_3fe6f_100 rfl rfl rfl (Nat.le_of_ble_eq_true rfl) h.tb rfl (by decide) (j_ens h g1 g2 (m := n + 1) (by omega) (by omega)) (fun v9 T hq => ?_) (fun E9 T9 hq => by cases hq.1)
  obtain ⟨hv9, v1, cap1, y1, h1, hm1, hy1⟩ := hq
  cases hv9
  show Wx _ G T 10 [(0, .ref (b)), (1, .int (nI (c)))] [] _
  have hc1 := h1.c142
  have hle1 := h1.le
  refine r_aload_n dJ5_append_3fe6f_10 rfl 0 rfl ?_
  refine r_fnU (M2 := m_J5_isLatin1_aae02) (As := []) (rest := []) (v := some (.int (nI (1)))) dJ5_append_3fe6f_11 cu_J5_append_3fe6f_83 rfl rfl rfl (Nat.le_of_ble_eq_true rfl) h1.tb rfl rfl (by decide) (j_latin h1) rfl ?_
  refine r_if_eqN (tgt := 45) dJ5_append_3fe6f_14 (by decide) (by omega) (fun zz14 => ?_) (fun zz14 => ?_)
  · exact absurd zz14 (by decide)
  · refine r_iload_n dJ5_append_3fe6f_17 rfl 1 rfl ?_
    refine r_fnS (M2 := m_J1_canEncode_fc78d) (As := [.int (nI (c))]) (rest := []) (v := some (.int (nI (1)))) dJ5_append_3fe6f_18 cc_J5_append_3fe6f_191 rfl rfl rfl (Nat.le_of_ble_eq_true rfl) (j_canEnc hc9) rfl ?_
    refine r_if_eqN (tgt := 45) dJ5_append_3fe6f_21 (by decide) (by omega) (fun zz21 => ?_) (fun zz21 => ?_)
    · exact absurd zz21 (by decide)
    · refine r_aload_n dJ5_append_3fe6f_24 rfl 0 rfl ?_
      refine r_getR (ci := 1) (k := 0) (b := v1) dJ5_append_3fe6f_25 fr_J5_15 h1.tb rfl h1.pv ?_
      refine r_aload_n dJ5_append_3fe6f_28 rfl 0 rfl ?_
      refine r_dup dJ5_append_3fe6f_29 rfl ?_
      refine r_getI (ci := 1) (k := 3) dJ5_append_3fe6f_30 fr_J5_79 h1.tb rfl ?_
      refine Wx.top h1.cn ?_
      refine r_dup_x1 dJ5_append_3fe6f_33 rfl rfl ?_
      refine r_iconst (v := nI 1) dJ5_append_3fe6f_34 (by decide) ?_
      refine r_iaddN dJ5_append_3fe6f_35 ?_
      refine r_putI (ci := 1) (k := 3) dJ5_append_3fe6f_36 fw_J5_append_3fe6f_79 h1.tb rfl rfl rfl ?_
      refine Wx.gp (fun T => JB S0 b v0 cap0 T v1 cap1 (n + 1) y1) (h1.cnt (n' := n + 1) (by omega)) (fun T_1 (hj : JB S0 b v0 cap0 T_1 v1 cap1 (n + 1) y1) => ?_)
      refine r_iload_n dJ5_append_3fe6f_39 rfl 1 rfl ?_
      refine r_i2b dJ5_append_3fe6f_40 ?_
      refine Wx.top (i2b_n hc9) ?_
      refine r_bast dJ5_append_3fe6f_41 hj.tv (by rw [hj.nv]; exact vp_in_nI (by omega) (by omega)) ?_
      refine Wx.st' (S' := uA T_1 (v1) (n) (nI (c))) (by rw [nI_clamp (by omega), by_n (by omega)]) ?_
      refine Wx.gp (fun T => JB S0 b v0 cap0 T v1 cap1 (n + 1) (up1 y1 (n) (c))) (hj.set (by omega)) (fun T_2 (hj_1 : JB S0 b v0 cap0 T_2 v1 cap1 (n + 1) (up1 y1 (n) (c))) => ?_)
      refine r_goto (tgt := 75) dJ5_append_3fe6f_42 (by decide) ?_
      refine r_aload_n dJ5_append_3fe6f_75 rfl 0 rfl ?_
      exact r_aret (v := some b) dJ5_append_3fe6f_76 rfl (Or.inl ⟨_, rfl⟩) ⟨rfl, _, _, _, hj_1, fun i hi => (up1_n (by omega)).trans (hy1 i hi), fun i hi => (by have e9 : i = 0 := (by omega); subst e9; exact up1_s)⟩
set_option maxRecDepth 4000 in
set_option maxHeartbeats 400000 in
theorem j_appI5 {G : GI} {S0 S : Hp} {b v0 cap0 v cap n : Nat} {y : Nat → Nat} (h : JB S0 b v0 cap0 S v cap n y) (g1 : zX S0 + fX cap0 ≤ gN G) (g2 : zU S0 + fU cap0 ≤ gM G) {i : Nat} (hi : i < 1000) (hn : n + szN i ≤ 142) : Cn m_J5_append_c97b9 G [.ref (b), .int (nI (i))] S (fun r T => r = .inl (some (.ref b)) ∧ AP S0 b v0 cap0 n y (szN i) (dgt i) T) := by
  refine Cn.of rfl (by decide) (Nat.le_of_ble_eq_true rfl) (fun hN hM => ?_)
  show Wx _ G _ 0 [(0, .ref (b)), (1, .int (nI (i)))] [] _
  have hc := h.c142
  have hle := h.le
  have hb3 := szN_b i
  refine r_aload_n dJ5_append_c97b9_0 rfl 0 rfl ?_
  refine r_getI (ci := 1) (k := 3) dJ5_append_c97b9_1 fr_J5_79 h.tb rfl ?_
  refine Wx.top h.cn ?_
  refine r_istore_n (lv' := [(2, .int (nI (n))), (0, .ref (b)), (1, .int (nI (i)))]) dJ5_append_c97b9_4 rfl (by decide) rfl ?_
  refine r_iload_n dJ5_append_c97b9_5 rfl 0 rfl ?_
  refine r_iload_n dJ5_append_c97b9_6 rfl 2 rfl ?_
  refine r_fnS (M2 := m_J6_stringSize_0f7a4) (As := [.int (nI (i))]) (rest := [.int (nI (n))]) (v := some (.int (nI (szN i)))) dJ5_append_c97b9_7 cc_J5_append_c97b9_245 rfl rfl rfl (Nat.le_of_ble_eq_true rfl) (j_stringSize hi) rfl ?_
  refine r_iaddN dJ5_append_c97b9_10 ?_
  refine r_istore_n (lv' := [(3, .int (nI (n + (szN i)))), (2, .int (nI (n))), (0, .ref (b)), (1, .int (nI (i)))]) dJ5_append_c97b9_11 rfl (by decide) rfl ?_
  refine r_aload_n dJ5_append_c97b9_12 rfl 2 rfl ?_
  refine r_iload_n dJ5_append_c97b9_13 rfl 0 rfl ?_
  refine r_callP (M2 := m_J5_ensureCapacityInternal_d00df) (As := [.int (nI (n + (szN i)))]) (rest := []) dJ5_append_c97b9_14 cu_J5_append_c97b9_100 rfl rfl rfl (Nat.le_of_ble_eq_true rfl) h.tb rfl (by decide) (j_ens h g1 g2 (m := n + (szN i)) (by omega) (by omega)) (fun v9 T hq => ?_) (fun E9 T9 hq => by cases hq.1)
  obtain ⟨hv9, v1, cap1, y1, h1, hm1, hy1⟩ := hq
  cases hv9
  show Wx _ G T 17 [(3, .int (nI (n + (szN i)))), (2, .int (nI (n))), (0, .ref (b)), (1, .int (nI (i)))] [] _
  have hc1 := h1.c142
  have hle1 := h1.le
  refine r_aload_n dJ5_append_c97b9_17 rfl 2 rfl ?_
  refine r_fnU (M2 := m_J5_isLatin1_aae02) (As := []) (rest := []) (v := some (.int (nI (1)))) dJ5_append_c97b9_18 cu_J5_append_c97b9_83 rfl rfl rfl (Nat.le_of_ble_eq_true rfl) h1.tb rfl rfl (by decide) (j_latin h1) rfl ?_
  refine r_if_eqN (tgt := 37) dJ5_append_c97b9_21 (by decide) (by omega) (fun zz21 => ?_) (fun zz21 => ?_)
  · exact absurd zz21 (by decide)
  · refine r_iload_n dJ5_append_c97b9_24 rfl 3 rfl ?_
    refine r_iload_n dJ5_append_c97b9_25 rfl 0 rfl ?_
    refine r_aload_n dJ5_append_c97b9_26 rfl 2 rfl ?_
    refine r_getR (ci := 1) (k := 0) (b := v1) dJ5_append_c97b9_27 fr_J5_15 h1.tb rfl h1.pv ?_
    refine r_callS (M2 := m_J6_getChars_ba4f3) (As := [.int (nI (i)), .int (nI (n + (szN i))), .ref (v1)]) (rest := []) dJ5_append_c97b9_30 cc_J5_append_c97b9_248 rfl rfl rfl (Nat.le_of_ble_eq_true rfl) (j_getChars h1 hi (e := n + szN i) (by omega) (by omega)) (fun v9 T_1 hq => ?_) (fun E9 T9 hq => by cases hq.1)
    obtain ⟨hv9, y2, h2, e1, e2⟩ := hq
    cases hv9
    show Wx _ G T_1 33 [(3, .int (nI (n + (szN i)))), (2, .int (nI (n))), (0, .ref (b)), (1, .int (nI (i)))] [.int (nI (n + szN i - szN i))] _
    refine r_pop dJ5_append_c97b9_33 rfl ?_
    refine r_goto (tgt := 48) dJ5_append_c97b9_34 (by decide) ?_
    refine r_aload_n dJ5_append_c97b9_48 rfl 2 rfl ?_
    refine r_iload_n dJ5_append_c97b9_49 rfl 0 rfl ?_
    refine r_putI (ci := 1) (k := 3) dJ5_append_c97b9_50 fw_J5_append_c97b9_79 h2.tb rfl rfl rfl ?_
    refine Wx.gp (fun T => JB S0 b v0 cap0 T v1 cap1 (n + (szN i)) y2) (h2.cnt (n' := n + (szN i)) (by omega)) (fun T_2 (hj : JB S0 b v0 cap0 T_2 v1 cap1 (n + (szN i)) y2) => ?_)
    refine r_aload_n dJ5_append_c97b9_53 rfl 2 rfl ?_
    exact r_aret (v := some b) dJ5_append_c97b9_54 rfl (Or.inl ⟨_, rfl⟩) ⟨rfl, _, _, _, hj, fun i hi => (e1 i (by omega)).trans (hy1 i hi), fun k hk => by have := e2 k hk; rw [show n + szN i - szN i = n by omega] at this; exact this⟩
set_option maxRecDepth 4000 in
set_option maxHeartbeats 400000 in
theorem j_appS {G : GI} {S0 S : Hp} {q b v0 cap0 v cap n : Nat} {y : Nat → Nat} (hq : q < 23) (h : JB S0 b v0 cap0 S v cap n y) (g1 : zX S0 + fX cap0 ≤ gN G) (g2 : zU S0 + fU cap0 ≤ gM G) (hn : n + strL.getD q 0 ≤ 142) : Cn m_J4_append_15ec4 G [.ref (b), .ref (gK G 2 q)] S (fun r T => r = .inl (some (.ref b)) ∧ AP S0 b v0 cap0 n y (strL.getD q 0) (sBn q) T) := by
  refine Cn.of rfl (by decide) (Nat.le_of_ble_eq_true rfl) (fun hN hM => ?_)
  show Wx _ G _ 0 [(0, .ref (b)), (1, .ref (gK G 2 q))] [] _
  refine r_aload_n dJ4_append_15ec4_0 rfl 0 rfl ?_
  refine r_aload_n dJ4_append_15ec4_1 rfl 1 rfl ?_
  refine r_callSU (M2 := m_J5_append_cf1ce) (As := [.ref (gK G 2 q)]) (rest := []) dJ4_append_15ec4_2 cu_J4_append_15ec4_29 rfl rfl rfl (Nat.le_of_ble_eq_true rfl) h.tb rfl (by decide) (j_appS5 hq h g1 g2 hn) (fun v9 T hq => ?_) (fun E9 T9 hq => by cases hq.1)
  obtain ⟨hv9, hap⟩ := hq
  cases hv9
  show Wx _ G T 5 [(0, .ref (b)), (1, .ref (gK G 2 q))] [.ref (b)] _
  refine r_pop dJ4_append_15ec4_5 rfl ?_
  refine r_aload_n dJ4_append_15ec4_6 rfl 0 rfl ?_
  exact r_aret (v := some b) dJ4_append_15ec4_7 rfl (Or.inl ⟨_, rfl⟩) ⟨rfl, hap⟩
set_option maxRecDepth 4000 in
set_option maxHeartbeats 400000 in
theorem j_appC {G : GI} {S0 S : Hp} {b v0 cap0 v cap n : Nat} {y : Nat → Nat} (h : JB S0 b v0 cap0 S v cap n y) (g1 : zX S0 + fX cap0 ≤ gN G) (g2 : zU S0 + fU cap0 ≤ gM G) {c : Nat} (hc9 : c < 128) (hn : n + 1 ≤ 142) : Cn m_J4_append_cf468 G [.ref (b), .int (nI (c))] S (fun r T => r = .inl (some (.ref b)) ∧ AP S0 b v0 cap0 n y (1) (fun _ => c) T) := by
  refine Cn.of rfl (by decide) (Nat.le_of_ble_eq_true rfl) (fun hN hM => ?_)
  show Wx _ G _ 0 [(0, .ref (b)), (1, .int (nI (c)))] [] _
  refine r_aload_n dJ4_append_cf468_0 rfl 0 rfl ?_
  refine r_iload_n dJ4_append_cf468_1 rfl 1 rfl ?_
  refine r_callSU (M2 := m_J5_append_3fe6f) (As := [.int (nI (c))]) (rest := []) dJ4_append_cf468_2 cu_J4_append_cf468_50 rfl rfl rfl (Nat.le_of_ble_eq_true rfl) h.tb rfl (by decide) (j_appC5 h g1 g2 hc9 hn) (fun v9 T hq => ?_) (fun E9 T9 hq => by cases hq.1)
  obtain ⟨hv9, hap⟩ := hq
  cases hv9
  show Wx _ G T 5 [(0, .ref (b)), (1, .int (nI (c)))] [.ref (b)] _
  refine r_pop dJ4_append_cf468_5 rfl ?_
  refine r_aload_n dJ4_append_cf468_6 rfl 0 rfl ?_
  exact r_aret (v := some b) dJ4_append_cf468_7 rfl (Or.inl ⟨_, rfl⟩) ⟨rfl, hap⟩
set_option maxRecDepth 4000 in
set_option maxHeartbeats 400000 in
theorem j_appI {G : GI} {S0 S : Hp} {b v0 cap0 v cap n : Nat} {y : Nat → Nat} (h : JB S0 b v0 cap0 S v cap n y) (g1 : zX S0 + fX cap0 ≤ gN G) (g2 : zU S0 + fU cap0 ≤ gM G) {i : Nat} (hi : i < 1000) (hn : n + szN i ≤ 142) : Cn m_J4_append_bf812 G [.ref (b), .int (nI (i))] S (fun r T => r = .inl (some (.ref b)) ∧ AP S0 b v0 cap0 n y (szN i) (dgt i) T) := by
  refine Cn.of rfl (by decide) (Nat.le_of_ble_eq_true rfl) (fun hN hM => ?_)
  show Wx _ G _ 0 [(0, .ref (b)), (1, .int (nI (i)))] [] _
  refine r_aload_n dJ4_append_bf812_0 rfl 0 rfl ?_
  refine r_iload_n dJ4_append_bf812_1 rfl 1 rfl ?_
  refine r_callSU (M2 := m_J5_append_c97b9) (As := [.int (nI (i))]) (rest := []) dJ4_append_bf812_2 cu_J4_append_bf812_53 rfl rfl rfl (Nat.le_of_ble_eq_true rfl) h.tb rfl (by decide) (j_appI5 h g1 g2 hi hn) (fun v9 T hq => ?_) (fun E9 T9 hq => by cases hq.1)
  obtain ⟨hv9, hap⟩ := hq
  cases hv9
  show Wx _ G T 5 [(0, .ref (b)), (1, .int (nI (i)))] [.ref (b)] _
  refine r_pop dJ4_append_bf812_5 rfl ?_
  refine r_aload_n dJ4_append_bf812_6 rfl 0 rfl ?_
  exact r_aret (v := some b) dJ4_append_bf812_7 rfl (Or.inl ⟨_, rfl⟩) ⟨rfl, hap⟩
set_option maxRecDepth 4000 in
set_option maxHeartbeats 400000 in
theorem j_check3n {G : GI} {S : Hp} {i m : Nat} (hi : i < m) (hm : m < 2 ^ 31) : Fn m_J3_checkIndex_8e157 G [.int (nI (i)), .int (nI (m)), .null] S (some (.int (nI (i)))) S := by
  refine Cn.of rfl (by decide) (Nat.le_of_ble_eq_true rfl) (fun hN hM => ?_)
  show Wx _ G _ 0 [(0, .int (nI (i))), (1, .int (nI (m))), (2, .null)] [] _
  refine r_iload_n dJ3_checkIndex_8e157_0 rfl 0 rfl ?_
  refine r_if_ltN (tgt := 9) dJ3_checkIndex_8e157_1 (by decide) (by omega) ?_
  refine r_iload_n dJ3_checkIndex_8e157_4 rfl 0 rfl ?_
  refine r_iload_n dJ3_checkIndex_8e157_5 rfl 1 rfl ?_
  refine r_icmp_ltN (tgt := 16) dJ3_checkIndex_8e157_6 (by decide) (by omega) (by omega) (fun h6 => ?_) (fun h6 => ?_)
  · refine r_iload_n dJ3_checkIndex_8e157_16 rfl 0 rfl ?_
    exact r_iret (ty := .int) dJ3_checkIndex_8e157_17 rfl rfl ⟨rfl, rfl⟩
  · exact absurd (show i < m from hi) h6
set_option maxRecDepth 4000 in
set_option maxHeartbeats 400000 in
theorem j_check3r {G : GI} {S : Hp} {i m : Nat} {t : Nat} (hi : i < m) (hm : m < 2 ^ 31) : Fn m_J3_checkIndex_8e157 G [.int (nI (i)), .int (nI (m)), .ref (t)] S (some (.int (nI (i)))) S := by
  refine Cn.of rfl (by decide) (Nat.le_of_ble_eq_true rfl) (fun hN hM => ?_)
  show Wx _ G _ 0 [(0, .int (nI (i))), (1, .int (nI (m))), (2, .ref (t))] [] _
  refine r_iload_n dJ3_checkIndex_8e157_0 rfl 0 rfl ?_
  refine r_if_ltN (tgt := 9) dJ3_checkIndex_8e157_1 (by decide) (by omega) ?_
  refine r_iload_n dJ3_checkIndex_8e157_4 rfl 0 rfl ?_
  refine r_iload_n dJ3_checkIndex_8e157_5 rfl 1 rfl ?_
  refine r_icmp_ltN (tgt := 16) dJ3_checkIndex_8e157_6 (by decide) (by omega) (by omega) (fun h6 => ?_) (fun h6 => ?_)
  · refine r_iload_n dJ3_checkIndex_8e157_16 rfl 0 rfl ?_
    exact r_iret (ty := .int) dJ3_checkIndex_8e157_17 rfl rfl ⟨rfl, rfl⟩
  · exact absurd (show i < m from hi) h6
theorem j_check3 {G : GI} {S : Hp} {i m : Nat} {f : Option Nat} (hi : i < m) (hm : m < 2 ^ 31) : Fn m_J3_checkIndex_8e157 G [.int (nI i), .int (nI m), va_rf f] S (some (.int (nI i))) S := by
  cases f with
  | none => exact j_check3n hi hm
  | some t => exact j_check3r hi hm
set_option maxRecDepth 4000 in
set_option maxHeartbeats 400000 in
theorem j_check {G : GI} {S : Hp} {i m : Nat} (hi : i < m) (hm : m < 2 ^ 31) : Fn m_J0_checkIndex_df160 G [.int (nI (i)), .int (nI (m))] S none S := by
  refine Cn.of rfl (by decide) (Nat.le_of_ble_eq_true rfl) (fun hN hM => ?_)
  show Wx _ G _ 0 [(0, .int (nI (i))), (1, .int (nI (m)))] [] _
  refine r_iload_n dJ0_checkIndex_df160_0 rfl 0 rfl ?_
  refine r_iload_n dJ0_checkIndex_df160_1 rfl 1 rfl ?_
  refine r_getsQ (C := "jdk/internal/util/Preconditions") (n := "SIOOBE_FORMATTER") (d := "Ljava/util/function/BiFunction;") (fun U h => h.2.2.2.2.2.2.2.2.2) dJ0_checkIndex_df160_2 (sg6 40 rfl rfl) (fun f => ?_)
  refine r_fnS (M2 := m_J3_checkIndex_8e157) (As := [.int (nI (i)), .int (nI (m)), va_rf (f)]) (rest := []) (v := some (.int (nI (i)))) dJ0_checkIndex_df160_5 cc_J0_checkIndex_df160_1059 rfl rfl rfl (Nat.le_of_ble_eq_true rfl) (j_check3 hi hm) rfl ?_
  refine r_pop dJ0_checkIndex_df160_8 rfl ?_
  exact r_vret dJ0_checkIndex_df160_9 rfl ⟨rfl, rfl⟩
set_option maxRecDepth 4000 in
set_option maxHeartbeats 400000 in
theorem j_charAt5 {G : GI} {S0 S : Hp} {b v0 cap0 v cap n : Nat} {y : Nat → Nat} (h : JB S0 b v0 cap0 S v cap n y) {i : Nat} (hi : i < n) : Fn m_J5_charAt_5068e G [.ref (b), .int (nI (i))] S (some (.int (nI (y i)))) S := by
  refine Cn.of rfl (by decide) (Nat.le_of_ble_eq_true rfl) (fun hN hM => ?_)
  show Wx _ G _ 0 [(0, .ref (b)), (1, .int (nI (i)))] [] _
  have hc := h.c142
  have hle := h.le
  refine r_aload_n dJ5_charAt_5068e_0 rfl 0 rfl ?_
  refine r_getI (ci := 1) (k := 1) dJ5_charAt_5068e_1 fr_J5_22 h.tb rfl ?_
  refine Wx.top h.co ?_
  refine r_istore_n (lv' := [(2, .int (nI (0))), (0, .ref (b)), (1, .int (nI (i)))]) dJ5_charAt_5068e_4 rfl (by decide) rfl ?_
  refine r_aload_n dJ5_charAt_5068e_5 rfl 1 rfl ?_
  refine r_getR (ci := 1) (k := 0) (b := v) dJ5_charAt_5068e_6 fr_J5_15 h.tb rfl h.pv ?_
  refine r_astore_n (lv' := [(3, .ref (v)), (2, .int (nI (0))), (0, .ref (b)), (1, .int (nI (i)))]) dJ5_charAt_5068e_9 rfl (by decide) rfl ?_
  refine r_aload_n dJ5_charAt_5068e_10 rfl 2 rfl ?_
  refine r_getI (ci := 1) (k := 3) dJ5_charAt_5068e_11 fr_J5_79 h.tb rfl ?_
  refine Wx.top h.cn ?_
  refine r_aload_n dJ5_charAt_5068e_14 rfl 0 rfl ?_
  refine r_alen104 dJ5_charAt_5068e_15 h.tv ?_
  refine Wx.top (congrArg nI h.nv) ?_
  refine r_iload_n dJ5_charAt_5068e_16 rfl 1 rfl ?_
  refine r_ishrN dJ5_charAt_5068e_17 (by omega) (by omega) ?_
  refine r_fnS (M2 := m_J9_min_7cf53) (As := [.int (nI (n)), .int (nI (cap / 2 ^ 0))]) (rest := []) (v := some (.int (nI (n)))) dJ5_charAt_5068e_18 cc_J5_charAt_5068e_138 rfl rfl rfl (Nat.le_of_ble_eq_true rfl) (by have q9 := j_min (G := G) (S := S) (x := n) (y := cap / 2 ^ 0) (by omega) (by omega); rw [show Nat.min n (cap / 2 ^ 0) = n from Nat.min_eq_left (by omega)] at q9; exact q9) rfl ?_
  refine r_istore (lv' := [(4, .int (nI (n))), (3, .ref (v)), (2, .int (nI (0))), (0, .ref (b)), (1, .int (nI (i)))]) dJ5_charAt_5068e_21 (by decide) rfl ?_
  refine r_iload_n dJ5_charAt_5068e_23 rfl 4 rfl ?_
  refine r_iload dJ5_charAt_5068e_24 0 rfl ?_
  refine r_fnS (M2 := m_J0_checkIndex_df160) (As := [.int (nI (i)), .int (nI (n))]) (rest := []) (v := none) dJ5_charAt_5068e_26 cc_J5_charAt_5068e_144 rfl rfl rfl (Nat.le_of_ble_eq_true rfl) (j_check hi (by omega)) rfl ?_
  refine r_iload_n dJ5_charAt_5068e_29 rfl 2 rfl ?_
  refine r_if_neN (tgt := 42) dJ5_charAt_5068e_30 (by decide) (by omega) (fun zz30 => ?_) (fun zz30 => ?_)
  · exact absurd zz30 (by decide)
  · refine r_aload_n dJ5_charAt_5068e_33 rfl 1 rfl ?_
    refine r_iload_n dJ5_charAt_5068e_34 rfl 4 rfl ?_
    refine r_bald dJ5_charAt_5068e_35 h.tv (by rw [h.nv]; exact vp_in_nI (by omega) (by omega)) ?_
    refine Wx.top (congrArg (zA _ _) (nI_clamp (by omega))) ?_
    refine Wx.top (h.yv (i)) ?_
    refine r_sipush (v := nI 255) dJ5_charAt_5068e_36 (by decide) ?_
    refine r_iandM (k := 8) (c := 256) rfl rfl dJ5_charAt_5068e_39 (by decide) ?_
    refine Wx.topN (show y (i) % 256 = y i from Nat.mod_eq_of_lt (by have := h.lt i; omega)) ?_
    refine r_i2c dJ5_charAt_5068e_40 ?_
    refine Wx.top (i2c_n (by have := h.lt i; omega)) ?_
    exact r_iret (ty := .char) dJ5_charAt_5068e_41 rfl (show narrow .char (.int (nI (y i))) = .int (nI (y i)) from (pk_charN (by have := h.lt i; omega)).1) ⟨rfl, rfl⟩
set_option maxRecDepth 4000 in
set_option maxHeartbeats 400000 in
theorem j_charAt {G : GI} {S0 S : Hp} {b v0 cap0 v cap n : Nat} {y : Nat → Nat} (h : JB S0 b v0 cap0 S v cap n y) {i : Nat} (hi : i < n) : Fn m_J4_charAt_5068e G [.ref (b), .int (nI (i))] S (some (.int (nI (y i)))) S := by
  refine Cn.of rfl (by decide) (Nat.le_of_ble_eq_true rfl) (fun hN hM => ?_)
  show Wx _ G _ 0 [(0, .ref (b)), (1, .int (nI (i)))] [] _
  refine r_aload_n dJ4_charAt_5068e_0 rfl 0 rfl ?_
  refine r_iload_n dJ4_charAt_5068e_1 rfl 1 rfl ?_
  refine r_fnSU (M2 := m_J5_charAt_5068e) (As := [.int (nI (i))]) (rest := []) (v := some (.int (nI (y i)))) dJ4_charAt_5068e_2 cu_J4_charAt_5068e_329 rfl rfl rfl (Nat.le_of_ble_eq_true rfl) h.tb rfl (by decide) (j_charAt5 h hi) rfl ?_
  exact r_iret (ty := .char) dJ4_charAt_5068e_5 rfl (show narrow .char (.int (nI (y i))) = .int (nI (y i)) from (pk_charN (by have := h.lt i; omega)).1) ⟨rfl, rfl⟩
