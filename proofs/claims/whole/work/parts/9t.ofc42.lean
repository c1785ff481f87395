/-! A StringBuilder grows; numbers written -/
theorem JB.rm {S0 S : Hp} {b v0 cap0 v cap n : Nat} {y : Nat → Nat} {G : GI} (h : JB S0 b v0 cap0 S v cap n y) (g1 : zX S0 + fX cap0 ≤ gN G) (g2 : zU S0 + fU cap0 ≤ gM G) (hc : cap < 142) : zX S + 1 ≤ gN G ∧ zU S + (2 * cap + 2) ≤ gM G := by
  have h1 := h.2.2.2.2.2.2.1
  have h2 := h.2.2.2.2.2.2.2
  rcases h.ok with q | q | q | q <;> subst q
  · have e1 : fX 16 = 3 := rfl
    have e2 : fU 16 = 246 := rfl
    omega
  · have e1 : fX 34 = 2 := rfl
    have e2 : fU 34 = 212 := rfl
    omega
  · have e1 : fX 70 = 1 := rfl
    have e2 : fU 70 = 142 := rfl
    omega
  · omega
theorem lt_ite {y : Nat → Nat} {c : Nat} (h : ∀ i, y i < 128) (i : Nat) : (if i < c then y i else 0) < 128 := by
  by_cases e : i < c
  · rw [if_pos e]; exact h i
  · rw [if_neg e]; decide
theorem szN_s (i : Nat) : (i < 10 ∧ szN i = 1) ∨ (10 ≤ i ∧ i < 100 ∧ szN i = 2) ∨ (100 ≤ i ∧ szN i = 3) := by
  unfold szN
  by_cases h : i < 10
  · rw [if_pos h]; omega
  · rw [if_neg h]
    by_cases h2 : i < 100
    · rw [if_pos h2]; omega
    · rw [if_neg h2]; omega
theorem szN_b (i : Nat) : 1 ≤ szN i ∧ szN i ≤ 3 := by
  unfold szN
  (repeat' split) <;> omega
set_option maxRecDepth 4000 in
set_option maxHeartbeats 400000 in
theorem j_ens {G : GI} {S0 S : Hp} {b v0 cap0 v cap n : Nat} {y : Nat → Nat} (h : JB S0 b v0 cap0 S v cap n y) (g1 : zX S0 + fX cap0 ≤ gN G) (g2 : zU S0 + fU cap0 ≤ gM G) {m : Nat} (hm : m ≤ 142) (hm2 : m ≤ cap + 14) : Cn m_J5_ensureCapacityInternal_d00df G [.ref (b), .int (nI (m))] S (fun r T => r = .inl none ∧ ∃ v' cap' y', JB S0 b v0 cap0 T v' cap' n y' ∧ m ≤ cap' ∧ ∀ i, i < n → y' i = y i) := by
  refine Cn.of rfl (by decide) (Nat.le_of_ble_eq_true rfl) (fun hN hM => ?_)
  show Wx _ G _ 0 [(0, .ref (b)), (1, .int (nI (m)))] [] _
  have hc := h.c142
  have hle := h.le
  refine r_aload_n dJ5_ensureCapacityInternal_d00df_0 rfl 0 rfl ?_
  refine r_getR (ci := 1) (k := 0) (b := v) dJ5_ensureCapacityInternal_d00df_1 fr_J5_15 h.tb rfl h.pv ?_
  refine r_alen104 dJ5_ensureCapacityInternal_d00df_4 h.tv ?_
  refine Wx.top (congrArg nI h.nv) ?_
  refine r_aload_n dJ5_ensureCapacityInternal_d00df_5 rfl 0 rfl ?_
  refine r_getI (ci := 1) (k := 1) dJ5_ensureCapacityInternal_d00df_6 fr_J5_22 h.tb rfl ?_
  refine Wx.top h.co ?_
  refine r_ishrN dJ5_ensureCapacityInternal_d00df_9 (by omega) (by omega) ?_
  refine Wx.topN (show cap / 2 ^ 0 = cap by omega) ?_
  refine r_istore_n (lv' := [(2, .int (nI (cap))), (0, .ref (b)), (1, .int (nI (m)))]) dJ5_ensureCapacityInternal_d00df_10 rfl (by decide) rfl ?_
  refine r_iload_n dJ5_ensureCapacityInternal_d00df_11 rfl 2 rfl ?_
  refine r_iload_n dJ5_ensureCapacityInternal_d00df_12 rfl 0 rfl ?_
  rcases Nat.lt_or_ge cap m with hlt | hlt
  · obtain ⟨r1, r2⟩ := h.rm g1 g2 (by omega)
    have h70 : cap ≤ 70 := by rcases h.ok with q | q | q | q <;> omega
    refine r_isubN dJ5_ensureCapacityInternal_d00df_13 (by omega) ?_
    refine r_if_leN (tgt := 38) dJ5_ensureCapacityInternal_d00df_14 (by decide) (by omega) (fun h14 => ?_) (fun h14 => ?_)
    · exact absurd h14 (by omega)
    · refine r_aload_n dJ5_ensureCapacityInternal_d00df_17 rfl 1 rfl ?_
      refine r_aload_n dJ5_ensureCapacityInternal_d00df_18 rfl 1 rfl ?_
      refine r_getR (ci := 1) (k := 0) (b := v) dJ5_ensureCapacityInternal_d00df_19 fr_J5_15 h.tb rfl h.pv ?_
      refine r_aload_n dJ5_ensureCapacityInternal_d00df_22 rfl 1 rfl ?_
      refine r_iload_n dJ5_ensureCapacityInternal_d00df_23 rfl 2 rfl ?_
      refine r_fnP (M2 := m_J5_newCapacity_0f7a4) (As := [.int (nI (m))]) (rest := [.ref (v), .ref (b)]) (v := some (.int (nI (2 * cap + 2)))) dJ5_ensureCapacityInternal_d00df_24 cu_J5_ensureCapacityInternal_d00df_104 rfl rfl rfl (Nat.le_of_ble_eq_true rfl) h.tb rfl (by decide) (j_newCap h hlt (by omega)) rfl ?_
      refine r_aload_n dJ5_ensureCapacityInternal_d00df_27 rfl 1 rfl ?_
      refine r_getI (ci := 1) (k := 1) dJ5_ensureCapacityInternal_d00df_28 fr_J5_22 h.tb rfl ?_
      refine Wx.top h.co ?_
      refine r_ishlN dJ5_ensureCapacityInternal_d00df_31 (by omega) (by omega) ?_
      refine Wx.topN (show (2 * cap + 2) * 2 ^ 0 = 2 * cap + 2 by omega) ?_
      refine r_fnS (M2 := m_J7_copyOf_9075b) (As := [.ref (v), .int (nI (2 * cap + 2))]) (rest := [.ref (b)]) (v := some (.ref (zX S))) dJ5_ensureCapacityInternal_d00df_32 cc_J5_ensureCapacityInternal_d00df_108 rfl rfl rfl (Nat.le_of_ble_eq_true rfl) (j_copyOf h (m := 2 * cap + 2) (by omega) (by omega) r1 r2) rfl ?_
      have hbx : b ≠ zX S := by have := jFS_lt h.2.2.2.1.2 (show zT S b ≠ 0 by rw [h.tb]; decide); omega
      refine r_putP (ci := 1) (k := 0) (x := some (zX S)) dJ5_ensureCapacityInternal_d00df_35 fw_J5_ensureCapacityInternal_d00df_15 (show up1 (zT S) (zX S) 104 b = 2 from (up1_n hbx).trans h.tb) rfl rfl ?_
      refine Wx.gp (fun T => JB S0 b v0 cap0 T (zX S) (2 * cap + 2) (n) (fun i => if i < cap then y i else 0)) (h.grow (by omega) rfl (lt_ite h.lt)) (fun T (hj : JB S0 b v0 cap0 T (zX S) (2 * cap + 2) (n) (fun i => if i < cap then y i else 0)) => ?_)
      exact r_vret dJ5_ensureCapacityInternal_d00df_38 rfl ⟨rfl, _, _, _, hj, by omega, fun i hi => if_pos (by omega)⟩
  · refine r_isub dJ5_ensureCapacityInternal_d00df_13 ?_
    refine r_if_le (tgt := 38) dJ5_ensureCapacityInternal_d00df_14 (by decide) (fun h14_1 => ?_) (fun h14_1 => ?_)
    · exact r_vret dJ5_ensureCapacityInternal_d00df_38 rfl ⟨rfl, v, cap, y, h, by omega, fun _ _ => rfl⟩
    · exact absurd (sub_neg cap (by omega) m (by omega)) h14_1
set_option maxRecDepth 4000 in
set_option maxHeartbeats 400000 in
theorem j_set5 {G : GI} {S0 S : Hp} {b v0 cap0 v cap n : Nat} {y : Nat → Nat} (h : JB S0 b v0 cap0 S v cap n y) (g1 : zX S0 + fX cap0 ≤ gN G) (g2 : zU S0 + fU cap0 ≤ gM G) : Cn m_J5_setLength_d00df G [.ref (b), .int (nI (0))] S (fun r T => r = .inl none ∧ ∃ v' cap' y', JB S0 b v0 cap0 T v' cap' 0 y') := by
  refine Cn.of rfl (by decide) (Nat.le_of_ble_eq_true rfl) (fun hN hM => ?_)
  show Wx _ G _ 0 [(0, .ref (b)), (1, .int (nI (0)))] [] _
  have hc := h.c142
  have hle := h.le
  refine r_iload_n dJ5_setLength_d00df_0 rfl 1 rfl ?_
  refine r_if_geN (tgt := 13) dJ5_setLength_d00df_1 (by decide) (by omega) ?_
  refine r_aload_n dJ5_setLength_d00df_13 rfl 0 rfl ?_
  refine r_iload_n dJ5_setLength_d00df_14 rfl 1 rfl ?_
  refine r_callP (M2 := m_J5_ensureCapacityInternal_d00df) (As := [.int (nI (0))]) (rest := []) dJ5_setLength_d00df_15 cu_J5_setLength_d00df_100 rfl rfl rfl (Nat.le_of_ble_eq_true rfl) h.tb rfl (by decide) (j_ens h g1 g2 (m := 0) (by omega) (by omega)) (fun v9 T hq => ?_) (fun E9 T9 hq => by cases hq.1)
  obtain ⟨hv9, v1, cap1, y1, h1, hm1, hy1⟩ := hq
  cases hv9
  show Wx _ G T 18 [(0, .ref (b)), (1, .int (nI (0)))] [] _
  have hc1 := h1.c142
  have hle1 := h1.le
  refine r_aload_n dJ5_setLength_d00df_18 rfl 0 rfl ?_
  refine r_getI (ci := 1) (k := 3) dJ5_setLength_d00df_19 fr_J5_79 h1.tb rfl ?_
  refine Wx.top h1.cn ?_
  refine r_iload_n dJ5_setLength_d00df_22 rfl 1 rfl ?_
  refine r_icmp_geN (tgt := 63) dJ5_setLength_d00df_23 (by decide) (by omega) (by omega) (fun h23 => ?_) (fun h23 => ?_)
  · refine r_aload_n dJ5_setLength_d00df_63 rfl 0 rfl ?_
    refine r_getI (ci := 1) (k := 3) dJ5_setLength_d00df_64 fr_J5_79 h1.tb rfl ?_
    refine Wx.top h1.cn ?_
    refine r_iload_n dJ5_setLength_d00df_67 rfl 1 rfl ?_
    refine r_icmp_leN (tgt := 76) dJ5_setLength_d00df_68 (by decide) (by omega) (by omega) (fun h68 => ?_) (fun h68 => ?_)
    · refine r_aload_n dJ5_setLength_d00df_76 rfl 0 rfl ?_
      refine r_iload_n dJ5_setLength_d00df_77 rfl 1 rfl ?_
      refine r_putI (ci := 1) (k := 3) dJ5_setLength_d00df_78 fw_J5_setLength_d00df_79 h1.tb rfl rfl rfl ?_
      refine Wx.gp (fun T => JB S0 b v0 cap0 T v1 cap1 (0) y1) (h1.cnt (n' := 0) (by omega)) (fun T_1 (hj : JB S0 b v0 cap0 T_1 v1 cap1 (0) y1) => ?_)
      exact r_vret dJ5_setLength_d00df_81 rfl ⟨rfl, _, _, _, hj⟩
    · refine r_aload_n dJ5_setLength_d00df_71 rfl 0 rfl ?_
      refine r_iconst (v := nI 1) dJ5_setLength_d00df_72 (by decide) ?_
      refine r_putI (ci := 1) (k := 2) dJ5_setLength_d00df_73 fw_J5_setLength_d00df_73 h1.tb rfl (by decide) (by decide) ?_
      refine Wx.gp (fun T => JB S0 b v0 cap0 T v1 cap1 (n) y1) (h1.may) (fun T_2 (hj_1 : JB S0 b v0 cap0 T_2 v1 cap1 (n) y1) => ?_)
      refine r_aload_n dJ5_setLength_d00df_76 rfl 0 rfl ?_
      refine r_iload_n dJ5_setLength_d00df_77 rfl 1 rfl ?_
      refine r_putI (ci := 1) (k := 3) dJ5_setLength_d00df_78 fw_J5_setLength_d00df_79 hj_1.tb rfl rfl rfl ?_
      refine Wx.gp (fun T => JB S0 b v0 cap0 T v1 cap1 (0) y1) (hj_1.cnt (n' := 0) (by omega)) (fun T_3 (hj_2 : JB S0 b v0 cap0 T_3 v1 cap1 (0) y1) => ?_)
      exact r_vret dJ5_setLength_d00df_81 rfl ⟨rfl, _, _, _, hj_2⟩
  · exact absurd h23 (Nat.not_lt_zero _)
set_option maxRecDepth 4000 in
set_option maxHeartbeats 400000 in
theorem j_setLength {G : GI} {S0 S : Hp} {b v0 cap0 v cap n : Nat} {y : Nat → Nat} (h : JB S0 b v0 cap0 S v cap n y) (g1 : zX S0 + fX cap0 ≤ gN G) (g2 : zU S0 + fU cap0 ≤ gM G) : Cn m_J4_setLength_d00df G [.ref (b), .int (nI (0))] S (fun r T => r = .inl none ∧ ∃ v' cap' y', JB S0 b v0 cap0 T v' cap' 0 y') := by
  refine Cn.of rfl (by decide) (Nat.le_of_ble_eq_true rfl) (fun hN hM => ?_)
  show Wx _ G _ 0 [(0, .ref (b)), (1, .int (nI (0)))] [] _
  have hc := h.c142
  have hle := h.le
  refine r_aload_n dJ4_setLength_d00df_0 rfl 0 rfl ?_
  refine r_iload_n dJ4_setLength_d00df_1 rfl 1 rfl ?_
  refine r_callSU (M2 := m_J5_setLength_d00df) (As := [.int (nI (0))]) (rest := []) dJ4_setLength_d00df_2 cu_J4_setLength_d00df_333 rfl rfl rfl (Nat.le_of_ble_eq_true rfl) h.tb rfl (by decide) (j_set5 h g1 g2) (fun v9 T hq => ?_) (fun E9 T9 hq => by cases hq.1)
  obtain ⟨hv9, v1, cap1, y1, h1⟩ := hq
  cases hv9
  show Wx _ G T 5 [(0, .ref (b)), (1, .int (nI (0)))] [] _
  exact r_vret dJ4_setLength_d00df_5 rfl ⟨rfl, _, _, _, h1⟩
set_option maxRecDepth 4000 in
set_option maxHeartbeats 400000 in
theorem j_stringSize {G : GI} {S : Hp} {i : Nat} (hi : i < 1000) : Fn m_J6_stringSize_0f7a4 G [.int (nI (i))] S (some (.int (nI (szN i)))) S := by
  refine Cn.of rfl (by decide) (Nat.le_of_ble_eq_true rfl) (fun hN hM => ?_)
  show Wx _ G _ 0 [(0, .int (nI (i)))] [] _
  refine r_iconst (v := nI 1) dJ6_stringSize_0f7a4_0 (by decide) ?_
  refine r_istore_n (lv' := [(1, .int (nI (1))), (0, .int (nI (i)))]) dJ6_stringSize_0f7a4_1 rfl (by decide) rfl ?_
  refine r_iload_n dJ6_stringSize_0f7a4_2 rfl 1 rfl ?_
  refine r_if_ltN (tgt := 11) dJ6_stringSize_0f7a4_3 (by decide) (by omega) ?_
  refine r_iconst (v := nI 0) dJ6_stringSize_0f7a4_6 (by decide) ?_
  refine r_istore_n (lv' := [(1, .int (nI (0))), (0, .int (nI (i)))]) dJ6_stringSize_0f7a4_7 rfl (by decide) rfl ?_
  refine r_iload_n dJ6_stringSize_0f7a4_8 rfl 1 rfl ?_
  refine r_ineg dJ6_stringSize_0f7a4_9 ?_
  refine r_istore_n (lv' := [(0, .int (-(nI i))), (1, .int (nI (0)))]) dJ6_stringSize_0f7a4_10 rfl (by decide) rfl ?_
  refine r_bipush (v := (-10)) dJ6_stringSize_0f7a4_11 (by decide) ?_
  refine r_istore_n (lv' := [(2, .int ((-10))), (0, .int (-(nI i))), (1, .int (nI (0)))]) dJ6_stringSize_0f7a4_13 rfl (by decide) rfl ?_
  refine r_iconst (v := nI 1) dJ6_stringSize_0f7a4_14 (by decide) ?_
  refine r_istore_n (lv' := [(3, .int (nI (1))), (2, .int ((-10))), (0, .int (-(nI i))), (1, .int (nI (0)))]) dJ6_stringSize_0f7a4_15 rfl (by decide) rfl ?_
  refine r_iload_n dJ6_stringSize_0f7a4_16 rfl 0 rfl ?_
  refine r_bipush (v := nI 10) dJ6_stringSize_0f7a4_17 (by decide) ?_
  refine r_icmp_geN (tgt := 42) dJ6_stringSize_0f7a4_19 (by decide) (by omega) (by omega) (fun zz19 => ?_) (fun zz19 => ?_)
  · exact absurd zz19 (by decide)
  · refine r_iload_n dJ6_stringSize_0f7a4_22 rfl 2 rfl ?_
    refine r_iload_n dJ6_stringSize_0f7a4_23 rfl 1 rfl ?_
    refine r_icmp_le (tgt := 31) dJ6_stringSize_0f7a4_24 (by decide) (fun h24 => ?_) (fun h24 => ?_)
    · refine r_bipush (v := nI 10) dJ6_stringSize_0f7a4_31 (by decide) ?_
      refine r_iload_n dJ6_stringSize_0f7a4_33 rfl 1 rfl ?_
      refine r_imul dJ6_stringSize_0f7a4_34 ?_
      refine Wx.top (show (nI 10 : Int32) * (-10) = (-100) by decide) ?_
      refine r_istore_n (lv' := [(2, .int ((-100))), (3, .int (nI (1))), (0, .int (-(nI i))), (1, .int (nI (0)))]) dJ6_stringSize_0f7a4_35 rfl (by decide) rfl ?_
      refine r_iincN (k := 1) (lv' := [(3, .int (nI (2))), (2, .int ((-100))), (0, .int (-(nI i))), (1, .int (nI (0)))]) dJ6_stringSize_0f7a4_36 (by decide) 1 rfl (by decide) rfl ?_
      refine r_goto (tgt := 16) dJ6_stringSize_0f7a4_39 (by decide) ?_
      refine r_iload_n dJ6_stringSize_0f7a4_16 rfl 0 rfl ?_
      refine r_bipush (v := nI 10) dJ6_stringSize_0f7a4_17 (by decide) ?_
      refine r_icmp_geN (tgt := 42) dJ6_stringSize_0f7a4_19 (by decide) (by omega) (by omega) (fun zz19_1 => ?_) (fun zz19_1 => ?_)
      · exact absurd zz19_1 (by decide)
      · refine r_iload_n dJ6_stringSize_0f7a4_22 rfl 2 rfl ?_
        refine r_iload_n dJ6_stringSize_0f7a4_23 rfl 1 rfl ?_
        refine r_icmp_le (tgt := 31) dJ6_stringSize_0f7a4_24 (by decide) (fun h24_1 => ?_) (fun h24_1 => ?_)
        · refine r_bipush (v := nI 10) dJ6_stringSize_0f7a4_31 (by decide) ?_
          refine r_iload_n dJ6_stringSize_0f7a4_33 rfl 1 rfl ?_
          refine r_imul dJ6_stringSize_0f7a4_34 ?_
          refine Wx.top (show (nI 10 : Int32) * (-100) = (-1000) by decide) ?_
          refine r_istore_n (lv' := [(2, .int ((-1000))), (3, .int (nI (2))), (0, .int (-(nI i))), (1, .int (nI (0)))]) dJ6_stringSize_0f7a4_35 rfl (by decide) rfl ?_
          refine r_iincN (k := 1) (lv' := [(3, .int (nI (3))), (2, .int ((-1000))), (0, .int (-(nI i))), (1, .int (nI (0)))]) dJ6_stringSize_0f7a4_36 (by decide) 1 rfl (by decide) rfl ?_
          refine r_goto (tgt := 16) dJ6_stringSize_0f7a4_39 (by decide) ?_
          refine r_iload_n dJ6_stringSize_0f7a4_16 rfl 0 rfl ?_
          refine r_bipush (v := nI 10) dJ6_stringSize_0f7a4_17 (by decide) ?_
          refine r_icmp_geN (tgt := 42) dJ6_stringSize_0f7a4_19 (by decide) (by omega) (by omega) (fun zz19_2 => ?_) (fun zz19_2 => ?_)
          · exact absurd zz19_2 (by decide)
          · refine r_iload_n dJ6_stringSize_0f7a4_22 rfl 2 rfl ?_
            refine r_iload_n dJ6_stringSize_0f7a4_23 rfl 1 rfl ?_
            refine r_icmp_le (tgt := 31) dJ6_stringSize_0f7a4_24 (by decide) (fun h24_2 => ?_) (fun h24_2 => ?_)
            · exact absurd h24_2 (ng_le i hi).2.2.2.2.1
            · refine r_iload_n dJ6_stringSize_0f7a4_27 rfl 0 rfl ?_
              refine r_iload_n dJ6_stringSize_0f7a4_28 rfl 3 rfl ?_
              refine r_iaddN dJ6_stringSize_0f7a4_29 ?_
              have q0 := (ng_le i hi).1.mp h24
              have q1 := (ng_le i hi).2.1.mp h24_1
              exact r_iret (ty := .int) dJ6_stringSize_0f7a4_30 rfl rfl ⟨congrArg (fun z => Sum.inl (some (Value.int (nI z)))) (show 3 = szN i by unfold szN; (repeat' split) <;> omega), rfl⟩
        · refine r_iload_n dJ6_stringSize_0f7a4_27 rfl 0 rfl ?_
          refine r_iload_n dJ6_stringSize_0f7a4_28 rfl 3 rfl ?_
          refine r_iaddN dJ6_stringSize_0f7a4_29 ?_
          have q0 := (ng_le i hi).1.mp h24
          have q1 := mt (ng_le i hi).2.1.mpr h24_1
          exact r_iret (ty := .int) dJ6_stringSize_0f7a4_30 rfl rfl ⟨congrArg (fun z => Sum.inl (some (Value.int (nI z)))) (show 2 = szN i by unfold szN; (repeat' split) <;> omega), rfl⟩
    · refine r_iload_n dJ6_stringSize_0f7a4_27 rfl 0 rfl ?_
      refine r_iload_n dJ6_stringSize_0f7a4_28 rfl 3 rfl ?_
      refine r_iaddN dJ6_stringSize_0f7a4_29 ?_
      have q0 := mt (ng_le i hi).1.mpr h24
      exact r_iret (ty := .int) dJ6_stringSize_0f7a4_30 rfl rfl ⟨congrArg (fun z => Sum.inl (some (Value.int (nI z)))) (show 1 = szN i by unfold szN; (repeat' split) <;> omega), rfl⟩
set_option maxRecDepth 4000 in
set_option maxHeartbeats 400000 in
theorem j_getChars {G : GI} {S0 S : Hp} {b v0 cap0 v cap n : Nat} {y : Nat → Nat} (h : JB S0 b v0 cap0 S v cap n y) {i e : Nat} (hi : i < 1000) (he : szN i ≤ e) (hec : e ≤ cap) : Cn m_J6_getChars_ba4f3 G [.int (nI (i)), .int (nI (e)), .ref (v)] S (fun r T => r = .inl (some (.int (nI (e - szN i)))) ∧ ∃ y', JB S0 b v0 cap0 T v cap n y' ∧ (∀ j, j < e - szN i → y' j = y j) ∧ ∀ k, k < szN i → y' (e - szN i + k) = dgt i k) := by
  refine Cn.of rfl (by decide) (Nat.le_of_ble_eq_true rfl) (fun hN hM => ?_)
  show Wx _ G _ 0 [(0, .int (nI (i))), (1, .int (nI (e))), (2, .ref (v))] [] _
  have hc := h.c142
  have hle := h.le
  have hb3 := szN_b i
  have hszi := szN_s i
  refine r_iload_n dJ6_getChars_ba4f3_0 rfl 1 rfl ?_
  refine r_istore (lv' := [(5, .int (nI (e))), (0, .int (nI (i))), (1, .int (nI (e))), (2, .ref (v))]) dJ6_getChars_ba4f3_1 (by decide) rfl ?_
  refine r_iload_n dJ6_getChars_ba4f3_3 rfl 1 rfl ?_
  refine r_if_geN (tgt := 11) dJ6_getChars_ba4f3_4 (by decide) (by (first | omega | decide)) ?_
  refine r_iconst (v := nI 0) dJ6_getChars_ba4f3_11 (by decide) ?_
  refine r_istore (lv' := [(6, .int (nI (0))), (5, .int (nI (e))), (0, .int (nI (i))), (1, .int (nI (e))), (2, .ref (v))]) dJ6_getChars_ba4f3_12 (by decide) rfl ?_
  refine r_iload dJ6_getChars_ba4f3_14 0 rfl ?_
  refine r_if_neN (tgt := 22) dJ6_getChars_ba4f3_16 (by decide) (by (first | omega | decide)) (fun zz16 => ?_) (fun zz16 => ?_)
  · exact absurd zz16 (by decide)
  · refine r_iload_n dJ6_getChars_ba4f3_19 rfl 2 rfl ?_
    refine r_ineg dJ6_getChars_ba4f3_20 ?_
    refine r_istore_n (lv' := [(0, .int (-(nI i))), (6, .int (nI (0))), (5, .int (nI (e))), (1, .int (nI (e))), (2, .ref (v))]) dJ6_getChars_ba4f3_21 rfl (by decide) rfl ?_
    refine r_iload_n dJ6_getChars_ba4f3_22 rfl 0 rfl ?_
    refine r_bipush (v := (-100)) dJ6_getChars_ba4f3_23 (by decide) ?_
    refine r_icmp_gt (tgt := 72) dJ6_getChars_ba4f3_25 (by decide) (fun h25 => ?_) (fun h25 => ?_)
    · have hsm := (ng_le (i) (by omega)).2.2.1.mp h25
      refine r_aload_n dJ6_getChars_ba4f3_72 rfl 4 rfl ?_
      refine r_iinc (v := nI (e - 1)) (lv' := [(5, .int (nI (e - 1))), (0, .int (-(nI i))), (6, .int (nI (0))), (1, .int (nI (e))), (2, .ref (v))]) dJ6_getChars_ba4f3_73 2 rfl (by rw [dec_n (by (first | omega | decide))]) (by decide) rfl ?_
      refine r_iload dJ6_getChars_ba4f3_76 0 rfl ?_
      refine r_gets (C := "java/lang/Integer") (n := "DigitOnes") (d := "[B") (v := .ref (gK G 0 5)) (fun U h => h.2.2.2.2.2.2.2.1) dJ6_getChars_ba4f3_78 (sg6 228 rfl rfl) ?_
      refine r_iload_n dJ6_getChars_ba4f3_81 rfl 1 rfl ?_
      refine r_ineg dJ6_getChars_ba4f3_82 ?_
      refine Wx.top (ng_le (i) (by omega)).2.2.2.2.2 ?_
      refine r_baldT (N := 100) (f := fun j => .int (digO j)) (i := nI (i)) (fun U h => h.2.2.2.2.2.2.2.2.1) dJ6_getChars_ba4f3_83 (vp_in_nI (by (first | omega | decide)) (by decide)) ?_
      refine Wx.top (show digO (nI (i)).toNatClampNeg = nI (48 + i % 10) by rw [nI_clamp (by (first | omega | decide))]; rfl) ?_
      refine r_bast dJ6_getChars_ba4f3_84 h.tv (by rw [h.nv]; exact vp_in_nI (by (first | omega | decide)) (by omega)) ?_
      refine Wx.st' (S' := uA S (v) (e - 1) (nI (48 + i % 10))) (by rw [nI_clamp (by (first | omega | decide)), by_n (by (first | omega | decide))]) ?_
      refine Wx.gp (fun T => JB S0 b v0 cap0 T v cap (n) (up1 y (e - 1) (48 + i % 10))) (h.set (by (first | omega | decide))) (fun T (hj : JB S0 b v0 cap0 T v cap (n) (up1 y (e - 1) (48 + i % 10))) => ?_)
      refine r_iload_n dJ6_getChars_ba4f3_85 rfl 1 rfl ?_
      refine r_bipush (v := (-9)) dJ6_getChars_ba4f3_86 (by decide) ?_
      refine r_icmp_ge (tgt := 104) dJ6_getChars_ba4f3_88 (by decide) (fun h88 => ?_) (fun h88 => ?_)
      · refine r_iload dJ6_getChars_ba4f3_104 2 rfl ?_
        refine r_if_eqN (tgt := 118) dJ6_getChars_ba4f3_106 (by decide) (by (first | omega | decide)) (fun zz106 => ?_) (fun zz106 => ?_)
        · refine r_iload dJ6_getChars_ba4f3_118 0 rfl ?_
          have h10 := (ng_le (i) (by omega)).2.2.2.1.mp h88
          have hsz : szN i = e - (e - 1) := by omega
          exact r_iret (ty := .int) dJ6_getChars_ba4f3_120 rfl rfl ⟨congrArg (fun z => Sum.inl (some (Value.int (nI z)))) (show e - 1 = e - szN i by omega), _, hj, fun j hj => by unfold up1; (repeat' split) <;> first | rfl | omega, fun j hj => by unfold up1 dgt; (repeat' split) <;> omega⟩
        · exact absurd zz106 (by decide)
      · have h10 := mt (ng_le (i) (by omega)).2.2.2.1.mpr h88
        refine r_aload_n dJ6_getChars_ba4f3_91 rfl 4 rfl ?_
        refine r_iinc (v := nI (e - 2)) (lv' := [(5, .int (nI (e - 2))), (0, .int (-(nI i))), (6, .int (nI (0))), (1, .int (nI (e))), (2, .ref (v))]) dJ6_getChars_ba4f3_92 0 rfl (by rw [dec_n (by (first | omega | decide))]; exact congrArg nI (by omega)) (by decide) rfl ?_
        refine r_iload dJ6_getChars_ba4f3_95 0 rfl ?_
        refine r_gets (C := "java/lang/Integer") (n := "DigitTens") (d := "[B") (v := .ref (gK G 0 4)) (fun U h => h.2.2.2.2.2.1) dJ6_getChars_ba4f3_97 (sg6 230 rfl rfl) ?_
        refine r_iload_n dJ6_getChars_ba4f3_100 rfl 1 rfl ?_
        refine r_ineg dJ6_getChars_ba4f3_101 ?_
        refine Wx.top (ng_le (i) (by omega)).2.2.2.2.2 ?_
        refine r_baldT (N := 100) (f := fun j => .int (digT j)) (i := nI (i)) (fun U h => h.2.2.2.2.2.2.1) dJ6_getChars_ba4f3_102 (vp_in_nI (by (first | omega | decide)) (by decide)) ?_
        refine Wx.top (show digT (nI (i)).toNatClampNeg = nI (48 + i / 10) by rw [nI_clamp (by (first | omega | decide))]; rfl) ?_
        refine r_bast dJ6_getChars_ba4f3_103 hj.tv (by rw [hj.nv]; exact vp_in_nI (by (first | omega | decide)) (by omega)) ?_
        refine Wx.st' (S' := uA T (v) (e - 2) (nI (48 + i / 10))) (by rw [nI_clamp (by (first | omega | decide)), by_n (by (first | omega | decide))]) ?_
        refine Wx.gp (fun T => JB S0 b v0 cap0 T v cap (n) (up1 (up1 y (e - 1) (48 + i % 10)) (e - 2) (48 + i / 10))) (hj.set (by (first | omega | decide))) (fun T_1 (hj_1 : JB S0 b v0 cap0 T_1 v cap (n) (up1 (up1 y (e - 1) (48 + i % 10)) (e - 2) (48 + i / 10))) => ?_)
        refine r_iload dJ6_getChars_ba4f3_104 2 rfl ?_
        refine r_if_eqN (tgt := 118) dJ6_getChars_ba4f3_106 (by decide) (by (first | omega | decide)) (fun zz106_1 => ?_) (fun zz106_1 => ?_)
        · refine r_iload dJ6_getChars_ba4f3_118 0 rfl ?_
          have h10 := mt (ng_le (i) (by omega)).2.2.2.1.mpr h88
          have hsz : szN i = e - (e - 2) := by omega
          exact r_iret (ty := .int) dJ6_getChars_ba4f3_120 rfl rfl ⟨congrArg (fun z => Sum.inl (some (Value.int (nI z)))) (show e - 2 = e - szN i by omega), _, hj_1, fun j hj => by unfold up1; (repeat' split) <;> first | rfl | omega, fun j hj => by unfold up1 dgt; (repeat' split) <;> omega⟩
        · exact absurd zz106_1 (by decide)
    · have hbig := mt (ng_le i hi).2.2.1.mpr h25
      refine r_iload_n dJ6_getChars_ba4f3_28 rfl 0 rfl ?_
      refine r_bipush (v := nI 100) dJ6_getChars_ba4f3_29 (by decide) ?_
      refine r_idiv dJ6_getChars_ba4f3_31 (by (first | omega | decide)) ?_
      refine Wx.top (ng_q i (by omega)).1 ?_
      refine r_istore_n (lv' := [(3, .int (-(nI (i / 100)))), (0, .int (-(nI i))), (6, .int (nI (0))), (5, .int (nI (e))), (1, .int (nI (e))), (2, .ref (v))]) dJ6_getChars_ba4f3_32 rfl (by decide) rfl ?_
      refine r_iload_n dJ6_getChars_ba4f3_33 rfl 0 rfl ?_
      refine r_bipush (v := nI 100) dJ6_getChars_ba4f3_34 (by decide) ?_
      refine r_imul dJ6_getChars_ba4f3_36 ?_
      refine r_iload_n dJ6_getChars_ba4f3_37 rfl 1 rfl ?_
      refine r_isub dJ6_getChars_ba4f3_38 ?_
      refine Wx.top (ng_q i (by omega)).2 ?_
      refine r_istore (lv' := [(4, .int (nI (i % 100))), (3, .int (-(nI (i / 100)))), (0, .int (-(nI i))), (6, .int (nI (0))), (5, .int (nI (e))), (1, .int (nI (e))), (2, .ref (v))]) dJ6_getChars_ba4f3_39 (by decide) rfl ?_
      refine r_iload_n dJ6_getChars_ba4f3_41 rfl 1 rfl ?_
      refine r_istore_n (lv' := [(0, .int (-(nI (i / 100)))), (4, .int (nI (i % 100))), (3, .int (-(nI (i / 100)))), (6, .int (nI (0))), (5, .int (nI (e))), (1, .int (nI (e))), (2, .ref (v))]) dJ6_getChars_ba4f3_42 rfl (by decide) rfl ?_
      refine r_aload_n dJ6_getChars_ba4f3_43 rfl 6 rfl ?_
      refine r_iinc (v := nI (e - 1)) (lv' := [(5, .int (nI (e - 1))), (0, .int (-(nI (i / 100)))), (4, .int (nI (i % 100))), (3, .int (-(nI (i / 100)))), (6, .int (nI (0))), (1, .int (nI (e))), (2, .ref (v))]) dJ6_getChars_ba4f3_44 4 rfl (by rw [dec_n (by (first | omega | decide))]) (by decide) rfl ?_
      refine r_iload dJ6_getChars_ba4f3_47 0 rfl ?_
      refine r_gets (C := "java/lang/Integer") (n := "DigitOnes") (d := "[B") (v := .ref (gK G 0 5)) (fun U h => h.2.2.2.2.2.2.2.1) dJ6_getChars_ba4f3_49 (sg6 228 rfl rfl) ?_
      refine r_iload dJ6_getChars_ba4f3_52 2 rfl ?_
      refine r_baldT (N := 100) (f := fun j => .int (digO j)) (i := nI (i % 100)) (fun U h => h.2.2.2.2.2.2.2.2.1) dJ6_getChars_ba4f3_54 (vp_in_nI (by (first | omega | decide)) (by decide)) ?_
      refine Wx.top (show digO (nI (i % 100)).toNatClampNeg = nI (48 + (i % 100) % 10) by rw [nI_clamp (by (first | omega | decide))]; rfl) ?_
      refine r_bast dJ6_getChars_ba4f3_55 h.tv (by rw [h.nv]; exact vp_in_nI (by (first | omega | decide)) (by omega)) ?_
      refine Wx.st' (S' := uA S (v) (e - 1) (nI (48 + (i % 100) % 10))) (by rw [nI_clamp (by (first | omega | decide)), by_n (by (first | omega | decide))]) ?_
      refine Wx.gp (fun T => JB S0 b v0 cap0 T v cap (n) (up1 y (e - 1) (48 + (i % 100) % 10))) (h.set (by (first | omega | decide))) (fun T_2 (hj_2 : JB S0 b v0 cap0 T_2 v cap (n) (up1 y (e - 1) (48 + (i % 100) % 10))) => ?_)
      refine r_aload_n dJ6_getChars_ba4f3_56 rfl 6 rfl ?_
      refine r_iinc (v := nI (e - 2)) (lv' := [(5, .int (nI (e - 2))), (0, .int (-(nI (i / 100)))), (4, .int (nI (i % 100))), (3, .int (-(nI (i / 100)))), (6, .int (nI (0))), (1, .int (nI (e))), (2, .ref (v))]) dJ6_getChars_ba4f3_57 0 rfl (by rw [dec_n (by (first | omega | decide))]; exact congrArg nI (by omega)) (by decide) rfl ?_
      refine r_iload dJ6_getChars_ba4f3_60 0 rfl ?_
      refine r_gets (C := "java/lang/Integer") (n := "DigitTens") (d := "[B") (v := .ref (gK G 0 4)) (fun U h => h.2.2.2.2.2.1) dJ6_getChars_ba4f3_62 (sg6 230 rfl rfl) ?_
      refine r_iload dJ6_getChars_ba4f3_65 2 rfl ?_
      refine r_baldT (N := 100) (f := fun j => .int (digT j)) (i := nI (i % 100)) (fun U h => h.2.2.2.2.2.2.1) dJ6_getChars_ba4f3_67 (vp_in_nI (by (first | omega | decide)) (by decide)) ?_
      refine Wx.top (show digT (nI (i % 100)).toNatClampNeg = nI (48 + (i % 100) / 10) by rw [nI_clamp (by (first | omega | decide))]; rfl) ?_
      refine r_bast dJ6_getChars_ba4f3_68 hj_2.tv (by rw [hj_2.nv]; exact vp_in_nI (by (first | omega | decide)) (by omega)) ?_
      refine Wx.st' (S' := uA T_2 (v) (e - 2) (nI (48 + (i % 100) / 10))) (by rw [nI_clamp (by (first | omega | decide)), by_n (by (first | omega | decide))]) ?_
      refine Wx.gp (fun T => JB S0 b v0 cap0 T v cap (n) (up1 (up1 y (e - 1) (48 + (i % 100) % 10)) (e - 2) (48 + (i % 100) / 10))) (hj_2.set (by (first | omega | decide))) (fun T_3 (hj_3 : JB S0 b v0 cap0 T_3 v cap (n) (up1 (up1 y (e - 1) (48 + (i % 100) % 10)) (e - 2) (48 + (i % 100) / 10))) => ?_)
      refine r_goto (tgt := 22) dJ6_getChars_ba4f3_69 (by decide) ?_
      refine r_iload_n dJ6_getChars_ba4f3_22 rfl 1 rfl ?_
      refine r_bipush (v := (-100)) dJ6_getChars_ba4f3_23 (by decide) ?_
      refine r_icmp_gt (tgt := 72) dJ6_getChars_ba4f3_25 (by decide) (fun h25_1 => ?_) (fun h25_1 => ?_)
      · have hsm := (ng_le (i / 100) (by omega)).2.2.1.mp h25_1
        refine r_aload_n dJ6_getChars_ba4f3_72 rfl 6 rfl ?_
        refine r_iinc (v := nI (e - 3)) (lv' := [(5, .int (nI (e - 3))), (0, .int (-(nI (i / 100)))), (4, .int (nI (i % 100))), (3, .int (-(nI (i / 100)))), (6, .int (nI (0))), (1, .int (nI (e))), (2, .ref (v))]) dJ6_getChars_ba4f3_73 0 rfl (by rw [dec_n (by (first | omega | decide))]; exact congrArg nI (by omega)) (by decide) rfl ?_
        refine r_iload dJ6_getChars_ba4f3_76 0 rfl ?_
        refine r_gets (C := "java/lang/Integer") (n := "DigitOnes") (d := "[B") (v := .ref (gK G 0 5)) (fun U h => h.2.2.2.2.2.2.2.1) dJ6_getChars_ba4f3_78 (sg6 228 rfl rfl) ?_
        refine r_iload_n dJ6_getChars_ba4f3_81 rfl 1 rfl ?_
        refine r_ineg dJ6_getChars_ba4f3_82 ?_
        refine Wx.top (ng_le (i / 100) (by omega)).2.2.2.2.2 ?_
        refine r_baldT (N := 100) (f := fun j => .int (digO j)) (i := nI (i / 100)) (fun U h => h.2.2.2.2.2.2.2.2.1) dJ6_getChars_ba4f3_83 (vp_in_nI (by (first | omega | decide)) (by decide)) ?_
        refine Wx.top (show digO (nI (i / 100)).toNatClampNeg = nI (48 + (i / 100) % 10) by rw [nI_clamp (by (first | omega | decide))]; rfl) ?_
        refine r_bast dJ6_getChars_ba4f3_84 hj_3.tv (by rw [hj_3.nv]; exact vp_in_nI (by (first | omega | decide)) (by omega)) ?_
        refine Wx.st' (S' := uA T_3 (v) (e - 3) (nI (48 + (i / 100) % 10))) (by rw [nI_clamp (by (first | omega | decide)), by_n (by (first | omega | decide))]) ?_
        refine Wx.gp (fun T => JB S0 b v0 cap0 T v cap (n) (up1 (up1 (up1 y (e - 1) (48 + (i % 100) % 10)) (e - 2) (48 + (i % 100) / 10)) (e - 3) (48 + (i / 100) % 10))) (hj_3.set (by (first | omega | decide))) (fun T_4 (hj_4 : JB S0 b v0 cap0 T_4 v cap (n) (up1 (up1 (up1 y (e - 1) (48 + (i % 100) % 10)) (e - 2) (48 + (i % 100) / 10)) (e - 3) (48 + (i / 100) % 10))) => ?_)
        refine r_iload_n dJ6_getChars_ba4f3_85 rfl 1 rfl ?_
        refine r_bipush (v := (-9)) dJ6_getChars_ba4f3_86 (by decide) ?_
        refine r_icmp_ge (tgt := 104) dJ6_getChars_ba4f3_88 (by decide) (fun h88_1 => ?_) (fun h88_1 => ?_)
        · refine r_iload dJ6_getChars_ba4f3_104 4 rfl ?_
          refine r_if_eqN (tgt := 118) dJ6_getChars_ba4f3_106 (by decide) (by (first | omega | decide)) (fun zz106_2 => ?_) (fun zz106_2 => ?_)
          · refine r_iload dJ6_getChars_ba4f3_118 0 rfl ?_
            have h10 := (ng_le (i / 100) (by omega)).2.2.2.1.mp h88_1
            have hsz : szN i = e - (e - 3) := by omega
            exact r_iret (ty := .int) dJ6_getChars_ba4f3_120 rfl rfl ⟨congrArg (fun z => Sum.inl (some (Value.int (nI z)))) (show e - 3 = e - szN i by omega), _, hj_4, fun j hj => by unfold up1; (repeat' split) <;> first | rfl | omega, fun j hj => by unfold up1 dgt; (repeat' split) <;> omega⟩
          · exact absurd zz106_2 (by decide)
        · have h10 := mt (ng_le (i / 100) (by omega)).2.2.2.1.mpr h88_1
          refine r_aload_n dJ6_getChars_ba4f3_91 rfl 6 rfl ?_
          refine r_iinc (v := nI (e - 4)) (lv' := [(5, .int (nI (e - 4))), (0, .int (-(nI (i / 100)))), (4, .int (nI (i % 100))), (3, .int (-(nI (i / 100)))), (6, .int (nI (0))), (1, .int (nI (e))), (2, .ref (v))]) dJ6_getChars_ba4f3_92 0 rfl (by rw [dec_n (by (first | omega | decide))]; exact congrArg nI (by omega)) (by decide) rfl ?_
          refine r_iload dJ6_getChars_ba4f3_95 0 rfl ?_
          refine r_gets (C := "java/lang/Integer") (n := "DigitTens") (d := "[B") (v := .ref (gK G 0 4)) (fun U h => h.2.2.2.2.2.1) dJ6_getChars_ba4f3_97 (sg6 230 rfl rfl) ?_
          refine r_iload_n dJ6_getChars_ba4f3_100 rfl 1 rfl ?_
          refine r_ineg dJ6_getChars_ba4f3_101 ?_
          refine Wx.top (ng_le (i / 100) (by omega)).2.2.2.2.2 ?_
          refine r_baldT (N := 100) (f := fun j => .int (digT j)) (i := nI (i / 100)) (fun U h => h.2.2.2.2.2.2.1) dJ6_getChars_ba4f3_102 (vp_in_nI (by (first | omega | decide)) (by decide)) ?_
          refine Wx.top (show digT (nI (i / 100)).toNatClampNeg = nI (48 + (i / 100) / 10) by rw [nI_clamp (by (first | omega | decide))]; rfl) ?_
          refine r_bast dJ6_getChars_ba4f3_103 hj_4.tv (by rw [hj_4.nv]; exact vp_in_nI (by (first | omega | decide)) (by omega)) ?_
          refine Wx.st' (S' := uA T_4 (v) (e - 4) (nI (48 + (i / 100) / 10))) (by rw [nI_clamp (by (first | omega | decide)), by_n (by (first | omega | decide))]) ?_
          refine Wx.gp (fun T => JB S0 b v0 cap0 T v cap (n) (up1 (up1 (up1 (up1 y (e - 1) (48 + (i % 100) % 10)) (e - 2) (48 + (i % 100) / 10)) (e - 3) (48 + (i / 100) % 10)) (e - 4) (48 + (i / 100) / 10))) (hj_4.set (by (first | omega | decide))) (fun T_5 (hj_5 : JB S0 b v0 cap0 T_5 v cap (n) (up1 (up1 (up1 (up1 y (e - 1) (48 + (i % 100) % 10)) (e - 2) (48 + (i % 100) / 10)) (e - 3) (48 + (i / 100) % 10)) (e - 4) (48 + (i / 100) / 10))) => ?_)
          refine r_iload dJ6_getChars_ba4f3_104 4 rfl ?_
          refine r_if_eqN (tgt := 118) dJ6_getChars_ba4f3_106 (by decide) (by (first | omega | decide)) (fun zz106_3 => ?_) (fun zz106_3 => ?_)
          · refine r_iload dJ6_getChars_ba4f3_118 0 rfl ?_
            have h10 := mt (ng_le (i / 100) (by omega)).2.2.2.1.mpr h88_1
            have hsz : szN i = e - (e - 4) := by omega
            exact r_iret (ty := .int) dJ6_getChars_ba4f3_120 rfl rfl ⟨congrArg (fun z => Sum.inl (some (Value.int (nI z)))) (show e - 4 = e - szN i by omega), _, hj_5, fun j hj => by unfold up1; (repeat' split) <;> first | rfl | omega, fun j hj => by unfold up1 dgt; (repeat' split) <;> omega⟩
          · exact absurd zz106_3 (by decide)
      · exact absurd ((ng_le (i / 100) (by omega)).2.2.1.mpr (by omega)) h25_1
