/-! A PRODUCT's MEMORY -/
/-- four fields of a product anew -/
def U4 (S : Hp) (a x3 x4 x5 x6 : Nat) : Hp := uI (uI (uI (uI S 323 a (nI x3)) 324 a (nI x4)) 325 a (nI x5)) 326 a (nI x6)
def uZ (S : Hp) (z : Nat → Nat → Int32) : Hp := (zT S, zN S, z, zP S, zA S, zL S, zD S, zQ S, zX S, zU S)
theorem uZ_eq {S : Hp} {z z' : Nat → Nat → Int32} (h : ∀ f b, z f b = z' f b) : uZ S z = uZ S z' := by
  rw [show z = z' from funext fun f => funext fun b => h f b]
theorem u4_1 {S : Hp} {a M R : Nat} {x3 x4 x5 x6 : Nat} : U4 (uI (uI S 326 a (nI M)) 325 a (nI R)) a x3 x4 x5 x6 = U4 S a x3 x4 x5 x6 := by
  show uZ S _ = uZ S _
  refine uZ_eq fun f b => ?_
  show up2 (up2 (up2 (up2 (up2 (up2 (zI S) 326 a (nI M)) 325 a (nI R)) 323 a (nI x3)) 324 a (nI x4)) 325 a (nI x5)) 326 a (nI x6) f b = up2 (up2 (up2 (up2 (zI S) 323 a (nI x3)) 324 a (nI x4)) 325 a (nI x5)) 326 a (nI x6) f b
  unfold up2
  by_cases hb : b = a
  · subst hb
    by_cases e3 : f = 323
    · subst e3; simp
    · by_cases e4 : f = 324
      · subst e4; simp
      · by_cases e5 : f = 325
        · subst e5; simp
        · by_cases e6 : f = 326
          · subst e6; simp
          · simp [e3, e4, e5, e6]
  · simp [hb]
theorem u4_2 {S : Hp} {a M R y q3 : Nat} (h3 : zI S 323 a = nI q3) : uI (uI (uI S 326 a (nI M)) 325 a (nI R)) 324 a (nI y) = U4 S a q3 y R M := by
  show uZ S _ = uZ S _
  refine uZ_eq fun f b => ?_
  show up2 (up2 (up2 (zI S) 326 a (nI M)) 325 a (nI R)) 324 a (nI y) f b = up2 (up2 (up2 (up2 (zI S) 323 a (nI q3)) 324 a (nI y)) 325 a (nI R)) 326 a (nI M) f b
  unfold up2
  by_cases hb : b = a
  · subst hb
    by_cases e3 : f = 323
    · subst e3; simp [h3]
    · by_cases e4 : f = 324
      · subst e4; simp
      · by_cases e5 : f = 325
        · subst e5; simp
        · by_cases e6 : f = 326
          · subst e6; simp
          · simp [e3, e4, e5, e6]
  · simp [hb]
theorem u4_3 {S : Hp} {a M R q3 q4 : Nat} (h3 : zI S 323 a = nI q3) (h4 : zI S 324 a = nI q4) : uI (uI S 326 a (nI M)) 325 a (nI R) = U4 S a q3 q4 R M := by
  rw [← u4_2 h3]
  show uZ S _ = uZ S _
  refine uZ_eq fun f b => ?_
  show up2 (up2 (zI S) 326 a (nI M)) 325 a (nI R) f b = up2 (up2 (up2 (zI S) 326 a (nI M)) 325 a (nI R)) 324 a (nI q4) f b
  unfold up2
  by_cases hb : b = a
  · subst hb
    by_cases e4 : f = 324
    · subst e4; simp [h4]
    · simp [e4]
  · simp [hb]
theorem u4_4 {S : Hp} {a M R y : Nat} {x3 x4 x5 x6 : Nat} : U4 (uI (uI (uI S 326 a (nI M)) 325 a (nI R)) 324 a (nI y)) a x3 x4 x5 x6 = U4 S a x3 x4 x5 x6 := by
  show uZ S _ = uZ S _
  refine uZ_eq fun f b => ?_
  show up2 (up2 (up2 (up2 (up2 (up2 (up2 (zI S) 326 a (nI M)) 325 a (nI R)) 324 a (nI y)) 323 a (nI x3)) 324 a (nI x4)) 325 a (nI x5)) 326 a (nI x6) f b = up2 (up2 (up2 (up2 (zI S) 323 a (nI x3)) 324 a (nI x4)) 325 a (nI x5)) 326 a (nI x6) f b
  unfold up2
  by_cases hb : b = a
  · subst hb
    by_cases e3 : f = 323
    · subst e3; simp
    · by_cases e4 : f = 324
      · subst e4; simp
      · by_cases e5 : f = 325
        · subst e5; simp
        · by_cases e6 : f = 326
          · subst e6; simp
          · simp [e3, e4, e5, e6]
  · simp [hb]
theorem shl_or {q r : Nat} (h : r < 2) : q * 2 ^ 1 ||| r = 2 * q + r := by
  have e := Nat.two_pow_add_eq_or_of_lt (i := 1) (b := r) h q
  rw [Nat.mul_comm]
  exact e.symm
set_option maxRecDepth 4000 in
set_option maxHeartbeats 400000 in
theorem p_become {G : GI} {S : Hp} {a : Nat} (ha : zT S a = 11) {s : Nat} : Fn m_X8_become G [.ref a, .int (nI s)] S none (U4 S a s 0 0 0) := by
  refine Cn.of rfl (by decide) (Nat.le_of_ble_eq_true rfl) (fun hN hM => ?_)
  show Wx _ G _ 0 [(0, .ref (a)), (1, .int (nI (s)))] [] _
  refine r_aload_n dX8_become_0 rfl 0 rfl ?_
  refine r_iload_n dX8_become_1 rfl 1 rfl ?_
  refine r_putI (ci := 10) (k := 3) dX8_become_2 fw_X8_become_21 ha rfl rfl rfl ?_
  refine r_aload_n dX8_become_5 rfl 0 rfl ?_
  refine r_iconst (v := nI 0) dX8_become_6 (by decide) ?_
  refine r_putI (ci := 10) (k := 4) dX8_become_7 fw_X8_become_24 ha rfl rfl rfl ?_
  refine r_aload_n dX8_become_10 rfl 0 rfl ?_
  refine r_iconst (v := nI 0) dX8_become_11 (by decide) ?_
  refine r_putI (ci := 10) (k := 5) dX8_become_12 fw_X8_become_27 ha rfl rfl rfl ?_
  refine r_aload_n dX8_become_15 rfl 0 rfl ?_
  refine r_iconst (v := nI 0) dX8_become_16 (by decide) ?_
  refine r_putI (ci := 10) (k := 6) dX8_become_17 fw_X8_become_30 ha rfl rfl rfl ?_
  exact r_vret dX8_become_20 rfl ⟨rfl, rfl⟩
set_option maxRecDepth 4000 in
set_option maxHeartbeats 400000 in
theorem p_swN {G : GI} {S : Hp} {a : Nat} (ha : zT S a = 11) {q4 q6 r gd : Nat} (h4 : zI S 324 a = nI q4) (h6 : zI S 326 a = nI q6) (hr : r < 2) (hg : gd < 2) (hq4 : q4 < 1000) (hq6 : q6 < 2 ^ 30) : Fn m_X8_switchFromNormal G [.ref a, .int (nI r), .int (nI gd)] S none (if r = 0 then (if gd = 0 then uI S 324 a (nI 0) else if q4 + 3 = 15 then U4 (uI S 324 a (nI (q4 + 3))) a 2 0 0 0 else uI S 324 a (nI (q4 + 3))) else if 2 ≤ onesK (q6 % 32) 32 then U4 S a 1 0 0 0 else uI S 324 a (nI 0)) := by
  refine Cn.of rfl (by decide) (Nat.le_of_ble_eq_true rfl) (fun hN hM => ?_)
  show Wx _ G _ 0 [(0, .ref (a)), (1, .int (nI (r))), (2, .int (nI (gd)))] [] _
  refine r_iload_n dX8_switchFromNormal_0 rfl 1 rfl ?_
  refine r_if_eqN (tgt := 26) dX8_switchFromNormal_1 (by decide) (by (first | omega | (have := onesK_le (q6 % 32) 32; omega))) (fun h1 => ?_) (fun h1 => ?_)
  · refine r_iload_n dX8_switchFromNormal_26 rfl 1 rfl ?_
    refine r_if_neN (tgt := 61) dX8_switchFromNormal_27 (by decide) (by (first | omega | (have := onesK_le (q6 % 32) 32; omega))) (fun h27 => ?_) (fun h27 => ?_)
    · exact absurd h1 h27
    · refine r_iload_n dX8_switchFromNormal_30 rfl 2 rfl ?_
      refine r_if_eqN (tgt := 61) dX8_switchFromNormal_31 (by decide) (by (first | omega | (have := onesK_le (q6 % 32) 32; omega))) (fun h31 => ?_) (fun h31 => ?_)
      · refine r_aload_n dX8_switchFromNormal_61 rfl 0 rfl ?_
        refine r_iconst (v := nI 0) dX8_switchFromNormal_62 (by decide) ?_
        refine r_putI (ci := 10) (k := 4) dX8_switchFromNormal_63 fw_X8_switchFromNormal_24 ha rfl rfl rfl ?_
        refine r_vret dX8_switchFromNormal_66 rfl ⟨rfl, ?_⟩
        rw [if_pos h1, if_pos h31]
      · refine r_aload_n dX8_switchFromNormal_34 rfl 0 rfl ?_
        refine r_dup dX8_switchFromNormal_35 rfl ?_
        refine r_getI (ci := 10) (k := 4) dX8_switchFromNormal_36 fr_X8_24 ha rfl ?_
        refine Wx.top h4 ?_
        refine r_iconst (v := nI 3) dX8_switchFromNormal_39 (by decide) ?_
        refine r_iaddN dX8_switchFromNormal_40 ?_
        refine r_putI (ci := 10) (k := 4) dX8_switchFromNormal_41 fw_X8_switchFromNormal_24 ha rfl rfl rfl ?_
        refine r_aload_n dX8_switchFromNormal_44 rfl 0 rfl ?_
        refine r_getI (ci := 10) (k := 4) dX8_switchFromNormal_45 fr_X8_24 ha rfl ?_
        refine Wx.top zI_us ?_
        refine r_bipush (v := nI 15) dX8_switchFromNormal_48 (by decide) ?_
        refine r_icmp_neN (tgt := 66) dX8_switchFromNormal_50 (by decide) (by (first | omega | (have := onesK_le (q6 % 32) 32; omega))) (by (first | omega | (have := onesK_le (q6 % 32) 32; omega))) (fun h50 => ?_) (fun h50 => ?_)
        · refine r_vret dX8_switchFromNormal_66 rfl ⟨rfl, ?_⟩
          rw [if_pos h1, if_neg h31, if_neg h50]
        · refine r_aload_n dX8_switchFromNormal_53 rfl 0 rfl ?_
          refine r_iconst (v := nI 2) dX8_switchFromNormal_54 (by decide) ?_
          refine r_fnV (M2 := m_X8_become) (As := [.int (nI (2))]) (rest := []) (v := none) dX8_switchFromNormal_55 cc_X8_switchFromNormal_69 rfl rfl rfl (Nat.le_of_ble_eq_true rfl) ha rfl rfl (by decide) (p_become (by exact ha)) rfl ?_
          refine r_goto (tgt := 66) dX8_switchFromNormal_58 (by decide) ?_
          refine r_vret dX8_switchFromNormal_66 rfl ⟨rfl, ?_⟩
          rw [if_pos h1, if_neg h31, if_pos h50]
  · refine r_aload_n dX8_switchFromNormal_4 rfl 0 rfl ?_
    refine r_getI (ci := 10) (k := 6) dX8_switchFromNormal_5 fr_X8_30 ha rfl ?_
    refine Wx.top h6 ?_
    refine r_bipush (v := nI 31) dX8_switchFromNormal_8 (by decide) ?_
    refine r_iandM (k := 5) (c := 32) rfl rfl dX8_switchFromNormal_10 (by decide) ?_
    refine r_fnS (M2 := m_J6_bitCount_0f7a4) (As := [.int (nI (q6 % 32))]) (rest := []) (v := some (.int (nI (onesK (q6 % 32) 32)))) dX8_switchFromNormal_11 cc_X8_switchFromNormal_39 rfl rfl rfl (Nat.le_of_ble_eq_true rfl) (j_bitCount (by (first | omega | (have := onesK_le (q6 % 32) 32; omega)))) rfl ?_
    refine r_iconst (v := nI 2) dX8_switchFromNormal_14 (by decide) ?_
    refine r_icmp_ltN (tgt := 26) dX8_switchFromNormal_15 (by decide) (by (first | omega | (have := onesK_le (q6 % 32) 32; omega))) (by (first | omega | (have := onesK_le (q6 % 32) 32; omega))) (fun h15 => ?_) (fun h15 => ?_)
    · refine r_iload_n dX8_switchFromNormal_26 rfl 1 rfl ?_
      refine r_if_neN (tgt := 61) dX8_switchFromNormal_27 (by decide) (by (first | omega | (have := onesK_le (q6 % 32) 32; omega))) (fun h27_1 => ?_) (fun h27_1 => ?_)
      · refine r_aload_n dX8_switchFromNormal_61 rfl 0 rfl ?_
        refine r_iconst (v := nI 0) dX8_switchFromNormal_62 (by decide) ?_
        refine r_putI (ci := 10) (k := 4) dX8_switchFromNormal_63 fw_X8_switchFromNormal_24 ha rfl rfl rfl ?_
        refine r_vret dX8_switchFromNormal_66 rfl ⟨rfl, ?_⟩
        rw [if_neg h1, if_neg (Nat.not_le.mpr h15)]
      · exact absurd h27_1 h1
    · refine r_aload_n dX8_switchFromNormal_18 rfl 0 rfl ?_
      refine r_iconst (v := nI 1) dX8_switchFromNormal_19 (by decide) ?_
      refine r_fnV (M2 := m_X8_become) (As := [.int (nI (1))]) (rest := []) (v := none) dX8_switchFromNormal_20 cc_X8_switchFromNormal_69 rfl rfl rfl (Nat.le_of_ble_eq_true rfl) ha rfl rfl (by decide) (p_become (by exact ha)) rfl ?_
      refine r_goto (tgt := 66) dX8_switchFromNormal_23 (by decide) ?_
      refine r_vret dX8_switchFromNormal_66 rfl ⟨rfl, ?_⟩
      rw [if_neg h1, if_pos (Nat.le_of_not_lt h15)]
set_option maxRecDepth 4000 in
set_option maxHeartbeats 400000 in
theorem p_swT {G : GI} {S : Hp} {a : Nat} (ha : zT S a = 11) {q5 q6 r : Nat} (h5 : zI S 325 a = nI q5) (h6 : zI S 326 a = nI q6) (hr : r < 2) (hq5 : q5 < 1000) (hq6 : q6 < 2 ^ 30) : Fn m_X8_switchFromTightened G [.ref a, .int (nI r)] S none (if r = 0 then (if 5 ≤ q5 then (if q6 % 32 = 0 then U4 S a 0 0 0 0 else S) else S) else if 5 ≤ onesK q6 32 then U4 S a 3 0 0 0 else S) := by
  refine Cn.of rfl (by decide) (Nat.le_of_ble_eq_true rfl) (fun hN hM => ?_)
  show Wx _ G _ 0 [(0, .ref (a)), (1, .int (nI (r)))] [] _
  refine r_iload_n dX8_switchFromTightened_0 rfl 1 rfl ?_
  refine r_if_eqN (tgt := 23) dX8_switchFromTightened_1 (by decide) (by (first | omega | (have := onesK_le q6 32; omega))) (fun h1 => ?_) (fun h1 => ?_)
  · refine r_aload_n dX8_switchFromTightened_23 rfl 0 rfl ?_
    refine r_getI (ci := 10) (k := 5) dX8_switchFromTightened_24 fr_X8_27 ha rfl ?_
    refine Wx.top h5 ?_
    refine r_iconst (v := nI 5) dX8_switchFromTightened_27 (by decide) ?_
    refine r_icmp_ltN (tgt := 46) dX8_switchFromTightened_28 (by decide) (by (first | omega | (have := onesK_le q6 32; omega))) (by (first | omega | (have := onesK_le q6 32; omega))) (fun h28 => ?_) (fun h28 => ?_)
    · refine r_vret dX8_switchFromTightened_46 rfl ⟨rfl, ?_⟩
      rw [if_pos h1, if_neg (Nat.not_le.mpr h28)]
    · refine r_aload_n dX8_switchFromTightened_31 rfl 0 rfl ?_
      refine r_getI (ci := 10) (k := 6) dX8_switchFromTightened_32 fr_X8_30 ha rfl ?_
      refine Wx.top h6 ?_
      refine r_bipush (v := nI 31) dX8_switchFromTightened_35 (by decide) ?_
      refine r_iandM (k := 5) (c := 32) rfl rfl dX8_switchFromTightened_37 (by decide) ?_
      refine r_if_neN (tgt := 46) dX8_switchFromTightened_38 (by decide) (by (first | omega | (have := onesK_le q6 32; omega))) (fun h38 => ?_) (fun h38 => ?_)
      · refine r_vret dX8_switchFromTightened_46 rfl ⟨rfl, ?_⟩
        rw [if_pos h1, if_pos (Nat.le_of_not_lt h28), if_neg h38]
      · refine r_aload_n dX8_switchFromTightened_41 rfl 0 rfl ?_
        refine r_iconst (v := nI 0) dX8_switchFromTightened_42 (by decide) ?_
        refine r_fnV (M2 := m_X8_become) (As := [.int (nI (0))]) (rest := []) (v := none) dX8_switchFromTightened_43 cc_X8_switchFromTightened_69 rfl rfl rfl (Nat.le_of_ble_eq_true rfl) ha rfl rfl (by decide) (p_become (by exact ha)) rfl ?_
        refine r_vret dX8_switchFromTightened_46 rfl ⟨rfl, ?_⟩
        rw [if_pos h1, if_pos (Nat.le_of_not_lt h28), if_pos h38]
  · refine r_aload_n dX8_switchFromTightened_4 rfl 0 rfl ?_
    refine r_getI (ci := 10) (k := 6) dX8_switchFromTightened_5 fr_X8_30 ha rfl ?_
    refine Wx.top h6 ?_
    refine r_fnS (M2 := m_J6_bitCount_0f7a4) (As := [.int (nI (q6))]) (rest := []) (v := some (.int (nI (onesK q6 32)))) dX8_switchFromTightened_8 cc_X8_switchFromTightened_39 rfl rfl rfl (Nat.le_of_ble_eq_true rfl) (j_bitCount (by (first | omega | (have := onesK_le q6 32; omega)))) rfl ?_
    refine r_iconst (v := nI 5) dX8_switchFromTightened_11 (by decide) ?_
    refine r_icmp_ltN (tgt := 46) dX8_switchFromTightened_12 (by decide) (by (first | omega | (have := onesK_le q6 32; omega))) (by (first | omega | (have := onesK_le q6 32; omega))) (fun h12 => ?_) (fun h12 => ?_)
    · refine r_vret dX8_switchFromTightened_46 rfl ⟨rfl, ?_⟩
      rw [if_neg h1, if_neg (Nat.not_le.mpr h12)]
    · refine r_aload_n dX8_switchFromTightened_15 rfl 0 rfl ?_
      refine r_iconst (v := nI 3) dX8_switchFromTightened_16 (by decide) ?_
      refine r_fnV (M2 := m_X8_become) (As := [.int (nI (3))]) (rest := []) (v := none) dX8_switchFromTightened_17 cc_X8_switchFromTightened_69 rfl rfl rfl (Nat.le_of_ble_eq_true rfl) ha rfl rfl (by decide) (p_become (by exact ha)) rfl ?_
      refine r_goto (tgt := 46) dX8_switchFromTightened_20 (by decide) ?_
      refine r_vret dX8_switchFromTightened_46 rfl ⟨rfl, ?_⟩
      rw [if_neg h1, if_pos (Nat.le_of_not_lt h12)]
def rmH (S : Hp) (a q3 q4 q5 q6 f al : Nat) : Hp :=
  if al < f then (if q3 = 0 then (if 2 ≤ onesK ((2 * q6 + 1) % 32) 32 then U4 S a 1 0 0 0 else U4 S a 0 0 (q5 + 1) (2 * q6 + 1)) else if q3 = 1 then (if 5 ≤ onesK (2 * q6 + 1) 32 then U4 S a 3 0 0 0 else U4 S a 1 q4 (q5 + 1) (2 * q6 + 1)) else if q3 = 2 then U4 S a 0 0 0 0 else U4 S a q3 q4 (q5 + 1) (2 * q6 + 1))
  else (if q3 = 0 then (if 2 * f ≤ al then (if q4 + 3 = 15 then U4 S a 2 0 0 0 else U4 S a 0 (q4 + 3) (q5 + 1) (2 * q6 + 0)) else U4 S a 0 0 (q5 + 1) (2 * q6 + 0)) else if q3 = 1 then (if 5 ≤ q5 + 1 then (if (2 * q6 + 0) % 32 = 0 then U4 S a 0 0 0 0 else U4 S a 1 q4 (q5 + 1) (2 * q6 + 0)) else U4 S a 1 q4 (q5 + 1) (2 * q6 + 0)) else if q3 = 2 then (if al ≤ f then U4 S a 0 0 0 0 else U4 S a 2 q4 (q5 + 1) (2 * q6 + 0)) else U4 S a q3 q4 (q5 + 1) (2 * q6 + 0))
set_option maxRecDepth 4000 in
set_option maxHeartbeats 400000 in
theorem p_rem {G : GI} {S : Hp} {a : Nat} (ha : zT S a = 11) {q3 q4 q5 q6 f al : Nat} (h3 : zI S 323 a = nI q3) (h4 : zI S 324 a = nI q4) (h5 : zI S 325 a = nI q5) (h6 : zI S 326 a = nI q6) (hq3 : q3 ≤ 3) (hq4 : q4 ≤ 12) (hq5 : q5 ≤ 24) (hq6 : q6 < 2 ^ 24) (hf : f ≤ 200) (hal : al ≤ 200) : Fn m_X8_remember G [.ref a, .int (nI f), .int (nI al)] S none (rmH S a q3 q4 q5 q6 f al) := by
  refine Cn.of rfl (by decide) (Nat.le_of_ble_eq_true rfl) (fun hN hM => ?_)
  show Wx _ G _ 0 [(0, .ref (a)), (1, .int (nI (f))), (2, .int (nI (al)))] [] _
  refine r_iload_n dX8_remember_0 rfl 1 rfl ?_
  refine r_iload_n dX8_remember_1 rfl 2 rfl ?_
  refine r_icmp_leN (tgt := 9) dX8_remember_2 (by decide) (by omega) (by omega) (fun h2 => ?_) (fun h2 => ?_)
  · refine r_iconst (v := nI 0) dX8_remember_9 (by decide) ?_
    refine r_istore_n (lv' := [(3, .int (nI (0))), (0, .ref (a)), (1, .int (nI (f))), (2, .int (nI (al)))]) dX8_remember_10 rfl (by decide) rfl ?_
    refine r_aload_n dX8_remember_11 rfl 1 rfl ?_
    refine r_aload_n dX8_remember_12 rfl 1 rfl ?_
    refine r_getI (ci := 10) (k := 6) dX8_remember_13 fr_X8_30 ha rfl ?_
    refine Wx.top h6 ?_
    refine r_iconst (v := nI 1) dX8_remember_16 (by decide) ?_
    refine r_ishlN dX8_remember_17 (by omega) (by omega) ?_
    refine r_iload_n dX8_remember_18 rfl 0 rfl ?_
    refine r_if_eqN (tgt := 26) dX8_remember_19 (by decide) (by omega) (fun zz19 => ?_) (fun zz19 => ?_)
    · refine r_iconst (v := nI 0) dX8_remember_26 (by decide) ?_
      refine r_iorN dX8_remember_27 (by omega) (by omega) ?_
      refine Wx.topN (shl_or (by decide)) ?_
      refine r_putI (ci := 10) (k := 6) dX8_remember_28 fw_X8_remember_30 ha rfl rfl rfl ?_
      refine r_aload_n dX8_remember_31 rfl 1 rfl ?_
      refine r_dup dX8_remember_32 rfl ?_
      refine r_getI (ci := 10) (k := 5) dX8_remember_33 fr_X8_27 ha rfl ?_
      refine Wx.top (zI_un (by omega)) ?_
      refine Wx.top h5 ?_
      refine r_iconst (v := nI 1) dX8_remember_36 (by decide) ?_
      refine r_iaddN dX8_remember_37 ?_
      refine r_putI (ci := 10) (k := 5) dX8_remember_38 fw_X8_remember_27 ha rfl rfl rfl ?_
      refine r_aload_n dX8_remember_41 rfl 1 rfl ?_
      refine r_getI (ci := 10) (k := 3) dX8_remember_42 fr_X8_21 ha rfl ?_
      refine Wx.top (zI_un (by omega)) ?_
      refine Wx.top (zI_un (by omega)) ?_
      refine Wx.top h3 ?_
      refine r_if_neN (tgt := 68) dX8_remember_45 (by decide) (by omega) (fun h45 => ?_) (fun h45 => ?_)
      · refine r_aload_n dX8_remember_68 rfl 1 rfl ?_
        refine r_getI (ci := 10) (k := 3) dX8_remember_69 fr_X8_21 ha rfl ?_
        refine Wx.top (zI_un (by omega)) ?_
        refine Wx.top (zI_un (by omega)) ?_
        refine Wx.top h3 ?_
        refine r_iconst (v := nI 1) dX8_remember_72 (by decide) ?_
        refine r_icmp_neN (tgt := 84) dX8_remember_73 (by decide) (by omega) (by omega) (fun h73 => ?_) (fun h73 => ?_)
        · refine r_aload_n dX8_remember_84 rfl 1 rfl ?_
          refine r_getI (ci := 10) (k := 3) dX8_remember_85 fr_X8_21 ha rfl ?_
          refine Wx.top (zI_un (by omega)) ?_
          refine Wx.top (zI_un (by omega)) ?_
          refine Wx.top h3 ?_
          refine r_iconst (v := nI 2) dX8_remember_88 (by decide) ?_
          refine r_icmp_neN (tgt := 102) dX8_remember_89 (by decide) (by omega) (by omega) (fun h89 => ?_) (fun h89 => ?_)
          · refine r_vret dX8_remember_102 rfl ⟨rfl, ?_⟩
            unfold rmH
            rw [if_neg (Nat.not_lt.mpr h2)]
            rw [if_neg h45]
            rw [if_neg h73]
            rw [if_neg h89]
            exact u4_3 h3 h4
          · refine r_iload_n dX8_remember_92 rfl 2 rfl ?_
            refine r_iload_n dX8_remember_93 rfl 3 rfl ?_
            refine r_icmp_ltN (tgt := 102) dX8_remember_94 (by decide) (by omega) (by omega) (fun h94 => ?_) (fun h94 => ?_)
            · refine r_vret dX8_remember_102 rfl ⟨rfl, ?_⟩
              unfold rmH
              rw [if_neg (Nat.not_lt.mpr h2)]
              rw [if_neg h45]
              rw [if_neg h73]
              rw [if_pos h89]
              rw [if_neg (Nat.not_le.mpr h94), ← h89]
              exact u4_3 h3 h4
            · refine r_aload_n dX8_remember_97 rfl 1 rfl ?_
              refine r_iconst (v := nI 0) dX8_remember_98 (by decide) ?_
              refine r_fnV (M2 := m_X8_become) (As := [.int (nI (0))]) (rest := []) (v := none) dX8_remember_99 cc_X8_remember_69 rfl rfl rfl (Nat.le_of_ble_eq_true rfl) ha rfl rfl (by decide) (p_become (by exact ha)) rfl ?_
              refine r_vret dX8_remember_102 rfl ⟨rfl, ?_⟩
              unfold rmH
              rw [if_neg (Nat.not_lt.mpr h2)]
              rw [if_neg h45]
              rw [if_neg h73]
              rw [if_pos h89]
              rw [if_pos (Nat.le_of_not_lt h94)]
              exact u4_1
        · refine r_aload_n dX8_remember_76 rfl 1 rfl ?_
          refine r_iload_n dX8_remember_77 rfl 0 rfl ?_
          refine r_fnV (M2 := m_X8_switchFromTightened) (As := [.int (nI (0))]) (rest := []) (v := none) dX8_remember_78 cc_X8_remember_65 rfl rfl rfl (Nat.le_of_ble_eq_true rfl) ha rfl rfl (by decide) (p_swT (by exact ha) zI_us ((zI_un (by omega)).trans zI_us) (by decide) (by omega) (by omega)) rfl ?_
          refine r_goto (tgt := 102) dX8_remember_81 (by decide) ?_
          refine r_vret dX8_remember_102 rfl ⟨rfl, ?_⟩
          unfold rmH
          rw [if_neg (Nat.not_lt.mpr h2)]
          rw [if_neg h45]
          rw [if_pos h73]
          have h31 : zI S 323 a = nI 1 := by rw [h3, h73]
          rw [if_pos rfl, u4_1, u4_3 h31 h4]
      · refine r_aload_n dX8_remember_48 rfl 1 rfl ?_
        refine r_iload_n dX8_remember_49 rfl 0 rfl ?_
        refine r_iconst (v := nI 2) dX8_remember_50 (by decide) ?_
        refine r_iload_n dX8_remember_51 rfl 2 rfl ?_
        refine r_imulN dX8_remember_52 ?_
        refine r_iload_n dX8_remember_53 rfl 3 rfl ?_
        refine r_icmp_gtN (tgt := 61) dX8_remember_54 (by decide) (by omega) (by omega) (fun h54 => ?_) (fun h54 => ?_)
        · refine r_iconst (v := nI 0) dX8_remember_61 (by decide) ?_
          refine r_fnV (M2 := m_X8_switchFromNormal) (As := [.int (nI (0)), .int (nI (0))]) (rest := []) (v := none) dX8_remember_62 cc_X8_remember_61 rfl rfl rfl (Nat.le_of_ble_eq_true rfl) ha rfl rfl (by decide) (p_swN (by exact ha) ((zI_un (by omega)).trans ((zI_un (by omega)).trans h4)) ((zI_un (by omega)).trans zI_us) (by decide) (by decide) (by omega) (by omega)) rfl ?_
          refine r_goto (tgt := 102) dX8_remember_65 (by decide) ?_
          refine r_vret dX8_remember_102 rfl ⟨rfl, ?_⟩
          unfold rmH
          rw [if_neg (Nat.not_lt.mpr h2)]
          rw [if_pos h45]
          have h30 : zI S 323 a = nI 0 := by rw [h3, h45]
          rw [if_pos rfl, if_pos rfl, u4_2 h30, if_neg (Nat.not_le.mpr h54)]
        · refine r_iconst (v := nI 1) dX8_remember_57 (by decide) ?_
          refine r_goto (tgt := 62) dX8_remember_58 (by decide) ?_
          refine r_fnV (M2 := m_X8_switchFromNormal) (As := [.int (nI (0)), .int (nI (1))]) (rest := []) (v := none) dX8_remember_62 cc_X8_remember_61 rfl rfl rfl (Nat.le_of_ble_eq_true rfl) ha rfl rfl (by decide) (p_swN (by exact ha) ((zI_un (by omega)).trans ((zI_un (by omega)).trans h4)) ((zI_un (by omega)).trans zI_us) (by decide) (by decide) (by omega) (by omega)) rfl ?_
          refine r_goto (tgt := 102) dX8_remember_65 (by decide) ?_
          refine r_vret dX8_remember_102 rfl ⟨rfl, ?_⟩
          unfold rmH
          rw [if_neg (Nat.not_lt.mpr h2)]
          rw [if_pos h45]
          have h30 : zI S 323 a = nI 0 := by rw [h3, h45]
          rw [if_pos rfl, if_neg (by decide), u4_4, u4_2 h30, if_pos h54]
    · exact absurd zz19 (by decide)
  · refine r_iconst (v := nI 1) dX8_remember_5 (by decide) ?_
    refine r_goto (tgt := 10) dX8_remember_6 (by decide) ?_
    refine r_istore_n (lv' := [(3, .int (nI (1))), (0, .ref (a)), (1, .int (nI (f))), (2, .int (nI (al)))]) dX8_remember_10 rfl (by decide) rfl ?_
    refine r_aload_n dX8_remember_11 rfl 1 rfl ?_
    refine r_aload_n dX8_remember_12 rfl 1 rfl ?_
    refine r_getI (ci := 10) (k := 6) dX8_remember_13 fr_X8_30 ha rfl ?_
    refine Wx.top h6 ?_
    refine r_iconst (v := nI 1) dX8_remember_16 (by decide) ?_
    refine r_ishlN dX8_remember_17 (by omega) (by omega) ?_
    refine r_iload_n dX8_remember_18 rfl 0 rfl ?_
    refine r_if_eqN (tgt := 26) dX8_remember_19 (by decide) (by omega) (fun zz19_1 => ?_) (fun zz19_1 => ?_)
    · exact absurd zz19_1 (by decide)
    · refine r_iconst (v := nI 1) dX8_remember_22 (by decide) ?_
      refine r_goto (tgt := 27) dX8_remember_23 (by decide) ?_
      refine r_iorN dX8_remember_27 (by omega) (by omega) ?_
      refine Wx.topN (shl_or (by decide)) ?_
      refine r_putI (ci := 10) (k := 6) dX8_remember_28 fw_X8_remember_30 ha rfl rfl rfl ?_
      refine r_aload_n dX8_remember_31 rfl 1 rfl ?_
      refine r_dup dX8_remember_32 rfl ?_
      refine r_getI (ci := 10) (k := 5) dX8_remember_33 fr_X8_27 ha rfl ?_
      refine Wx.top (zI_un (by omega)) ?_
      refine Wx.top h5 ?_
      refine r_iconst (v := nI 1) dX8_remember_36 (by decide) ?_
      refine r_iaddN dX8_remember_37 ?_
      refine r_putI (ci := 10) (k := 5) dX8_remember_38 fw_X8_remember_27 ha rfl rfl rfl ?_
      refine r_aload_n dX8_remember_41 rfl 1 rfl ?_
      refine r_getI (ci := 10) (k := 3) dX8_remember_42 fr_X8_21 ha rfl ?_
      refine Wx.top (zI_un (by omega)) ?_
      refine Wx.top (zI_un (by omega)) ?_
      refine Wx.top h3 ?_
      refine r_if_neN (tgt := 68) dX8_remember_45 (by decide) (by omega) (fun h45_1 => ?_) (fun h45_1 => ?_)
      · refine r_aload_n dX8_remember_68 rfl 1 rfl ?_
        refine r_getI (ci := 10) (k := 3) dX8_remember_69 fr_X8_21 ha rfl ?_
        refine Wx.top (zI_un (by omega)) ?_
        refine Wx.top (zI_un (by omega)) ?_
        refine Wx.top h3 ?_
        refine r_iconst (v := nI 1) dX8_remember_72 (by decide) ?_
        refine r_icmp_neN (tgt := 84) dX8_remember_73 (by decide) (by omega) (by omega) (fun h73_1 => ?_) (fun h73_1 => ?_)
        · refine r_aload_n dX8_remember_84 rfl 1 rfl ?_
          refine r_getI (ci := 10) (k := 3) dX8_remember_85 fr_X8_21 ha rfl ?_
          refine Wx.top (zI_un (by omega)) ?_
          refine Wx.top (zI_un (by omega)) ?_
          refine Wx.top h3 ?_
          refine r_iconst (v := nI 2) dX8_remember_88 (by decide) ?_
          refine r_icmp_neN (tgt := 102) dX8_remember_89 (by decide) (by omega) (by omega) (fun h89_1 => ?_) (fun h89_1 => ?_)
          · refine r_vret dX8_remember_102 rfl ⟨rfl, ?_⟩
            unfold rmH
            rw [if_pos (Nat.lt_of_not_le h2)]
            rw [if_neg h45_1]
            rw [if_neg h73_1]
            rw [if_neg h89_1]
            exact u4_3 h3 h4
          · refine r_iload_n dX8_remember_92 rfl 2 rfl ?_
            refine r_iload_n dX8_remember_93 rfl 3 rfl ?_
            refine r_icmp_ltN (tgt := 102) dX8_remember_94 (by decide) (by omega) (by omega) (fun h94_1 => ?_) (fun h94_1 => ?_)
            · refine r_vret dX8_remember_102 rfl ⟨rfl, ?_⟩
              unfold rmH
              rw [if_pos (Nat.lt_of_not_le h2)]
              rw [if_neg h45_1]
              rw [if_neg h73_1]
              rw [if_pos h89_1]
              exact absurd h94_1 (by omega)
            · refine r_aload_n dX8_remember_97 rfl 1 rfl ?_
              refine r_iconst (v := nI 0) dX8_remember_98 (by decide) ?_
              refine r_fnV (M2 := m_X8_become) (As := [.int (nI (0))]) (rest := []) (v := none) dX8_remember_99 cc_X8_remember_69 rfl rfl rfl (Nat.le_of_ble_eq_true rfl) ha rfl rfl (by decide) (p_become (by exact ha)) rfl ?_
              refine r_vret dX8_remember_102 rfl ⟨rfl, ?_⟩
              unfold rmH
              rw [if_pos (Nat.lt_of_not_le h2)]
              rw [if_neg h45_1]
              rw [if_neg h73_1]
              rw [if_pos h89_1]
              exact u4_1
        · refine r_aload_n dX8_remember_76 rfl 1 rfl ?_
          refine r_iload_n dX8_remember_77 rfl 0 rfl ?_
          refine r_fnV (M2 := m_X8_switchFromTightened) (As := [.int (nI (1))]) (rest := []) (v := none) dX8_remember_78 cc_X8_remember_65 rfl rfl rfl (Nat.le_of_ble_eq_true rfl) ha rfl rfl (by decide) (p_swT (by exact ha) zI_us ((zI_un (by omega)).trans zI_us) (by decide) (by omega) (by omega)) rfl ?_
          refine r_goto (tgt := 102) dX8_remember_81 (by decide) ?_
          refine r_vret dX8_remember_102 rfl ⟨rfl, ?_⟩
          unfold rmH
          rw [if_pos (Nat.lt_of_not_le h2)]
          rw [if_neg h45_1]
          rw [if_pos h73_1]
          have h31 : zI S 323 a = nI 1 := by rw [h3, h73_1]
          rw [if_neg (by decide), u4_1, u4_3 h31 h4]
      · refine r_aload_n dX8_remember_48 rfl 1 rfl ?_
        refine r_iload_n dX8_remember_49 rfl 0 rfl ?_
        refine r_iconst (v := nI 2) dX8_remember_50 (by decide) ?_
        refine r_iload_n dX8_remember_51 rfl 2 rfl ?_
        refine r_imulN dX8_remember_52 ?_
        refine r_iload_n dX8_remember_53 rfl 3 rfl ?_
        refine r_icmp_gtN (tgt := 61) dX8_remember_54 (by decide) (by omega) (by omega) (fun h54_1 => ?_) (fun h54_1 => ?_)
        · refine r_iconst (v := nI 0) dX8_remember_61 (by decide) ?_
          refine r_fnV (M2 := m_X8_switchFromNormal) (As := [.int (nI (1)), .int (nI (0))]) (rest := []) (v := none) dX8_remember_62 cc_X8_remember_61 rfl rfl rfl (Nat.le_of_ble_eq_true rfl) ha rfl rfl (by decide) (p_swN (by exact ha) ((zI_un (by omega)).trans ((zI_un (by omega)).trans h4)) ((zI_un (by omega)).trans zI_us) (by decide) (by decide) (by omega) (by omega)) rfl ?_
          refine r_goto (tgt := 102) dX8_remember_65 (by decide) ?_
          refine r_vret dX8_remember_102 rfl ⟨rfl, ?_⟩
          unfold rmH
          rw [if_pos (Nat.lt_of_not_le h2)]
          rw [if_pos h45_1]
          have h30 : zI S 323 a = nI 0 := by rw [h3, h45_1]
          rw [if_neg (by decide), u4_1, u4_2 h30]
        · refine r_iconst (v := nI 1) dX8_remember_57 (by decide) ?_
          refine r_goto (tgt := 62) dX8_remember_58 (by decide) ?_
          refine r_fnV (M2 := m_X8_switchFromNormal) (As := [.int (nI (1)), .int (nI (1))]) (rest := []) (v := none) dX8_remember_62 cc_X8_remember_61 rfl rfl rfl (Nat.le_of_ble_eq_true rfl) ha rfl rfl (by decide) (p_swN (by exact ha) ((zI_un (by omega)).trans ((zI_un (by omega)).trans h4)) ((zI_un (by omega)).trans zI_us) (by decide) (by decide) (by omega) (by omega)) rfl ?_
          refine r_goto (tgt := 102) dX8_remember_65 (by decide) ?_
          refine r_vret dX8_remember_102 rfl ⟨rfl, ?_⟩
          unfold rmH
          rw [if_pos (Nat.lt_of_not_le h2)]
          rw [if_pos h45_1]
          have h30 : zI S 323 a = nI 0 := by rw [h3, h45_1]
          rw [if_neg (by decide), u4_1, u4_2 h30]
