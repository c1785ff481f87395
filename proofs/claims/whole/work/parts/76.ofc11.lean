/-! THE NUMBER OF ONES, as the library counts them -/
def m1 : Nat → Nat
  | 0 => 0
  | k + 1 => 4 * m1 k + 1
def m2 : Nat → Nat
  | 0 => 0
  | k + 1 => 16 * m2 k + 3
def m3 : Nat → Nat
  | 0 => 0
  | k + 1 => 256 * m3 k + 15
def ds (b : Nat) : Nat → Nat → Nat
  | 0, _ => 0
  | k + 1, x => ds b k (x / b) + x % b
def dl (b B : Nat) : Nat → Nat → Prop
  | 0, x => x = 0
  | k + 1, x => dl b B k (x / b) ∧ x % b ≤ B
theorem onesK_2 {x : Nat} : ∀ q, onesK x (q + 2) = onesK (x / 4) q + (x % 2 + x / 2 % 2)
  | 0 => by
    show 0 + x / 2 ^ 0 % 2 + x / 2 ^ 1 % 2 = 0 + (x % 2 + x / 2 % 2)
    omega
  | q + 1 => by
    show onesK x (q + 2) + x / 2 ^ (q + 2) % 2 = onesK (x / 4) q + x / 4 / 2 ^ q % 2 + (x % 2 + x / 2 % 2)
    rw [onesK_2 q, Nat.div_div_eq_div_mul, show 4 * 2 ^ q = 2 ^ (q + 2) by rw [Nat.pow_add]; omega]
    omega
theorem and_s2 {a m r : Nat} (hr : r < 4) : (4 * a + r) &&& (4 * m + 1) = 4 * (a &&& m) + r % 2 := by
  have h := sp_and (t := 2) (x := a) (y := m) (a := r) (b := 1) hr (by decide)
  rw [show r &&& 1 = r % 2 from Nat.and_one_is_mod r] at h
  exact h
theorem and_s4 {a m r : Nat} (hr : r < 16) : (16 * a + r) &&& (16 * m + 3) = 16 * (a &&& m) + r % 4 := by
  have h := sp_and (t := 4) (x := a) (y := m) (a := r) (b := 3) hr (by decide)
  rw [show r &&& 3 = r % 4 from Nat.and_two_pow_sub_one_eq_mod r 2] at h
  exact h
theorem and_s8 {a m r : Nat} (hr : r < 256) : (256 * a + r) &&& (256 * m + 15) = 256 * (a &&& m) + r % 16 := by
  have h := sp_and (t := 8) (x := a) (y := m) (a := r) (b := 15) hr (by decide)
  rw [show r &&& 15 = r % 16 from Nat.and_two_pow_sub_one_eq_mod r 4] at h
  exact h
theorem pc_a : ∀ k x, x < 4 ^ k → (x / 2 &&& m1 k) ≤ x ∧ dl 4 2 k (x - (x / 2 &&& m1 k)) ∧ ds 4 k (x - (x / 2 &&& m1 k)) = onesK x (2 * k)
  | 0, x, h => by
    have : x = 0 := by
      have : (4 : Nat) ^ 0 = 1 := rfl
      omega
    subst this
    exact ⟨by decide, rfl, rfl⟩
  | k + 1, x, h => by
    have hk : x / 4 < 4 ^ k := by
      have : (4 : Nat) ^ (k + 1) = 4 * 4 ^ k := by rw [Nat.pow_succ, Nat.mul_comm]
      omega
    obtain ⟨i1, i2, i3⟩ := pc_a k (x / 4) hk
    have e : x / 2 &&& m1 (k + 1) = 4 * (x / 4 / 2 &&& m1 k) + x % 4 / 2 := by
      rw [show x / 2 = 4 * (x / 4 / 2) + (2 * (x / 4 % 2) + x % 4 / 2) by omega]
      show _ &&& (4 * m1 k + 1) = _
      rw [and_s2 (by omega)]
      omega
    generalize hy : (x / 4 / 2 &&& m1 k) = y at *
    refine ⟨by omega, ?_, ?_⟩
    · rw [e]
      refine ⟨?_, by omega⟩
      rw [show (x - (4 * y + x % 4 / 2)) / 4 = x / 4 - y by omega]
      exact i2
    · rw [e]
      show ds 4 k ((x - (4 * y + x % 4 / 2)) / 4) + (x - (4 * y + x % 4 / 2)) % 4 = _
      rw [show (x - (4 * y + x % 4 / 2)) / 4 = x / 4 - y by omega, i3, show 2 * (k + 1) = 2 * k + 2 by omega, onesK_2]
      omega
theorem pc_b : ∀ k x, dl 4 2 (2 * k) x → dl 16 4 k ((x &&& m2 k) + (x / 4 &&& m2 k)) ∧ ds 16 k ((x &&& m2 k) + (x / 4 &&& m2 k)) = ds 4 (2 * k) x
  | 0, x, h => by
    have : x = 0 := h
    subst this
    exact ⟨rfl, rfl⟩
  | k + 1, x, h => by
    have h' : dl 4 2 (2 * k + 1 + 1) x := h
    obtain ⟨⟨h1, h2⟩, h3⟩ := h'
    rw [show x / 4 / 4 = x / 16 by omega] at h1
    obtain ⟨i2, i3⟩ := pc_b k (x / 16) h1
    have e1 : x &&& m2 (k + 1) = 16 * (x / 16 &&& m2 k) + x % 4 := by
      have h9 := and_s4 (a := x / 16) (m := m2 k) (r := x % 16) (by omega)
      rw [show 16 * (x / 16) + x % 16 = x by omega] at h9
      show x &&& (16 * m2 k + 3) = _
      rw [h9]
      omega
    have e2 : x / 4 &&& m2 (k + 1) = 16 * (x / 16 / 4 &&& m2 k) + x / 4 % 4 := by
      rw [show x / 4 = 16 * (x / 16 / 4) + (4 * (x / 16 % 4) + x % 16 / 4) by omega]
      show _ &&& (16 * m2 k + 3) = _
      rw [and_s4 (by omega)]
      omega
    generalize hy : (x / 16 &&& m2 k) = y at *
    generalize hz : (x / 16 / 4 &&& m2 k) = z at *
    have hlo : x / 4 % 4 ≤ 2 := h2
    rw [e1, e2]
    refine ⟨⟨?_, by omega⟩, ?_⟩
    · rw [show (16 * y + x % 4 + (16 * z + x / 4 % 4)) / 16 = y + z by omega]
      exact i2
    · show ds 16 k ((16 * y + x % 4 + (16 * z + x / 4 % 4)) / 16) + (16 * y + x % 4 + (16 * z + x / 4 % 4)) % 16 = ds 4 (2 * k + 1 + 1) x
      rw [show (16 * y + x % 4 + (16 * z + x / 4 % 4)) / 16 = y + z by omega, i3]
      show _ = ds 4 (2 * k) (x / 4 / 4) + x / 4 % 4 + x % 4
      rw [show x / 4 / 4 = x / 16 by omega]
      omega
theorem dl_hd {b B k x : Nat} (h : dl b B (k + 1) x) : x % b ≤ B := h.2
theorem dl_md {B : Nat} : ∀ {k x : Nat}, dl 16 B k x → x % 16 ≤ B
  | 0, x, h => by
    have : x = 0 := h
    omega
  | k + 1, x, h => h.2
theorem pc_c : ∀ k x, dl 16 4 (2 * k) x → ((x + x / 16) &&& m3 k) < 256 ^ k ∧ dl 256 8 k ((x + x / 16) &&& m3 k) ∧ ds 256 k ((x + x / 16) &&& m3 k) = ds 16 (2 * k) x
  | 0, x, h => by
    have : x = 0 := h
    subst this
    exact ⟨by decide, rfl, rfl⟩
  | k + 1, x, h => by
    have h' : dl 16 4 (2 * k + 1 + 1) x := h
    obtain ⟨⟨h1, h2⟩, h3⟩ := h'
    rw [show x / 16 / 16 = x / 256 by omega] at h1
    obtain ⟨i1, i2, i3⟩ := pc_c k (x / 256) h1
    have hb := dl_md h1
    have e1 : (x + x / 16) &&& m3 (k + 1) = 256 * ((x / 256 + x / 256 / 16) &&& m3 k) + (x % 16 + x / 16 % 16) := by
      rw [show x + x / 16 = 256 * (x / 256 + x / 256 / 16) + (x % 256 + (16 * (x / 256 % 16) + x % 256 / 16)) by omega]
      show _ &&& (256 * m3 k + 15) = _
      rw [and_s8 (by omega)]
      omega
    generalize hy : ((x / 256 + x / 256 / 16) &&& m3 k) = y at *
    rw [e1]
    refine ⟨?_, ⟨?_, by omega⟩, ?_⟩
    · have : (256 : Nat) ^ (k + 1) = 256 * 256 ^ k := by rw [Nat.pow_succ, Nat.mul_comm]
      omega
    · rw [show (256 * y + (x % 16 + x / 16 % 16)) / 256 = y by omega]
      exact i2
    · show ds 256 k ((256 * y + (x % 16 + x / 16 % 16)) / 256) + (256 * y + (x % 16 + x / 16 % 16)) % 256 = ds 16 (2 * k + 1 + 1) x
      rw [show (256 * y + (x % 16 + x / 16 % 16)) / 256 = y by omega, i3]
      show _ = ds 16 (2 * k) (x / 16 / 16) + x / 16 % 16 + x % 16
      rw [show x / 16 / 16 = x / 256 by omega]
      omega
theorem pc_fin {B0 B1 B2 B3 c d e : Nat} (h0 : B0 ≤ 8) (h1 : B1 ≤ 8) (h2 : B2 ≤ 8) (h3 : B3 ≤ 8) (hc : c = B0 + 256 * B1 + 65536 * B2 + 16777216 * B3) (hd : c + c / 256 = d) (he : d + d / 65536 = e) : e % 64 = B3 + B2 + B1 + B0 := by
  have e1 : c / 256 = B1 + 256 * B2 + 65536 * B3 := by omega
  rw [e1] at hd
  have e2 : d = (B0 + B1) + 256 * (B1 + B2) + 65536 * (B2 + B3) + 16777216 * B3 := by omega
  have e3 : d / 65536 = B2 + B3 + 256 * B3 := by omega
  rw [e3, e2] at he
  omega
theorem pc_all {x : Nat} (h : x < 2 ^ 32) {a b c d e : Nat} (ha : x - (x / 2 &&& 1431655765) = a) (hb : (a &&& 858993459) + (a / 4 &&& 858993459) = b) (hc : (b + b / 16) &&& 252645135 = c) (hd : c + c / 256 = d) (he : d + d / 65536 = e) : (x / 2 &&& 1431655765) ≤ x ∧ a < 2 ^ 32 ∧ b < 2 ^ 31 ∧ c < 2 ^ 28 ∧ e % 64 = onesK x 32 := by
  obtain ⟨p1, p2, p3⟩ := pc_a 16 x (by rw [show (4 : Nat) ^ 16 = 2 ^ 32 from rfl]; exact h)
  rw [show m1 16 = 1431655765 from rfl] at p1 p2 p3
  rw [ha] at p2 p3
  obtain ⟨q1, q2⟩ := pc_b 8 a p2
  rw [show m2 8 = 858993459 from rfl, hb] at q1 q2
  obtain ⟨r0, r1, r2⟩ := pc_c 4 b q1
  rw [show m3 4 = 252645135 from rfl, hc] at r0 r1 r2
  have e1 : ds 256 4 c = onesK x 32 := by rw [r2, q2, p3]
  have hr0 : c < 2 ^ 32 := r0
  obtain ⟨⟨⟨⟨t0, t1⟩, t2⟩, t3⟩, t4⟩ := r1
  have e2 : ds 256 4 c = 0 + c / 256 / 256 / 256 % 256 + c / 256 / 256 % 256 + c / 256 % 256 + c % 256 := rfl
  have hA : a ≤ x := by omega
  have hB1 : a &&& 858993459 ≤ 858993459 := Nat.and_le_right
  have hB2 : a / 4 &&& 858993459 ≤ 858993459 := Nat.and_le_right
  have t0' : c / 256 / 256 / 256 / 256 = 0 := t0
  rw [← e1, e2, Nat.zero_add]
  exact ⟨p1, by omega, by omega, by omega, pc_fin t4 t3 t2 t1 (by omega) hd he⟩
set_option maxRecDepth 4000 in
set_option maxHeartbeats 400000 in
theorem j_bitCount {G : GI} {S : Hp} {x : Nat} (h : x < 2 ^ 32) : Fn m_J6_bitCount_0f7a4 G [.int (nI x)] S (some (.int (nI (onesK x 32)))) S := by
  refine Cn.ofF rfl (by decide +kernel) (Nat.le_of_ble_eq_true rfl) (fun hN hM => ?_)
  show Wx _ G _ 0 [(0, .int (nI (x)))] [] _
  obtain ⟨a, ha⟩ : ∃ a, x - (x / 2 &&& 1431655765) = a := ⟨_, rfl⟩
  obtain ⟨b, hb⟩ : ∃ b, (a &&& 858993459) + (a / 4 &&& 858993459) = b := ⟨_, rfl⟩
  obtain ⟨c, hc⟩ : ∃ c, (b + b / 16) &&& 252645135 = c := ⟨_, rfl⟩
  obtain ⟨d, hd⟩ : ∃ d, c + c / 256 = d := ⟨_, rfl⟩
  obtain ⟨e, he⟩ : ∃ e, d + d / 65536 = e := ⟨_, rfl⟩
  obtain ⟨p1, p2, p3, p4, p5⟩ := pc_all h ha hb hc hd he
  refine r_iload_n dJ6_bitCount_0f7a4_0 rfl 0 rfl ?_
  refine r_iload_n dJ6_bitCount_0f7a4_1 rfl 0 rfl ?_
  refine r_iconst (v := nI 1) dJ6_bitCount_0f7a4_2 (by decide) ?_
  refine r_iushrN dJ6_bitCount_0f7a4_3 (by (first | omega | exact Nat.lt_of_le_of_lt Nat.and_le_right (by decide) | exact p1)) (by omega) ?_
  refine r_ldcw (v := 1431655765) (sg3 187 rfl rfl) dJ6_bitCount_0f7a4_4 ?_
  refine Wx.top (y := nI 1431655765) (by decide) ?_
  refine r_iandN dJ6_bitCount_0f7a4_7 (by (first | omega | exact Nat.lt_of_le_of_lt Nat.and_le_right (by decide) | exact p1)) (by (first | omega | exact Nat.lt_of_le_of_lt Nat.and_le_right (by decide) | exact p1)) ?_
  refine r_isubN dJ6_bitCount_0f7a4_8 (by (first | omega | exact Nat.lt_of_le_of_lt Nat.and_le_right (by decide) | exact p1)) ?_
  refine Wx.topN (show x - ((x / 2) &&& 1431655765) = a from ha) ?_
  refine r_istore_n (lv' := [(0, .int (nI (a)))]) dJ6_bitCount_0f7a4_9 rfl (by decide) rfl ?_
  refine r_iload_n dJ6_bitCount_0f7a4_10 rfl 0 rfl ?_
  refine r_ldcw (v := 858993459) (sg3 188 rfl rfl) dJ6_bitCount_0f7a4_11 ?_
  refine Wx.top (y := nI 858993459) (by decide) ?_
  refine r_iandN dJ6_bitCount_0f7a4_14 (by (first | omega | exact Nat.lt_of_le_of_lt Nat.and_le_right (by decide) | exact p1)) (by (first | omega | exact Nat.lt_of_le_of_lt Nat.and_le_right (by decide) | exact p1)) ?_
  refine r_iload_n dJ6_bitCount_0f7a4_15 rfl 0 rfl ?_
  refine r_iconst (v := nI 2) dJ6_bitCount_0f7a4_16 (by decide) ?_
  refine r_iushrN dJ6_bitCount_0f7a4_17 (by (first | omega | exact Nat.lt_of_le_of_lt Nat.and_le_right (by decide) | exact p1)) (by omega) ?_
  refine r_ldcw (v := 858993459) (sg3 188 rfl rfl) dJ6_bitCount_0f7a4_18 ?_
  refine Wx.top (y := nI 858993459) (by decide) ?_
  refine r_iandN dJ6_bitCount_0f7a4_21 (by (first | omega | exact Nat.lt_of_le_of_lt Nat.and_le_right (by decide) | exact p1)) (by (first | omega | exact Nat.lt_of_le_of_lt Nat.and_le_right (by decide) | exact p1)) ?_
  refine r_iaddN dJ6_bitCount_0f7a4_22 ?_
  refine Wx.topN (show (a &&& 858993459) + ((a / 4) &&& 858993459) = b from hb) ?_
  refine r_istore_n (lv' := [(0, .int (nI (b)))]) dJ6_bitCount_0f7a4_23 rfl (by decide) rfl ?_
  refine r_iload_n dJ6_bitCount_0f7a4_24 rfl 0 rfl ?_
  refine r_iload_n dJ6_bitCount_0f7a4_25 rfl 0 rfl ?_
  refine r_iconst (v := nI 4) dJ6_bitCount_0f7a4_26 (by decide) ?_
  refine r_iushrN dJ6_bitCount_0f7a4_27 (by (first | omega | exact Nat.lt_of_le_of_lt Nat.and_le_right (by decide) | exact p1)) (by omega) ?_
  refine r_iaddN dJ6_bitCount_0f7a4_28 ?_
  refine r_ldcw (v := 252645135) (sg3 189 rfl rfl) dJ6_bitCount_0f7a4_29 ?_
  refine Wx.top (y := nI 252645135) (by decide) ?_
  refine r_iandN dJ6_bitCount_0f7a4_32 (by (first | omega | exact Nat.lt_of_le_of_lt Nat.and_le_right (by decide) | exact p1)) (by (first | omega | exact Nat.lt_of_le_of_lt Nat.and_le_right (by decide) | exact p1)) ?_
  refine Wx.topN (show (b + (b / 16)) &&& 252645135 = c from hc) ?_
  refine r_istore_n (lv' := [(0, .int (nI (c)))]) dJ6_bitCount_0f7a4_33 rfl (by decide) rfl ?_
  refine r_iload_n dJ6_bitCount_0f7a4_34 rfl 0 rfl ?_
  refine r_iload_n dJ6_bitCount_0f7a4_35 rfl 0 rfl ?_
  refine r_bipush (v := nI 8) dJ6_bitCount_0f7a4_36 (by decide) ?_
  refine r_iushrN dJ6_bitCount_0f7a4_38 (by (first | omega | exact Nat.lt_of_le_of_lt Nat.and_le_right (by decide) | exact p1)) (by omega) ?_
  refine r_iaddN dJ6_bitCount_0f7a4_39 ?_
  refine Wx.topN (show c + (c / 256) = d from hd) ?_
  refine r_istore_n (lv' := [(0, .int (nI (d)))]) dJ6_bitCount_0f7a4_40 rfl (by decide) rfl ?_
  refine r_iload_n dJ6_bitCount_0f7a4_41 rfl 0 rfl ?_
  refine r_iload_n dJ6_bitCount_0f7a4_42 rfl 0 rfl ?_
  refine r_bipush (v := nI 16) dJ6_bitCount_0f7a4_43 (by decide) ?_
  refine r_iushrN dJ6_bitCount_0f7a4_45 (by (first | omega | exact Nat.lt_of_le_of_lt Nat.and_le_right (by decide) | exact p1)) (by omega) ?_
  refine r_iaddN dJ6_bitCount_0f7a4_46 ?_
  refine Wx.topN (show d + (d / 65536) = e from he) ?_
  refine r_istore_n (lv' := [(0, .int (nI (e)))]) dJ6_bitCount_0f7a4_47 rfl (by decide) rfl ?_
  refine r_iload_n dJ6_bitCount_0f7a4_48 rfl 0 rfl ?_
  refine r_bipush (v := nI 63) dJ6_bitCount_0f7a4_49 (by decide) ?_
  refine r_iandM (k := 6) (c := 64) rfl rfl dJ6_bitCount_0f7a4_51 (by decide) ?_
  exact r_iret (ty := .int) dJ6_bitCount_0f7a4_52 rfl rfl ⟨congrArg (fun x => Sum.inl (some (Value.int (nI x)))) p5, rfl⟩
