/-! BEGINNING AND FINISHING A LOT -/
/-- lot l is begun: its header, the first u of its units -/
def BG (c : Nat → Nat) (l p a n u : Nat) (c' : Nat → Nat) : Prop := (∀ j, ¬ inL l j → c' j = c j) ∧ (c' (90 + 13 * l + 0) = p ∧ c' (90 + 13 * l + 1) = n ∧ c' (90 + 13 * l + 2) = 0 ∧ c' (90 + 13 * l + 3) = 0 ∧ c' (90 + 13 * l + 4) = 4294967295 ∧ c' (90 + 13 * l + 5) = 4294967295 ∧ c' (90 + 13 * l + 6) = 4294967295 ∧ c' (90 + 13 * l + 7) = 4294967295 ∧ c' (90 + 13 * l + 8) = 0 ∧ c' (90 + 13 * l + 9) = a) ∧ ∀ v, v < u → c' (402 + 8 * (200 * l + v)) = 0 ∧ c' (402 + 8 * (200 * l + v) + 1) = 0 ∧ c' (402 + 8 * (200 * l + v) + 2) = 0 ∧ c' (402 + 8 * (200 * l + v) + 3) = 0 ∧ c' (402 + 8 * (200 * l + v) + 4) = 4294967295 ∧ c' (402 + 8 * (200 * l + v) + 5) = 0
theorem BG.init {c : Nat → Nat} {l p a n : Nat} : BG c l p a n 0 (up1 (up1 (up1 (up1 (up1 (up1 (up1 (up1 (up1 (up1 c (90 + 13 * l + 0) (p)) (90 + 13 * l + 9) (a)) (90 + 13 * l + 1) (n)) (90 + 13 * l + 2) (0)) (90 + 13 * l + 3) (0)) (90 + 13 * l + 4) (4294967295)) (90 + 13 * l + 5) (4294967295)) (90 + 13 * l + 6) (4294967295)) (90 + 13 * l + 7) (4294967295)) (90 + 13 * l + 8) (0)) :=
  ⟨fun j hj => by
    unfold inL at hj
    rw [up1_n (by omega), up1_n (by omega), up1_n (by omega), up1_n (by omega), up1_n (by omega), up1_n (by omega), up1_n (by omega), up1_n (by omega), up1_n (by omega), up1_n (by omega)], ⟨by rw [up1_n (by omega), up1_n (by omega), up1_n (by omega), up1_n (by omega), up1_n (by omega), up1_n (by omega), up1_n (by omega), up1_n (by omega), up1_n (by omega), up1_s], by rw [up1_n (by omega), up1_n (by omega), up1_n (by omega), up1_n (by omega), up1_n (by omega), up1_n (by omega), up1_n (by omega), up1_s], by rw [up1_n (by omega), up1_n (by omega), up1_n (by omega), up1_n (by omega), up1_n (by omega), up1_n (by omega), up1_s], by rw [up1_n (by omega), up1_n (by omega), up1_n (by omega), up1_n (by omega), up1_n (by omega), up1_s], by rw [up1_n (by omega), up1_n (by omega), up1_n (by omega), up1_n (by omega), up1_s], by rw [up1_n (by omega), up1_n (by omega), up1_n (by omega), up1_s], by rw [up1_n (by omega), up1_n (by omega), up1_s], by rw [up1_n (by omega), up1_s], by rw [up1_s], by rw [up1_n (by omega), up1_n (by omega), up1_n (by omega), up1_n (by omega), up1_n (by omega), up1_n (by omega), up1_n (by omega), up1_n (by omega), up1_s]⟩, fun v hv => absurd hv (Nat.not_lt_zero v)⟩
theorem BG.step {c c1 : Nat → Nat} {l p a n u : Nat} (hl : l < 24) (hu : u < 200) (h : BG c l p a n u c1) : BG c l p a n (u + 1) (up1 (up1 (up1 (up1 (up1 (up1 c1 (402 + 8 * (200 * l + u)) (0)) (402 + 8 * (200 * l + u) + 1) (0)) (402 + 8 * (200 * l + u) + 2) (0)) (402 + 8 * (200 * l + u) + 3) (0)) (402 + 8 * (200 * l + u) + 4) (4294967295)) (402 + 8 * (200 * l + u) + 5) (0)) := by
  obtain ⟨h1, h2, h3⟩ := h
  refine ⟨fun j hj => ?_, ?_, fun v hv => ?_⟩
  · have := h1 j hj
    unfold inL at hj
    rw [up1_n (by omega), up1_n (by omega), up1_n (by omega), up1_n (by omega), up1_n (by omega), up1_n (by omega)]; exact this
  · have e : ∀ f, f < 13 → (up1 (up1 (up1 (up1 (up1 (up1 c1 (402 + 8 * (200 * l + u)) (0)) (402 + 8 * (200 * l + u) + 1) (0)) (402 + 8 * (200 * l + u) + 2) (0)) (402 + 8 * (200 * l + u) + 3) (0)) (402 + 8 * (200 * l + u) + 4) (4294967295)) (402 + 8 * (200 * l + u) + 5) (0)) (90 + 13 * l + f) = c1 (90 + 13 * l + f) := fun f hf => by rw [up1_n (by omega), up1_n (by omega), up1_n (by omega), up1_n (by omega), up1_n (by omega), up1_n (by omega)]
    rw [e 0 (by decide), e 1 (by decide), e 2 (by decide), e 3 (by decide), e 4 (by decide), e 5 (by decide), e 6 (by decide), e 7 (by decide), e 8 (by decide), e 9 (by decide)]
    exact h2
  · by_cases q : v = u
    · subst q
      exact ⟨by rw [up1_n (by omega), up1_n (by omega), up1_n (by omega), up1_n (by omega), up1_n (by omega), up1_s], by rw [up1_n (by omega), up1_n (by omega), up1_n (by omega), up1_n (by omega), up1_s], by rw [up1_n (by omega), up1_n (by omega), up1_n (by omega), up1_s], by rw [up1_n (by omega), up1_n (by omega), up1_s], by rw [up1_n (by omega), up1_s], by rw [up1_s]⟩
    · have e : ∀ f, f < 6 → (up1 (up1 (up1 (up1 (up1 (up1 c1 (402 + 8 * (200 * l + u)) (0)) (402 + 8 * (200 * l + u) + 1) (0)) (402 + 8 * (200 * l + u) + 2) (0)) (402 + 8 * (200 * l + u) + 3) (0)) (402 + 8 * (200 * l + u) + 4) (4294967295)) (402 + 8 * (200 * l + u) + 5) (0)) (402 + 8 * (200 * l + v) + f) = c1 (402 + 8 * (200 * l + v) + f) := fun f hf => by rw [up1_n (by omega), up1_n (by omega), up1_n (by omega), up1_n (by omega), up1_n (by omega), up1_n (by omega)]
      have e0 := e 0 (by decide)
      simp only [Nat.add_zero] at e0
      rw [e0, e 1 (by decide), e 2 (by decide), e 3 (by decide), e 4 (by decide), e 5 (by decide)]
      exact h3 v (by omega)
set_option maxRecDepth 4000 in
set_option maxHeartbeats 400000 in
theorem o_begin {G : GI} {S : Hp} {w : Nat → Nat} {k o : Nat} {A c : Nat → Nat} (h : OR S w k o A c) {l : Nat} (hl24 : l < 24) (hAl : A l ≠ 0) {p a n : Nat} (hp : p < 2 ^ 31) (ha : a < 2 ^ 31) (hn : n ≤ 200) : OEx m_X5_begin G [.ref (A l), .int (nI p), .int (nI a), .int (nI n)] S w k o A none (BG c l p a n n) := by
  refine Cn.of rfl (by decide) (Nat.le_of_ble_eq_true rfl) (fun hN hM => ?_)
  show Wx _ G _ 0 [(0, .ref (A l)), (1, .int (nI (p))), (2, .int (nI (a))), (3, .int (nI (n)))] [] _
  have hx := OX.refl h
  refine r_aload_n dX5_begin_0 rfl 0 rfl ?_
  refine r_iload_n dX5_begin_1 rfl 1 rfl ?_
  refine r_putI (ci := 7) (k := 0) dX5_begin_2 fw_X5_begin_33 (hx.1.lo hl24 hAl).2.1 rfl rfl rfl ?_
  refine Wx.gx ((hx.L (f := 0) hl24 hAl (by decide))) (fun T (hx : OX S w A T w k o A (up1 c (90 + 13 * l + 0) (p))) => ?_)
  refine r_aload_n dX5_begin_5 rfl 0 rfl ?_
  refine r_iload_n dX5_begin_6 rfl 2 rfl ?_
  refine r_putI (ci := 7) (k := 1) dX5_begin_7 fw_X5_begin_37 (hx.1.lo hl24 hAl).2.1 rfl rfl rfl ?_
  refine Wx.gx ((hx.L (f := 1) hl24 hAl (by decide))) (fun T_1 (hx_1 : OX S w A T_1 w k o A (up1 (up1 c (90 + 13 * l + 0) (p)) (90 + 13 * l + 9) (a))) => ?_)
  refine r_aload_n dX5_begin_10 rfl 0 rfl ?_
  refine r_iload_n dX5_begin_11 rfl 3 rfl ?_
  refine r_sipush (v := nI 200) dX5_begin_12 (by decide) ?_
  refine r_fnS (M2 := m_J9_min_7cf53) (As := [.int (nI (n)), .int (nI (200))]) (rest := [.ref (A l)]) (v := some (.int (nI (n)))) dX5_begin_15 cc_X5_begin_40 rfl rfl rfl (Nat.le_of_ble_eq_true rfl) (by have q9 := j_min (G := G) (S := T_1) (x := n) (y := 200) (by omega) (by omega); rw [show Nat.min n 200 = n from Nat.min_eq_left hn] at q9; exact q9) rfl ?_
  refine r_putI (ci := 7) (k := 2) dX5_begin_18 fw_X5_begin_46 (hx_1.1.lo hl24 hAl).2.1 rfl rfl rfl ?_
  refine Wx.gx ((hx_1.L (f := 2) hl24 hAl (by decide))) (fun T_2 (hx_2 : OX S w A T_2 w k o A (up1 (up1 (up1 c (90 + 13 * l + 0) (p)) (90 + 13 * l + 9) (a)) (90 + 13 * l + 1) (n))) => ?_)
  refine r_aload_n dX5_begin_21 rfl 0 rfl ?_
  refine r_iconst (v := nI 0) dX5_begin_22 (by decide) ?_
  refine r_putI (ci := 7) (k := 3) dX5_begin_23 fw_X5_begin_49 (hx_2.1.lo hl24 hAl).2.1 rfl rfl rfl ?_
  refine Wx.gx ((hx_2.L (f := 3) hl24 hAl (by decide))) (fun T_3 (hx_3 : OX S w A T_3 w k o A (up1 (up1 (up1 (up1 c (90 + 13 * l + 0) (p)) (90 + 13 * l + 9) (a)) (90 + 13 * l + 1) (n)) (90 + 13 * l + 2) (0))) => ?_)
  refine r_aload_n dX5_begin_26 rfl 0 rfl ?_
  refine r_iconst (v := nI 0) dX5_begin_27 (by decide) ?_
  refine r_putI (ci := 7) (k := 4) dX5_begin_28 fw_X5_begin_52 (hx_3.1.lo hl24 hAl).2.1 rfl rfl rfl ?_
  refine Wx.gx ((hx_3.L (f := 4) hl24 hAl (by decide))) (fun T_4 (hx_4 : OX S w A T_4 w k o A (up1 (up1 (up1 (up1 (up1 c (90 + 13 * l + 0) (p)) (90 + 13 * l + 9) (a)) (90 + 13 * l + 1) (n)) (90 + 13 * l + 2) (0)) (90 + 13 * l + 3) (0))) => ?_)
  refine r_aload_n dX5_begin_31 rfl 0 rfl ?_
  refine r_iconst (v := nI 4294967295) dX5_begin_32 (by decide) ?_
  refine r_putI (ci := 7) (k := 5) dX5_begin_33 fw_X5_begin_55 (hx_4.1.lo hl24 hAl).2.1 rfl rfl rfl ?_
  refine Wx.gx ((hx_4.L (f := 5) hl24 hAl (by decide))) (fun T_5 (hx_5 : OX S w A T_5 w k o A (up1 (up1 (up1 (up1 (up1 (up1 c (90 + 13 * l + 0) (p)) (90 + 13 * l + 9) (a)) (90 + 13 * l + 1) (n)) (90 + 13 * l + 2) (0)) (90 + 13 * l + 3) (0)) (90 + 13 * l + 4) (4294967295))) => ?_)
  refine r_aload_n dX5_begin_36 rfl 0 rfl ?_
  refine r_iconst (v := nI 4294967295) dX5_begin_37 (by decide) ?_
  refine r_putI (ci := 7) (k := 6) dX5_begin_38 fw_X5_begin_58 (hx_5.1.lo hl24 hAl).2.1 rfl rfl rfl ?_
  refine Wx.gx ((hx_5.L (f := 6) hl24 hAl (by decide))) (fun T_6 (hx_6 : OX S w A T_6 w k o A (up1 (up1 (up1 (up1 (up1 (up1 (up1 c (90 + 13 * l + 0) (p)) (90 + 13 * l + 9) (a)) (90 + 13 * l + 1) (n)) (90 + 13 * l + 2) (0)) (90 + 13 * l + 3) (0)) (90 + 13 * l + 4) (4294967295)) (90 + 13 * l + 5) (4294967295))) => ?_)
  refine r_aload_n dX5_begin_41 rfl 0 rfl ?_
  refine r_iconst (v := nI 4294967295) dX5_begin_42 (by decide) ?_
  refine r_putI (ci := 7) (k := 7) dX5_begin_43 fw_X5_begin_61 (hx_6.1.lo hl24 hAl).2.1 rfl rfl rfl ?_
  refine Wx.gx ((hx_6.L (f := 7) hl24 hAl (by decide))) (fun T_7 (hx_7 : OX S w A T_7 w k o A (up1 (up1 (up1 (up1 (up1 (up1 (up1 (up1 c (90 + 13 * l + 0) (p)) (90 + 13 * l + 9) (a)) (90 + 13 * l + 1) (n)) (90 + 13 * l + 2) (0)) (90 + 13 * l + 3) (0)) (90 + 13 * l + 4) (4294967295)) (90 + 13 * l + 5) (4294967295)) (90 + 13 * l + 6) (4294967295))) => ?_)
  refine r_aload_n dX5_begin_46 rfl 0 rfl ?_
  refine r_iconst (v := nI 4294967295) dX5_begin_47 (by decide) ?_
  refine r_putI (ci := 7) (k := 8) dX5_begin_48 fw_X5_begin_64 (hx_7.1.lo hl24 hAl).2.1 rfl rfl rfl ?_
  refine Wx.gx ((hx_7.L (f := 8) hl24 hAl (by decide))) (fun T_8 (hx_8 : OX S w A T_8 w k o A (up1 (up1 (up1 (up1 (up1 (up1 (up1 (up1 (up1 c (90 + 13 * l + 0) (p)) (90 + 13 * l + 9) (a)) (90 + 13 * l + 1) (n)) (90 + 13 * l + 2) (0)) (90 + 13 * l + 3) (0)) (90 + 13 * l + 4) (4294967295)) (90 + 13 * l + 5) (4294967295)) (90 + 13 * l + 6) (4294967295)) (90 + 13 * l + 7) (4294967295))) => ?_)
  refine r_aload_n dX5_begin_51 rfl 0 rfl ?_
  refine r_iconst (v := nI 0) dX5_begin_52 (by decide) ?_
  refine r_putI (ci := 7) (k := 9) dX5_begin_53 fw_X5_begin_67 (hx_8.1.lo hl24 hAl).2.1 rfl rfl rfl ?_
  refine Wx.gx ((hx_8.L (f := 9) hl24 hAl (by decide))) (fun T_9 (hx_9 : OX S w A T_9 w k o A (up1 (up1 (up1 (up1 (up1 (up1 (up1 (up1 (up1 (up1 c (90 + 13 * l + 0) (p)) (90 + 13 * l + 9) (a)) (90 + 13 * l + 1) (n)) (90 + 13 * l + 2) (0)) (90 + 13 * l + 3) (0)) (90 + 13 * l + 4) (4294967295)) (90 + 13 * l + 5) (4294967295)) (90 + 13 * l + 6) (4294967295)) (90 + 13 * l + 7) (4294967295)) (90 + 13 * l + 8) (0))) => ?_)
  refine r_iconst (v := nI 0) dX5_begin_56 (by decide) ?_
  refine r_istore (lv' := [(4, .int (nI (0))), (0, .ref (A l)), (1, .int (nI (p))), (2, .int (nI (a))), (3, .int (nI (n)))]) dX5_begin_57 (by decide) rfl ?_
  refine Wx.sub [1, 2, 3, 4, 0] rfl ?_
  refine Wx.loopR (fun u T lv => ∃ c9, OX S w A T w k o A c9 ∧ (BG c l p a n u c9) ∧ lv = [(0, .ref (A l)), (1, .int (nI (p))), (2, .int (nI (a))), (3, .int (nI (n))), (4, .int (nI (u)))]) (n) (0) (Nat.zero_le _) ⟨_, hx_9, BG.init, rfl⟩ (fun u T_10 lv hge hle hI9 next => ?_)
  obtain ⟨c9, hx_10, hP, rfl⟩ := hI9
  refine r_iload dX5_begin_59 4 rfl ?_
  refine r_aload_n dX5_begin_61 rfl 0 rfl ?_
  refine r_getI (ci := 7) (k := 2) dX5_begin_62 fr_X5_46 (hx_10.1.lo hl24 hAl).2.1 rfl ?_
  refine Wx.top (hx_10.1.l2 hl24 hAl) ?_
  refine Wx.topN hP.2.1.2.1 ?_
  refine r_icmp_geN (tgt := 122) dX5_begin_65 (by decide) (by omega) (by omega) (fun h65 => ?_) (fun h65 => ?_)
  · obtain rfl : u = n := by omega
    exact r_vret dX5_begin_122 rfl ⟨rfl, _, hx_10, hP⟩
  · refine r_aload_n dX5_begin_68 rfl 0 rfl ?_
    refine r_getR (ci := 7) (k := 11) (b := A l + 2) dX5_begin_69 fr_X5_15 (hx_10.1.lo hl24 hAl).2.1 rfl (hx_10.1.lo hl24 hAl).2.2.1.2.1 ?_
    refine r_iload dX5_begin_72 4 rfl ?_
    refine r_iconst (v := nI 0) dX5_begin_74 (by decide) ?_
    refine r_iast dX5_begin_75 (hx_10.1.lo hl24 hAl).2.2.2.2.1.1 (by rw [show zN T_10 (A l + 2) = 200 from (hx_10.1.lo hl24 hAl).2.2.2.2.1.2]; exact vp_in_nI (by omega) (by decide)) ?_
    refine Wx.st' (S' := uA T_10 (A l + 2) (u) (nI (0))) (by rw [nI_clamp (by omega)]) ?_
    refine Wx.gx ((hx_10.U (f := 0) (u := u) hl24 hAl (by omega) (by decide))) (fun T_11 (hx_11 : OX S w A T_11 w k o A (up1 c9 (402 + 8 * (200 * l + u)) (0))) => ?_)
    refine r_aload_n dX5_begin_76 rfl 0 rfl ?_
    refine r_getR (ci := 7) (k := 12) (b := A l + 3) dX5_begin_77 fr_X5_18 (hx_11.1.lo hl24 hAl).2.1 rfl (hx_11.1.lo hl24 hAl).2.2.1.2.2.1 ?_
    refine r_iload dX5_begin_80 4 rfl ?_
    refine r_iconst (v := nI 0) dX5_begin_82 (by decide) ?_
    refine r_iast dX5_begin_83 (hx_11.1.lo hl24 hAl).2.2.2.2.2.1.1 (by rw [show zN T_11 (A l + 3) = 200 from (hx_11.1.lo hl24 hAl).2.2.2.2.2.1.2]; exact vp_in_nI (by omega) (by decide)) ?_
    refine Wx.st' (S' := uA T_11 (A l + 3) (u) (nI (0))) (by rw [nI_clamp (by omega)]) ?_
    refine Wx.gx ((hx_11.U (f := 1) (u := u) hl24 hAl (by omega) (by decide))) (fun T_12 (hx_12 : OX S w A T_12 w k o A (up1 (up1 c9 (402 + 8 * (200 * l + u)) (0)) (402 + 8 * (200 * l + u) + 1) (0))) => ?_)
    refine r_aload_n dX5_begin_84 rfl 0 rfl ?_
    refine r_getR (ci := 7) (k := 13) (b := A l + 4) dX5_begin_85 fr_X5_21 (hx_12.1.lo hl24 hAl).2.1 rfl (hx_12.1.lo hl24 hAl).2.2.1.2.2.2.1 ?_
    refine r_iload dX5_begin_88 4 rfl ?_
    refine r_iconst (v := nI 0) dX5_begin_90 (by decide) ?_
    refine r_iast dX5_begin_91 (hx_12.1.lo hl24 hAl).2.2.2.2.2.2.1.1 (by rw [show zN T_12 (A l + 4) = 200 from (hx_12.1.lo hl24 hAl).2.2.2.2.2.2.1.2]; exact vp_in_nI (by omega) (by decide)) ?_
    refine Wx.st' (S' := uA T_12 (A l + 4) (u) (nI (0))) (by rw [nI_clamp (by omega)]) ?_
    refine Wx.gx ((hx_12.U (f := 2) (u := u) hl24 hAl (by omega) (by decide))) (fun T_13 (hx_13 : OX S w A T_13 w k o A (up1 (up1 (up1 c9 (402 + 8 * (200 * l + u)) (0)) (402 + 8 * (200 * l + u) + 1) (0)) (402 + 8 * (200 * l + u) + 2) (0))) => ?_)
    refine r_aload_n dX5_begin_92 rfl 0 rfl ?_
    refine r_getR (ci := 7) (k := 14) (b := A l + 5) dX5_begin_93 fr_X5_24 (hx_13.1.lo hl24 hAl).2.1 rfl (hx_13.1.lo hl24 hAl).2.2.1.2.2.2.2.1 ?_
    refine r_iload dX5_begin_96 4 rfl ?_
    refine r_iconst (v := nI 0) dX5_begin_98 (by decide) ?_
    refine r_iast dX5_begin_99 (hx_13.1.lo hl24 hAl).2.2.2.2.2.2.2.1.1 (by rw [show zN T_13 (A l + 5) = 200 from (hx_13.1.lo hl24 hAl).2.2.2.2.2.2.2.1.2]; exact vp_in_nI (by omega) (by decide)) ?_
    refine Wx.st' (S' := uA T_13 (A l + 5) (u) (nI (0))) (by rw [nI_clamp (by omega)]) ?_
    refine Wx.gx ((hx_13.U (f := 3) (u := u) hl24 hAl (by omega) (by decide))) (fun T_14 (hx_14 : OX S w A T_14 w k o A (up1 (up1 (up1 (up1 c9 (402 + 8 * (200 * l + u)) (0)) (402 + 8 * (200 * l + u) + 1) (0)) (402 + 8 * (200 * l + u) + 2) (0)) (402 + 8 * (200 * l + u) + 3) (0))) => ?_)
    refine r_aload_n dX5_begin_100 rfl 0 rfl ?_
    refine r_getR (ci := 7) (k := 15) (b := A l + 6) dX5_begin_101 fr_X5_27 (hx_14.1.lo hl24 hAl).2.1 rfl (hx_14.1.lo hl24 hAl).2.2.1.2.2.2.2.2.1 ?_
    refine r_iload dX5_begin_104 4 rfl ?_
    refine r_iconst (v := nI 4294967295) dX5_begin_106 (by decide) ?_
    refine r_iast dX5_begin_107 (hx_14.1.lo hl24 hAl).2.2.2.2.2.2.2.2.1.1 (by rw [show zN T_14 (A l + 6) = 200 from (hx_14.1.lo hl24 hAl).2.2.2.2.2.2.2.2.1.2]; exact vp_in_nI (by omega) (by decide)) ?_
    refine Wx.st' (S' := uA T_14 (A l + 6) (u) (nI (4294967295))) (by rw [nI_clamp (by omega)]) ?_
    refine Wx.gx ((hx_14.U (f := 4) (u := u) hl24 hAl (by omega) (by decide))) (fun T_15 (hx_15 : OX S w A T_15 w k o A (up1 (up1 (up1 (up1 (up1 c9 (402 + 8 * (200 * l + u)) (0)) (402 + 8 * (200 * l + u) + 1) (0)) (402 + 8 * (200 * l + u) + 2) (0)) (402 + 8 * (200 * l + u) + 3) (0)) (402 + 8 * (200 * l + u) + 4) (4294967295))) => ?_)
    refine r_aload_n dX5_begin_108 rfl 0 rfl ?_
    refine r_getR (ci := 7) (k := 16) (b := A l + 7) dX5_begin_109 fr_X5_30 (hx_15.1.lo hl24 hAl).2.1 rfl (hx_15.1.lo hl24 hAl).2.2.1.2.2.2.2.2.2 ?_
    refine r_iload dX5_begin_112 4 rfl ?_
    refine r_iconst (v := nI 0) dX5_begin_114 (by decide) ?_
    refine r_iast dX5_begin_115 (hx_15.1.lo hl24 hAl).2.2.2.2.2.2.2.2.2.1 (by rw [show zN T_15 (A l + 7) = 200 from (hx_15.1.lo hl24 hAl).2.2.2.2.2.2.2.2.2.2]; exact vp_in_nI (by omega) (by decide)) ?_
    refine Wx.st' (S' := uA T_15 (A l + 7) (u) (nI (0))) (by rw [nI_clamp (by omega)]) ?_
    refine Wx.gx ((hx_15.U (f := 5) (u := u) hl24 hAl (by omega) (by decide))) (fun T_16 (hx_16 : OX S w A T_16 w k o A (up1 (up1 (up1 (up1 (up1 (up1 c9 (402 + 8 * (200 * l + u)) (0)) (402 + 8 * (200 * l + u) + 1) (0)) (402 + 8 * (200 * l + u) + 2) (0)) (402 + 8 * (200 * l + u) + 3) (0)) (402 + 8 * (200 * l + u) + 4) (4294967295)) (402 + 8 * (200 * l + u) + 5) (0))) => ?_)
    refine r_iincN (k := 1) (lv' := [(4, .int (nI (u + 1))), (0, .ref (A l)), (1, .int (nI (p))), (2, .int (nI (a))), (3, .int (nI (n)))]) dX5_begin_116 (by decide) 4 rfl (by decide) rfl ?_
    refine r_goto (tgt := 59) dX5_begin_119 (by decide) ?_
    refine Wx.sub [1, 2, 3, 4, 0] rfl ?_
    exact next _ _ (by omega) ⟨_, hx_16, (BG.step hl24 (by omega) hP), rfl⟩
noncomputable def wkD (c : Nat → Nat) (l a v : Nat) : Nat := @ite _ (splP (c (4 + 3 * a)) (c (4 + 3 * a + 2) + v)) (Classical.propDecidable _) (c (402 + 8 * (200 * l + v) + 1) ||| 1 * 2 ^ c (4 + 3 * a + 1)) (c (402 + 8 * (200 * l + v) + 1))
theorem wkD_t {c : Nat → Nat} {l a v : Nat} (h : splP (c (4 + 3 * a)) (c (4 + 3 * a + 2) + v)) : wkD c l a v = (c (402 + 8 * (200 * l + v) + 1) ||| 1 * 2 ^ c (4 + 3 * a + 1)) := if_pos h
theorem wkD_f {c : Nat → Nat} {l a v : Nat} (h : ¬ splP (c (4 + 3 * a)) (c (4 + 3 * a + 2) + v)) : wkD c l a v = c (402 + 8 * (200 * l + v) + 1) := if_neg h
theorem wkD_lt {c : Nat → Nat} {l a v : Nat} (hk : c (4 + 3 * a + 1) < 4) (hd : c (402 + 8 * (200 * l + v) + 1) < 16) : wkD c l a v < 16 := by
  by_cases h : splP (c (4 + 3 * a)) (c (4 + 3 * a + 2) + v)
  · rw [wkD_t h]
    exact Nat.or_lt_two_pow (n := 4) hd (by have : 2 ^ c (4 + 3 * a + 1) ≤ 2 ^ 3 := Nat.pow_le_pow_right (by decide) (by omega); omega)
  · rw [wkD_f h]; exact hd
/-- a machine has worked on the first u units of a lot -/
def WK (c : Nat → Nat) (l a u : Nat) (c' : Nat → Nat) : Prop := (∀ j, j ≠ 4 + 3 * a + 2 → (∀ v, v < u → j ≠ 402 + 8 * (200 * l + v) + 1) → c' j = c j) ∧ c' (4 + 3 * a + 2) = c (4 + 3 * a + 2) + u ∧ ∀ v, v < u → c' (402 + 8 * (200 * l + v) + 1) = wkD c l a v
theorem WK.d {c c1 : Nat → Nat} {l a u v : Nat} (ha : a < 6) (h : WK c l a u c1) : c1 (402 + 8 * (200 * l + v) + 1) = c (402 + 8 * (200 * l + v) + 1) ∨ c1 (402 + 8 * (200 * l + v) + 1) = wkD c l a v := by
  by_cases q : v < u
  · exact Or.inr (h.2.2 v q)
  · exact Or.inl (h.1 _ (by omega) (fun z hz => by omega))
theorem WK.step {c c1 : Nat → Nat} {l a u x : Nat} (ha : a < 6) (hx : x = wkD c l a u) (h : WK c l a u c1) : WK c l a (u + 1) (up1 (up1 c1 (4 + 3 * a + 2) (c (4 + 3 * a + 2) + u + 1)) (402 + 8 * (200 * l + u) + 1) x) := by
  obtain ⟨h1, h2, h3⟩ := h
  refine ⟨fun j hj1 hj2 => ?_, by rw [up1_n (by omega), up1_s]; omega, fun v hv => ?_⟩
  · rw [up1_n (hj2 u (by omega)), up1_n hj1]
    exact h1 j hj1 (fun v hv => hj2 v (by omega))
  · by_cases q : v = u
    · subst q; rw [up1_s]; exact hx
    · rw [up1_n (by omega), up1_n (by omega)]; exact h3 v (by omega)
theorem WK.stepn {c c1 : Nat → Nat} {l a u : Nat} (ha : a < 6) (hx : ¬ splP (c (4 + 3 * a)) (c (4 + 3 * a + 2) + u)) (h : WK c l a u c1) : WK c l a (u + 1) (up1 c1 (4 + 3 * a + 2) (c (4 + 3 * a + 2) + u + 1)) := by
  obtain ⟨h1, h2, h3⟩ := h
  refine ⟨fun j hj1 hj2 => ?_, by rw [up1_s]; omega, fun v hv => ?_⟩
  · rw [up1_n hj1]
    exact h1 j hj1 (fun v hv => hj2 v (by omega))
  · by_cases q : v = u
    · subst q; rw [up1_n (by omega), wkD_f hx]; exact h1 _ (by omega) (fun z hz => by omega)
    · rw [up1_n (by omega)]; exact h3 v (by omega)
set_option maxRecDepth 4000 in
set_option maxHeartbeats 400000 in
theorem o_finish {G : GI} {S : Hp} {w : Nat → Nat} {k o : Nat} {A c : Nat → Nat} (h : OR S w k o A c) {l : Nat} (hl24 : l < 24) (hAl : A l ≠ 0) {a n : Nat} (ha6 : a < 6) (hn : c (90 + 13 * l + 1) = n) (hn200 : n ≤ 200) (hd : ∀ v, v < n → c (402 + 8 * (200 * l + v) + 1) < 16) (hp50 : c (4 + 3 * a) ≤ 50) (hk4 : c (4 + 3 * a + 1) < 4) (hc2 : c (4 + 3 * a + 2) < 2147470000) (hc0 : c 0 < 24) : OEx m_X7_finish G [.ref o, .ref (A l), .ref (o + 6 + a)] S w k o A (some (.int (nI (c 0)))) (fun c' => ∃ c9, WK c l a n c9 ∧ c' = up1 c9 0 (c 0 + 1)) := by
  refine Cn.of rfl (by decide) (Nat.le_of_ble_eq_true rfl) (fun hN hM => ?_)
  show Wx _ G _ 0 [(0, .ref (o)), (1, .ref (A l)), (2, .ref (o + 6 + a))] [] _
  have hx := OX.refl h
  refine r_iconst (v := nI 0) dX7_finish_0 (by decide) ?_
  refine r_istore_n (lv' := [(3, .int (nI (0))), (0, .ref (o)), (1, .ref (A l)), (2, .ref (o + 6 + a))]) dX7_finish_1 rfl (by decide) rfl ?_
  refine Wx.sub [1, 2, 3, 0] rfl ?_
  refine Wx.loopR (fun u T lv => ∃ c9, OX S w A T w k o A c9 ∧ (WK c l a u c9) ∧ lv = [(0, .ref (o)), (1, .ref (A l)), (2, .ref (o + 6 + a)), (3, .int (nI (u)))]) (n) (0) (Nat.zero_le _) ⟨_, hx, ⟨fun _ _ _ => rfl, rfl, fun v hv => absurd hv (Nat.not_lt_zero v)⟩, rfl⟩ (fun u T lv hge hle hI9 next => ?_)
  obtain ⟨c9, hx, hP, rfl⟩ := hI9
  refine r_iload_n dX7_finish_2 rfl 3 rfl ?_
  refine r_aload_n dX7_finish_3 rfl 1 rfl ?_
  refine r_getI (ci := 7) (k := 2) dX7_finish_4 fr_X7_134 (hx.1.lo hl24 hAl).2.1 rfl ?_
  refine Wx.top (hx.1.l2 hl24 hAl) ?_
  refine Wx.topN ((hP.1 _ (by omega) (fun v hv => by omega)).trans hn) ?_
  refine r_icmp_geN (tgt := 22) dX7_finish_7 (by decide) (by omega) (by omega) (fun h7 => ?_) (fun h7 => ?_)
  · refine r_aload_n dX7_finish_22 rfl 0 rfl ?_
    refine r_dup dX7_finish_23 rfl ?_
    refine r_getI (ci := 9) (k := 5) dX7_finish_24 fr_X7_49 hx.1.1.1 rfl ?_
    refine Wx.top hx.1.o0 ?_
    refine Wx.topN (hP.1 0 (by omega) (fun v hv => by omega)) ?_
    refine r_iconst (v := nI 1) dX7_finish_27 (by decide) ?_
    refine r_iaddN dX7_finish_28 ?_
    refine r_putI (ci := 9) (k := 5) dX7_finish_29 fw_X7_finish_49 hx.1.1.1 rfl rfl rfl ?_
    refine Wx.gx (hx.O0) (fun T_1 (hx_1 : OX S w A T_1 w k o A (up1 c9 (0) (c 0 + 1))) => ?_)
    refine r_aload_n dX7_finish_32 rfl 0 rfl ?_
    refine r_getI (ci := 9) (k := 5) dX7_finish_33 fr_X7_49 hx_1.1.1.1 rfl ?_
    refine Wx.top hx_1.1.o0 ?_
    refine Wx.topN up1_s ?_
    refine r_iconst (v := nI 1) dX7_finish_36 (by decide) ?_
    refine r_isubN dX7_finish_37 (by omega) ?_
    obtain rfl : u = n := by omega
    exact r_iret (ty := .int) dX7_finish_38 rfl rfl ⟨congrArg (fun x => Sum.inl (some (Value.int (nI x)))) (show c 0 + 1 - 1 = c 0 by omega), _, hx_1, c9, hP, rfl⟩
  · refine r_aload_n dX7_finish_10 rfl 1 rfl ?_
    refine r_iload_n dX7_finish_11 rfl 3 rfl ?_
    refine r_aload_n dX7_finish_12 rfl 2 rfl ?_
    have hsz : c9 (90 + 13 * l + 1) = n := (hP.1 _ (by omega) (fun v hv => by omega)).trans hn
    have hpe : c9 (4 + 3 * a) = c (4 + 3 * a) := hP.1 _ (by omega) (fun v hv => by omega)
    have hkd : c9 (4 + 3 * a + 1) = c (4 + 3 * a + 1) := hP.1 _ (by omega) (fun v hv => by omega)
    have hdu : c9 (402 + 8 * (200 * l + u) + 1) = c (402 + 8 * (200 * l + u) + 1) := hP.1 _ (by omega) (fun v hv => by omega)
    have hd16 : ∀ v, v < n → c9 (402 + 8 * (200 * l + v) + 1) < 16 := fun v hv => by
      rcases WK.d (v := v) ha6 hP with q | q
      · rw [q]; exact hd v hv
      · rw [q]; exact wkD_lt hk4 (hd v hv)
    by_cases hsp : splP (c (4 + 3 * a)) (c (4 + 3 * a + 2) + u)
    · refine r_fnV (M2 := m_X5_workOn) (As := [.int (nI u), .ref (o + 6 + a)]) (rest := []) (v := none) dX7_finish_13 cc_X7_finish_150 rfl rfl rfl (Nat.le_of_ble_eq_true rfl) (hx.1.lo hl24 hAl).2.1 rfl rfl (by decide) (k_workOn_y (hx.1.lo hl24 hAl).2 ((hx.1.l2 hl24 hAl).trans (congrArg nI hsz)) hn200 (fun v hv => hx.1.u1 hl24 hAl (by omega)) hd16 (hx.1.1.2.2.2.2.2.2.2.1 a (by omega)).2 ((hx.1.m0 ha6).trans (congrArg nI hpe)) hp50 ((hx.1.m2 ha6).trans (congrArg nI hP.2.1)) (by omega) ((hx.1.m1 ha6).trans (congrArg nI hkd)) hk4 (by omega) hsp) rfl ?_
      refine Wx.gx (((hx.M (i := a) (f := 2) ha6 (by decide)).U (f := 1) hl24 hAl (by omega) (by decide))) (fun T_2 (hx_2 : OX S w A T_2 w k o A (up1 (up1 c9 (4 + 3 * a + 2) (c (4 + 3 * a + 2) + u + 1)) (402 + 8 * (200 * l + u) + 1) (c9 (402 + 8 * (200 * l + u) + 1) ||| 1 * 2 ^ c (4 + 3 * a + 1)))) => ?_)
      refine r_iincN (k := 1) (lv' := [(3, .int (nI (u + 1))), (0, .ref (o)), (1, .ref (A l)), (2, .ref (o + 6 + a))]) dX7_finish_16 (by decide) 3 rfl (by decide) rfl ?_
      refine r_goto (tgt := 2) dX7_finish_19 (by decide) ?_
      refine Wx.sub [1, 2, 3, 0] rfl ?_
      exact next _ _ (by omega) ⟨_, hx_2, (WK.step ha6 (by rw [hdu]; exact (wkD_t hsp).symm) hP), rfl⟩
    · refine r_fnV (M2 := m_X5_workOn) (As := [.int (nI u), .ref (o + 6 + a)]) (rest := []) (v := none) dX7_finish_13 cc_X7_finish_150 rfl rfl rfl (Nat.le_of_ble_eq_true rfl) (hx.1.lo hl24 hAl).2.1 rfl rfl (by decide) (k_workOn_n (hx.1.lo hl24 hAl).2 ((hx.1.l2 hl24 hAl).trans (congrArg nI hsz)) hn200 (fun v hv => hx.1.u1 hl24 hAl (by omega)) hd16 (hx.1.1.2.2.2.2.2.2.2.1 a (by omega)).2 ((hx.1.m0 ha6).trans (congrArg nI hpe)) hp50 ((hx.1.m2 ha6).trans (congrArg nI hP.2.1)) (by omega) ((hx.1.m1 ha6).trans (congrArg nI hkd)) hk4 (by omega) hsp) rfl ?_
      refine Wx.gx ((hx.M (i := a) (f := 2) ha6 (by decide))) (fun T_3 (hx_3 : OX S w A T_3 w k o A (up1 c9 (4 + 3 * a + 2) (c (4 + 3 * a + 2) + u + 1))) => ?_)
      refine r_iincN (k := 1) (lv' := [(3, .int (nI (u + 1))), (0, .ref (o)), (1, .ref (A l)), (2, .ref (o + 6 + a))]) dX7_finish_16 (by decide) 3 rfl (by decide) rfl ?_
      refine r_goto (tgt := 2) dX7_finish_19 (by decide) ?_
      refine Wx.sub [1, 2, 3, 0] rfl ?_
      exact next _ _ (by omega) ⟨_, hx_3, (WK.stepn ha6 hsp hP), rfl⟩
