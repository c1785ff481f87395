/-- an office's method that may make a lot -/
def OEa (M : MI) (G : GI) (av : List Value) (S : Hp) (w : Nat → Nat) (k o : Nat) (A : Nat → Nat) (v : Option Value) (P : (Nat → Nat) → (Nat → Nat) → Prop) : Prop := Cn M G av S (fun r T => r = .inl v ∧ ∃ w' A' c', OX S w A T w' k o A' c' ∧ P A' c')
theorem UP.dl {c c' : Nat → Nat} {l t n ue zt : Nat} (h : UP c l t ue c') (hn : cnt (hrC c t) ue = n) (hue : ue ≤ zt) (h1 : ∀ q, q < n → c (402 + 8 * (200 * l + q) + 1) < 16) (h2 : ∀ v, v < zt → c (402 + 8 * (200 * t + v) + 1) < 16) : ∀ q, q < n → c' (402 + 8 * (200 * l + q) + 1) < 16 := fun q hq => by
  obtain ⟨v, hv, hp, he⟩ := cnt_ex (p := hrC c t) (n := ue) (k := q) (by omega)
  have e := ((h.2 v hv).1 hp).2.2
  rw [he] at e
  rw [e]
  exact Nat.or_lt_two_pow (n := 4) (h1 q hq) (h2 v (by omega))
set_option maxRecDepth 4000 in
set_option maxHeartbeats 400000 in
theorem a_raw {G : GI} {S : Hp} {w : Nat → Nat} {k o : Nat} {A c g : Nat → Nat} {N : Nat} (h : OR S w k o A c) (hr : Rel c g N) (hal : ∀ l, l < g 0 → A l ≠ 0) (hrm : Rm G S A) (hNb : N < 2147460000) {l a p n : Nat} (hl : g 0 = l) (hl24 : l < 24) (ha : a < 6) (hp : p < 4) (hn0 : 0 < n) (hn : n ≤ 200) : OEa m_X7_makeRaw G [.ref o, .int (nI a), .int (nI p), .int (nI n)] S w k o A (some (.int (nI l))) (fun A' c' => A' l ≠ 0 ∧ (∀ i, i ≠ l → A' i = A i) ∧ ∃ c1 c2 c9, (∀ j, ¬ inL l j → c1 j = c j) ∧ BG c1 l p a n n c2 ∧ WK c2 l a n c9 ∧ c' = up1 c9 0 (l + 1)) := by
  refine Cn.of rfl (by decide) (Nat.le_of_ble_eq_true rfl) (fun hN hM => ?_)
  show Wx _ G _ 0 [(0, .ref (o)), (1, .int (nI (a))), (2, .int (nI (p))), (3, .int (nI (n)))] [] _
  have hx := OX.refl h
  have h24 := hr.n24
  have hmb := hr.mb ha
  have hm0 := hr.m0 ha
  have hm1 := hr.m1 ha
  have hm2 := hr.m2 ha
  refine r_aload_n dX7_makeRaw_0 rfl 0 rfl ?_
  refine r_iload_n dX7_makeRaw_1 rfl 1 rfl ?_
  refine r_fnV (M2 := m_X7_machineAt) (As := [.int (nI (a))]) (rest := []) (v := some (.ref (o + 6 + a))) dX7_makeRaw_2 cc_X7_makeRaw_82 rfl rfl rfl (Nat.le_of_ble_eq_true rfl) hx.1.1.1 rfl rfl (by decide) (k_machineAt hx.1.1 (by omega)) rfl ?_
  refine r_astore (lv' := [(4, .ref (o + 6 + a)), (0, .ref (o)), (1, .int (nI (a))), (2, .int (nI (p))), (3, .int (nI (n)))]) dX7_makeRaw_5 (by decide) rfl ?_
  refine r_aload dX7_makeRaw_7 0 rfl ?_
  refine r_ifnull dX7_makeRaw_9 ?_
  refine r_aload_n dX7_makeRaw_12 rfl 1 rfl ?_
  refine r_iload_n dX7_makeRaw_13 rfl 3 rfl ?_
  refine r_fnV (M2 := m_X7_productAt) (As := [.int (nI (p))]) (rest := []) (v := some (.ref (o + 12 + p))) dX7_makeRaw_14 cc_X7_makeRaw_75 rfl rfl rfl (Nat.le_of_ble_eq_true rfl) hx.1.1.1 rfl rfl (by decide) (k_productAt hx.1.1 (by omega)) rfl ?_
  refine r_ifnonnull (tgt := 22) dX7_makeRaw_17 (by decide) ?_
  refine r_iload_n dX7_makeRaw_22 rfl 4 rfl ?_
  refine r_iconst (v := nI 1) dX7_makeRaw_23 (by decide) ?_
  refine r_icmp_ltN (tgt := 34) dX7_makeRaw_24 (by decide) (by omega) (by omega) (fun h24 => ?_) (fun h24 => ?_)
  · exact absurd h24 (by omega)
  · refine r_iload_n dX7_makeRaw_27 rfl 4 rfl ?_
    refine r_sipush (v := nI 200) dX7_makeRaw_28 (by decide) ?_
    refine r_icmp_leN (tgt := 37) dX7_makeRaw_31 (by decide) (by omega) (by omega) (fun h31 => ?_) (fun h31 => ?_)
    · refine r_aload_n dX7_makeRaw_37 rfl 1 rfl ?_
      refine r_getI (ci := 9) (k := 5) dX7_makeRaw_38 fr_X7_49 hx.1.1.1 rfl ?_
      refine Wx.top hx.1.o0 ?_
      refine Wx.topN hr.c0 ?_
      refine Wx.topN hl ?_
      refine r_aload_n dX7_makeRaw_41 rfl 1 rfl ?_
      refine r_getR (ci := 9) (k := 2) (b := o + 3) dX7_makeRaw_42 fr_X7_25 hx.1.1.1 rfl hx.1.1.2.1.2.2.1 ?_
      refine r_alenQ dX7_makeRaw_45 hx.1.1.2.2.2.2.1.1 (by decide) (by decide) ?_
      refine Wx.top (congrArg nI hx.1.1.2.2.2.2.1.2) ?_
      refine r_icmp_ltN (tgt := 52) dX7_makeRaw_46 (by decide) (by omega) (by omega) (fun h46 => ?_) (fun h46 => ?_)
      · refine r_aload_n dX7_makeRaw_52 rfl 1 rfl ?_
        refine r_aload_n dX7_makeRaw_53 rfl 1 rfl ?_
        refine r_getI (ci := 9) (k := 5) dX7_makeRaw_54 fr_X7_49 hx.1.1.1 rfl ?_
        refine Wx.top hx.1.o0 ?_
        refine Wx.topN hr.c0 ?_
        refine Wx.topN hl ?_
        refine r_callV (M2 := m_X7_slot) (As := [.int (nI l)]) (rest := []) dX7_makeRaw_57 cc_X7_makeRaw_52 rfl rfl rfl (Nat.le_of_ble_eq_true rfl) hx.1.1.1 rfl rfl (by decide) (s_slot hx.1 hl24 hrm) (fun v T hq => ?_) (fun E T hq => by obtain ⟨_, _, _, hq, _⟩ := hq; cases hq)
        obtain ⟨w1, A1, c1, hv, hx1, hA1, hc1, ha1⟩ := hq
        cases hv
        replace hx1 : OX S w A T w1 k o A1 c1 := hx.trans hx1
        show Wx _ _ _ _ _ [.ref (A1 l)] _
        refine r_astore (lv' := [(5, .ref (A1 l)), (4, .ref (o + 6 + a)), (0, .ref (o)), (1, .int (nI (a))), (2, .int (nI (p))), (3, .int (nI (n)))]) dX7_makeRaw_60 (by decide) rfl ?_
        refine r_aload dX7_makeRaw_62 0 rfl ?_
        refine r_iload_n dX7_makeRaw_64 rfl 4 rfl ?_
        refine r_iload_n dX7_makeRaw_65 rfl 3 rfl ?_
        refine r_iload_n dX7_makeRaw_66 rfl 5 rfl ?_
        refine r_oexV (M2 := m_X5_begin) (As := [.int (nI (p)), .int (nI (a)), .int (nI (n))]) (rest := []) (v := none) dX7_makeRaw_67 cc_X7_makeRaw_111 rfl rfl rfl (Nat.le_of_ble_eq_true rfl) (hx1.1.lo hl24 hA1).2.1 rfl rfl (by decide) hx1 (o_begin hx1.1 hl24 hA1 (by omega) (by omega) hn) rfl (fun T c2 (hx : OX S w A T w1 k o A1 c2) hbg => ?_)
        have hb0 : ∀ j, ¬ inL l j → c2 j = c j := fun j hj => (hbg.1 j hj).trans (hc1 j hj)
        have hbz : c2 (90 + 13 * l + 1) = n := hbg.2.1.2.1
        have hbd : ∀ v, v < n → c2 (402 + 8 * (200 * l + v) + 1) = 0 := fun v hv => (hbg.2.2 v hv).2.1
        have hcz0 : c2 0 = l := (hb0 0 (by unfold inL; omega)).trans (hr.c0.trans hl)
        refine r_aload_n dX7_makeRaw_70 rfl 2 rfl ?_
        refine r_aload dX7_makeRaw_71 0 rfl ?_
        refine r_aload dX7_makeRaw_73 1 rfl ?_
        have f0 : c2 (4 + 3 * a) = g (4 + 3 * a) := (hb0 (4 + 3 * a) (by unfold inL; omega)).trans hm0
        have f1 : c2 (4 + 3 * a + 1) = g (4 + 3 * a + 1) := (hb0 (4 + 3 * a + 1) (by unfold inL; omega)).trans hm1
        have f2 : c2 (4 + 3 * a + 2) = g (4 + 3 * a + 2) := (hb0 (4 + 3 * a + 2) (by unfold inL; omega)).trans hm2
        refine r_oexV (M2 := m_X7_finish) (As := [.ref (A1 l), .ref (o + 6 + a)]) (rest := []) (v := some (.int (nI (l)))) dX7_makeRaw_75 cc_X7_makeRaw_115 rfl rfl rfl (Nat.le_of_ble_eq_true rfl) hx.1.1.1 rfl rfl (by decide) hx (hcz0 ▸ o_finish hx.1 hl24 hA1 ha hbz hn (fun v hv => by rw [hbd v hv]; decide) (by omega) (by omega) (by omega) (by omega)) rfl (fun T_1 c8 (hx_1 : OX S w A T_1 w1 k o A1 c8) hfi => ?_)
        obtain ⟨c9, hwk, he9⟩ := hfi
        exact r_iret (ty := .int) dX7_makeRaw_78 rfl rfl ⟨rfl, w1, A1, c8, hx_1, hA1, ha1, c1, c2, c9, hc1, hbg, hwk, he9⟩
      · exact absurd h46 (by omega)
    · exact absurd h31 (by omega)
