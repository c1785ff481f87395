/-! THE CLASS READS A TEXT -/
/-- the reader's own numbers and the error's place differ -/
def EqD (E E' : Nat → Nat → Nat) : Prop := ∀ f a, ¬ (a = 51 ∧ (f = 162 ∨ f = 163 ∨ f = 164)) → a ≠ 53 → E' f a = E f a
theorem EqC.d {E E' : Nat → Nat → Nat} (h : EqC E E') : EqD E E' := fun f a h1 h2 => h f a (by omega) h2
theorem EqD.rfl {E : Nat → Nat → Nat} : EqD E E := fun _ _ _ _ => _root_.rfl
theorem EqD.trans {E E' E'' : Nat → Nat → Nat} (h : EqD E E') (h' : EqD E' E'') : EqD E E'' := fun f a h1 h2 => (h' f a h1 h2).trans (h f a h1 h2)
theorem EqD.up {E E' : Nat → Nat → Nat} {f a v : Nat} (h : EqD E E') (hf : (a = 51 ∧ (f = 162 ∨ f = 163 ∨ f = 164)) ∨ a = 53) : EqD E (up2 E' f a v) := fun i b h1 h2 => (u2_n (by omega)).trans (h i b h1 h2)
theorem EqD.tx {E E' : Nat → Nat → Nat} {t : Nat → Nat} {L : Nat} (h : EqD E E') (hT : TXc E t L) : TXc E' t L := hT.cg (h _ _ (by omega) (by decide)) fun f => h _ _ (by omega) (by decide)
theorem CmsP.snoc {t : Nat → Nat} {L : Nat} {W Kn P : Nat → Nat} {Vv : Nat → Nat → Nat} {c q n e : Nat} {v : Nat → Nat} (h : CmsP t L W Kn P Vv c) (hL : P c < L) (hc : CmdP t L (P c) q n v e) : CmsP t L (up1 W c q) (up1 Kn c n) (up1 P (c + 1) e) (up1 Vv c v) (c + 1) := by
  refine ⟨(up1_n (by omega)).trans h.1, fun j hj => ?_⟩
  by_cases r : j = c
  · subst r
    rw [up1_n (f := P) (show j ≠ j + 1 by omega), up1_s, up1_s, up1_s, up1_s]
    exact ⟨hL, hc⟩
  · have := h.2 j (by omega)
    rw [up1_n (f := P) (show j ≠ c + 1 by omega), up1_n r, up1_n r, up1_n r, up1_n (f := P) (show j + 1 ≠ c + 1 by omega)]
    exact this
set_option maxRecDepth 4000 in
set_option maxHeartbeats 400000 in
theorem x_rewind {G : GI} {F : Nat → Prop} {S0 S : Hp} {w : Nat → Nat} {x : Nat} {K : Nat → Nat} {E : Nat → Nat → Nat} {A c : Nat → Nat → Nat} {bx bu : Nat} (h : XF F S0 S w x K E A c bx bu) : Cn m_X3_rewind G [.ref (x + 51)] S (fun r T => r = .inl none ∧ XF F S0 T w x K (up2 E 162 51 0) A c bx bu) := by
  refine Cn.of rfl (by decide) (Nat.le_of_ble_eq_true rfl) (fun hN hM => ?_)
  show Wx _ G _ 0 [(0, .ref (x + 51))] [] _
  refine r_aload_n dX3_rewind_0 rfl 0 rfl ?_
  refine r_iconst (v := nI 0) dX3_rewind_1 (by decide) ?_
  refine r_putI (ci := 5) (k := 2) dX3_rewind_2 fw_X3_rewind_24 h.1.t51 rfl rfl rfl ?_
  refine Wx.gp (fun T => XF F S0 T w x K (up2 E 162 (51) (0)) A c bx bu) (h.I (f := 162) (by decide) (by decide) (by decide)) (fun T (hx : XF F S0 T w x K (up2 E 162 (51) (0)) A c bx bu) => ?_)
  exact r_vret dX3_rewind_5 rfl ⟨rfl, hx⟩
set_option maxRecDepth 4000 in
set_option maxHeartbeats 400000 in
theorem x_empty {G : GI} {F : Nat → Prop} {S0 S : Hp} {w : Nat → Nat} {x : Nat} {K : Nat → Nat} {E : Nat → Nat → Nat} {A c : Nat → Nat → Nat} {bx bu : Nat} (h : XF F S0 S w x K E A c bx bu) : Cn m_X3_empty G [.ref (x + 51)] S (fun r T => r = .inl none ∧ XF F S0 T w x K (up2 E 161 51 0) A c bx bu) := by
  refine Cn.of rfl (by decide) (Nat.le_of_ble_eq_true rfl) (fun hN hM => ?_)
  show Wx _ G _ 0 [(0, .ref (x + 51))] [] _
  refine r_aload_n dX3_empty_0 rfl 0 rfl ?_
  refine r_iconst (v := nI 0) dX3_empty_1 (by decide) ?_
  refine r_putI (ci := 5) (k := 1) dX3_empty_2 fw_X3_empty_21 h.1.t51 rfl rfl rfl ?_
  refine Wx.gp (fun T => XF F S0 T w x K (up2 E 161 (51) (0)) A c bx bu) (h.I (f := 161) (by decide) (by decide) (by decide)) (fun T (hx : XF F S0 T w x K (up2 E 161 (51) (0)) A c bx bu) => ?_)
  exact r_vret dX3_empty_5 rfl ⟨rfl, hx⟩
set_option maxRecDepth 4000 in
set_option maxHeartbeats 1000000 in
theorem x_isText {G : GI} {F : Nat → Prop} {S0 S : Hp} {w : Nat → Nat} {x : Nat} {K : Nat → Nat} {E : Nat → Nat → Nat} {A c : Nat → Nat → Nat} {bx bu : Nat} (h : XF F S0 S w x K E A c bx bu) {t : Nat → Nat} {L : Nat} (hT : TXc E t L) : Cn m_X3_isText G [.ref (x + 51)] S (fun r T => (r = .inl (some (.int (nI 1))) ∧ ∃ W Kn P Vv n E' k, XF F S0 T w x (up1 K 11 k) E' A c bx bu ∧ TextP t L W Kn P Vv n ∧ EqD E E' ∧ E' 163 51 = 4294967295) ∨ (r = .inl (some (.int (nI 0))) ∧ ∃ p E' k, XF F S0 T w x (up1 K 11 k) E' A c bx bu ∧ BadT t L p ∧ EqD E E' ∧ E' 163 51 = p)) := by
  refine Cn.of rfl (by decide) (Nat.le_of_ble_eq_true rfl) (fun hN hM => ?_)
  show Wx _ G _ 0 [(0, .ref (x + 51))] [] _
  have hL60 := hT.2.1
  refine r_aload_n dX3_isText_0 rfl 0 rfl ?_
  refine r_callV (M2 := m_X3_rewind) (As := []) (rest := []) dX3_isText_1 cc_X3_isText_27 rfl rfl rfl (Nat.le_of_ble_eq_true rfl) h.1.t51 rfl rfl (by decide) (x_rewind h) (fun v9 T hq => ?_) (fun E9 T9 hq => by cases hq.1)
  obtain ⟨hv9, hx⟩ := hq
  cases hv9
  show Wx _ G T 4 [(0, .ref (x + 51))] [] _
  refine r_aload_n dX3_isText_4 rfl 0 rfl ?_
  refine r_getI (ci := 5) (k := 1) dX3_isText_5 fr_X3_21 hx.1.t51 rfl ?_
  refine Wx.top (hx.1.i (f := 161) (by decide) (by decide)) ?_
  refine Wx.topN (u2_n (by omega)) ?_
  refine Wx.topN hT.1 ?_
  refine r_if_leN (tgt := 15) dX3_isText_8 (by decide) (by omega) (fun h8 => ?_) (fun h8 => ?_)
  · refine r_iconst (v := nI 0) dX3_isText_15 (by decide) ?_
    refine r_istore_n (lv' := [(1, .int (nI (0))), (0, .ref (x + 51))]) dX3_isText_16 rfl (by decide) rfl ?_
    refine r_iconst (v := nI 0) dX3_isText_17 (by decide) ?_
    refine r_istore_n (lv' := [(2, .int (nI (0))), (1, .int (nI (0))), (0, .ref (x + 51))]) dX3_isText_18 rfl (by decide) rfl ?_
    refine Wx.sub [1, 0, 2] rfl ?_
    have hb0 : BadT t L 0 := by
      have e9 : L = 0 := by omega
      rw [e9]
      exact BadT.zero
    refine Wx.loopR (fun n T lv => (∃ W Kn P Vv E' k, XF F S0 T w x (up1 K 11 k) E' A c bx bu ∧ EqC E E' ∧ CmsP t L W Kn P Vv n ∧ E' 162 51 = P n ∧ 0 < L ∧ lv = [(1, .int (nI (1))), (2, .int (nI (n))), (0, .ref (x + 51))]) ∨ (∃ p E' k, XF F S0 T w x (up1 K 11 k) E' A c bx bu ∧ EqC E E' ∧ BadT t L p ∧ E' 162 51 = p ∧ lv = [(1, .int (nI (0))), (2, .int (nI (n))), (0, .ref (x + 51))])) 60 0 (by decide) (Or.inr ⟨0, _, K 11, (by rw [up1_self]; exact hx), (EqC.up EqC.rfl (by omega)), hb0, u2_s, rfl⟩) (fun n T lv hu0 hu hI nx => ?_)
    rcases hI with ⟨W, Kn, P, Vv, E', k, hx, hEq, hcs, h162, hL0, rfl⟩ | ⟨p, E', k, hx, hEq, hbt, h162, rfl⟩
    · have hPn := hcs.le (Nat.le_refl n)
      refine r_iload_n dX3_isText_19 rfl 1 rfl ?_
      refine r_bipush (v := nI 60) dX3_isText_20 (by decide) ?_
      refine r_icmp_geN (tgt := 51) dX3_isText_22 (by decide) (by omega) (by omega) (fun h22 => ?_) (fun h22 => ?_)
      · exact absurd h22 (by omega)
      · refine r_iload_n dX3_isText_25 rfl 0 rfl ?_
        refine r_if_eqN (tgt := 51) dX3_isText_26 (by decide) (by omega) (fun zz26 => ?_) (fun zz26 => ?_)
        · exact absurd zz26 (by decide)
        · refine r_aload_n dX3_isText_29 rfl 2 rfl ?_
          refine r_getI (ci := 5) (k := 2) dX3_isText_30 fr_X3_24 hx.1.t51 rfl ?_
          refine Wx.top (hx.1.i (f := 162) (by decide) (by decide)) ?_
          refine Wx.topN h162 ?_
          refine r_aload_n dX3_isText_33 rfl 2 rfl ?_
          refine r_getI (ci := 5) (k := 1) dX3_isText_34 fr_X3_21 hx.1.t51 rfl ?_
          refine Wx.top (hx.1.i (f := 161) (by decide) (by decide)) ?_
          refine Wx.topN (hEq.tx hT).1 ?_
          refine r_icmp_geN (tgt := 51) dX3_isText_37 (by decide) (by omega) (by omega) (fun h37 => ?_) (fun h37 => ?_)
          · refine r_aload_n dX3_isText_51 rfl 2 rfl ?_
            refine r_iload_n dX3_isText_52 rfl 0 rfl ?_
            refine r_if_eqN (tgt := 60) dX3_isText_53 (by decide) (by omega) (fun zz53 => ?_) (fun zz53 => ?_)
            · exact absurd zz53 (by decide)
            · refine r_iconst (v := nI 4294967295) dX3_isText_56 (by decide) ?_
              refine r_goto (tgt := 64) dX3_isText_57 (by decide) ?_
              refine r_putI (ci := 5) (k := 3) dX3_isText_64 fw_X3_isText_13 hx.1.t51 rfl rfl rfl ?_
              refine Wx.gp (fun T => XF F S0 T w x (up1 K 11 k) (up2 E' 163 (51) (4294967295)) A c bx bu) (hx.I (f := 163) (by decide) (by decide) (by decide)) (fun T_1 (hx_1 : XF F S0 T_1 w x (up1 K 11 k) (up2 E' 163 (51) (4294967295)) A c bx bu) => ?_)
              refine r_iload_n dX3_isText_67 rfl 0 rfl ?_
              exact r_iret (ty := .boolean) dX3_isText_68 rfl (by decide) (Or.inl ⟨rfl, W, Kn, P, Vv, n, _, k, hx_1, ⟨Nat.pos_of_ne_zero (fun z => by have e9 := hcs.1; rw [← z] at e9; omega), hcs, by omega⟩, (hEq.d.up (by omega)), u2_s⟩)
          · refine r_aload_n dX3_isText_40 rfl 2 rfl ?_
            refine r_callV (M2 := m_X3_readCommand) (As := []) (rest := []) dX3_isText_41 cc_X3_isText_30 rfl rfl rfl (Nat.le_of_ble_eq_true rfl) hx.1.t51 rfl rfl (by decide) (x_readCommand hx (hEq.tx hT) h162 (by omega)) (fun v9 T_2 hq => ?_) (fun E9 T9 hq => by rcases hq with hq | hq <;> cases hq.1)
            rcases hq with ⟨hv9, q, n', v, e, E9, hx9, hcm, hE9, h162', h164', hv1, hv2⟩ | ⟨hv9, k', e, E9, hx9, hbd, hE9, h162'⟩
            · cases hv9
              rw [up1_up] at hx9
              show Wx _ G T_2 44 [(1, .int (nI (1))), (2, .int (nI (n))), (0, .ref (x + 51))] [.int (nI (1))] _
              refine r_istore_n (lv' := [(1, .int (nI (1))), (2, .int (nI (n))), (0, .ref (x + 51))]) dX3_isText_44 rfl (by decide) rfl ?_
              refine r_iincN (k := 1) (lv' := [(2, .int (nI (n + 1))), (1, .int (nI (1))), (0, .ref (x + 51))]) dX3_isText_45 (by decide) 1 rfl (by decide) rfl ?_
              refine r_goto (tgt := 19) dX3_isText_48 (by decide) ?_
              refine Wx.sub [1, 0, 2] rfl ?_
              exact nx _ _ (by omega) (Or.inl ⟨_, _, _, _, _, _, hx9, (hEq.trans hE9), hcs.snoc (by omega) hcm, h162'.trans up1_s.symm, hL0, rfl⟩)
            · cases hv9
              rw [up1_up] at hx9
              show Wx _ G T_2 44 [(1, .int (nI (1))), (2, .int (nI (n))), (0, .ref (x + 51))] [.int (nI (0))] _
              refine r_istore_n (lv' := [(1, .int (nI (0))), (2, .int (nI (n))), (0, .ref (x + 51))]) dX3_isText_44 rfl (by decide) rfl ?_
              refine r_iincN (k := 1) (lv' := [(2, .int (nI (n + 1))), (1, .int (nI (0))), (0, .ref (x + 51))]) dX3_isText_45 (by decide) 1 rfl (by decide) rfl ?_
              refine r_goto (tgt := 19) dX3_isText_48 (by decide) ?_
              refine Wx.sub [1, 0, 2] rfl ?_
              exact nx _ _ (by omega) (Or.inr ⟨e, _, _, hx9, (hEq.trans hE9), ⟨W, Kn, P, Vv, n, hcs, Or.inr (by omega), hbd⟩, h162', rfl⟩)
    · have hpn := hbt.le
      refine r_iload_n dX3_isText_19 rfl 1 rfl ?_
      refine r_bipush (v := nI 60) dX3_isText_20 (by decide) ?_
      refine r_icmp_geN (tgt := 51) dX3_isText_22 (by decide) (by omega) (by omega) (fun h22_1 => ?_) (fun h22_1 => ?_)
      · refine r_aload_n dX3_isText_51 rfl 2 rfl ?_
        refine r_iload_n dX3_isText_52 rfl 0 rfl ?_
        refine r_if_eqN (tgt := 60) dX3_isText_53 (by decide) (by omega) (fun zz53_1 => ?_) (fun zz53_1 => ?_)
        · refine r_aload_n dX3_isText_60 rfl 2 rfl ?_
          refine r_getI (ci := 5) (k := 2) dX3_isText_61 fr_X3_24 hx.1.t51 rfl ?_
          refine Wx.top (hx.1.i (f := 162) (by decide) (by decide)) ?_
          refine Wx.topN h162 ?_
          refine r_putI (ci := 5) (k := 3) dX3_isText_64 fw_X3_isText_13 hx.1.t51 rfl rfl rfl ?_
          refine Wx.gp (fun T => XF F S0 T w x (up1 K 11 k) (up2 E' 163 (51) (p)) A c bx bu) (hx.I (f := 163) (by decide) (by decide) (by decide)) (fun T_3 (hx_2 : XF F S0 T_3 w x (up1 K 11 k) (up2 E' 163 (51) (p)) A c bx bu) => ?_)
          refine r_iload_n dX3_isText_67 rfl 0 rfl ?_
          exact r_iret (ty := .boolean) dX3_isText_68 rfl (by decide) (Or.inr ⟨rfl, p, _, k, hx_2, hbt, (hEq.d.up (by omega)), u2_s⟩)
        · exact absurd zz53_1 (by decide)
      · refine r_iload_n dX3_isText_25 rfl 0 rfl ?_
        refine r_if_eqN (tgt := 51) dX3_isText_26 (by decide) (by omega) (fun zz26_1 => ?_) (fun zz26_1 => ?_)
        · refine r_aload_n dX3_isText_51 rfl 2 rfl ?_
          refine r_iload_n dX3_isText_52 rfl 0 rfl ?_
          refine r_if_eqN (tgt := 60) dX3_isText_53 (by decide) (by omega) (fun zz53_2 => ?_) (fun zz53_2 => ?_)
          · refine r_aload_n dX3_isText_60 rfl 2 rfl ?_
            refine r_getI (ci := 5) (k := 2) dX3_isText_61 fr_X3_24 hx.1.t51 rfl ?_
            refine Wx.top (hx.1.i (f := 162) (by decide) (by decide)) ?_
            refine Wx.topN h162 ?_
            refine r_putI (ci := 5) (k := 3) dX3_isText_64 fw_X3_isText_13 hx.1.t51 rfl rfl rfl ?_
            refine Wx.gp (fun T => XF F S0 T w x (up1 K 11 k) (up2 E' 163 (51) (p)) A c bx bu) (hx.I (f := 163) (by decide) (by decide) (by decide)) (fun T_4 (hx_3 : XF F S0 T_4 w x (up1 K 11 k) (up2 E' 163 (51) (p)) A c bx bu) => ?_)
            refine r_iload_n dX3_isText_67 rfl 0 rfl ?_
            exact r_iret (ty := .boolean) dX3_isText_68 rfl (by decide) (Or.inr ⟨rfl, p, _, k, hx_3, hbt, (hEq.d.up (by omega)), u2_s⟩)
          · exact absurd zz53_2 (by decide)
        · exact absurd zz26_1 (by decide)
  · refine r_iconst (v := nI 1) dX3_isText_11 (by decide) ?_
    refine r_goto (tgt := 16) dX3_isText_12 (by decide) ?_
    refine r_istore_n (lv' := [(1, .int (nI (1))), (0, .ref (x + 51))]) dX3_isText_16 rfl (by decide) rfl ?_
    refine r_iconst (v := nI 0) dX3_isText_17 (by decide) ?_
    refine r_istore_n (lv' := [(2, .int (nI (0))), (1, .int (nI (1))), (0, .ref (x + 51))]) dX3_isText_18 rfl (by decide) rfl ?_
    refine Wx.sub [1, 0, 2] rfl ?_
    refine Wx.loopR (fun n T lv => (∃ W Kn P Vv E' k, XF F S0 T w x (up1 K 11 k) E' A c bx bu ∧ EqC E E' ∧ CmsP t L W Kn P Vv n ∧ E' 162 51 = P n ∧ 0 < L ∧ lv = [(1, .int (nI (1))), (2, .int (nI (n))), (0, .ref (x + 51))]) ∨ (∃ p E' k, XF F S0 T w x (up1 K 11 k) E' A c bx bu ∧ EqC E E' ∧ BadT t L p ∧ E' 162 51 = p ∧ lv = [(1, .int (nI (0))), (2, .int (nI (n))), (0, .ref (x + 51))])) 60 0 (by decide) (Or.inl ⟨fun _ => 0, fun _ => 0, fun _ => 0, fun _ _ => 0, _, K 11, (by rw [up1_self]; exact hx), (EqC.up EqC.rfl (by omega)), ⟨rfl, fun j hj => absurd hj (Nat.not_lt_zero j)⟩, u2_s, (by omega), rfl⟩) (fun n T lv hu0 hu hI nx => ?_)
    rcases hI with ⟨W, Kn, P, Vv, E', k, hx, hEq, hcs, h162, hL0, rfl⟩ | ⟨p, E', k, hx, hEq, hbt, h162, rfl⟩
    · have hPn := hcs.le (Nat.le_refl n)
      refine r_iload_n dX3_isText_19 rfl 1 rfl ?_
      refine r_bipush (v := nI 60) dX3_isText_20 (by decide) ?_
      refine r_icmp_geN (tgt := 51) dX3_isText_22 (by decide) (by omega) (by omega) (fun h22_2 => ?_) (fun h22_2 => ?_)
      · exact absurd h22_2 (by omega)
      · refine r_iload_n dX3_isText_25 rfl 0 rfl ?_
        refine r_if_eqN (tgt := 51) dX3_isText_26 (by decide) (by omega) (fun zz26_2 => ?_) (fun zz26_2 => ?_)
        · exact absurd zz26_2 (by decide)
        · refine r_aload_n dX3_isText_29 rfl 2 rfl ?_
          refine r_getI (ci := 5) (k := 2) dX3_isText_30 fr_X3_24 hx.1.t51 rfl ?_
          refine Wx.top (hx.1.i (f := 162) (by decide) (by decide)) ?_
          refine Wx.topN h162 ?_
          refine r_aload_n dX3_isText_33 rfl 2 rfl ?_
          refine r_getI (ci := 5) (k := 1) dX3_isText_34 fr_X3_21 hx.1.t51 rfl ?_
          refine Wx.top (hx.1.i (f := 161) (by decide) (by decide)) ?_
          refine Wx.topN (hEq.tx hT).1 ?_
          refine r_icmp_geN (tgt := 51) dX3_isText_37 (by decide) (by omega) (by omega) (fun h37_1 => ?_) (fun h37_1 => ?_)
          · refine r_aload_n dX3_isText_51 rfl 2 rfl ?_
            refine r_iload_n dX3_isText_52 rfl 0 rfl ?_
            refine r_if_eqN (tgt := 60) dX3_isText_53 (by decide) (by omega) (fun zz53_3 => ?_) (fun zz53_3 => ?_)
            · exact absurd zz53_3 (by decide)
            · refine r_iconst (v := nI 4294967295) dX3_isText_56 (by decide) ?_
              refine r_goto (tgt := 64) dX3_isText_57 (by decide) ?_
              refine r_putI (ci := 5) (k := 3) dX3_isText_64 fw_X3_isText_13 hx.1.t51 rfl rfl rfl ?_
              refine Wx.gp (fun T => XF F S0 T w x (up1 K 11 k) (up2 E' 163 (51) (4294967295)) A c bx bu) (hx.I (f := 163) (by decide) (by decide) (by decide)) (fun T_5 (hx_4 : XF F S0 T_5 w x (up1 K 11 k) (up2 E' 163 (51) (4294967295)) A c bx bu) => ?_)
              refine r_iload_n dX3_isText_67 rfl 0 rfl ?_
              exact r_iret (ty := .boolean) dX3_isText_68 rfl (by decide) (Or.inl ⟨rfl, W, Kn, P, Vv, n, _, k, hx_4, ⟨Nat.pos_of_ne_zero (fun z => by have e9 := hcs.1; rw [← z] at e9; omega), hcs, by omega⟩, (hEq.d.up (by omega)), u2_s⟩)
          · refine r_aload_n dX3_isText_40 rfl 2 rfl ?_
            refine r_callV (M2 := m_X3_readCommand) (As := []) (rest := []) dX3_isText_41 cc_X3_isText_30 rfl rfl rfl (Nat.le_of_ble_eq_true rfl) hx.1.t51 rfl rfl (by decide) (x_readCommand hx (hEq.tx hT) h162 (by omega)) (fun v9 T_6 hq => ?_) (fun E9 T9 hq => by rcases hq with hq | hq <;> cases hq.1)
            rcases hq with ⟨hv9, q, n', v, e, E9, hx9, hcm, hE9, h162', h164', hv1, hv2⟩ | ⟨hv9, k', e, E9, hx9, hbd, hE9, h162'⟩
            · cases hv9
              rw [up1_up] at hx9
              show Wx _ G T_6 44 [(1, .int (nI (1))), (2, .int (nI (n))), (0, .ref (x + 51))] [.int (nI (1))] _
              refine r_istore_n (lv' := [(1, .int (nI (1))), (2, .int (nI (n))), (0, .ref (x + 51))]) dX3_isText_44 rfl (by decide) rfl ?_
              refine r_iincN (k := 1) (lv' := [(2, .int (nI (n + 1))), (1, .int (nI (1))), (0, .ref (x + 51))]) dX3_isText_45 (by decide) 1 rfl (by decide) rfl ?_
              refine r_goto (tgt := 19) dX3_isText_48 (by decide) ?_
              refine Wx.sub [1, 0, 2] rfl ?_
              exact nx _ _ (by omega) (Or.inl ⟨_, _, _, _, _, _, hx9, (hEq.trans hE9), hcs.snoc (by omega) hcm, h162'.trans up1_s.symm, hL0, rfl⟩)
            · cases hv9
              rw [up1_up] at hx9
              show Wx _ G T_6 44 [(1, .int (nI (1))), (2, .int (nI (n))), (0, .ref (x + 51))] [.int (nI (0))] _
              refine r_istore_n (lv' := [(1, .int (nI (0))), (2, .int (nI (n))), (0, .ref (x + 51))]) dX3_isText_44 rfl (by decide) rfl ?_
              refine r_iincN (k := 1) (lv' := [(2, .int (nI (n + 1))), (1, .int (nI (0))), (0, .ref (x + 51))]) dX3_isText_45 (by decide) 1 rfl (by decide) rfl ?_
              refine r_goto (tgt := 19) dX3_isText_48 (by decide) ?_
              refine Wx.sub [1, 0, 2] rfl ?_
              exact nx _ _ (by omega) (Or.inr ⟨e, _, _, hx9, (hEq.trans hE9), ⟨W, Kn, P, Vv, n, hcs, Or.inr (by omega), hbd⟩, h162', rfl⟩)
    · have hpn := hbt.le
      refine r_iload_n dX3_isText_19 rfl 1 rfl ?_
      refine r_bipush (v := nI 60) dX3_isText_20 (by decide) ?_
      refine r_icmp_geN (tgt := 51) dX3_isText_22 (by decide) (by omega) (by omega) (fun h22_3 => ?_) (fun h22_3 => ?_)
      · refine r_aload_n dX3_isText_51 rfl 2 rfl ?_
        refine r_iload_n dX3_isText_52 rfl 0 rfl ?_
        refine r_if_eqN (tgt := 60) dX3_isText_53 (by decide) (by omega) (fun zz53_4 => ?_) (fun zz53_4 => ?_)
        · refine r_aload_n dX3_isText_60 rfl 2 rfl ?_
          refine r_getI (ci := 5) (k := 2) dX3_isText_61 fr_X3_24 hx.1.t51 rfl ?_
          refine Wx.top (hx.1.i (f := 162) (by decide) (by decide)) ?_
          refine Wx.topN h162 ?_
          refine r_putI (ci := 5) (k := 3) dX3_isText_64 fw_X3_isText_13 hx.1.t51 rfl rfl rfl ?_
          refine Wx.gp (fun T => XF F S0 T w x (up1 K 11 k) (up2 E' 163 (51) (p)) A c bx bu) (hx.I (f := 163) (by decide) (by decide) (by decide)) (fun T_7 (hx_5 : XF F S0 T_7 w x (up1 K 11 k) (up2 E' 163 (51) (p)) A c bx bu) => ?_)
          refine r_iload_n dX3_isText_67 rfl 0 rfl ?_
          exact r_iret (ty := .boolean) dX3_isText_68 rfl (by decide) (Or.inr ⟨rfl, p, _, k, hx_5, hbt, (hEq.d.up (by omega)), u2_s⟩)
        · exact absurd zz53_4 (by decide)
      · refine r_iload_n dX3_isText_25 rfl 0 rfl ?_
        refine r_if_eqN (tgt := 51) dX3_isText_26 (by decide) (by omega) (fun zz26_3 => ?_) (fun zz26_3 => ?_)
        · refine r_aload_n dX3_isText_51 rfl 2 rfl ?_
          refine r_iload_n dX3_isText_52 rfl 0 rfl ?_
          refine r_if_eqN (tgt := 60) dX3_isText_53 (by decide) (by omega) (fun zz53_5 => ?_) (fun zz53_5 => ?_)
          · refine r_aload_n dX3_isText_60 rfl 2 rfl ?_
            refine r_getI (ci := 5) (k := 2) dX3_isText_61 fr_X3_24 hx.1.t51 rfl ?_
            refine Wx.top (hx.1.i (f := 162) (by decide) (by decide)) ?_
            refine Wx.topN h162 ?_
            refine r_putI (ci := 5) (k := 3) dX3_isText_64 fw_X3_isText_13 hx.1.t51 rfl rfl rfl ?_
            refine Wx.gp (fun T => XF F S0 T w x (up1 K 11 k) (up2 E' 163 (51) (p)) A c bx bu) (hx.I (f := 163) (by decide) (by decide) (by decide)) (fun T_8 (hx_6 : XF F S0 T_8 w x (up1 K 11 k) (up2 E' 163 (51) (p)) A c bx bu) => ?_)
            refine r_iload_n dX3_isText_67 rfl 0 rfl ?_
            exact r_iret (ty := .boolean) dX3_isText_68 rfl (by decide) (Or.inr ⟨rfl, p, _, k, hx_6, hbt, (hEq.d.up (by omega)), u2_s⟩)
          · exact absurd zz53_5 (by decide)
        · exact absurd zz26_3 (by decide)
