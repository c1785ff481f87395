/-! THE LAW's BEGINNING -/
theorem fn_lx : fN RL 8 13 13 := ⟨_, _, _, ck_13, (sg1 39 rfl rfl), (sg1 40 rfl rfl), (sg1 1 rfl rfl), by decide⟩
theorem fn_lm : fN RL 143 14 20 := ⟨_, _, _, ck_14, (sg7 180 rfl rfl), (sg7 181 rfl rfl), (sg1 14 rfl rfl), by decide⟩
theorem nA_rput {T : Hp} {m t n : Nat} {V : RVal} {od : Nat → UInt64} (h : m + 10 < zX T) : nA (rput T m V od) t n = rput (nA T t n) m V od := by
  have e2 : up1 (fun a i => if m + 1 ≤ a ∧ a ≤ m + 10 then V (a - m) i else zA T a i) (zX T) (fun _ => 0) = (fun a i => if m + 1 ≤ a ∧ a ≤ m + 10 then V (a - m) i else up1 (zA T) (zX T) (fun _ => 0) a i) := funext fun a => by
    by_cases c : a = zX T
    · rw [c, up1_s]
      funext i
      rw [if_neg (by omega), up1_s]
    · rw [up1_n c]
      funext i
      rw [up1_n c]
  have e3 : up1 (fun a i => if a = m + 6 then od i else zD T a i) (zX T) (fun _ => 0) = (fun a i => if a = m + 6 then od i else up1 (zD T) (zX T) (fun _ => 0) a i) := funext fun a => by
    by_cases c : a = zX T
    · rw [c, up1_s]
      funext i
      rw [if_neg (by omega), up1_s]
    · rw [up1_n c]
      funext i
      rw [up1_n c]
  show (up1 (zT T) (zX T) t, up1 (zN T) (zX T) n, (fun f a => if a = m ∧ 448 ≤ f then V 0 (f - 448) else zI T f a), zP T, up1 (fun a i => if m + 1 ≤ a ∧ a ≤ m + 10 then V (a - m) i else zA T a i) (zX T) (fun _ => 0), up1 (zL T) (zX T) (fun _ => 0), up1 (fun a i => if a = m + 6 then od i else zD T a i) (zX T) (fun _ => 0), up1 (zQ T) (zX T) (fun _ => none), zX T + 1, zU T + n) = _
  rw [e2, e3]
  rfl
theorem Lw_rput {T : Hp} {m a : Nat} {V : RVal} {od : Nat → UInt64} (h : a ≤ m) : Lw T (rput T m V od) a := fun b hb => ⟨⟨rfl, rfl⟩, ⟨fun f => if_neg (fun q => by omega), fun _ => rfl, funext fun i => if_neg (by omega), rfl, funext fun i => if_neg (by omega), rfl⟩⟩
/-- class and reference made, and the answer's row: the law's state after no event -/
theorem js_start {S0 T1 T0 : Hp} {x u ur : Nat} {od : Nat → UInt64} (h : XB S0 x 210 u xLL True 8 4 T1) (hr : RM0 T1 (zX T1) ur T0) : JS (nA (rput T0 (zX T1) (sg mV0 oiC) od) 102 1) x (zX T1) (zX T1 + 13) (zX T1 + 13) (fun _ => 0) 1 (zX T1 + 14 + 2112 + 6) (zU T0 + 1 + 322080 + 492) 0 := by
  obtain ⟨⟨hX, hU⟩, hF0, hL0, hs0, hI0, hA0, hp0⟩ := hr
  obtain ⟨hdv, e161⟩ := h.dv
  have hx1 : zX T1 = x + 210 := h.1.1
  have hxT : zX T0 = zX T1 + 13 := hX
  obtain ⟨m, hm⟩ : ∃ m, m = zX T1 := ⟨_, rfl⟩
  rw [← hm] at hxT hL0 hs0 hA0 hp0 ⊢
  have e0 : nA (rput T0 m (sg mV0 oiC) od) 102 1 = rput (nA T0 102 1) m (sg mV0 oiC) od := nA_rput (by omega)
  have hs4 : RS (nA T0 102 1) m := RS.fr (F := fun a => a < m + 13) (fun a _ _ => by show a < m + 13; omega) (fun a ha => Lw.nA (S := T0) (a := m + 13) (by omega) a ha) hs0
  have hF4 : FS (nA (rput T0 m (sg mV0 oiC) od) 102 1) := fun b hb => by
    have hb2 : zX T0 + 1 ≤ b := hb
    exact (up1_n (show b ≠ zX T0 by omega)).trans (hF0 b (by omega))
  have hpf : FrF (fun a => a = m + 11 ∨ a = m + 12) T0 (nA (rput T0 m (sg mV0 oiC) od) 102 1) := fun a ha => by
    have ha2 : a < m + 13 ∧ m + 11 ≤ a := by omega
    have k1 := Lw.nA (S := rput T0 m (sg mV0 oiC) od) (t := 102) (n := 1) (a := m + 13) (by show m + 13 ≤ zX T0; omega) a ha2.1
    refine ⟨k1.1, Same.trans ?_ k1.2⟩
    exact ⟨fun f => if_neg (fun q => by omega), fun _ => rfl, funext fun i => if_neg (by omega), rfl, funext fun i => if_neg (by omega), rfl⟩
  have hpm : PM (nA (rput T0 m (sg mV0 oiC) od) 102 1) m (m + 12) 16 [] := hp0.fr hpf (Or.inl rfl) (Or.inr rfl) hF4
  have hLw : Lw T1 (nA (rput T0 m (sg mV0 oiC) od) 102 1) m := (hL0.trans (Lw_rput (Nat.le_refl _))).trans (Lw.nA (by show m ≤ zX T0; omega))
  have hX4 : zX (nA (rput T0 m (sg mV0 oiC) od) 102 1) = m + 14 := by show zX T0 + 1 = _; omega
  have hU4 : zU (nA (rput T0 m (sg mV0 oiC) od) 102 1) = zU T0 + 1 := rfl
  have hTb : zT (nA (rput T0 m (sg mV0 oiC) od) 102 1) (m + 13) = 102 := by rw [← hxT]; exact up1_s
  have hc4 : CSt (LF m (m + 13) (m + 13) (m + 12)) (nA (rput T0 m (sg mV0 oiC) od) 102 1) x (m + 14 + 2112) (zU T0 + 1 + 322080) (xE T1 x) oiC 0 0 (fun _ _ => 0) 0 (fun _ => 0) := by
    have hlt : ∀ a, zT T1 a ≠ 0 → a < m := fun a ha => by rw [hm]; exact h.1.2.2.1.lt ha
    refine h.cst.far (fun a ha => ⟨(hLw a (hlt a ha)).1, fun _ => (hLw a (hlt a ha)).2⟩) hF4 (by omega) ⟨by omega, by omega⟩ (fun a ha => ⟨?_, Or.inr ?_⟩)
    · obtain ⟨y, hy, -⟩ := hpm
      have hr4 := hs4
      rw [e0] at hy hTb ⊢
      have k : ∀ j, j ≤ 10 → zT (nA T0 102 1) (m + j) ≠ 0 := fun j hj => by
        obtain ⟨t0, -, ⟨t1, t2, t3, t4, t5, t6, t7, t8, t9, t10⟩, -⟩ := hr4
        obtain rfl | rfl | rfl | rfl | rfl | rfl | rfl | rfl | rfl | rfl | rfl : j = 0 ∨ j = 1 ∨ j = 2 ∨ j = 3 ∨ j = 4 ∨ j = 5 ∨ j = 6 ∨ j = 7 ∨ j = 8 ∨ j = 9 ∨ j = 10 := by omega
        · rw [Nat.add_zero, t0]; decide
        · rw [t1]; decide
        · rw [t2]; decide
        · rw [t3]; decide
        · rw [t4]; decide
        · rw [t5]; decide
        · rw [t6]; decide
        · rw [t7]; decide
        · rw [t8]; decide
        · rw [t9]; decide
        · rw [t10]; decide
      show zT (nA T0 102 1) a ≠ 0
      rcases ha with q | q | q | q
      · by_cases c : a = m + 11
        · rw [c, show zT (nA T0 102 1) (m + 11) = 2 from hy.1.1]; decide
        · have := k (a - m) (by omega)
          rw [show m + (a - m) = a by omega] at this
          exact this
      · rw [q, show zT (nA T0 102 1) (m + 12) = 104 from hy.1.2.2.1.1]; decide
      · rw [q, show zT (nA T0 102 1) (m + 13) = 102 from hTb]; decide
      · rw [q, show zT (nA T0 102 1) (m + 13) = 102 from hTb]; decide
    · rcases ha with q | q | q | q <;> omega
  refine ⟨nA T0 102 1, mV0, oiC, od, 0, 0, fun _ _ => 0, 0, fun _ => 0, xE T1 x, m + 12, 16, [], m + 14 + 2112, zU T0 + 1 + 322080, e0, hs4, hc4, ⟨⟨nI_0.symm, by decide, fun j hj => absurd hj (Nat.not_lt_zero _)⟩, ⟨nI_0.symm, fun z => absurd z (by decide)⟩, hdv⟩, ⟨hpm, h.pd⟩, ⟨⟨⟨rfl, by omega⟩, by omega, by omega⟩, ⟨hTb, ?_⟩, hTb, ?_, fun i _ => ?_⟩, ⟨?_, ?_⟩, Nat.zero_le _, fun p hp => ⟨?_, fun j hj => absurd hj (Nat.not_lt_zero _), fun z => absurd z (by decide)⟩⟩
  · rw [← hxT]; exact up1_s
  · rw [← hxT]; exact up1_s
  · rw [← hxT]; exact congrFun (up1_s (α := Nat → Int32)) i
  · rw [xE_l, show fX 16 = 3 from rfl]; omega
  · rw [xE_l, show fU 16 = 246 from rfl]; omega
  · rw [e161]
    obtain rfl | rfl | rfl | rfl : p = 0 ∨ p = 1 ∨ p = 2 ∨ p = 3 := by omega
    all_goals decide
set_option maxRecDepth 4000 in
set_option maxHeartbeats 400000 in
theorem w_start {G : GI} {S : Hp} {inp : Nat → Int32} {n : Nat} {Q : OV → Hp → Prop} (hSc : SCR G n inp) (hF : FS S) (g1 : zX S + 3000 ≤ gN G) (g2 : zU S + 500000 ≤ gM G) (hn : n ≤ 3584) (hQ : ∀ S', Q (.inl (some (.int (nI 1)))) S') : Wx m_L_law G S 0 [(0, .ref (gK G 5 0))] [] Q := by
  refine r_new (ci := 13) dL_law_0 fn_lx (by omega) (by omega) ?_
  refine r_dup dL_law_3 rfl ?_
  refine r_callI (M2 := m_X12_init) (As := []) (rest := [.ref (zX S)]) dL_law_4 cl_142 rfl rfl rfl (Nat.le_of_ble_eq_true rfl) (k_xInit (S0 := S) (x := zX S) hF rfl (by omega) (by omega)) (fun v9 T1 hq => ?_) (fun E9 T9 hq => by obtain ⟨z, -⟩ := hq; cases z)
  obtain ⟨z, h⟩ := hq
  cases z
  replace h : XB S (zX S) 210 8643 xLL True 8 4 T1 := h
  have hx1 : zX T1 = zX S + 210 := h.1.1
  have hu1 : zU T1 ≤ zU S + 8643 := h.1.2.1
  show Wx _ G T1 7 [(0, .ref (gK G 5 0))] [.ref (zX S)] _
  refine r_astore_n (lv' := [(1, .ref (zX S)), (0, .ref (gK G 5 0))]) dL_law_7 rfl (by decide) rfl ?_
  refine r_new (ci := 14) dL_law_8 fn_lm (by omega) (by omega) ?_
  refine r_dup dL_law_11 rfl ?_
  refine r_callI (M2 := m_X13_init) (As := []) (rest := [.ref (zX T1)]) dL_law_12 cl_145 rfl rfl rfl (Nat.le_of_ble_eq_true rfl) (k_modelInit (S := T1) (n := 20) h.1.2.2.1 (by omega) (by omega)) (fun v9 U hq => ?_) (fun E9 T9 hq => by obtain ⟨z, -⟩ := hq; cases z)
  obtain ⟨z, T0, od, rfl, hr⟩ := hq
  cases z
  have hx2 : zX T0 = zX T1 + 13 := hr.1.1
  have hu2 : zU T0 ≤ zU T1 + (20 + 115384) := hr.1.2
  show Wx _ G (rput T0 (zX T1) (sg mV0 oiC) od) 15 [(1, .ref (zX S)), (0, .ref (gK G 5 0))] [.ref (zX T1)] _
  refine r_astore_n (lv' := [(2, .ref (zX T1)), (1, .ref (zX S)), (0, .ref (gK G 5 0))]) dL_law_15 rfl (by decide) rfl ?_
  refine r_iconst (v := nI 1) dL_law_16 (by decide) ?_
  refine r_new_long (N := 1) dL_law_17 (sg10 55 rfl rfl) (nI_nn (by decide)) (nI_clamp (by decide)) (by decide) (show zX T0 + 1 ≤ gN G by omega) (show zU T0 + 1 ≤ gM G by omega) ?_
  refine r_astore_n (x := zX T0) (lv' := [(3, .ref (zX T0)), (2, .ref (zX T1)), (1, .ref (zX S)), (0, .ref (gK G 5 0))]) dL_law_19 rfl (by decide) rfl ?_
  refine r_iconst (v := nI (7 * 0)) dL_law_20 (by decide) ?_
  refine r_istore (lv' := [(4, .int (nI (7 * 0))), (3, .ref (zX T0)), (2, .ref (zX T1)), (1, .ref (zX S)), (0, .ref (gK G 5 0))]) dL_law_21 (by decide) rfl ?_
  refine Wx.sub [4, 3, 2, 1, 0] rfl ?_
  rw [hx2]
  exact w_loop hSc (js_start h hr) (by omega) (by omega) (by omega) hQ
