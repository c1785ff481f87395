/-! DRAWERS -/
theorem dd_up {E D : Nat → Nat → Nat} {i j v : Nat} (h : ∀ f a, (a = 52 ∨ a = 55 ∨ a = 56 ∨ 190 ≤ a ∨ a = 51 ∧ (f = 161 ∨ f = 163)) → E f a = D f a) : ∀ f a, (a = 52 ∨ a = 55 ∨ a = 56 ∨ 190 ≤ a ∨ a = 51 ∧ (f = 161 ∨ f = 163)) → up2 E i j v f a = up2 D i j v f a := fun f a ha => by
  unfold up2
  by_cases q : f = i ∧ a = j
  · rw [if_pos q, if_pos q]
  · rw [if_neg q, if_neg q]; exact h f a ha
set_option maxRecDepth 4000 in
set_option maxHeartbeats 400000 in
theorem x_drawer {G : GI} {F : Nat → Prop} {S0 S : Hp} {w : Nat → Nat} {x : Nat} {K : Nat → Nat} {E : Nat → Nat → Nat} {A c : Nat → Nat → Nat} {bx bu : Nat} (h : XF F S0 S w x K E A c bx bu) {d : Nat} (hd : d < 4) : Fn m_X12_existingDrawer G [.ref (x), .int (nI (d))] S (some (.ref (x + (190 + 5 * d)))) S := by
  refine Cn.of rfl (by decide) (Nat.le_of_ble_eq_true rfl) (fun hN hM => ?_)
  show Wx _ G _ 0 [(0, .ref (x)), (1, .int (nI (d)))] [] _
  refine r_iload_n dX12_existingDrawer_0 rfl 1 rfl ?_
  refine r_if_ltN (tgt := 13) dX12_existingDrawer_1 (by decide) (by omega) ?_
  refine r_iload_n dX12_existingDrawer_4 rfl 1 rfl ?_
  refine r_aload_n dX12_existingDrawer_5 rfl 0 rfl ?_
  refine r_getR (ci := 13) (k := 7) (b := x + 50) dX12_existingDrawer_6 fr_X12_28 h.1.t0 rfl h.1.p423 ?_
  refine r_alenQ dX12_existingDrawer_9 h.1.t50 (by decide) (by decide) ?_
  refine Wx.top (congrArg nI h.1.n50) ?_
  refine r_icmp_ltN (tgt := 21) dX12_existingDrawer_10 (by decide) (by omega) (by omega) (fun h10 => ?_) (fun h10 => ?_)
  · refine r_aload_n dX12_existingDrawer_21 rfl 0 rfl ?_
    refine r_getR (ci := 13) (k := 7) (b := x + 50) dX12_existingDrawer_22 fr_X12_28 h.1.t0 rfl h.1.p423 ?_
    refine r_iload_n dX12_existingDrawer_25 rfl 1 rfl ?_
    refine r_aaldR (b := x + (190 + 5 * d)) dX12_existingDrawer_26 h.1.t50 (by decide) (by decide) (by rw [show zN S (x + 50) = 4 from h.1.n50]; exact vp_in_nI (by omega) (by decide)) (by rw [nI_clamp (by omega)]; exact h.1.q50 (by omega)) ?_
    exact r_aret (v := some (x + (190 + 5 * d))) dX12_existingDrawer_27 rfl (Or.inl ⟨_, rfl⟩) ⟨rfl, rfl⟩
  · exact absurd h10 (by omega)
set_option maxRecDepth 4000 in
set_option maxHeartbeats 400000 in
theorem x_drawer_no {G : GI} {F : Nat → Prop} {S0 S : Hp} {w : Nat → Nat} {x : Nat} {K : Nat → Nat} {E : Nat → Nat → Nat} {A c : Nat → Nat → Nat} {bx bu : Nat} (h : XF F S0 S w x K E A c bx bu) (hc1 : zX S + 1 ≤ gN G) (hu6 : zU S + 6 ≤ gM G) {y : Int32} (hy : ¬ vp_in y 4) : FT m_X12_existingDrawer G [.ref (x), .int (y)] S "java/lang/IndexOutOfBoundsException" := by
  refine Cn.of rfl (by decide) (Nat.le_of_ble_eq_true rfl) (fun hN hM => ?_)
  show Wx _ G _ 0 [(0, .ref (x)), (1, .int (y))] [] _
  refine r_iload_n dX12_existingDrawer_0 rfl 1 rfl ?_
  refine r_if_lt (tgt := 13) dX12_existingDrawer_1 (by decide) (fun h1 => ?_) (fun h1 => ?_)
  · exact r_throw (ft_IO (by decide)) rfl dX12_existingDrawer_13 dX12_existingDrawer_16 dX12_existingDrawer_17 dX12_existingDrawer_20 (by decide) hc1 hu6 (fun y u h1 h2 h3 h4 => ⟨rfl, y, u, ⟨h1, h2⟩, ⟨h3, h4⟩, rfl⟩)
  · refine r_iload_n dX12_existingDrawer_4 rfl 1 rfl ?_
    refine r_aload_n dX12_existingDrawer_5 rfl 0 rfl ?_
    refine r_getR (ci := 13) (k := 7) (b := x + 50) dX12_existingDrawer_6 fr_X12_28 h.1.t0 rfl h.1.p423 ?_
    refine r_alenQ dX12_existingDrawer_9 h.1.t50 (by decide) (by decide) ?_
    refine Wx.top (congrArg nI h.1.n50) ?_
    refine r_icmp_lt (tgt := 21) dX12_existingDrawer_10 (by decide) (fun h10 => ?_) (fun h10 => ?_)
    · exact absurd (vp_lt (by decide) h1 h10) hy
    · exact r_throw (ft_IO (by decide)) rfl dX12_existingDrawer_13 dX12_existingDrawer_16 dX12_existingDrawer_17 dX12_existingDrawer_20 (by decide) hc1 hu6 (fun y u h1 h2 h3 h4 => ⟨rfl, y, u, ⟨h1, h2⟩, ⟨h3, h4⟩, rfl⟩)
set_option maxRecDepth 4000 in
set_option maxHeartbeats 400000 in
theorem x_isFull1 {G : GI} {F : Nat → Prop} {S0 S : Hp} {w : Nat → Nat} {x : Nat} {K : Nat → Nat} {E : Nat → Nat → Nat} {A c : Nat → Nat → Nat} {bx bu : Nat} (h : XF F S0 S w x K E A c bx bu) {d : Nat} (hd : d < 4) {n : Nat} (hn : E 193 (190 + 5 * d) = n) (hn5 : n ≤ 5) (h5 : n = 5) : Fn m_X4_isFull G [.ref (x + (190 + 5 * d))] S (some (.int (nI (1)))) S := by
  refine Cn.of rfl (by decide) (Nat.le_of_ble_eq_true rfl) (fun hN hM => ?_)
  show Wx _ G _ 0 [(0, .ref (x + (190 + 5 * d)))] [] _
  refine r_aload_n dX4_isFull_0 rfl 0 rfl ?_
  refine r_getI (ci := 6) (k := 1) dX4_isFull_1 fr_X4_26 (h.1.td (by omega)) rfl ?_
  refine Wx.top (h.1.i (f := 193) (mT_d0 (by omega)) (by decide)) ?_
  refine Wx.topN hn ?_
  refine r_aload_n dX4_isFull_4 rfl 0 rfl ?_
  refine r_getR (ci := 6) (k := 2) (b := x + (190 + 5 * d + (1 + 0))) dX4_isFull_5 fr_X4_13 (h.1.td (by omega)) rfl (h.1.pdj (j := 0) (by omega) (by decide)) ?_
  refine r_alen101 dX4_isFull_8 (h.1.tdj (by omega) (by decide)) ?_
  refine Wx.top (congrArg nI (h.1.ndj (by omega) (by decide))) ?_
  refine r_icmp_ltN (tgt := 16) dX4_isFull_9 (by decide) (by omega) (by omega) (fun h9 => ?_) (fun h9 => ?_)
  · exact absurd h9 (by omega)
  · refine r_iconst (v := nI 1) dX4_isFull_12 (by decide) ?_
    refine r_goto (tgt := 17) dX4_isFull_13 (by decide) ?_
    exact r_iret (ty := .boolean) dX4_isFull_17 rfl (by decide) ⟨rfl, rfl⟩
set_option maxRecDepth 4000 in
set_option maxHeartbeats 400000 in
theorem x_isFull0 {G : GI} {F : Nat → Prop} {S0 S : Hp} {w : Nat → Nat} {x : Nat} {K : Nat → Nat} {E : Nat → Nat → Nat} {A c : Nat → Nat → Nat} {bx bu : Nat} (h : XF F S0 S w x K E A c bx bu) {d : Nat} (hd : d < 4) {n : Nat} (hn : E 193 (190 + 5 * d) = n) (hn5 : n ≤ 5) (h5 : ¬ n = 5) : Fn m_X4_isFull G [.ref (x + (190 + 5 * d))] S (some (.int (nI (0)))) S := by
  refine Cn.of rfl (by decide) (Nat.le_of_ble_eq_true rfl) (fun hN hM => ?_)
  show Wx _ G _ 0 [(0, .ref (x + (190 + 5 * d)))] [] _
  refine r_aload_n dX4_isFull_0 rfl 0 rfl ?_
  refine r_getI (ci := 6) (k := 1) dX4_isFull_1 fr_X4_26 (h.1.td (by omega)) rfl ?_
  refine Wx.top (h.1.i (f := 193) (mT_d0 (by omega)) (by decide)) ?_
  refine Wx.topN hn ?_
  refine r_aload_n dX4_isFull_4 rfl 0 rfl ?_
  refine r_getR (ci := 6) (k := 2) (b := x + (190 + 5 * d + (1 + 0))) dX4_isFull_5 fr_X4_13 (h.1.td (by omega)) rfl (h.1.pdj (j := 0) (by omega) (by decide)) ?_
  refine r_alen101 dX4_isFull_8 (h.1.tdj (by omega) (by decide)) ?_
  refine Wx.top (congrArg nI (h.1.ndj (by omega) (by decide))) ?_
  refine r_icmp_ltN (tgt := 16) dX4_isFull_9 (by decide) (by omega) (by omega) (fun h9 => ?_) (fun h9 => ?_)
  · refine r_iconst (v := nI 0) dX4_isFull_16 (by decide) ?_
    exact r_iret (ty := .boolean) dX4_isFull_17 rfl (by decide) ⟨rfl, rfl⟩
  · exact absurd h9 (by omega)
def fitX (kd b r : Nat) : Prop := kd = 0 ∨ (b ≠ 0 ∧ (kd = 1 ∨ r = 2))
set_option maxRecDepth 4000 in
set_option maxHeartbeats 400000 in
theorem x_takes1 {G : GI} {F : Nat → Prop} {S0 S : Hp} {w : Nat → Nat} {x : Nat} {K : Nat → Nat} {E : Nat → Nat → Nat} {A c : Nat → Nat → Nat} {bx bu : Nat} (h : XF F S0 S w x K E A c bx bu) {d : Nat} (hd : d < 4) {kd : Nat} (hkd : E 192 (190 + 5 * d) = kd) (hk2 : kd ≤ 2) {b r : Nat} (hb : b < 2) (hr2 : r ≤ 2) (hf : fitX kd b r) : Fn m_X4_takes G [.ref (x + (190 + 5 * d)), .int (nI (b)), .int (nI (r))] S (some (.int (nI (1)))) S := by
  refine Cn.of rfl (by decide) (Nat.le_of_ble_eq_true rfl) (fun hN hM => ?_)
  show Wx _ G _ 0 [(0, .ref (x + (190 + 5 * d))), (1, .int (nI (b))), (2, .int (nI (r)))] [] _
  refine r_aload_n dX4_takes_0 rfl 0 rfl ?_
  refine r_getI (ci := 6) (k := 0) dX4_takes_1 fr_X4_9 (h.1.td (by omega)) rfl ?_
  refine Wx.top (h.1.i (f := 192) (mT_d0 (by omega)) (by decide)) ?_
  refine Wx.topN hkd ?_
  refine r_if_eqN (tgt := 24) dX4_takes_4 (by decide) (by omega) (fun h4 => ?_) (fun h4 => ?_)
  · refine r_iconst (v := nI 1) dX4_takes_24 (by decide) ?_
    refine r_goto (tgt := 29) dX4_takes_25 (by decide) ?_
    exact r_iret (ty := .boolean) dX4_takes_29 rfl (by decide) ⟨rfl, rfl⟩
  · refine r_iload_n dX4_takes_7 rfl 1 rfl ?_
    refine r_if_eqN (tgt := 28) dX4_takes_8 (by decide) (by omega) (fun h8 => ?_) (fun h8 => ?_)
    · refine r_iconst (v := nI 0) dX4_takes_28 (by decide) ?_
      exact absurd hf (fun q : fitX kd b r => q.elim h4 (fun q2 => q2.1 h8))
    · refine r_aload_n dX4_takes_11 rfl 0 rfl ?_
      refine r_getI (ci := 6) (k := 0) dX4_takes_12 fr_X4_9 (h.1.td (by omega)) rfl ?_
      refine Wx.top (h.1.i (f := 192) (mT_d0 (by omega)) (by decide)) ?_
      refine Wx.topN hkd ?_
      refine r_iconst (v := nI 1) dX4_takes_15 (by decide) ?_
      refine r_icmp_eqN (tgt := 24) dX4_takes_16 (by decide) (by omega) (by omega) (fun h16 => ?_) (fun h16 => ?_)
      · refine r_iconst (v := nI 1) dX4_takes_24 (by decide) ?_
        refine r_goto (tgt := 29) dX4_takes_25 (by decide) ?_
        exact r_iret (ty := .boolean) dX4_takes_29 rfl (by decide) ⟨rfl, rfl⟩
      · refine r_iload_n dX4_takes_19 rfl 2 rfl ?_
        refine r_iconst (v := nI 2) dX4_takes_20 (by decide) ?_
        refine r_icmp_neN (tgt := 28) dX4_takes_21 (by decide) (by omega) (by omega) (fun h21 => ?_) (fun h21 => ?_)
        · refine r_iconst (v := nI 0) dX4_takes_28 (by decide) ?_
          exact absurd hf (fun q : fitX kd b r => q.elim h4 (fun q2 => q2.2.elim h16 h21))
        · refine r_iconst (v := nI 1) dX4_takes_24 (by decide) ?_
          refine r_goto (tgt := 29) dX4_takes_25 (by decide) ?_
          exact r_iret (ty := .boolean) dX4_takes_29 rfl (by decide) ⟨rfl, rfl⟩
set_option maxRecDepth 4000 in
set_option maxHeartbeats 400000 in
theorem x_takes0 {G : GI} {F : Nat → Prop} {S0 S : Hp} {w : Nat → Nat} {x : Nat} {K : Nat → Nat} {E : Nat → Nat → Nat} {A c : Nat → Nat → Nat} {bx bu : Nat} (h : XF F S0 S w x K E A c bx bu) {d : Nat} (hd : d < 4) {kd : Nat} (hkd : E 192 (190 + 5 * d) = kd) (hk2 : kd ≤ 2) {b r : Nat} (hb : b < 2) (hr2 : r ≤ 2) (hf : ¬ fitX kd b r) : Fn m_X4_takes G [.ref (x + (190 + 5 * d)), .int (nI (b)), .int (nI (r))] S (some (.int (nI (0)))) S := by
  refine Cn.of rfl (by decide) (Nat.le_of_ble_eq_true rfl) (fun hN hM => ?_)
  show Wx _ G _ 0 [(0, .ref (x + (190 + 5 * d))), (1, .int (nI (b))), (2, .int (nI (r)))] [] _
  refine r_aload_n dX4_takes_0 rfl 0 rfl ?_
  refine r_getI (ci := 6) (k := 0) dX4_takes_1 fr_X4_9 (h.1.td (by omega)) rfl ?_
  refine Wx.top (h.1.i (f := 192) (mT_d0 (by omega)) (by decide)) ?_
  refine Wx.topN hkd ?_
  refine r_if_eqN (tgt := 24) dX4_takes_4 (by decide) (by omega) (fun h4 => ?_) (fun h4 => ?_)
  · refine r_iconst (v := nI 1) dX4_takes_24 (by decide) ?_
    refine r_goto (tgt := 29) dX4_takes_25 (by decide) ?_
    exact absurd (show fitX kd b r from Or.inl h4) hf
  · refine r_iload_n dX4_takes_7 rfl 1 rfl ?_
    refine r_if_eqN (tgt := 28) dX4_takes_8 (by decide) (by omega) (fun h8 => ?_) (fun h8 => ?_)
    · refine r_iconst (v := nI 0) dX4_takes_28 (by decide) ?_
      exact r_iret (ty := .boolean) dX4_takes_29 rfl (by decide) ⟨rfl, rfl⟩
    · refine r_aload_n dX4_takes_11 rfl 0 rfl ?_
      refine r_getI (ci := 6) (k := 0) dX4_takes_12 fr_X4_9 (h.1.td (by omega)) rfl ?_
      refine Wx.top (h.1.i (f := 192) (mT_d0 (by omega)) (by decide)) ?_
      refine Wx.topN hkd ?_
      refine r_iconst (v := nI 1) dX4_takes_15 (by decide) ?_
      refine r_icmp_eqN (tgt := 24) dX4_takes_16 (by decide) (by omega) (by omega) (fun h16 => ?_) (fun h16 => ?_)
      · refine r_iconst (v := nI 1) dX4_takes_24 (by decide) ?_
        refine r_goto (tgt := 29) dX4_takes_25 (by decide) ?_
        exact absurd (show fitX kd b r from Or.inr ⟨h8, Or.inl h16⟩) hf
      · refine r_iload_n dX4_takes_19 rfl 2 rfl ?_
        refine r_iconst (v := nI 2) dX4_takes_20 (by decide) ?_
        refine r_icmp_neN (tgt := 28) dX4_takes_21 (by decide) (by omega) (by omega) (fun h21 => ?_) (fun h21 => ?_)
        · refine r_iconst (v := nI 0) dX4_takes_28 (by decide) ?_
          exact r_iret (ty := .boolean) dX4_takes_29 rfl (by decide) ⟨rfl, rfl⟩
        · refine r_iconst (v := nI 1) dX4_takes_24 (by decide) ?_
          refine r_goto (tgt := 29) dX4_takes_25 (by decide) ?_
          exact absurd (show fitX kd b r from Or.inr ⟨h8, Or.inr h21⟩) hf
set_option maxRecDepth 4000 in
set_option maxHeartbeats 400000 in
theorem x_add {G : GI} {F : Nat → Prop} {S0 S : Hp} {w : Nat → Nat} {x : Nat} {K : Nat → Nat} {E : Nat → Nat → Nat} {A c : Nat → Nat → Nat} {bx bu : Nat} (h : XF F S0 S w x K E A c bx bu) {d : Nat} (hd : d < 4) {n : Nat} (hn : E 193 (190 + 5 * d) = n) (hn5 : n ≤ 5) (h5 : n < 5) {a0 a1 a2 a3 : Nat} : Cn m_X4_add G [.ref (x + (190 + 5 * d)), .int (nI (a0)), .int (nI (a1)), .int (nI (a2)), .int (nI (a3))] S (fun r T => r = .inl none ∧ XF F S0 T w x K (up2 (up2 (up2 (up2 (up2 E (1000 + n) (190 + 5 * d + (1 + 0)) (a0)) (1000 + n) (190 + 5 * d + (1 + 1)) (a1)) (1000 + n) (190 + 5 * d + (1 + 2)) (a2)) (1000 + n) (190 + 5 * d + (1 + 3)) (a3)) 193 (190 + 5 * d) (n + 1)) A c bx bu) := by
  refine Cn.of rfl (by decide) (Nat.le_of_ble_eq_true rfl) (fun hN hM => ?_)
  show Wx _ G _ 0 [(0, .ref (x + (190 + 5 * d))), (1, .int (nI (a0))), (2, .int (nI (a1))), (3, .int (nI (a2))), (4, .int (nI (a3)))] [] _
  refine r_aload_n dX4_add_0 rfl 0 rfl ?_
  refine r_getI (ci := 6) (k := 1) dX4_add_1 fr_X4_26 (h.1.td (by omega)) rfl ?_
  refine Wx.top (h.1.i (f := 193) (mT_d0 (by omega)) (by decide)) ?_
  refine Wx.topN hn ?_
  refine r_aload_n dX4_add_4 rfl 0 rfl ?_
  refine r_getR (ci := 6) (k := 2) (b := x + (190 + 5 * d + (1 + 0))) dX4_add_5 fr_X4_13 (h.1.td (by omega)) rfl (h.1.pdj (j := 0) (by omega) (by decide)) ?_
  refine r_alen101 dX4_add_8 (h.1.tdj (by omega) (by decide)) ?_
  refine Wx.top (congrArg nI (h.1.ndj (by omega) (by decide))) ?_
  refine r_icmp_geN (tgt := 63) dX4_add_9 (by decide) (by omega) (by omega) (fun h9 => ?_) (fun h9 => ?_)
  · exact absurd h9 (by omega)
  · refine r_aload_n dX4_add_12 rfl 0 rfl ?_
    refine r_getR (ci := 6) (k := 2) (b := x + (190 + 5 * d + (1 + 0))) dX4_add_13 fr_X4_13 (h.1.td (by omega)) rfl (h.1.pdj (j := 0) (by omega) (by decide)) ?_
    refine r_aload_n dX4_add_16 rfl 0 rfl ?_
    refine r_getI (ci := 6) (k := 1) dX4_add_17 fr_X4_26 (h.1.td (by omega)) rfl ?_
    refine Wx.top (h.1.i (f := 193) (mT_d0 (by omega)) (by decide)) ?_
    refine Wx.topN hn ?_
    refine r_iload_n dX4_add_20 rfl 1 rfl ?_
    refine r_iast dX4_add_21 (h.1.tdj (by omega) (by decide)) (by rw [show zN S (x + (190 + 5 * d + (1 + 0))) = 5 from (h.1.ndj (by omega) (by decide))]; exact vp_in_nI (by omega) (by decide)) ?_
    refine Wx.st' (S' := uA S (x + (190 + 5 * d + (1 + 0))) (n) (nI (a0))) (by rw [nI_clamp (by omega)]) ?_
    refine Wx.gp (fun T => XF F S0 T w x K (up2 E (1000 + n) (190 + 5 * d + (1 + 0)) (a0)) A c bx bu) (h.AA (i := n) (mT_dj (by omega) (by decide))) (fun T (hx : XF F S0 T w x K (up2 E (1000 + n) (190 + 5 * d + (1 + 0)) (a0)) A c bx bu) => ?_)
    refine r_aload_n dX4_add_22 rfl 0 rfl ?_
    refine r_getR (ci := 6) (k := 3) (b := x + (190 + 5 * d + (1 + 1))) dX4_add_23 fr_X4_17 (hx.1.td (by omega)) rfl (hx.1.pdj (j := 1) (by omega) (by decide)) ?_
    refine r_aload_n dX4_add_26 rfl 0 rfl ?_
    refine r_getI (ci := 6) (k := 1) dX4_add_27 fr_X4_26 (hx.1.td (by omega)) rfl ?_
    refine Wx.top (hx.1.i (f := 193) (mT_d0 (by omega)) (by decide)) ?_
    refine Wx.topN (u2_n (by omega)) ?_
    refine Wx.topN hn ?_
    refine r_iload_n dX4_add_30 rfl 2 rfl ?_
    refine r_iast dX4_add_31 (hx.1.tdj (by omega) (by decide)) (by rw [show zN T (x + (190 + 5 * d + (1 + 1))) = 5 from (hx.1.ndj (by omega) (by decide))]; exact vp_in_nI (by omega) (by decide)) ?_
    refine Wx.st' (S' := uA T (x + (190 + 5 * d + (1 + 1))) (n) (nI (a1))) (by rw [nI_clamp (by omega)]) ?_
    refine Wx.gp (fun T => XF F S0 T w x K (up2 (up2 E (1000 + n) (190 + 5 * d + (1 + 0)) (a0)) (1000 + n) (190 + 5 * d + (1 + 1)) (a1)) A c bx bu) (hx.AA (i := n) (mT_dj (by omega) (by decide))) (fun T_1 (hx_1 : XF F S0 T_1 w x K (up2 (up2 E (1000 + n) (190 + 5 * d + (1 + 0)) (a0)) (1000 + n) (190 + 5 * d + (1 + 1)) (a1)) A c bx bu) => ?_)
    refine r_aload_n dX4_add_32 rfl 0 rfl ?_
    refine r_getR (ci := 6) (k := 4) (b := x + (190 + 5 * d + (1 + 2))) dX4_add_33 fr_X4_20 (hx_1.1.td (by omega)) rfl (hx_1.1.pdj (j := 2) (by omega) (by decide)) ?_
    refine r_aload_n dX4_add_36 rfl 0 rfl ?_
    refine r_getI (ci := 6) (k := 1) dX4_add_37 fr_X4_26 (hx_1.1.td (by omega)) rfl ?_
    refine Wx.top (hx_1.1.i (f := 193) (mT_d0 (by omega)) (by decide)) ?_
    refine Wx.topN (u2_n (by omega)) ?_
    refine Wx.topN (u2_n (by omega)) ?_
    refine Wx.topN hn ?_
    refine r_iload_n dX4_add_40 rfl 3 rfl ?_
    refine r_iast dX4_add_41 (hx_1.1.tdj (by omega) (by decide)) (by rw [show zN T_1 (x + (190 + 5 * d + (1 + 2))) = 5 from (hx_1.1.ndj (by omega) (by decide))]; exact vp_in_nI (by omega) (by decide)) ?_
    refine Wx.st' (S' := uA T_1 (x + (190 + 5 * d + (1 + 2))) (n) (nI (a2))) (by rw [nI_clamp (by omega)]) ?_
    refine Wx.gp (fun T => XF F S0 T w x K (up2 (up2 (up2 E (1000 + n) (190 + 5 * d + (1 + 0)) (a0)) (1000 + n) (190 + 5 * d + (1 + 1)) (a1)) (1000 + n) (190 + 5 * d + (1 + 2)) (a2)) A c bx bu) (hx_1.AA (i := n) (mT_dj (by omega) (by decide))) (fun T_2 (hx_2 : XF F S0 T_2 w x K (up2 (up2 (up2 E (1000 + n) (190 + 5 * d + (1 + 0)) (a0)) (1000 + n) (190 + 5 * d + (1 + 1)) (a1)) (1000 + n) (190 + 5 * d + (1 + 2)) (a2)) A c bx bu) => ?_)
    refine r_aload_n dX4_add_42 rfl 0 rfl ?_
    refine r_getR (ci := 6) (k := 5) (b := x + (190 + 5 * d + (1 + 3))) dX4_add_43 fr_X4_23 (hx_2.1.td (by omega)) rfl (hx_2.1.pdj (j := 3) (by omega) (by decide)) ?_
    refine r_aload_n dX4_add_46 rfl 0 rfl ?_
    refine r_getI (ci := 6) (k := 1) dX4_add_47 fr_X4_26 (hx_2.1.td (by omega)) rfl ?_
    refine Wx.top (hx_2.1.i (f := 193) (mT_d0 (by omega)) (by decide)) ?_
    refine Wx.topN (u2_n (by omega)) ?_
    refine Wx.topN (u2_n (by omega)) ?_
    refine Wx.topN (u2_n (by omega)) ?_
    refine Wx.topN hn ?_
    refine r_iload dX4_add_50 4 rfl ?_
    refine r_iast dX4_add_52 (hx_2.1.tdj (by omega) (by decide)) (by rw [show zN T_2 (x + (190 + 5 * d + (1 + 3))) = 5 from (hx_2.1.ndj (by omega) (by decide))]; exact vp_in_nI (by omega) (by decide)) ?_
    refine Wx.st' (S' := uA T_2 (x + (190 + 5 * d + (1 + 3))) (n) (nI (a3))) (by rw [nI_clamp (by omega)]) ?_
    refine Wx.gp (fun T => XF F S0 T w x K (up2 (up2 (up2 (up2 E (1000 + n) (190 + 5 * d + (1 + 0)) (a0)) (1000 + n) (190 + 5 * d + (1 + 1)) (a1)) (1000 + n) (190 + 5 * d + (1 + 2)) (a2)) (1000 + n) (190 + 5 * d + (1 + 3)) (a3)) A c bx bu) (hx_2.AA (i := n) (mT_dj (by omega) (by decide))) (fun T_3 (hx_3 : XF F S0 T_3 w x K (up2 (up2 (up2 (up2 E (1000 + n) (190 + 5 * d + (1 + 0)) (a0)) (1000 + n) (190 + 5 * d + (1 + 1)) (a1)) (1000 + n) (190 + 5 * d + (1 + 2)) (a2)) (1000 + n) (190 + 5 * d + (1 + 3)) (a3)) A c bx bu) => ?_)
    refine r_aload_n dX4_add_53 rfl 0 rfl ?_
    refine r_dup dX4_add_54 rfl ?_
    refine r_getI (ci := 6) (k := 1) dX4_add_55 fr_X4_26 (hx_3.1.td (by omega)) rfl ?_
    refine Wx.top (hx_3.1.i (f := 193) (mT_d0 (by omega)) (by decide)) ?_
    refine Wx.topN (u2_n (by omega)) ?_
    refine Wx.topN (u2_n (by omega)) ?_
    refine Wx.topN (u2_n (by omega)) ?_
    refine Wx.topN (u2_n (by omega)) ?_
    refine Wx.topN hn ?_
    refine r_iconst (v := nI 1) dX4_add_58 (by decide) ?_
    refine r_iaddN dX4_add_59 ?_
    refine r_putI (ci := 6) (k := 1) dX4_add_60 fw_X4_add_26 (hx_3.1.td (by omega)) rfl rfl rfl ?_
    refine Wx.gp (fun T => XF F S0 T w x K (up2 (up2 (up2 (up2 (up2 E (1000 + n) (190 + 5 * d + (1 + 0)) (a0)) (1000 + n) (190 + 5 * d + (1 + 1)) (a1)) (1000 + n) (190 + 5 * d + (1 + 2)) (a2)) (1000 + n) (190 + 5 * d + (1 + 3)) (a3)) 193 (190 + 5 * d) (n + 1)) A c bx bu) (hx_3.I (f := 193) (mT_d0 (by omega)) (by decide) (by decide)) (fun T_4 (hx_4 : XF F S0 T_4 w x K (up2 (up2 (up2 (up2 (up2 E (1000 + n) (190 + 5 * d + (1 + 0)) (a0)) (1000 + n) (190 + 5 * d + (1 + 1)) (a1)) (1000 + n) (190 + 5 * d + (1 + 2)) (a2)) (1000 + n) (190 + 5 * d + (1 + 3)) (a3)) 193 (190 + 5 * d) (n + 1)) A c bx bu) => ?_)
    exact r_vret dX4_add_63 rfl ⟨rfl, hx_4⟩
set_option maxRecDepth 4000 in
set_option maxHeartbeats 400000 in
theorem x_dnum0 {G : GI} {F : Nat → Prop} {S0 S : Hp} {w : Nat → Nat} {x : Nat} {K : Nat → Nat} {E : Nat → Nat → Nat} {A c : Nat → Nat → Nat} {bx bu : Nat} (h : XF F S0 S w x K E A c bx bu) {d : Nat} (hd : d < 4) {i : Nat} (hi : i < 5) : Fn m_X4_number G [.ref (x + (190 + 5 * d)), .int (nI (i)), .int (nI (0))] S (some (.int (nI (E (1000 + i) (190 + 5 * d + (1 + 0)))))) S := by
  refine Cn.of rfl (by decide) (Nat.le_of_ble_eq_true rfl) (fun hN hM => ?_)
  show Wx _ G _ 0 [(0, .ref (x + (190 + 5 * d))), (1, .int (nI (i))), (2, .int (nI (0)))] [] _
  refine r_iload_n dX4_number_0 rfl 2 rfl ?_
  refine r_tableIn (off := 27) (tgt := 28) dX4_number_1 (by decide) (by decide) rfl (by decide) ?_
  refine r_aload_n dX4_number_28 rfl 0 rfl ?_
  refine r_getR (ci := 6) (k := 2) (b := x + (190 + 5 * d + (1 + 0))) dX4_number_29 fr_X4_13 (h.1.td (by omega)) rfl (h.1.pdj (j := 0) (by omega) (by decide)) ?_
  refine r_iload_n dX4_number_32 rfl 1 rfl ?_
  refine r_iald dX4_number_33 (h.1.tdj (by omega) (by decide)) (by rw [show zN S (x + (190 + 5 * d + (1 + 0))) = 5 from (h.1.ndj (by omega) (by decide))]; exact vp_in_nI (by omega) (by decide)) ?_
  refine Wx.top (congrArg (zA _ _) (nI_clamp (by omega))) ?_
  refine Wx.top (h.1.a (i := i) (mT_dj (by omega) (by decide))) ?_
  exact r_iret (ty := .int) dX4_number_34 rfl rfl ⟨rfl, rfl⟩
set_option maxRecDepth 4000 in
set_option maxHeartbeats 400000 in
theorem x_dnum1 {G : GI} {F : Nat → Prop} {S0 S : Hp} {w : Nat → Nat} {x : Nat} {K : Nat → Nat} {E : Nat → Nat → Nat} {A c : Nat → Nat → Nat} {bx bu : Nat} (h : XF F S0 S w x K E A c bx bu) {d : Nat} (hd : d < 4) {i : Nat} (hi : i < 5) : Fn m_X4_number G [.ref (x + (190 + 5 * d)), .int (nI (i)), .int (nI (1))] S (some (.int (nI (E (1000 + i) (190 + 5 * d + (1 + 1)))))) S := by
  refine Cn.of rfl (by decide) (Nat.le_of_ble_eq_true rfl) (fun hN hM => ?_)
  show Wx _ G _ 0 [(0, .ref (x + (190 + 5 * d))), (1, .int (nI (i))), (2, .int (nI (1)))] [] _
  refine r_iload_n dX4_number_0 rfl 2 rfl ?_
  refine r_tableIn (off := 34) (tgt := 35) dX4_number_1 (by decide) (by decide) rfl (by decide) ?_
  refine r_aload_n dX4_number_35 rfl 0 rfl ?_
  refine r_getR (ci := 6) (k := 3) (b := x + (190 + 5 * d + (1 + 1))) dX4_number_36 fr_X4_17 (h.1.td (by omega)) rfl (h.1.pdj (j := 1) (by omega) (by decide)) ?_
  refine r_iload_n dX4_number_39 rfl 1 rfl ?_
  refine r_iald dX4_number_40 (h.1.tdj (by omega) (by decide)) (by rw [show zN S (x + (190 + 5 * d + (1 + 1))) = 5 from (h.1.ndj (by omega) (by decide))]; exact vp_in_nI (by omega) (by decide)) ?_
  refine Wx.top (congrArg (zA _ _) (nI_clamp (by omega))) ?_
  refine Wx.top (h.1.a (i := i) (mT_dj (by omega) (by decide))) ?_
  exact r_iret (ty := .int) dX4_number_41 rfl rfl ⟨rfl, rfl⟩
set_option maxRecDepth 4000 in
set_option maxHeartbeats 400000 in
theorem x_dnum2 {G : GI} {F : Nat → Prop} {S0 S : Hp} {w : Nat → Nat} {x : Nat} {K : Nat → Nat} {E : Nat → Nat → Nat} {A c : Nat → Nat → Nat} {bx bu : Nat} (h : XF F S0 S w x K E A c bx bu) {d : Nat} (hd : d < 4) {i : Nat} (hi : i < 5) : Fn m_X4_number G [.ref (x + (190 + 5 * d)), .int (nI (i)), .int (nI (2))] S (some (.int (nI (E (1000 + i) (190 + 5 * d + (1 + 2)))))) S := by
  refine Cn.of rfl (by decide) (Nat.le_of_ble_eq_true rfl) (fun hN hM => ?_)
  show Wx _ G _ 0 [(0, .ref (x + (190 + 5 * d))), (1, .int (nI (i))), (2, .int (nI (2)))] [] _
  refine r_iload_n dX4_number_0 rfl 2 rfl ?_
  refine r_tableIn (off := 41) (tgt := 42) dX4_number_1 (by decide) (by decide) rfl (by decide) ?_
  refine r_aload_n dX4_number_42 rfl 0 rfl ?_
  refine r_getR (ci := 6) (k := 4) (b := x + (190 + 5 * d + (1 + 2))) dX4_number_43 fr_X4_20 (h.1.td (by omega)) rfl (h.1.pdj (j := 2) (by omega) (by decide)) ?_
  refine r_iload_n dX4_number_46 rfl 1 rfl ?_
  refine r_iald dX4_number_47 (h.1.tdj (by omega) (by decide)) (by rw [show zN S (x + (190 + 5 * d + (1 + 2))) = 5 from (h.1.ndj (by omega) (by decide))]; exact vp_in_nI (by omega) (by decide)) ?_
  refine Wx.top (congrArg (zA _ _) (nI_clamp (by omega))) ?_
  refine Wx.top (h.1.a (i := i) (mT_dj (by omega) (by decide))) ?_
  exact r_iret (ty := .int) dX4_number_48 rfl rfl ⟨rfl, rfl⟩
set_option maxRecDepth 4000 in
set_option maxHeartbeats 400000 in
theorem x_dnum3 {G : GI} {F : Nat → Prop} {S0 S : Hp} {w : Nat → Nat} {x : Nat} {K : Nat → Nat} {E : Nat → Nat → Nat} {A c : Nat → Nat → Nat} {bx bu : Nat} (h : XF F S0 S w x K E A c bx bu) {d : Nat} (hd : d < 4) {i : Nat} (hi : i < 5) : Fn m_X4_number G [.ref (x + (190 + 5 * d)), .int (nI (i)), .int (nI (3))] S (some (.int (nI (E (1000 + i) (190 + 5 * d + (1 + 3)))))) S := by
  refine Cn.of rfl (by decide) (Nat.le_of_ble_eq_true rfl) (fun hN hM => ?_)
  show Wx _ G _ 0 [(0, .ref (x + (190 + 5 * d))), (1, .int (nI (i))), (2, .int (nI (3)))] [] _
  refine r_iload_n dX4_number_0 rfl 2 rfl ?_
  refine r_tableOut (tgt := 49) dX4_number_1 (by first | decide | exact hout) (by decide) ?_
  refine r_aload_n dX4_number_49 rfl 0 rfl ?_
  refine r_getR (ci := 6) (k := 5) (b := x + (190 + 5 * d + (1 + 3))) dX4_number_50 fr_X4_23 (h.1.td (by omega)) rfl (h.1.pdj (j := 3) (by omega) (by decide)) ?_
  refine r_iload_n dX4_number_53 rfl 1 rfl ?_
  refine r_iald dX4_number_54 (h.1.tdj (by omega) (by decide)) (by rw [show zN S (x + (190 + 5 * d + (1 + 3))) = 5 from (h.1.ndj (by omega) (by decide))]; exact vp_in_nI (by omega) (by decide)) ?_
  refine Wx.top (congrArg (zA _ _) (nI_clamp (by omega))) ?_
  refine Wx.top (h.1.a (i := i) (mT_dj (by omega) (by decide))) ?_
  exact r_iret (ty := .int) dX4_number_55 rfl rfl ⟨rfl, rfl⟩
set_option maxRecDepth 4000 in
set_option maxHeartbeats 400000 in
theorem s_open_0 {G : GI} {F : Nat → Prop} {S : Hp} {x bx bu : Nat} {D : Nat → Nat → Nat} {g : Nat → Nat} {N ps : Nat} {gq : Nat → Nat → Nat} {ik : Nat} {gk : Nat → Nat} (h : CSt F S x bx bu D g N ps gq ik gk) {d n : Nat} (hd : d < 4) (hn : D 193 (190 + 5 * d) = n) (hn5 : n ≤ 5) {q : Nat} (hq3 : q < 3) : Cn m_X12_open G [.ref (x), .int (nI (d)), .int (nI (q))] S (fun r T => r = .inl (some (.int (nI (n)))) ∧ CSt F T x bx bu (up2 (up2 D 193 (190 + 5 * d) (0)) 192 (190 + 5 * d) (q)) g N ps gq ik gk ∧ FrF F S T) := by
  refine Cn.of rfl (by decide) (Nat.le_of_ble_eq_true rfl) (fun hN hM => ?_)
  show Wx _ G _ 0 [(0, .ref (x)), (1, .int (nI (d))), (2, .int (nI (q)))] [] _
  obtain ⟨w, K, E, A, c, hX, hp, hr, hD, ⟨np, hnp, e1, e2, hps, hq⟩, ⟨e3, hik, hk⟩, hF⟩ := h
  have h : XF F S S w x K E A c bx bu := ⟨hX, FrF.rfl, hF⟩
  have hk0 : K 0 < 11 := (hp 0 (by decide)).1
  have n01 : K 0 ≠ K 1 := hp.ne (by decide) (by decide) (by decide)
  have n02 : K 0 ≠ 2 := (hp 0 (by decide)).2.1
  refine r_aload_n dX12_open_0 rfl 0 rfl ?_
  refine r_iload_n dX12_open_1 rfl 1 rfl ?_
  refine r_fnV (M2 := m_X12_existingDrawer) (As := [.int (nI (d))]) (rest := []) (v := some (.ref (x + (190 + 5 * d)))) dX12_open_2 cc_X12_open_262 rfl rfl rfl (Nat.le_of_ble_eq_true rfl) h.1.t0 rfl rfl (by decide) (x_drawer h hd) rfl ?_
  refine r_astore_n (lv' := [(3, .ref (x + (190 + 5 * d))), (0, .ref (x)), (1, .int (nI (d))), (2, .int (nI (q)))]) dX12_open_5 rfl (by decide) rfl ?_
  refine r_iload_n dX12_open_6 rfl 3 rfl ?_
  refine r_if_ltN (tgt := 15) dX12_open_7 (by decide) (by omega) ?_
  refine r_iload_n dX12_open_10 rfl 3 rfl ?_
  refine r_iconst (v := nI 2) dX12_open_11 (by decide) ?_
  refine r_icmp_leN (tgt := 23) dX12_open_12 (by decide) (by omega) (by omega) (fun h12 => ?_) (fun h12 => ?_)
  · refine r_aload_n dX12_open_23 rfl 0 rfl ?_
    refine r_getI (ci := 6) (k := 1) dX12_open_24 fr_X12_266 (h.1.td (by omega)) rfl ?_
    refine Wx.top (h.1.i (f := 193) (mT_d0 (by omega)) (by decide)) ?_
    refine Wx.topN ((hD _ _ (by omega)).trans hn) ?_
    refine r_istore (lv' := [(4, .int (nI (n))), (3, .ref (x + (190 + 5 * d))), (0, .ref (x)), (1, .int (nI (d))), (2, .int (nI (q)))]) dX12_open_27 (by decide) rfl ?_
    refine r_aload_n dX12_open_29 rfl 1 rfl ?_
    refine r_iconst (v := nI 0) dX12_open_30 (by decide) ?_
    refine r_putI (ci := 6) (k := 1) dX12_open_31 fw_X12_open_266 (h.1.td (by omega)) rfl rfl rfl ?_
    refine Wx.gp (fun T => XF F S T w x K (up2 E 193 (190 + 5 * d) (0)) A c bx bu) (h.I (f := 193) (mT_d0 (by omega)) (by decide) (by decide)) (fun T (hx : XF F S T w x K (up2 E 193 (190 + 5 * d) (0)) A c bx bu) => ?_)
    refine r_aload_n dX12_open_34 rfl 1 rfl ?_
    refine r_iload_n dX12_open_35 rfl 4 rfl ?_
    refine r_putI (ci := 6) (k := 0) dX12_open_36 fw_X12_open_269 (hx.1.td (by omega)) rfl rfl rfl ?_
    refine Wx.gp (fun T => XF F S T w x K (up2 (up2 E 193 (190 + 5 * d) (0)) 192 (190 + 5 * d) (q)) A c bx bu) (hx.I (f := 192) (mT_d0 (by omega)) (by decide) (by decide)) (fun T_1 (hx_1 : XF F S T_1 w x K (up2 (up2 E 193 (190 + 5 * d) (0)) 192 (190 + 5 * d) (q)) A c bx bu) => ?_)
    refine r_iload dX12_open_39 0 rfl ?_
    exact r_iret (ty := .int) dX12_open_41 rfl rfl ⟨rfl, ⟨w, K, _, A, c, hx_1.1, hp, hr, (dd_up (dd_up hD)), ⟨np, hnp, ((u2_n (by omega)).trans ((u2_n (by omega)).trans e1)), ((u2_n (by omega)).trans ((u2_n (by omega)).trans e2)), hps, hq⟩, ⟨((u2_n (by omega)).trans ((u2_n (by omega)).trans e3)), hik, hk⟩, hx_1.2.2⟩, hx_1.2.1⟩
  · exact absurd h12 (by omega)
set_option maxRecDepth 4000 in
set_option maxHeartbeats 400000 in
theorem s_open_1 {G : GI} {F : Nat → Prop} {S : Hp} {x bx bu : Nat} {D : Nat → Nat → Nat} {g : Nat → Nat} {N ps : Nat} {gq : Nat → Nat → Nat} {ik : Nat} {gk : Nat → Nat} (h : CSt F S x bx bu D g N ps gq ik gk) (h1 : bx + 1 ≤ gN G) (h2 : bu + 6 ≤ gM G) {y : Int32} (hy : ¬ vp_in y 4) {z : Int32} : Cn m_X12_open G [.ref (x), .int (y), .int (z)] S (fun r T => r = .inr "java/lang/IndexOutOfBoundsException" ∧ CSt F T x (bx + 1) (bu + 6) D g N ps gq ik gk ∧ FrF F S T) := by
  refine Cn.of rfl (by decide) (Nat.le_of_ble_eq_true rfl) (fun hN hM => ?_)
  show Wx _ G _ 0 [(0, .ref (x)), (1, .int (y)), (2, .int (z))] [] _
  obtain ⟨w, K, E, A, c, hX, hp, hr, hD, ⟨np, hnp, e1, e2, hps, hq⟩, ⟨e3, hik, hk⟩, hF⟩ := h
  have h : XF F S S w x K E A c bx bu := ⟨hX, FrF.rfl, hF⟩
  have hk0 : K 0 < 11 := (hp 0 (by decide)).1
  have n01 : K 0 ≠ K 1 := hp.ne (by decide) (by decide) (by decide)
  have n02 : K 0 ≠ 2 := (hp 0 (by decide)).2.1
  refine r_aload_n dX12_open_0 rfl 0 rfl ?_
  refine r_iload_n dX12_open_1 rfl 1 rfl ?_
  exact r_ftV (M2 := m_X12_existingDrawer) (As := [.int (y)]) (rest := []) dX12_open_2 cc_X12_open_262 rfl rfl rfl (Nat.le_of_ble_eq_true rfl) h.1.t0 rfl rfl (by decide) (x_drawer_no h (h.hc1 h1) (h.hu6 h2) hy) rfl (fun y u h1 h2 => ⟨rfl, ⟨w, K, E, A, c, (h.X h1 h2).1, hp, hr, hD, ⟨np, hnp, e1, e2, hps, hq⟩, ⟨e3, hik, hk⟩, hF⟩, (h.X h1 h2).2.1⟩)
set_option maxRecDepth 4000 in
set_option maxHeartbeats 400000 in
theorem s_open_2 {G : GI} {F : Nat → Prop} {S : Hp} {x bx bu : Nat} {D : Nat → Nat → Nat} {g : Nat → Nat} {N ps : Nat} {gq : Nat → Nat → Nat} {ik : Nat} {gk : Nat → Nat} (h : CSt F S x bx bu D g N ps gq ik gk) (h1 : bx + 1 ≤ gN G) (h2 : bu + 6 ≤ gM G) {d : Nat} (hd : d < 4) {z : Int32} (hz : ¬ vp_in z 3) : Cn m_X12_open G [.ref (x), .int (nI (d)), .int (z)] S (fun r T => r = .inr "java/lang/IllegalArgumentException" ∧ CSt F T x (bx + 1) (bu + 6) D g N ps gq ik gk ∧ FrF F S T) := by
  refine Cn.of rfl (by decide) (Nat.le_of_ble_eq_true rfl) (fun hN hM => ?_)
  show Wx _ G _ 0 [(0, .ref (x)), (1, .int (nI (d))), (2, .int (z))] [] _
  obtain ⟨w, K, E, A, c, hX, hp, hr, hD, ⟨np, hnp, e1, e2, hps, hq⟩, ⟨e3, hik, hk⟩, hF⟩ := h
  have h : XF F S S w x K E A c bx bu := ⟨hX, FrF.rfl, hF⟩
  have hk0 : K 0 < 11 := (hp 0 (by decide)).1
  have n01 : K 0 ≠ K 1 := hp.ne (by decide) (by decide) (by decide)
  have n02 : K 0 ≠ 2 := (hp 0 (by decide)).2.1
  refine r_aload_n dX12_open_0 rfl 0 rfl ?_
  refine r_iload_n dX12_open_1 rfl 1 rfl ?_
  refine r_fnV (M2 := m_X12_existingDrawer) (As := [.int (nI (d))]) (rest := []) (v := some (.ref (x + (190 + 5 * d)))) dX12_open_2 cc_X12_open_262 rfl rfl rfl (Nat.le_of_ble_eq_true rfl) h.1.t0 rfl rfl (by decide) (x_drawer h hd) rfl ?_
  refine r_astore_n (lv' := [(3, .ref (x + (190 + 5 * d))), (0, .ref (x)), (1, .int (nI (d))), (2, .int (z))]) dX12_open_5 rfl (by decide) rfl ?_
  refine r_iload_n dX12_open_6 rfl 3 rfl ?_
  refine r_if_lt (tgt := 15) dX12_open_7 (by decide) (fun h7 => ?_) (fun h7 => ?_)
  · exact r_throw (ft_IA (by decide)) rfl dX12_open_15 dX12_open_18 dX12_open_19 dX12_open_22 (by decide) (h.hc1 h1) (h.hu6 h2) (fun y u h1 h2 h3 h4 => ⟨rfl, ⟨w, K, E, A, c, (h.X ⟨h1, h2⟩ ⟨h3, h4⟩).1, hp, hr, hD, ⟨np, hnp, e1, e2, hps, hq⟩, ⟨e3, hik, hk⟩, hF⟩, (h.X ⟨h1, h2⟩ ⟨h3, h4⟩).2.1⟩)
  · refine r_iload_n dX12_open_10 rfl 3 rfl ?_
    refine r_iconst (v := nI 2) dX12_open_11 (by decide) ?_
    refine r_icmp_le (tgt := 23) dX12_open_12 (by decide) (fun h12 => ?_) (fun h12 => ?_)
    · exact absurd (vp_le (n := 2) (by decide) h7 h12) hz
    · exact r_throw (ft_IA (by decide)) rfl dX12_open_15 dX12_open_18 dX12_open_19 dX12_open_22 (by decide) (h.hc1 h1) (h.hu6 h2) (fun y u h1 h2 h3 h4 => ⟨rfl, ⟨w, K, E, A, c, (h.X ⟨h1, h2⟩ ⟨h3, h4⟩).1, hp, hr, hD, ⟨np, hnp, e1, e2, hps, hq⟩, ⟨e3, hik, hk⟩, hF⟩, (h.X ⟨h1, h2⟩ ⟨h3, h4⟩).2.1⟩)
set_option maxRecDepth 4000 in
set_option maxHeartbeats 400000 in
theorem s_spec_1a {G : GI} {F : Nat → Prop} {S : Hp} {x bx bu : Nat} {D : Nat → Nat → Nat} {g : Nat → Nat} {N ps : Nat} {gq : Nat → Nat → Nat} {ik : Nat} {gk : Nat → Nat} (h : CSt F S x bx bu D g N ps gq ik gk) (h1 : bx + 1 ≤ gN G) (h2 : bu + 6 ≤ gM G) {y : Int32} (hy : ¬ vp_in y 4) {z z2 : Int32} : Cn m_X12_specimen G [.ref (x), .int (y), .int (z), .int (z2)] S (fun r T => r = .inr "java/lang/IndexOutOfBoundsException" ∧ CSt F T x (bx + 1) (bu + 6) D g N ps gq ik gk ∧ FrF F S T) := by
  refine Cn.of rfl (by decide) (Nat.le_of_ble_eq_true rfl) (fun hN hM => ?_)
  show Wx _ G _ 0 [(0, .ref (x)), (1, .int (y)), (2, .int (z)), (3, .int (z2))] [] _
  obtain ⟨w, K, E, A, c, hX, hp, hr, hD, ⟨np, hnp, e1, e2, hps, hq⟩, ⟨e3, hik, hk⟩, hF⟩ := h
  have h : XF F S S w x K E A c bx bu := ⟨hX, FrF.rfl, hF⟩
  have hk0 : K 0 < 11 := (hp 0 (by decide)).1
  have n01 : K 0 ≠ K 1 := hp.ne (by decide) (by decide) (by decide)
  have n02 : K 0 ≠ 2 := (hp 0 (by decide)).2.1
  refine r_aload_n dX12_specimen_0 rfl 0 rfl ?_
  refine r_iload_n dX12_specimen_1 rfl 1 rfl ?_
  exact r_ftV (M2 := m_X12_existingDrawer) (As := [.int (y)]) (rest := []) dX12_specimen_2 cc_X12_specimen_262 rfl rfl rfl (Nat.le_of_ble_eq_true rfl) h.1.t0 rfl rfl (by decide) (x_drawer_no h (h.hc1 h1) (h.hu6 h2) hy) rfl (fun y u h1 h2 => ⟨rfl, ⟨w, K, E, A, c, (h.X h1 h2).1, hp, hr, hD, ⟨np, hnp, e1, e2, hps, hq⟩, ⟨e3, hik, hk⟩, hF⟩, (h.X h1 h2).2.1⟩)
set_option maxRecDepth 4000 in
set_option maxHeartbeats 400000 in
theorem s_spec_1b {G : GI} {F : Nat → Prop} {S : Hp} {x bx bu : Nat} {D : Nat → Nat → Nat} {g : Nat → Nat} {N ps : Nat} {gq : Nat → Nat → Nat} {ik : Nat} {gk : Nat → Nat} (h : CSt F S x bx bu D g N ps gq ik gk) (h1 : bx + 1 ≤ gN G) (h2 : bu + 6 ≤ gM G) {d n : Nat} (hd : d < 4) (hn : D 193 (190 + 5 * d) = n) (hn5 : n ≤ 5) {z z2 : Int32} (hz : ¬ vp_in z n) : Cn m_X12_specimen G [.ref (x), .int (nI (d)), .int (z), .int (z2)] S (fun r T => r = .inr "java/lang/IndexOutOfBoundsException" ∧ CSt F T x (bx + 1) (bu + 6) D g N ps gq ik gk ∧ FrF F S T) := by
  refine Cn.of rfl (by decide) (Nat.le_of_ble_eq_true rfl) (fun hN hM => ?_)
  show Wx _ G _ 0 [(0, .ref (x)), (1, .int (nI (d))), (2, .int (z)), (3, .int (z2))] [] _
  obtain ⟨w, K, E, A, c, hX, hp, hr, hD, ⟨np, hnp, e1, e2, hps, hq⟩, ⟨e3, hik, hk⟩, hF⟩ := h
  have h : XF F S S w x K E A c bx bu := ⟨hX, FrF.rfl, hF⟩
  have hk0 : K 0 < 11 := (hp 0 (by decide)).1
  have n01 : K 0 ≠ K 1 := hp.ne (by decide) (by decide) (by decide)
  have n02 : K 0 ≠ 2 := (hp 0 (by decide)).2.1
  refine r_aload_n dX12_specimen_0 rfl 0 rfl ?_
  refine r_iload_n dX12_specimen_1 rfl 1 rfl ?_
  refine r_fnV (M2 := m_X12_existingDrawer) (As := [.int (nI (d))]) (rest := []) (v := some (.ref (x + (190 + 5 * d)))) dX12_specimen_2 cc_X12_specimen_262 rfl rfl rfl (Nat.le_of_ble_eq_true rfl) h.1.t0 rfl rfl (by decide) (x_drawer h hd) rfl ?_
  refine r_astore (lv' := [(4, .ref (x + (190 + 5 * d))), (0, .ref (x)), (1, .int (nI (d))), (2, .int (z)), (3, .int (z2))]) dX12_specimen_5 (by decide) rfl ?_
  refine r_iload_n dX12_specimen_7 rfl 3 rfl ?_
  refine r_if_lt (tgt := 20) dX12_specimen_8 (by decide) (fun h8 => ?_) (fun h8 => ?_)
  · exact r_throw (ft_IO (by decide)) rfl dX12_specimen_20 dX12_specimen_23 dX12_specimen_24 dX12_specimen_27 (by decide) (h.hc1 h1) (h.hu6 h2) (fun y u h1 h2 h3 h4 => ⟨rfl, ⟨w, K, E, A, c, (h.X ⟨h1, h2⟩ ⟨h3, h4⟩).1, hp, hr, hD, ⟨np, hnp, e1, e2, hps, hq⟩, ⟨e3, hik, hk⟩, hF⟩, (h.X ⟨h1, h2⟩ ⟨h3, h4⟩).2.1⟩)
  · refine r_iload_n dX12_specimen_11 rfl 3 rfl ?_
    refine r_aload dX12_specimen_12 0 rfl ?_
    refine r_getI (ci := 6) (k := 1) dX12_specimen_14 fr_X12_266 (h.1.td (by omega)) rfl ?_
    refine Wx.top (h.1.i (f := 193) (mT_d0 (by omega)) (by decide)) ?_
    refine Wx.topN ((hD _ _ (by omega)).trans hn) ?_
    refine r_icmp_lt (tgt := 28) dX12_specimen_17 (by decide) (fun h17 => ?_) (fun h17 => ?_)
    · exact absurd (vp_lt (by omega) h8 h17) hz
    · exact r_throw (ft_IO (by decide)) rfl dX12_specimen_20 dX12_specimen_23 dX12_specimen_24 dX12_specimen_27 (by decide) (h.hc1 h1) (h.hu6 h2) (fun y u h1 h2 h3 h4 => ⟨rfl, ⟨w, K, E, A, c, (h.X ⟨h1, h2⟩ ⟨h3, h4⟩).1, hp, hr, hD, ⟨np, hnp, e1, e2, hps, hq⟩, ⟨e3, hik, hk⟩, hF⟩, (h.X ⟨h1, h2⟩ ⟨h3, h4⟩).2.1⟩)
set_option maxRecDepth 4000 in
set_option maxHeartbeats 400000 in
theorem s_spec_2 {G : GI} {F : Nat → Prop} {S : Hp} {x bx bu : Nat} {D : Nat → Nat → Nat} {g : Nat → Nat} {N ps : Nat} {gq : Nat → Nat → Nat} {ik : Nat} {gk : Nat → Nat} (h : CSt F S x bx bu D g N ps gq ik gk) (h1 : bx + 1 ≤ gN G) (h2 : bu + 6 ≤ gM G) {d n : Nat} (hd : d < 4) (hn : D 193 (190 + 5 * d) = n) (hn5 : n ≤ 5) {i : Nat} (hi : i < n) {z : Int32} (hz : ¬ vp_in z 4) : Cn m_X12_specimen G [.ref (x), .int (nI (d)), .int (nI (i)), .int (z)] S (fun r T => r = .inr "java/lang/IllegalArgumentException" ∧ CSt F T x (bx + 1) (bu + 6) D g N ps gq ik gk ∧ FrF F S T) := by
  refine Cn.of rfl (by decide) (Nat.le_of_ble_eq_true rfl) (fun hN hM => ?_)
  show Wx _ G _ 0 [(0, .ref (x)), (1, .int (nI (d))), (2, .int (nI (i))), (3, .int (z))] [] _
  obtain ⟨w, K, E, A, c, hX, hp, hr, hD, ⟨np, hnp, e1, e2, hps, hq⟩, ⟨e3, hik, hk⟩, hF⟩ := h
  have h : XF F S S w x K E A c bx bu := ⟨hX, FrF.rfl, hF⟩
  have hk0 : K 0 < 11 := (hp 0 (by decide)).1
  have n01 : K 0 ≠ K 1 := hp.ne (by decide) (by decide) (by decide)
  have n02 : K 0 ≠ 2 := (hp 0 (by decide)).2.1
  refine r_aload_n dX12_specimen_0 rfl 0 rfl ?_
  refine r_iload_n dX12_specimen_1 rfl 1 rfl ?_
  refine r_fnV (M2 := m_X12_existingDrawer) (As := [.int (nI (d))]) (rest := []) (v := some (.ref (x + (190 + 5 * d)))) dX12_specimen_2 cc_X12_specimen_262 rfl rfl rfl (Nat.le_of_ble_eq_true rfl) h.1.t0 rfl rfl (by decide) (x_drawer h hd) rfl ?_
  refine r_astore (lv' := [(4, .ref (x + (190 + 5 * d))), (0, .ref (x)), (1, .int (nI (d))), (2, .int (nI (i))), (3, .int (z))]) dX12_specimen_5 (by decide) rfl ?_
  refine r_iload_n dX12_specimen_7 rfl 3 rfl ?_
  refine r_if_ltN (tgt := 20) dX12_specimen_8 (by decide) (by omega) ?_
  refine r_iload_n dX12_specimen_11 rfl 3 rfl ?_
  refine r_aload dX12_specimen_12 0 rfl ?_
  refine r_getI (ci := 6) (k := 1) dX12_specimen_14 fr_X12_266 (h.1.td (by omega)) rfl ?_
  refine Wx.top (h.1.i (f := 193) (mT_d0 (by omega)) (by decide)) ?_
  refine Wx.topN ((hD _ _ (by omega)).trans hn) ?_
  refine r_icmp_ltN (tgt := 28) dX12_specimen_17 (by decide) (by omega) (by omega) (fun h17 => ?_) (fun h17 => ?_)
  · refine r_iload_n dX12_specimen_28 rfl 4 rfl ?_
    refine r_if_lt (tgt := 37) dX12_specimen_29 (by decide) (fun h29 => ?_) (fun h29 => ?_)
    · exact r_throw (ft_IA (by decide)) rfl dX12_specimen_37 dX12_specimen_40 dX12_specimen_41 dX12_specimen_44 (by decide) (h.hc1 h1) (h.hu6 h2) (fun y u h1 h2 h3 h4 => ⟨rfl, ⟨w, K, E, A, c, (h.X ⟨h1, h2⟩ ⟨h3, h4⟩).1, hp, hr, hD, ⟨np, hnp, e1, e2, hps, hq⟩, ⟨e3, hik, hk⟩, hF⟩, (h.X ⟨h1, h2⟩ ⟨h3, h4⟩).2.1⟩)
    · refine r_iload_n dX12_specimen_32 rfl 4 rfl ?_
      refine r_iconst (v := nI 3) dX12_specimen_33 (by decide) ?_
      refine r_icmp_le (tgt := 45) dX12_specimen_34 (by decide) (fun h34 => ?_) (fun h34 => ?_)
      · exact absurd (vp_le (n := 3) (by decide) h29 h34) hz
      · exact r_throw (ft_IA (by decide)) rfl dX12_specimen_37 dX12_specimen_40 dX12_specimen_41 dX12_specimen_44 (by decide) (h.hc1 h1) (h.hu6 h2) (fun y u h1 h2 h3 h4 => ⟨rfl, ⟨w, K, E, A, c, (h.X ⟨h1, h2⟩ ⟨h3, h4⟩).1, hp, hr, hD, ⟨np, hnp, e1, e2, hps, hq⟩, ⟨e3, hik, hk⟩, hF⟩, (h.X ⟨h1, h2⟩ ⟨h3, h4⟩).2.1⟩)
  · exact absurd h17 (by omega)
theorem x_dnum {G : GI} {F : Nat → Prop} {S0 S : Hp} {w : Nat → Nat} {x : Nat} {K : Nat → Nat} {E : Nat → Nat → Nat} {A c : Nat → Nat → Nat} {bx bu : Nat} (h : XF F S0 S w x K E A c bx bu) {d : Nat} (hd : d < 4) {i k : Nat} (hi : i < 5) (hk : k < 4) : Fn m_X4_number G [.ref (x + (190 + 5 * d)), .int (nI i), .int (nI k)] S (some (.int (nI (E (1000 + i) (190 + 5 * d + (1 + k)))))) S := by
  obtain rfl | rfl | rfl | rfl : k = 0 ∨ k = 1 ∨ k = 2 ∨ k = 3 := by omega
  · exact x_dnum0 h hd hi
  · exact x_dnum1 h hd hi
  · exact x_dnum2 h hd hi
  · exact x_dnum3 h hd hi
set_option maxRecDepth 4000 in
set_option maxHeartbeats 400000 in
theorem s_spec_0 {G : GI} {F : Nat → Prop} {S : Hp} {x bx bu : Nat} {D : Nat → Nat → Nat} {g : Nat → Nat} {N ps : Nat} {gq : Nat → Nat → Nat} {ik : Nat} {gk : Nat → Nat} (h : CSt F S x bx bu D g N ps gq ik gk) {d n : Nat} (hd : d < 4) (hn : D 193 (190 + 5 * d) = n) (hn5 : n ≤ 5) {i k : Nat} (hi : i < n) (hk4 : k < 4) : Cn m_X12_specimen G [.ref x, .int (nI d), .int (nI i), .int (nI k)] S (fun r T => r = .inl (some (.int (nI (D (1000 + i) (190 + 5 * d + (1 + k)))))) ∧ CSt F T x bx bu D g N ps gq ik gk ∧ FrF F S T) := by
  refine Cn.of rfl (by decide) (Nat.le_of_ble_eq_true rfl) (fun hN hM => ?_)
  show Wx _ G _ 0 [(0, .ref (x)), (1, .int (nI (d))), (2, .int (nI (i))), (3, .int (nI (k)))] [] _
  obtain ⟨w, K, E, A, c, hX, hp, hr, hD, ⟨np, hnp, e1, e2, hps, hq⟩, ⟨e3, hik, hk⟩, hF⟩ := h
  have h : XF F S S w x K E A c bx bu := ⟨hX, FrF.rfl, hF⟩
  have hk0 : K 0 < 11 := (hp 0 (by decide)).1
  have n01 : K 0 ≠ K 1 := hp.ne (by decide) (by decide) (by decide)
  have n02 : K 0 ≠ 2 := (hp 0 (by decide)).2.1
  refine r_aload_n dX12_specimen_0 rfl 0 rfl ?_
  refine r_iload_n dX12_specimen_1 rfl 1 rfl ?_
  refine r_fnV (M2 := m_X12_existingDrawer) (As := [.int (nI (d))]) (rest := []) (v := some (.ref (x + (190 + 5 * d)))) dX12_specimen_2 cc_X12_specimen_262 rfl rfl rfl (Nat.le_of_ble_eq_true rfl) h.1.t0 rfl rfl (by decide) (x_drawer h hd) rfl ?_
  refine r_astore (lv' := [(4, .ref (x + (190 + 5 * d))), (0, .ref (x)), (1, .int (nI (d))), (2, .int (nI (i))), (3, .int (nI (k)))]) dX12_specimen_5 (by decide) rfl ?_
  refine r_iload_n dX12_specimen_7 rfl 3 rfl ?_
  refine r_if_ltN (tgt := 20) dX12_specimen_8 (by decide) (by omega) ?_
  refine r_iload_n dX12_specimen_11 rfl 3 rfl ?_
  refine r_aload dX12_specimen_12 0 rfl ?_
  refine r_getI (ci := 6) (k := 1) dX12_specimen_14 fr_X12_266 (h.1.td (by omega)) rfl ?_
  refine Wx.top (h.1.i (f := 193) (mT_d0 (by omega)) (by decide)) ?_
  refine Wx.topN ((hD _ _ (by omega)).trans hn) ?_
  refine r_icmp_ltN (tgt := 28) dX12_specimen_17 (by decide) (by omega) (by omega) (fun h17 => ?_) (fun h17 => ?_)
  · refine r_iload_n dX12_specimen_28 rfl 4 rfl ?_
    refine r_if_ltN (tgt := 37) dX12_specimen_29 (by decide) (by omega) ?_
    refine r_iload_n dX12_specimen_32 rfl 4 rfl ?_
    refine r_iconst (v := nI 3) dX12_specimen_33 (by decide) ?_
    refine r_icmp_leN (tgt := 45) dX12_specimen_34 (by decide) (by omega) (by omega) (fun h34 => ?_) (fun h34 => ?_)
    · refine r_aload dX12_specimen_45 0 rfl ?_
      refine r_iload_n dX12_specimen_47 rfl 3 rfl ?_
      refine r_iload_n dX12_specimen_48 rfl 4 rfl ?_
      refine r_fnV (M2 := m_X4_number) (As := [.int (nI (i)), .int (nI (k))]) (rest := []) (v := some (.int (nI (D (1000 + i) (190 + 5 * d + (1 + k)))))) dX12_specimen_49 cc_X12_specimen_287 rfl rfl rfl (Nat.le_of_ble_eq_true rfl) (h.1.td (by omega)) rfl rfl (by decide) (Fn.eq (x_dnum h hd (i := i) (k := k) (by omega) hk4) (congrArg (fun z => some (Value.int (nI z))) (hD _ _ (by omega))) rfl) rfl ?_
      exact r_iret (ty := .int) dX12_specimen_52 rfl rfl ⟨rfl, ⟨w, K, _, A, c, h.1, hp, hr, hD, ⟨np, hnp, e1, e2, hps, hq⟩, ⟨e3, hik, hk⟩, h.2.2⟩, h.2.1⟩
    · exact absurd h34 (by omega)
  · exact absurd h17 (by omega)
set_option maxRecDepth 4000 in
set_option maxHeartbeats 400000 in
theorem s_keep_1a {G : GI} {F : Nat → Prop} {S : Hp} {x bx bu : Nat} {D : Nat → Nat → Nat} {g : Nat → Nat} {N ps : Nat} {gq : Nat → Nat → Nat} {ik : Nat} {gk : Nat → Nat} (h : CSt F S x bx bu D g N ps gq ik gk) (h1 : bx + 1 ≤ gN G) (h2 : bu + 6 ≤ gM G) {y : Int32} (hy : ¬ vp_in y 4) {z z2 : Int32} : Cn m_X12_keep G [.ref (x), .int (y), .int (z), .int (z2)] S (fun r T => r = .inr "java/lang/IndexOutOfBoundsException" ∧ CSt F T x (bx + 1) (bu + 6) D g N ps gq ik gk ∧ FrF F S T) := by
  refine Cn.of rfl (by decide) (Nat.le_of_ble_eq_true rfl) (fun hN hM => ?_)
  show Wx _ G _ 0 [(0, .ref (x)), (1, .int (y)), (2, .int (z)), (3, .int (z2))] [] _
  obtain ⟨w, K, E, A, c, hX, hp, hr, hD, ⟨np, hnp, e1, e2, hps, hq⟩, ⟨e3, hik, hk⟩, hF⟩ := h
  have h : XF F S S w x K E A c bx bu := ⟨hX, FrF.rfl, hF⟩
  have hk0 : K 0 < 11 := (hp 0 (by decide)).1
  have n01 : K 0 ≠ K 1 := hp.ne (by decide) (by decide) (by decide)
  have n02 : K 0 ≠ 2 := (hp 0 (by decide)).2.1
  refine r_aload_n dX12_keep_0 rfl 0 rfl ?_
  refine r_iload_n dX12_keep_1 rfl 1 rfl ?_
  exact r_ftV (M2 := m_X12_existingDrawer) (As := [.int (y)]) (rest := []) dX12_keep_2 cc_X12_keep_262 rfl rfl rfl (Nat.le_of_ble_eq_true rfl) h.1.t0 rfl rfl (by decide) (x_drawer_no h (h.hc1 h1) (h.hu6 h2) hy) rfl (fun y u h1 h2 => ⟨rfl, ⟨w, K, E, A, c, (h.X h1 h2).1, hp, hr, hD, ⟨np, hnp, e1, e2, hps, hq⟩, ⟨e3, hik, hk⟩, hF⟩, (h.X h1 h2).2.1⟩)
set_option maxRecDepth 4000 in
set_option maxHeartbeats 400000 in
theorem s_keep_1b {G : GI} {F : Nat → Prop} {S : Hp} {x bx bu : Nat} {D : Nat → Nat → Nat} {g : Nat → Nat} {N ps : Nat} {gq : Nat → Nat → Nat} {ik : Nat} {gk : Nat → Nat} (h : CSt F S x bx bu D g N ps gq ik gk) (h1 : bx + 1 ≤ gN G) (h2 : bu + 6 ≤ gM G) {d : Nat} (hd : d < 4) {y : Int32} (hy2 : ¬ vp_in y (g 0)) {z : Int32} : Cn m_X12_keep G [.ref (x), .int (nI (d)), .int (y), .int (z)] S (fun r T => r = .inr "java/lang/IndexOutOfBoundsException" ∧ CSt F T x (bx + 1) (bu + 6) D g N ps gq ik gk ∧ FrF F S T) := by
  refine Cn.of rfl (by decide) (Nat.le_of_ble_eq_true rfl) (fun hN hM => ?_)
  show Wx _ G _ 0 [(0, .ref (x)), (1, .int (nI (d))), (2, .int (y)), (3, .int (z))] [] _
  obtain ⟨w, K, E, A, c, hX, hp, hr, hD, ⟨np, hnp, e1, e2, hps, hq⟩, ⟨e3, hik, hk⟩, hF⟩ := h
  have h : XF F S S w x K E A c bx bu := ⟨hX, FrF.rfl, hF⟩
  have hk0 : K 0 < 11 := (hp 0 (by decide)).1
  have n01 : K 0 ≠ K 1 := hp.ne (by decide) (by decide) (by decide)
  have n02 : K 0 ≠ 2 := (hp 0 (by decide)).2.1
  refine r_aload_n dX12_keep_0 rfl 0 rfl ?_
  refine r_iload_n dX12_keep_1 rfl 1 rfl ?_
  refine r_fnV (M2 := m_X12_existingDrawer) (As := [.int (nI (d))]) (rest := []) (v := some (.ref (x + (190 + 5 * d)))) dX12_keep_2 cc_X12_keep_262 rfl rfl rfl (Nat.le_of_ble_eq_true rfl) h.1.t0 rfl rfl (by decide) (x_drawer h hd) rfl ?_
  refine r_astore (lv' := [(4, .ref (x + (190 + 5 * d))), (0, .ref (x)), (1, .int (nI (d))), (2, .int (y)), (3, .int (z))]) dX12_keep_5 (by decide) rfl ?_
  refine r_aload_n dX12_keep_7 rfl 1 rfl ?_
  refine r_iload_n dX12_keep_8 rfl 3 rfl ?_
  refine r_iload_n dX12_keep_9 rfl 4 rfl ?_
  exact r_ftV (M2 := m_X12_lotWithUnit) (As := [.int (y), .int (z)]) (rest := []) dX12_keep_10 cc_X12_keep_169 rfl rfl rfl (Nat.le_of_ble_eq_true rfl) h.1.t0 rfl rfl (by decide) (f_unit_no h.1.t0 h.1.p416 (h.1.off' hk0) hr.1 hr.2 (h.hc1 h1) (h.hu6 h2) hy2) rfl (fun y u h1 h2 => ⟨rfl, ⟨w, K, E, A, c, (h.X h1 h2).1, hp, hr, hD, ⟨np, hnp, e1, e2, hps, hq⟩, ⟨e3, hik, hk⟩, hF⟩, (h.X h1 h2).2.1⟩)
set_option maxRecDepth 4000 in
set_option maxHeartbeats 400000 in
theorem s_keep_1c {G : GI} {F : Nat → Prop} {S : Hp} {x bx bu : Nat} {D : Nat → Nat → Nat} {g : Nat → Nat} {N ps : Nat} {gq : Nat → Nat → Nat} {ik : Nat} {gk : Nat → Nat} (h : CSt F S x bx bu D g N ps gq ik gk) (h1 : bx + 1 ≤ gN G) (h2 : bu + 6 ≤ gM G) {d : Nat} (hd : d < 4) {l : Nat} (hl : l < g 0) {z : Int32} (hy2 : ¬ vp_in z (g (90 + 13 * l + 1))) : Cn m_X12_keep G [.ref (x), .int (nI (d)), .int (nI (l)), .int (z)] S (fun r T => r = .inr "java/lang/IndexOutOfBoundsException" ∧ CSt F T x (bx + 1) (bu + 6) D g N ps gq ik gk ∧ FrF F S T) := by
  refine Cn.of rfl (by decide) (Nat.le_of_ble_eq_true rfl) (fun hN hM => ?_)
  show Wx _ G _ 0 [(0, .ref (x)), (1, .int (nI (d))), (2, .int (nI (l))), (3, .int (z))] [] _
  obtain ⟨w, K, E, A, c, hX, hp, hr, hD, ⟨np, hnp, e1, e2, hps, hq⟩, ⟨e3, hik, hk⟩, hF⟩ := h
  have h : XF F S S w x K E A c bx bu := ⟨hX, FrF.rfl, hF⟩
  have hk0 : K 0 < 11 := (hp 0 (by decide)).1
  have n01 : K 0 ≠ K 1 := hp.ne (by decide) (by decide) (by decide)
  have n02 : K 0 ≠ 2 := (hp 0 (by decide)).2.1
  refine r_aload_n dX12_keep_0 rfl 0 rfl ?_
  refine r_iload_n dX12_keep_1 rfl 1 rfl ?_
  refine r_fnV (M2 := m_X12_existingDrawer) (As := [.int (nI (d))]) (rest := []) (v := some (.ref (x + (190 + 5 * d)))) dX12_keep_2 cc_X12_keep_262 rfl rfl rfl (Nat.le_of_ble_eq_true rfl) h.1.t0 rfl rfl (by decide) (x_drawer h hd) rfl ?_
  refine r_astore (lv' := [(4, .ref (x + (190 + 5 * d))), (0, .ref (x)), (1, .int (nI (d))), (2, .int (nI (l))), (3, .int (z))]) dX12_keep_5 (by decide) rfl ?_
  refine r_aload_n dX12_keep_7 rfl 1 rfl ?_
  refine r_iload_n dX12_keep_8 rfl 3 rfl ?_
  refine r_iload_n dX12_keep_9 rfl 4 rfl ?_
  exact r_ftV (M2 := m_X12_lotWithUnit) (As := [.int (nI (l)), .int (z)]) (rest := []) dX12_keep_10 cc_X12_keep_169 rfl rfl rfl (Nat.le_of_ble_eq_true rfl) h.1.t0 rfl rfl (by decide) (f_unit_nu h.1.t0 h.1.p416 (h.1.off' hk0) hr.1 hr.2 (h.hc1 h1) (h.hu6 h2) hl hy2) rfl (fun y u h1 h2 => ⟨rfl, ⟨w, K, E, A, c, (h.X h1 h2).1, hp, hr, hD, ⟨np, hnp, e1, e2, hps, hq⟩, ⟨e3, hik, hk⟩, hF⟩, (h.X h1 h2).2.1⟩)
set_option maxRecDepth 4000 in
set_option maxHeartbeats 400000 in
theorem s_keep_2 {G : GI} {F : Nat → Prop} {S : Hp} {x bx bu : Nat} {D : Nat → Nat → Nat} {g : Nat → Nat} {N ps : Nat} {gq : Nat → Nat → Nat} {ik : Nat} {gk : Nat → Nat} (h : CSt F S x bx bu D g N ps gq ik gk) (h1 : bx + 1 ≤ gN G) (h2 : bu + 6 ≤ gM G) {d n : Nat} (hd : d < 4) (hn : D 193 (190 + 5 * d) = n) (hn5 : n ≤ 5) {l u : Nat} (hl : l < g 0) (hu : u < g (90 + 13 * l + 1)) (h5 : n = 5) : Cn m_X12_keep G [.ref (x), .int (nI (d)), .int (nI (l)), .int (nI (u))] S (fun r T => r = .inr "java/lang/IllegalStateException" ∧ CSt F T x (bx + 1) (bu + 6) D g N ps gq ik gk ∧ FrF F S T) := by
  refine Cn.of rfl (by decide) (Nat.le_of_ble_eq_true rfl) (fun hN hM => ?_)
  show Wx _ G _ 0 [(0, .ref (x)), (1, .int (nI (d))), (2, .int (nI (l))), (3, .int (nI (u)))] [] _
  obtain ⟨w, K, E, A, c, hX, hp, hr, hD, ⟨np, hnp, e1, e2, hps, hq⟩, ⟨e3, hik, hk⟩, hF⟩ := h
  have h : XF F S S w x K E A c bx bu := ⟨hX, FrF.rfl, hF⟩
  have hk0 : K 0 < 11 := (hp 0 (by decide)).1
  have n01 : K 0 ≠ K 1 := hp.ne (by decide) (by decide) (by decide)
  have n02 : K 0 ≠ 2 := (hp 0 (by decide)).2.1
  have h24 := hr.1.n24
  have hl24 : l < 24 := by omega
  have hAl := hr.2 l hl
  have hL := hr.1.lot hl
  have hz := hL.z
  have hPb := (hr.1.p hL.pr).b
  have hrw := (hL.wu hu).2.1
  refine r_aload_n dX12_keep_0 rfl 0 rfl ?_
  refine r_iload_n dX12_keep_1 rfl 1 rfl ?_
  refine r_fnV (M2 := m_X12_existingDrawer) (As := [.int (nI (d))]) (rest := []) (v := some (.ref (x + (190 + 5 * d)))) dX12_keep_2 cc_X12_keep_262 rfl rfl rfl (Nat.le_of_ble_eq_true rfl) h.1.t0 rfl rfl (by decide) (x_drawer h hd) rfl ?_
  refine r_astore (lv' := [(4, .ref (x + (190 + 5 * d))), (0, .ref (x)), (1, .int (nI (d))), (2, .int (nI (l))), (3, .int (nI (u)))]) dX12_keep_5 (by decide) rfl ?_
  refine r_aload_n dX12_keep_7 rfl 1 rfl ?_
  refine r_iload_n dX12_keep_8 rfl 3 rfl ?_
  refine r_iload_n dX12_keep_9 rfl 4 rfl ?_
  refine r_fnV (M2 := m_X12_lotWithUnit) (As := [.int (nI (l)), .int (nI (u))]) (rest := []) (v := some (.ref (A (K 0) l))) dX12_keep_10 cc_X12_keep_169 rfl rfl rfl (Nat.le_of_ble_eq_true rfl) h.1.t0 rfl rfl (by decide) (f_unit h.1.t0 h.1.p416 (h.1.off' hk0) hr.1 hr.2 hl hu) rfl ?_
  refine r_astore (lv' := [(5, .ref (A (K 0) l)), (4, .ref (x + (190 + 5 * d))), (0, .ref (x)), (1, .int (nI (d))), (2, .int (nI (l))), (3, .int (nI (u)))]) dX12_keep_13 (by decide) rfl ?_
  refine r_aload dX12_keep_15 1 rfl ?_
  refine r_fnV (M2 := m_X4_isFull) (As := []) (rest := []) (v := some (.int (nI (1)))) dX12_keep_17 cc_X12_keep_272 rfl rfl rfl (Nat.le_of_ble_eq_true rfl) (h.1.td (by omega)) rfl rfl (by decide) (x_isFull1 h hd ((hD _ _ (by omega)).trans hn) hn5 h5) rfl ?_
  refine r_if_eqN (tgt := 31) dX12_keep_20 (by decide) (by omega) (fun zz20 => ?_) (fun zz20 => ?_)
  · exact absurd zz20 (by decide)
  · exact r_throw (ft_IS (by decide)) rfl dX12_keep_23 dX12_keep_26 dX12_keep_27 dX12_keep_30 (by decide) (h.hc1 h1) (h.hu6 h2) (fun y u h1 h2 h3 h4 => ⟨rfl, ⟨w, K, E, A, c, (h.X ⟨h1, h2⟩ ⟨h3, h4⟩).1, hp, hr, hD, ⟨np, hnp, e1, e2, hps, hq⟩, ⟨e3, hik, hk⟩, hF⟩, (h.X ⟨h1, h2⟩ ⟨h3, h4⟩).2.1⟩)
theorem bI_ex (p : Prop) : ∃ b, b < 2 ∧ bI p = nI b ∧ (b ≠ 0 ↔ p) := by
  by_cases h : p
  · exact ⟨1, by decide, bI_t h, fun _ => h, fun _ => by decide⟩
  · exact ⟨0, by decide, bI_f h, fun q => absurd rfl q, fun q => absurd q h⟩
theorem fitX_of {g : Nat → Nat} {k l u b : Nat} (hb : b ≠ 0 ↔ badG g l u) : fitX k b (rW (g (402 + 2 * (200 * l + u)))) ↔ fitP g k l u := by
  unfold fitX fitP
  rw [hb]
set_option maxRecDepth 4000 in
set_option maxHeartbeats 400000 in
theorem s_keep_3 {G : GI} {F : Nat → Prop} {S : Hp} {x bx bu : Nat} {D : Nat → Nat → Nat} {g : Nat → Nat} {N ps : Nat} {gq : Nat → Nat → Nat} {ik : Nat} {gk : Nat → Nat} (h : CSt F S x bx bu D g N ps gq ik gk) (h1 : bx + 1 ≤ gN G) (h2 : bu + 6 ≤ gM G) {d n : Nat} (hd : d < 4) (hn : D 193 (190 + 5 * d) = n) (hn5 : n ≤ 5) {kd : Nat} (hkd : D 192 (190 + 5 * d) = kd) (hk2 : kd ≤ 2) {l u : Nat} (hl : l < g 0) (hu : u < g (90 + 13 * l + 1)) (h5 : ¬ n = 5) (hf : ¬ fitP g kd l u) : Cn m_X12_keep G [.ref (x), .int (nI (d)), .int (nI (l)), .int (nI (u))] S (fun r T => r = .inr "java/lang/UnsupportedOperationException" ∧ CSt F T x (bx + 1) (bu + 6) D g N ps gq ik gk ∧ FrF F S T) := by
  refine Cn.of rfl (by decide) (Nat.le_of_ble_eq_true rfl) (fun hN hM => ?_)
  show Wx _ G _ 0 [(0, .ref (x)), (1, .int (nI (d))), (2, .int (nI (l))), (3, .int (nI (u)))] [] _
  obtain ⟨w, K, E, A, c, hX, hp, hr, hD, ⟨np, hnp, e1, e2, hps, hq⟩, ⟨e3, hik, hk⟩, hF⟩ := h
  have h : XF F S S w x K E A c bx bu := ⟨hX, FrF.rfl, hF⟩
  have hk0 : K 0 < 11 := (hp 0 (by decide)).1
  have n01 : K 0 ≠ K 1 := hp.ne (by decide) (by decide) (by decide)
  have n02 : K 0 ≠ 2 := (hp 0 (by decide)).2.1
  have h24 := hr.1.n24
  have hl24 : l < 24 := by omega
  have hAl := hr.2 l hl
  have hL := hr.1.lot hl
  have hz := hL.z
  have hPb := (hr.1.p hL.pr).b
  have hrw := (hL.wu hu).2.1
  obtain ⟨bv, hb2, hbb, hbv⟩ := bI_ex (badG g l u)
  have hfx : ¬ fitX kd bv (rW (g (402 + 2 * (200 * l + u)))) := fun q => hf ((fitX_of hbv).mp q)
  refine r_aload_n dX12_keep_0 rfl 0 rfl ?_
  refine r_iload_n dX12_keep_1 rfl 1 rfl ?_
  refine r_fnV (M2 := m_X12_existingDrawer) (As := [.int (nI (d))]) (rest := []) (v := some (.ref (x + (190 + 5 * d)))) dX12_keep_2 cc_X12_keep_262 rfl rfl rfl (Nat.le_of_ble_eq_true rfl) h.1.t0 rfl rfl (by decide) (x_drawer h hd) rfl ?_
  refine r_astore (lv' := [(4, .ref (x + (190 + 5 * d))), (0, .ref (x)), (1, .int (nI (d))), (2, .int (nI (l))), (3, .int (nI (u)))]) dX12_keep_5 (by decide) rfl ?_
  refine r_aload_n dX12_keep_7 rfl 1 rfl ?_
  refine r_iload_n dX12_keep_8 rfl 3 rfl ?_
  refine r_iload_n dX12_keep_9 rfl 4 rfl ?_
  refine r_fnV (M2 := m_X12_lotWithUnit) (As := [.int (nI (l)), .int (nI (u))]) (rest := []) (v := some (.ref (A (K 0) l))) dX12_keep_10 cc_X12_keep_169 rfl rfl rfl (Nat.le_of_ble_eq_true rfl) h.1.t0 rfl rfl (by decide) (f_unit h.1.t0 h.1.p416 (h.1.off' hk0) hr.1 hr.2 hl hu) rfl ?_
  refine r_astore (lv' := [(5, .ref (A (K 0) l)), (4, .ref (x + (190 + 5 * d))), (0, .ref (x)), (1, .int (nI (d))), (2, .int (nI (l))), (3, .int (nI (u)))]) dX12_keep_13 (by decide) rfl ?_
  refine r_aload dX12_keep_15 1 rfl ?_
  refine r_fnV (M2 := m_X4_isFull) (As := []) (rest := []) (v := some (.int (nI (0)))) dX12_keep_17 cc_X12_keep_272 rfl rfl rfl (Nat.le_of_ble_eq_true rfl) (h.1.td (by omega)) rfl rfl (by decide) (x_isFull0 h hd ((hD _ _ (by omega)).trans hn) hn5 h5) rfl ?_
  refine r_if_eqN (tgt := 31) dX12_keep_20 (by decide) (by omega) (fun zz20 => ?_) (fun zz20 => ?_)
  · refine r_aload dX12_keep_31 0 rfl ?_
    refine r_getR (ci := 7) (k := 13) (b := A (K 0) l + 4) dX12_keep_33 fr_X12_180 ((h.1.off' hk0).lo hl24 hAl).2.1 rfl ((h.1.off' hk0).lo hl24 hAl).2.2.1.2.2.2.1 ?_
    refine r_iload_n dX12_keep_36 rfl 5 rfl ?_
    refine r_iald dX12_keep_37 ((h.1.off' hk0).lo hl24 hAl).2.2.2.2.2.2.1.1 (by rw [show zN S (A (K 0) l + 4) = 200 from ((h.1.off' hk0).lo hl24 hAl).2.2.2.2.2.2.1.2]; exact vp_in_nI (by omega) (by decide)) ?_
    refine Wx.top (congrArg (zA _ _) (nI_clamp (by omega))) ?_
    refine Wx.top ((h.1.off' hk0).u2 hl24 hAl (by omega)) ?_
    refine Wx.topN (hL.u2 (by omega)) ?_
    refine r_istore (lv' := [(6, .int (nI (rW (g (402 + 2 * (200 * l + u)))))), (5, .ref (A (K 0) l)), (4, .ref (x + (190 + 5 * d))), (0, .ref (x)), (1, .int (nI (d))), (2, .int (nI (l))), (3, .int (nI (u)))]) dX12_keep_38 (by decide) rfl ?_
    refine r_aload dX12_keep_40 2 rfl ?_
    refine r_aload dX12_keep_42 1 rfl ?_
    refine r_iload_n dX12_keep_44 rfl 6 rfl ?_
    refine r_aload_n dX12_keep_45 rfl 3 rfl ?_
    refine r_getR (ci := 13) (k := 0) (b := Pl x (K 0)) dX12_keep_46 fr_X12_10 h.1.t0 rfl h.1.p416 ?_
    refine r_aload dX12_keep_49 1 rfl ?_
    refine r_fnV (M2 := m_X7_inspectedOf) (As := [.ref (A (K 0) l)]) (rest := [.int (nI (u)), .ref (A (K 0) l), .ref (x + (190 + 5 * d))]) (v := some (.int (nI (g (22 + 10 * g (90 + 13 * l + 0) + 1))))) dX12_keep_51 cc_X12_keep_159 rfl rfl rfl (Nat.le_of_ble_eq_true rfl) (h.1.off' (by omega)).1.1 rfl rfl (by decide) (o_inspectedOf (h.1.off' hk0) hr.1 hr.2 hl) rfl ?_
    refine r_fnV (M2 := m_X5_isBad) (As := [.int (nI (u)), .int (nI (g (22 + 10 * g (90 + 13 * l + 0) + 1)))]) (rest := [.ref (x + (190 + 5 * d))]) (v := some (.int (nI (bv)))) dX12_keep_54 cc_X12_keep_183 rfl rfl rfl (Nat.le_of_ble_eq_true rfl) ((h.1.off' hk0).lo hl24 hAl).2.1 rfl rfl (by decide) (Fn.eq (o_isBad (h.1.off' hk0) hr.1 hr.2 hl hu (by omega)) (congrArg (fun z => some (Value.int z)) hbb) rfl) rfl ?_
    refine r_iload dX12_keep_57 0 rfl ?_
    refine r_fnV (M2 := m_X4_takes) (As := [.int (nI (bv)), .int (nI (rW (g (402 + 2 * (200 * l + u)))))]) (rest := []) (v := some (.int (nI (0)))) dX12_keep_59 cc_X12_keep_276 rfl rfl rfl (Nat.le_of_ble_eq_true rfl) (h.1.td (by omega)) rfl rfl (by decide) (x_takes0 h hd ((hD _ _ (by omega)).trans hkd) hk2 hb2 hrw hfx) rfl ?_
    refine r_if_neN (tgt := 73) dX12_keep_62 (by decide) (by omega) (fun zz62 => ?_) (fun zz62 => ?_)
    · exact absurd zz62 (by decide)
    · exact r_throw (ft_UO (by decide)) rfl dX12_keep_65 dX12_keep_68 dX12_keep_69 dX12_keep_72 (by decide) (h.hc1 h1) (h.hu6 h2) (fun y u h1 h2 h3 h4 => ⟨rfl, ⟨w, K, E, A, c, (h.X ⟨h1, h2⟩ ⟨h3, h4⟩).1, hp, hr, hD, ⟨np, hnp, e1, e2, hps, hq⟩, ⟨e3, hik, hk⟩, hF⟩, (h.X ⟨h1, h2⟩ ⟨h3, h4⟩).2.1⟩)
  · exact absurd zz20 (by decide)
set_option maxRecDepth 4000 in
set_option maxHeartbeats 400000 in
theorem s_keep_0 {G : GI} {F : Nat → Prop} {S : Hp} {x bx bu : Nat} {D : Nat → Nat → Nat} {g : Nat → Nat} {N ps : Nat} {gq : Nat → Nat → Nat} {ik : Nat} {gk : Nat → Nat} (h : CSt F S x bx bu D g N ps gq ik gk) {d n : Nat} (hd : d < 4) (hn : D 193 (190 + 5 * d) = n) (hn5 : n ≤ 5) {kd : Nat} (hkd : D 192 (190 + 5 * d) = kd) (hk2 : kd ≤ 2) {l u : Nat} (hl : l < g 0) (hu : u < g (90 + 13 * l + 1)) (h5 : ¬ n = 5) (hf : fitP g kd l u) : Cn m_X12_keep G [.ref (x), .int (nI (d)), .int (nI (l)), .int (nI (u))] S (fun r T => r = .inl (some (.int (nI (n + 1)))) ∧ CSt F T x bx bu (up2 (up2 (up2 (up2 (up2 D (1000 + n) (190 + 5 * d + (1 + 0)) (l)) (1000 + n) (190 + 5 * d + (1 + 1)) (u)) (1000 + n) (190 + 5 * d + (1 + 2)) ((g (402 + 2 * (200 * l + u)) % 16))) (1000 + n) (190 + 5 * d + (1 + 3)) ((rW (g (402 + 2 * (200 * l + u)))))) 193 (190 + 5 * d) (n + 1)) g N ps gq ik gk ∧ FrF F S T) := by
  refine Cn.of rfl (by decide) (Nat.le_of_ble_eq_true rfl) (fun hN hM => ?_)
  show Wx _ G _ 0 [(0, .ref (x)), (1, .int (nI (d))), (2, .int (nI (l))), (3, .int (nI (u)))] [] _
  obtain ⟨w, K, E, A, c, hX, hp, hr, hD, ⟨np, hnp, e1, e2, hps, hq⟩, ⟨e3, hik, hk⟩, hF⟩ := h
  have h : XF F S S w x K E A c bx bu := ⟨hX, FrF.rfl, hF⟩
  have hk0 : K 0 < 11 := (hp 0 (by decide)).1
  have n01 : K 0 ≠ K 1 := hp.ne (by decide) (by decide) (by decide)
  have n02 : K 0 ≠ 2 := (hp 0 (by decide)).2.1
  have h24 := hr.1.n24
  have hl24 : l < 24 := by omega
  have hAl := hr.2 l hl
  have hL := hr.1.lot hl
  have hz := hL.z
  have hPb := (hr.1.p hL.pr).b
  have hrw := (hL.wu hu).2.1
  obtain ⟨bv, hb2, hbb, hbv⟩ := bI_ex (badG g l u)
  have hfx : fitX kd bv (rW (g (402 + 2 * (200 * l + u)))) := (fitX_of hbv).mpr hf
  refine r_aload_n dX12_keep_0 rfl 0 rfl ?_
  refine r_iload_n dX12_keep_1 rfl 1 rfl ?_
  refine r_fnV (M2 := m_X12_existingDrawer) (As := [.int (nI (d))]) (rest := []) (v := some (.ref (x + (190 + 5 * d)))) dX12_keep_2 cc_X12_keep_262 rfl rfl rfl (Nat.le_of_ble_eq_true rfl) h.1.t0 rfl rfl (by decide) (x_drawer h hd) rfl ?_
  refine r_astore (lv' := [(4, .ref (x + (190 + 5 * d))), (0, .ref (x)), (1, .int (nI (d))), (2, .int (nI (l))), (3, .int (nI (u)))]) dX12_keep_5 (by decide) rfl ?_
  refine r_aload_n dX12_keep_7 rfl 1 rfl ?_
  refine r_iload_n dX12_keep_8 rfl 3 rfl ?_
  refine r_iload_n dX12_keep_9 rfl 4 rfl ?_
  refine r_fnV (M2 := m_X12_lotWithUnit) (As := [.int (nI (l)), .int (nI (u))]) (rest := []) (v := some (.ref (A (K 0) l))) dX12_keep_10 cc_X12_keep_169 rfl rfl rfl (Nat.le_of_ble_eq_true rfl) h.1.t0 rfl rfl (by decide) (f_unit h.1.t0 h.1.p416 (h.1.off' hk0) hr.1 hr.2 hl hu) rfl ?_
  refine r_astore (lv' := [(5, .ref (A (K 0) l)), (4, .ref (x + (190 + 5 * d))), (0, .ref (x)), (1, .int (nI (d))), (2, .int (nI (l))), (3, .int (nI (u)))]) dX12_keep_13 (by decide) rfl ?_
  refine r_aload dX12_keep_15 1 rfl ?_
  refine r_fnV (M2 := m_X4_isFull) (As := []) (rest := []) (v := some (.int (nI (0)))) dX12_keep_17 cc_X12_keep_272 rfl rfl rfl (Nat.le_of_ble_eq_true rfl) (h.1.td (by omega)) rfl rfl (by decide) (x_isFull0 h hd ((hD _ _ (by omega)).trans hn) hn5 h5) rfl ?_
  refine r_if_eqN (tgt := 31) dX12_keep_20 (by decide) (by omega) (fun zz20 => ?_) (fun zz20 => ?_)
  · refine r_aload dX12_keep_31 0 rfl ?_
    refine r_getR (ci := 7) (k := 13) (b := A (K 0) l + 4) dX12_keep_33 fr_X12_180 ((h.1.off' hk0).lo hl24 hAl).2.1 rfl ((h.1.off' hk0).lo hl24 hAl).2.2.1.2.2.2.1 ?_
    refine r_iload_n dX12_keep_36 rfl 5 rfl ?_
    refine r_iald dX12_keep_37 ((h.1.off' hk0).lo hl24 hAl).2.2.2.2.2.2.1.1 (by rw [show zN S (A (K 0) l + 4) = 200 from ((h.1.off' hk0).lo hl24 hAl).2.2.2.2.2.2.1.2]; exact vp_in_nI (by omega) (by decide)) ?_
    refine Wx.top (congrArg (zA _ _) (nI_clamp (by omega))) ?_
    refine Wx.top ((h.1.off' hk0).u2 hl24 hAl (by omega)) ?_
    refine Wx.topN (hL.u2 (by omega)) ?_
    refine r_istore (lv' := [(6, .int (nI (rW (g (402 + 2 * (200 * l + u)))))), (5, .ref (A (K 0) l)), (4, .ref (x + (190 + 5 * d))), (0, .ref (x)), (1, .int (nI (d))), (2, .int (nI (l))), (3, .int (nI (u)))]) dX12_keep_38 (by decide) rfl ?_
    refine r_aload dX12_keep_40 2 rfl ?_
    refine r_aload dX12_keep_42 1 rfl ?_
    refine r_iload_n dX12_keep_44 rfl 6 rfl ?_
    refine r_aload_n dX12_keep_45 rfl 3 rfl ?_
    refine r_getR (ci := 13) (k := 0) (b := Pl x (K 0)) dX12_keep_46 fr_X12_10 h.1.t0 rfl h.1.p416 ?_
    refine r_aload dX12_keep_49 1 rfl ?_
    refine r_fnV (M2 := m_X7_inspectedOf) (As := [.ref (A (K 0) l)]) (rest := [.int (nI (u)), .ref (A (K 0) l), .ref (x + (190 + 5 * d))]) (v := some (.int (nI (g (22 + 10 * g (90 + 13 * l + 0) + 1))))) dX12_keep_51 cc_X12_keep_159 rfl rfl rfl (Nat.le_of_ble_eq_true rfl) (h.1.off' (by omega)).1.1 rfl rfl (by decide) (o_inspectedOf (h.1.off' hk0) hr.1 hr.2 hl) rfl ?_
    refine r_fnV (M2 := m_X5_isBad) (As := [.int (nI (u)), .int (nI (g (22 + 10 * g (90 + 13 * l + 0) + 1)))]) (rest := [.ref (x + (190 + 5 * d))]) (v := some (.int (nI (bv)))) dX12_keep_54 cc_X12_keep_183 rfl rfl rfl (Nat.le_of_ble_eq_true rfl) ((h.1.off' hk0).lo hl24 hAl).2.1 rfl rfl (by decide) (Fn.eq (o_isBad (h.1.off' hk0) hr.1 hr.2 hl hu (by omega)) (congrArg (fun z => some (Value.int z)) hbb) rfl) rfl ?_
    refine r_iload dX12_keep_57 0 rfl ?_
    refine r_fnV (M2 := m_X4_takes) (As := [.int (nI (bv)), .int (nI (rW (g (402 + 2 * (200 * l + u)))))]) (rest := []) (v := some (.int (nI (1)))) dX12_keep_59 cc_X12_keep_276 rfl rfl rfl (Nat.le_of_ble_eq_true rfl) (h.1.td (by omega)) rfl rfl (by decide) (x_takes1 h hd ((hD _ _ (by omega)).trans hkd) hk2 hb2 hrw hfx) rfl ?_
    refine r_if_neN (tgt := 73) dX12_keep_62 (by decide) (by omega) (fun zz62 => ?_) (fun zz62 => ?_)
    · refine r_aload dX12_keep_73 2 rfl ?_
      refine r_iload_n dX12_keep_75 rfl 5 rfl ?_
      refine r_iload_n dX12_keep_76 rfl 6 rfl ?_
      refine r_aload dX12_keep_77 1 rfl ?_
      refine r_getR (ci := 7) (k := 12) (b := A (K 0) l + 3) dX12_keep_79 fr_X12_177 ((h.1.off' hk0).lo hl24 hAl).2.1 rfl ((h.1.off' hk0).lo hl24 hAl).2.2.1.2.2.1 ?_
      refine r_iload_n dX12_keep_82 rfl 6 rfl ?_
      refine r_iald dX12_keep_83 ((h.1.off' hk0).lo hl24 hAl).2.2.2.2.2.1.1 (by rw [show zN S (A (K 0) l + 3) = 200 from ((h.1.off' hk0).lo hl24 hAl).2.2.2.2.2.1.2]; exact vp_in_nI (by omega) (by decide)) ?_
      refine Wx.top (congrArg (zA _ _) (nI_clamp (by omega))) ?_
      refine Wx.top ((h.1.off' hk0).u1 hl24 hAl (by omega)) ?_
      refine Wx.topN (hL.u1 (by omega)) ?_
      refine r_iload dX12_keep_84 0 rfl ?_
      refine r_callV (M2 := m_X4_add) (As := [.int (nI (l)), .int (nI (u)), .int (nI (g (402 + 2 * (200 * l + u)) % 16)), .int (nI (rW (g (402 + 2 * (200 * l + u)))))]) (rest := []) dX12_keep_86 cc_X12_keep_283 rfl rfl rfl (Nat.le_of_ble_eq_true rfl) (h.1.td (by omega)) rfl rfl (by decide) (x_add h hd ((hD _ _ (by omega)).trans hn) hn5 (by omega)) (fun v9 T hq => ?_) (fun E9 T9 hq => by cases hq.1)
      obtain ⟨hv9, hx⟩ := hq
      cases hv9
      show Wx _ G T 89 [(6, .int (nI (rW (g (402 + 2 * (200 * l + u)))))), (5, .ref (A (K 0) l)), (4, .ref (x + (190 + 5 * d))), (0, .ref (x)), (1, .int (nI (d))), (2, .int (nI (l))), (3, .int (nI (u)))] [] _
      refine r_aload dX12_keep_89 2 rfl ?_
      refine r_getI (ci := 6) (k := 1) dX12_keep_91 fr_X12_266 (hx.1.td (by omega)) rfl ?_
      refine Wx.top (hx.1.i (f := 193) (mT_d0 (by omega)) (by decide)) ?_
      refine Wx.topN u2_s ?_
      exact r_iret (ty := .int) dX12_keep_94 rfl rfl ⟨rfl, ⟨w, K, _, A, c, hx.1, hp, hr, (dd_up (dd_up (dd_up (dd_up (dd_up hD))))), ⟨np, hnp, ((u2_n (by omega)).trans ((u2_n (by omega)).trans ((u2_n (by omega)).trans ((u2_n (by omega)).trans ((u2_n (by omega)).trans e1))))), ((u2_n (by omega)).trans ((u2_n (by omega)).trans ((u2_n (by omega)).trans ((u2_n (by omega)).trans ((u2_n (by omega)).trans e2))))), hps, hq⟩, ⟨((u2_n (by omega)).trans ((u2_n (by omega)).trans ((u2_n (by omega)).trans ((u2_n (by omega)).trans ((u2_n (by omega)).trans e3))))), hik, hk⟩, hx.2.2⟩, hx.2.1⟩
    · exact absurd zz62 (by decide)
  · exact absurd zz20 (by decide)
