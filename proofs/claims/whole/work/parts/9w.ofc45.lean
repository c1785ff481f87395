theorem cst_paper {F : Nat → Prop} {S T : Hp} {w' : Nat → Nat} {x bx' bu' : Nat} {K : Nat → Nat} {E E' D A c : Nat → Nat → Nat} {g : Nat → Nat} {N np ps ik v : Nat} {gq : Nat → Nat → Nat} {gk : Nat → Nat} (hp : Perm K) (hr : Hol (A (K 0)) (c (K 0)) g N) (hD : ∀ f a, (a = 52 ∨ a = 55 ∨ a = 56 ∨ 190 ≤ a ∨ a = 51 ∧ (f = 161 ∨ f = 163)) → E f a = D f a) (hnp : np < 8) (e1 : E 419 0 = np) (e2 : E 420 0 = ps) (hps : ps ≤ 8) (hq : ∀ j, j < ps → Hol (A (K (pasI np j))) (c (K (pasI np j))) (gq j) N) (e3 : E 422 0 = ik) (hik : ik < 2) (hk : ik = 1 → Hol (A 2) (c 2) gk N) (hx : XF F S T w' x (up1 K 10 v) E' A c bx' bu') (hE : ∀ f a, a ≠ 55 → a ≠ 56 → E' f a = E f a) : ∃ D', CSt F T x bx' bu' D' g N ps gq ik gk ∧ (∀ f a, a ≠ 55 → a ≠ 56 → D' f a = D f a) ∧ ∀ f a, a = 55 ∨ a = 56 → D' f a = E' f a := by
  refine ⟨fun f a => if a = 55 ∨ a = 56 then E' f a else D f a, ⟨w', _, E', A, c, hx.1, fun i hi => ?_, ?_, fun f a ha => ?_, ⟨np, hnp, (hE _ _ (by decide) (by decide)).trans e1, (hE _ _ (by decide) (by decide)).trans e2, hps, fun j hj => ?_⟩, ⟨(hE _ _ (by decide) (by decide)).trans e3, hik, hk⟩, hx.2.2⟩, fun f a h1 h2 => if_neg (by omega), fun f a h => if_pos h⟩
  · rw [up1_n (by omega)]
    refine ⟨(hp i hi).1, (hp i hi).2.1, fun j hj => ?_⟩
    rw [up1_n (by omega)]
    exact (hp i hi).2.2 j hj
  · rw [up1_n (by decide)]; exact hr
  · by_cases q : a = 55 ∨ a = 56
    · exact (if_pos q).symm
    · exact ((hE f a (by omega) (by omega)).trans (hD f a ha)).trans (if_neg q).symm
  · rw [up1_n (by have := pasI_lt (np := np) (j := j); omega)]; exact hq j hj
set_option maxRecDepth 4000 in
set_option maxHeartbeats 400000 in
theorem s_report_0 {G : GI} {F : Nat → Prop} {S : Hp} {x bx bu : Nat} {D : Nat → Nat → Nat} {g : Nat → Nat} {N ps : Nat} {gq : Nat → Nat → Nat} {ik : Nat} {gk : Nat → Nat} (h : CSt F S x bx bu D g N ps gq ik gk) {pp : List (Nat × Nat)} (hpd : PD D pp) (g1 : bx + fX (D 999 56) ≤ gN G) (g2 : bu + fU (D 999 56) ≤ gM G) (hNb : N < 2147483648) {l : Nat} (hl : l < g 0) : Cn m_X12_report G [.ref x, .int (nI l)] S (fun r T => r = .inl (some (.int (nI (tL (rep g l))))) ∧ ∃ D' bx' bu', CSt F T x bx' bu' D' g N ps gq ik gk ∧ FrF F S T ∧ PD D' (rep g l) ∧ (∀ f a, a ≠ 55 → a ≠ 56 → D' f a = D f a) ∧ bx' + fX (D' 999 56) ≤ bx + fX (D 999 56) ∧ bu' + fU (D' 999 56) ≤ bu + fU (D 999 56)) := by
  refine Cn.of rfl (by decide) (Nat.le_of_ble_eq_true rfl) (fun hN hM => ?_)
  show Wx _ G _ 0 [(0, .ref (x)), (1, .int (nI (l)))] [] _
  obtain ⟨w, K, E, A, c, hX, hp, hr, hD, ⟨np, hnp, e1, e2, hps, hq⟩, ⟨e3, hik, hk⟩, hF⟩ := h
  have h : XF F S S w x K E A c bx bu := ⟨hX, FrF.rfl, hF⟩
  have hk0 : K 0 < 11 := (hp 0 (by decide)).1
  have n01 : K 0 ≠ K 1 := hp.ne (by decide) (by decide) (by decide)
  have n02 : K 0 ≠ 2 := (hp 0 (by decide)).2.1
  have hpE : PD E pp := hpd.congr (fun f a ha => hD f a (by omega))
  rw [← hD 999 56 (by decide)] at g1 g2
  have hxb := h.1.2.2.1
  obtain ⟨y, hj, -⟩ := h.pst hpE
  replace g1 : zX S + fX (E 999 56) ≤ gN G := by omega
  replace g2 : zU S + fU (E 999 56) ≤ gM G := by omega
  have h24 := hr.1.n24
  refine r_aload_n dX12_report_0 rfl 0 rfl ?_
  refine r_iload_n dX12_report_1 rfl 1 rfl ?_
  refine r_fnV (M2 := m_X12_existingLot) (As := [.int (nI (l))]) (rest := []) (v := some (.ref (A (K 0) l))) dX12_report_2 cc_X12_report_152 rfl rfl rfl (Nat.le_of_ble_eq_true rfl) h.1.t0 rfl rfl (by decide) (f_lot h.1.t0 h.1.p416 (h.1.off' hk0) hr.1 hr.2 hl) rfl ?_
  refine r_astore_n (lv' := [(2, .ref (A (K 0) l)), (0, .ref (x)), (1, .int (nI (l)))]) dX12_report_5 rfl (by decide) rfl ?_
  refine r_aload_n dX12_report_6 rfl 1 rfl ?_
  refine r_getR (ci := 13) (k := 9) (b := x + 54) dX12_report_7 fr_X12_42 h.1.t0 rfl h.1.p425 ?_
  refine r_iload_n dX12_report_10 rfl 2 rfl ?_
  refine r_aload_n dX12_report_11 rfl 0 rfl ?_
  refine r_callV (M2 := m_X10_write) (As := [.int (nI (l)), .ref (A (K 0) l)]) (rest := []) dX12_report_12 cc_X12_report_327 rfl rfl rfl (Nat.le_of_ble_eq_true rfl) h.1.t54 rfl rfl (by decide) (x_write h hk0 hNb hr hl hj g1 g2) (fun v9 T9 hq9 => ?_) (fun E9 T9 hq9 => by cases hq9.1)
  obtain ⟨hv9, ht⟩ := hq9
  cases hv9
  obtain ⟨w', v', E', hx', hPD, hE, hfx, hfu⟩ := h.paper ht
  show Wx _ G T9 15 [(2, .ref (A (K 0) l)), (0, .ref (x)), (1, .int (nI (l)))] [] _
  refine r_aload_n dX12_report_15 rfl 1 rfl ?_
  refine r_getR (ci := 13) (k := 9) (b := x + 54) dX12_report_16 fr_X12_42 hx'.1.t0 rfl hx'.1.p425 ?_
  refine r_getR (ci := 12) (k := 0) (b := x + 55) dX12_report_19 fr_X12_331 hx'.1.t54 rfl hx'.1.p384 ?_
  refine r_fnV (M2 := m_J4_length_8abf5) (As := []) (rest := []) (v := some (.int (nI (tL (rep g l))))) dX12_report_22 cc_X12_report_335 rfl rfl rfl (Nat.le_of_ble_eq_true rfl) hx'.1.t55 rfl rfl (by decide) (t_len ht) rfl ?_
  obtain ⟨D', hC, hD1, hD2⟩ := cst_paper hp hr hD hnp e1 e2 hps hq e3 hik hk hx' hE
  refine r_iret (ty := .int) dX12_report_25 rfl rfl ⟨rfl, D', _, _, hC, hx'.2.1, hPD.congr hD2, hD1, ?_, ?_⟩
  · rw [hD2 _ _ (Or.inr rfl), ← hD _ _ (by decide)]; omega
  · rw [hD2 _ _ (Or.inr rfl), ← hD _ _ (by decide)]; omega
set_option maxRecDepth 4000 in
set_option maxHeartbeats 400000 in
theorem s_report_1 {G : GI} {F : Nat → Prop} {S : Hp} {x bx bu : Nat} {D : Nat → Nat → Nat} {g : Nat → Nat} {N ps : Nat} {gq : Nat → Nat → Nat} {ik : Nat} {gk : Nat → Nat} (h : CSt F S x bx bu D g N ps gq ik gk) (h1 : bx + 1 ≤ gN G) (h2 : bu + 6 ≤ gM G) {y : Int32} (hno : ¬ vp_in y (g 0)) : Cn m_X12_report G [.ref (x), .int (y)] S (fun r T => r = .inr "java/lang/IndexOutOfBoundsException" ∧ CSt F T x (bx + 1) (bu + 6) D g N ps gq ik gk ∧ FrF F S T) := by
  refine Cn.of rfl (by decide) (Nat.le_of_ble_eq_true rfl) (fun hN hM => ?_)
  show Wx _ G _ 0 [(0, .ref (x)), (1, .int (y))] [] _
  obtain ⟨w, K, E, A, c, hX, hp, hr, hD, ⟨np, hnp, e1, e2, hps, hq⟩, ⟨e3, hik, hk⟩, hF⟩ := h
  have h : XF F S S w x K E A c bx bu := ⟨hX, FrF.rfl, hF⟩
  have hk0 : K 0 < 11 := (hp 0 (by decide)).1
  have n01 : K 0 ≠ K 1 := hp.ne (by decide) (by decide) (by decide)
  have n02 : K 0 ≠ 2 := (hp 0 (by decide)).2.1
  refine r_aload_n dX12_report_0 rfl 0 rfl ?_
  refine r_iload_n dX12_report_1 rfl 1 rfl ?_
  exact r_ftV (M2 := m_X12_existingLot) (As := [.int (y)]) (rest := []) dX12_report_2 cc_X12_report_152 rfl rfl rfl (Nat.le_of_ble_eq_true rfl) h.1.t0 rfl rfl (by decide) (f_lot_no h.1.t0 h.1.p416 (h.1.off' hk0) hr.1 hr.2 (h.hc1 h1) (h.hu6 h2) hno) rfl (fun y u h1 h2 => ⟨rfl, ⟨w, K, E, A, c, (h.X h1 h2).1, hp, hr, hD, ⟨np, hnp, e1, e2, hps, hq⟩, ⟨e3, hik, hk⟩, hF⟩, (h.X h1 h2).2.1⟩)
set_option maxRecDepth 4000 in
set_option maxHeartbeats 400000 in
theorem s_character_0 {G : GI} {F : Nat → Prop} {S : Hp} {x bx bu : Nat} {D : Nat → Nat → Nat} {g : Nat → Nat} {N ps : Nat} {gq : Nat → Nat → Nat} {ik : Nat} {gk : Nat → Nat} (h : CSt F S x bx bu D g N ps gq ik gk) {pp : List (Nat × Nat)} (hpd : PD D pp) {i : Nat} (hi : i < tL pp) : Cn m_X12_character G [.ref x, .int (nI i)] S (fun r T => r = .inl (some (.int (nI (tB pp i)))) ∧ CSt F T x bx bu D g N ps gq ik gk ∧ FrF F S T) := by
  refine Cn.of rfl (by decide) (Nat.le_of_ble_eq_true rfl) (fun hN hM => ?_)
  show Wx _ G _ 0 [(0, .ref (x)), (1, .int (nI (i)))] [] _
  obtain ⟨w, K, E, A, c, hX, hp, hr, hD, ⟨np, hnp, e1, e2, hps, hq⟩, ⟨e3, hik, hk⟩, hF⟩ := h
  have h : XF F S S w x K E A c bx bu := ⟨hX, FrF.rfl, hF⟩
  have hk0 : K 0 < 11 := (hp 0 (by decide)).1
  have n01 : K 0 ≠ K 1 := hp.ne (by decide) (by decide) (by decide)
  have n02 : K 0 ≠ 2 := (hp 0 (by decide)).2.1
  have hpE : PD E pp := hpd.congr (fun f a ha => hD f a (by omega))
  obtain ⟨y, hj, hyb⟩ := h.pst hpE
  have hTX : TX S (x + 55) (K 10) (E 999 56) pp S := ⟨_, _, _, hj, hyb⟩
  have hc := hj.c142
  have hle := hj.le
  refine r_iload_n dX12_character_0 rfl 1 rfl ?_
  refine r_if_ltN (tgt := 18) dX12_character_1 (by decide) (by omega) ?_
  refine r_iload_n dX12_character_4 rfl 1 rfl ?_
  refine r_aload_n dX12_character_5 rfl 0 rfl ?_
  refine r_getR (ci := 13) (k := 9) (b := x + 54) dX12_character_6 fr_X12_42 h.1.t0 rfl h.1.p425 ?_
  refine r_getR (ci := 12) (k := 0) (b := x + 55) dX12_character_9 fr_X12_331 h.1.t54 rfl h.1.p384 ?_
  refine r_fnV (M2 := m_J4_length_8abf5) (As := []) (rest := [.int (nI (i))]) (v := some (.int (nI (tL pp)))) dX12_character_12 cc_X12_character_335 rfl rfl rfl (Nat.le_of_ble_eq_true rfl) h.1.t55 rfl rfl (by decide) (t_len hTX) rfl ?_
  refine r_icmp_ltN (tgt := 26) dX12_character_15 (by decide) (by omega) (by omega) (fun h15 => ?_) (fun h15 => ?_)
  · refine r_aload_n dX12_character_26 rfl 0 rfl ?_
    refine r_getR (ci := 13) (k := 9) (b := x + 54) dX12_character_27 fr_X12_42 h.1.t0 rfl h.1.p425 ?_
    refine r_getR (ci := 12) (k := 0) (b := x + 55) dX12_character_30 fr_X12_331 h.1.t54 rfl h.1.p384 ?_
    refine r_iload_n dX12_character_33 rfl 1 rfl ?_
    refine r_fnV (M2 := m_J4_charAt_5068e) (As := [.int (nI (i))]) (rest := []) (v := some (.int (nI (tB pp i)))) dX12_character_34 cc_X12_character_339 rfl rfl rfl (Nat.le_of_ble_eq_true rfl) h.1.t55 rfl rfl (by decide) (by have q9 := j_charAt (G := G) hj hi; rw [hyb i hi] at q9; exact q9) rfl ?_
    exact r_iret (ty := .char) dX12_character_37 rfl (show narrow .char (.int (nI (tB pp i))) = .int (nI (tB pp i)) from (pk_charN (by have := hj.lt i; rw [hyb i hi] at this; omega)).1) ⟨rfl, ⟨w, K, E, A, c, h.1, hp, hr, hD, ⟨np, hnp, e1, e2, hps, hq⟩, ⟨e3, hik, hk⟩, h.2.2⟩, h.2.1⟩
  · exact absurd hi h15
set_option maxRecDepth 4000 in
set_option maxHeartbeats 400000 in
theorem s_character_1 {G : GI} {F : Nat → Prop} {S : Hp} {x bx bu : Nat} {D : Nat → Nat → Nat} {g : Nat → Nat} {N ps : Nat} {gq : Nat → Nat → Nat} {ik : Nat} {gk : Nat → Nat} (h : CSt F S x bx bu D g N ps gq ik gk) (h1 : bx + 1 ≤ gN G) (h2 : bu + 6 ≤ gM G) {pp : List (Nat × Nat)} (hpd : PD D pp) {z : Int32} (hz : ¬ vp_in z (tL pp)) : Cn m_X12_character G [.ref (x), .int (z)] S (fun r T => r = .inr "java/lang/IndexOutOfBoundsException" ∧ CSt F T x (bx + 1) (bu + 6) D g N ps gq ik gk ∧ FrF F S T) := by
  refine Cn.of rfl (by decide) (Nat.le_of_ble_eq_true rfl) (fun hN hM => ?_)
  show Wx _ G _ 0 [(0, .ref (x)), (1, .int (z))] [] _
  obtain ⟨w, K, E, A, c, hX, hp, hr, hD, ⟨np, hnp, e1, e2, hps, hq⟩, ⟨e3, hik, hk⟩, hF⟩ := h
  have h : XF F S S w x K E A c bx bu := ⟨hX, FrF.rfl, hF⟩
  have hk0 : K 0 < 11 := (hp 0 (by decide)).1
  have n01 : K 0 ≠ K 1 := hp.ne (by decide) (by decide) (by decide)
  have n02 : K 0 ≠ 2 := (hp 0 (by decide)).2.1
  have hpE : PD E pp := hpd.congr (fun f a ha => hD f a (by omega))
  obtain ⟨y, hj, hyb⟩ := h.pst hpE
  have hTX : TX S (x + 55) (K 10) (E 999 56) pp S := ⟨_, _, _, hj, hyb⟩
  have hc := hj.c142
  have hle := hj.le
  refine r_iload_n dX12_character_0 rfl 1 rfl ?_
  refine r_if_lt (tgt := 18) dX12_character_1 (by decide) (fun h1_1 => ?_) (fun h1_1 => ?_)
  · exact r_throw (ft_IO (by decide)) rfl dX12_character_18 dX12_character_21 dX12_character_22 dX12_character_25 (by decide) (h.hc1 h1) (h.hu6 h2) (fun y u h1 h2 h3 h4 => ⟨rfl, ⟨w, K, E, A, c, (h.X ⟨h1, h2⟩ ⟨h3, h4⟩).1, hp, hr, hD, ⟨np, hnp, e1, e2, hps, hq⟩, ⟨e3, hik, hk⟩, hF⟩, (h.X ⟨h1, h2⟩ ⟨h3, h4⟩).2.1⟩)
  · refine r_iload_n dX12_character_4 rfl 1 rfl ?_
    refine r_aload_n dX12_character_5 rfl 0 rfl ?_
    refine r_getR (ci := 13) (k := 9) (b := x + 54) dX12_character_6 fr_X12_42 h.1.t0 rfl h.1.p425 ?_
    refine r_getR (ci := 12) (k := 0) (b := x + 55) dX12_character_9 fr_X12_331 h.1.t54 rfl h.1.p384 ?_
    refine r_fnV (M2 := m_J4_length_8abf5) (As := []) (rest := [.int (z)]) (v := some (.int (nI (tL pp)))) dX12_character_12 cc_X12_character_335 rfl rfl rfl (Nat.le_of_ble_eq_true rfl) h.1.t55 rfl rfl (by decide) (t_len hTX) rfl ?_
    refine r_icmp_lt (tgt := 26) dX12_character_15 (by decide) (fun h15 => ?_) (fun h15 => ?_)
    · exact absurd (vp_lt (by omega) h1_1 h15) hz
    · exact r_throw (ft_IO (by decide)) rfl dX12_character_18 dX12_character_21 dX12_character_22 dX12_character_25 (by decide) (h.hc1 h1) (h.hu6 h2) (fun y u h1 h2 h3 h4 => ⟨rfl, ⟨w, K, E, A, c, (h.X ⟨h1, h2⟩ ⟨h3, h4⟩).1, hp, hr, hD, ⟨np, hnp, e1, e2, hps, hq⟩, ⟨e3, hik, hk⟩, hF⟩, (h.X ⟨h1, h2⟩ ⟨h3, h4⟩).2.1⟩)
