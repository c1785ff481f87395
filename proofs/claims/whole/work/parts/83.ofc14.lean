theorem ins1_z1 {l : Nat} (h0 : l < 24) : 90 + 13 * l + 4 ≠ 90 + 13 * l + 5 := by omega
theorem ins1_z2 {l : Nat} (h0 : l < 24) : 90 + 13 * l + 7 ≠ 90 + 13 * l + 3 := by omega
theorem ins1_z3 {l : Nat} (h0 : l < 24) : 90 + 13 * l + 6 ≠ 90 + 13 * l + 3 := by omega
theorem ins1_z4 {l p : Nat} (h0 : l < 24) (h1 : p < 4) : 22 + 10 * p + 8 ≠ 90 + 13 * l + 2 := by omega
theorem ins1_z5 {l p : Nat} (h0 : l < 24) (h1 : p < 4) : 22 + 10 * p + 8 ≠ 90 + 13 * l + 3 := by omega
theorem ins1_z6 {l : Nat} (h0 : l < 24) : 90 + 13 * l + 5 ≠ 90 + 13 * l + 2 := by omega
theorem ins1_z7 {l : Nat} (h0 : l < 24) : 90 + 13 * l + 5 ≠ 90 + 13 * l + 3 := by omega
theorem ins1_z8 {p : Nat} (h0 : p < 4) : 22 + 10 * p + 9 ≠ 22 + 10 * p + 8 := by omega
theorem ins1_z9 {l p : Nat} (h0 : l < 24) (h1 : p < 4) : 22 + 10 * p + 9 ≠ 90 + 13 * l + 2 := by omega
theorem ins1_z10 {l p : Nat} (h0 : l < 24) (h1 : p < 4) : 22 + 10 * p + 9 ≠ 90 + 13 * l + 3 := by omega
theorem ins1_z11 {l p : Nat} (h0 : l < 24) (h1 : p < 4) : 90 + 13 * l + 7 ≠ 22 + 10 * p + 8 := by omega
theorem ins1_z12 {l : Nat} (h0 : l < 24) : 90 + 13 * l + 7 ≠ 90 + 13 * l + 2 := by omega
theorem ins1_z13 {l : Nat} (h0 : l < 24) : 90 + 13 * l + 7 ≠ 90 + 13 * l + 3 := by omega
theorem ins1_z14 {l p : Nat} (h0 : l < 24) (h1 : p < 4) : 90 + 13 * l + 7 ≠ 22 + 10 * p + 9 := by omega
theorem ins1_z15 {l p : Nat} (h0 : l < 24) (h1 : p < 4) : 90 + 13 * l + 7 ≠ 22 + 10 * p + 8 := by omega
theorem ins1_z16 {l : Nat} (h0 : l < 24) : 90 + 13 * l + 7 ≠ 90 + 13 * l + 2 := by omega
theorem ins1_z17 {l : Nat} (h0 : l < 24) : 90 + 13 * l + 7 ≠ 90 + 13 * l + 3 := by omega
theorem ins1_z18 {l p : Nat} (h0 : l < 24) (h1 : p < 4) : 90 + 13 * l + 6 ≠ 22 + 10 * p + 9 := by omega
theorem ins1_z19 {l p : Nat} (h0 : l < 24) (h1 : p < 4) : 90 + 13 * l + 6 ≠ 22 + 10 * p + 8 := by omega
theorem ins1_z20 {l : Nat} (h0 : l < 24) : 90 + 13 * l + 6 ≠ 90 + 13 * l + 2 := by omega
theorem ins1_z21 {l : Nat} (h0 : l < 24) : 90 + 13 * l + 6 ≠ 90 + 13 * l + 3 := by omega
theorem ins1_z22 {l p : Nat} (h0 : l < 24) (h1 : p < 4) : 22 + 10 * p + 8 ≠ 90 + 13 * l + 2 := by omega
theorem ins1_z23 {l p : Nat} (h0 : l < 24) (h1 : p < 4) : 22 + 10 * p + 8 ≠ 90 + 13 * l + 3 := by omega
theorem ins1_z24 {l : Nat} (h0 : l < 24) : 90 + 13 * l + 5 ≠ 90 + 13 * l + 2 := by omega
theorem ins1_z25 {l : Nat} (h0 : l < 24) : 90 + 13 * l + 5 ≠ 90 + 13 * l + 3 := by omega
theorem ins1_z26 {p : Nat} (h0 : p < 4) : 22 + 10 * p + 9 ≠ 22 + 10 * p + 8 := by omega
theorem ins1_z27 {l p : Nat} (h0 : l < 24) (h1 : p < 4) : 22 + 10 * p + 9 ≠ 90 + 13 * l + 2 := by omega
theorem ins1_z28 {l p : Nat} (h0 : l < 24) (h1 : p < 4) : 22 + 10 * p + 9 ≠ 90 + 13 * l + 3 := by omega
theorem ins1_z29 {l p : Nat} (h0 : l < 24) (h1 : p < 4) : 90 + 13 * l + 7 ≠ 22 + 10 * p + 8 := by omega
theorem ins1_z30 {l : Nat} (h0 : l < 24) : 90 + 13 * l + 7 ≠ 90 + 13 * l + 2 := by omega
theorem ins1_z31 {l : Nat} (h0 : l < 24) : 90 + 13 * l + 7 ≠ 90 + 13 * l + 3 := by omega
theorem ins1_z32 {l p : Nat} (h0 : l < 24) (h1 : p < 4) : 90 + 13 * l + 7 ≠ 22 + 10 * p + 9 := by omega
theorem ins1_z33 {l p : Nat} (h0 : l < 24) (h1 : p < 4) : 90 + 13 * l + 7 ≠ 22 + 10 * p + 8 := by omega
theorem ins1_z34 {l : Nat} (h0 : l < 24) : 90 + 13 * l + 7 ≠ 90 + 13 * l + 2 := by omega
theorem ins1_z35 {l : Nat} (h0 : l < 24) : 90 + 13 * l + 7 ≠ 90 + 13 * l + 3 := by omega
theorem ins1_z36 {l p : Nat} (h0 : l < 24) (h1 : p < 4) : 90 + 13 * l + 6 ≠ 22 + 10 * p + 9 := by omega
theorem ins1_z37 {l p : Nat} (h0 : l < 24) (h1 : p < 4) : 90 + 13 * l + 6 ≠ 22 + 10 * p + 8 := by omega
theorem ins1_z38 {l : Nat} (h0 : l < 24) : 90 + 13 * l + 6 ≠ 90 + 13 * l + 2 := by omega
theorem ins1_z39 {l : Nat} (h0 : l < 24) : 90 + 13 * l + 6 ≠ 90 + 13 * l + 3 := by omega
theorem ins1_z40 {ek l : Nat} (h0 : l < 24) : 402 + 8 * (200 * l + ek) + 1 ≠ 402 + 8 * (200 * l + ek) := by omega
theorem ins1_z41 {ek l : Nat} (h0 : l < 24) : 402 + 8 * (200 * l + ek) + 1 ≠ 90 + 13 * l + 7 := by omega
theorem ins1_z42 {ek l p : Nat} (h0 : l < 24) (h1 : p < 4) : 22 + 10 * p + 1 ≠ 402 + 8 * (200 * l + ek) := by omega
theorem ins1_z43 {l p : Nat} (h0 : l < 24) (h1 : p < 4) : 22 + 10 * p + 1 ≠ 90 + 13 * l + 7 := by omega
set_option maxRecDepth 4000 in
set_option maxHeartbeats 400000 in
theorem ch_insp1 {G : GI} {S : Hp} {w : Nat → Nat} {k o : Nat} {A c g : Nat → Nat} {N : Nat} (h : OR S w k o A c) (hr : Rel c g N) (hal : ∀ l, l < g 0 → A l ≠ 0) {l : Nat} (hl : l < g 0) {p n v s a : Nat} (hp : g (90 + 13 * l + 0) = p) (hF : g (90 + 13 * l + 3) = 0) (hv : g (22 + 10 * p + 3) = v) (hn : inS g l 0 = n) (hsm : smpN n v = s) (hal9 : alwN s (g (22 + 10 * p)) v = a) (hok : ¬ (¬ g (90 + 13 * l + 2) = 0 ∨ inS g l 0 = 0 ∨ g (22 + 10 * p + 3) = 3)) {e : Nat → Nat} (hD : DrawE g l n s e) {cc : Nat → Nat → Nat} (hcc : CauA g l (g (90 + 13 * l + 1)) (g (22 + 10 * g (90 + 13 * l + 0) + 1)) cc) (hNb : N < 2147470000) : OCx m_X7_inspectLot G [.ref (o), .int (nI (l))] S w k o A (some (.int (nI (cnt (DB g l e s) (g (90 + 13 * l + 1)))))) (up1 (swtG (up1 (up1 (up1 (up1 (up1 (up1 (up1 (insI g l cc e s (g (90 + 13 * l + 1))) (90 + 13 * l + 2) (if a < cnt (DB g l e s) (g (90 + 13 * l + 1)) then 2 else 1)) (90 + 13 * l + 4) v) (90 + 13 * l + 5) s) (90 + 13 * l + 6) a) (90 + 13 * l + 7) (cnt (DB g l e s) (g (90 + 13 * l + 1)))) (22 + 10 * p + 8) (g (22 + 10 * p + 8) + s)) (22 + 10 * p + 9) (g (22 + 10 * p + 9) + cnt (DB g l e s) (g (90 + 13 * l + 1)))) (22 + 10 * p) (cnt (DB g l e s) (g (90 + 13 * l + 1))) a) (90 + 13 * l + 3) (g (90 + 13 * l + 3) + 1)) (N + 1000) := by
  refine Cn.of rfl (by decide) (Nat.le_of_ble_eq_true rfl) (fun hN hM => ?_)
  show Wx _ G _ 0 [(0, .ref (o)), (1, .int (nI (l)))] [] _
  have hx := OX.refl h
  have h24 := hr.n24
  have hl24 : l < 24 := by omega
  have hAl := hal l hl
  have hL := hr.lot hl
  have hz := hL.z
  have hp4 : p < 4 := by have := hL.pr; omega
  have hpb := (hr.p hp4).b
  have hcst := hL.st
  have hcin := hL.1.2.2.2.1
  have hsl := smpN_le n v
  have hn200 : n ≤ 200 := by rw [← hn]; exact Nat.le_trans (cnt_le _ _) hz
  have hs32 : s ≤ 32 ∧ s ≤ n := by rw [← hsm]; exact ⟨hsl.2, hsl.1⟩
  have ha10 : a ≤ 10 := by rw [← hal9]; exact alwN_le hs32.1 hpb.1
  have hok1 : g (90 + 13 * l + 2) = 0 := Classical.not_not.mp fun q => hok (Or.inl q)
  have hok2 : ¬ n = 0 := fun q => hok (Or.inr (Or.inl (hn.trans q)))
  have hok3 : ¬ g (22 + 10 * p + 3) = 3 := fun q => hok (Or.inr (Or.inr q))
  have hv2 : v < 3 := by omega
  have hv3 : ¬ v = 3 := by omega
  refine r_aload_n dX7_inspectLot_0 rfl 0 rfl ?_
  refine r_iload_n dX7_inspectLot_1 rfl 1 rfl ?_
  refine r_fnV (M2 := m_X7_lotAt) (As := [.int (nI (l))]) (rest := []) (v := some (.ref (A l))) dX7_inspectLot_2 cc_X7_inspectLot_105 rfl rfl rfl (Nat.le_of_ble_eq_true rfl) hx.1.1.1 rfl rfl (by decide) (o_lotAt hx.1 hr hal (l := l) (by (first | omega | (refine Nat.lt_of_le_of_lt Nat.and_le_left ?_; first | omega | (refine Nat.lt_of_le_of_lt Nat.and_le_left ?_; omega))))) rfl ?_
  refine r_astore_n (lv' := [(2, .ref (A l)), (0, .ref (o)), (1, .int (nI (l)))]) dX7_inspectLot_5 rfl (by decide) rfl ?_
  refine r_aload_n dX7_inspectLot_6 rfl 0 rfl ?_
  refine r_ifnonnull (tgt := 12) dX7_inspectLot_7 (by decide) ?_
  refine r_aload_n dX7_inspectLot_12 rfl 1 rfl ?_
  refine r_aload_n dX7_inspectLot_13 rfl 0 rfl ?_
  refine r_getI (ci := 7) (k := 0) dX7_inspectLot_14 fr_X7_72 (hx.1.lo hl24 hAl).2.1 rfl ?_
  refine Wx.top (hx.1.l0 hl24 hAl) ?_
  refine Wx.topN (hL.h (f := 0) (by decide)) ?_
  refine Wx.topN hp ?_
  refine r_fnV (M2 := m_X7_productAt) (As := [.int (nI (p))]) (rest := []) (v := some (.ref (o + 12 + p))) dX7_inspectLot_17 cc_X7_inspectLot_75 rfl rfl rfl (Nat.le_of_ble_eq_true rfl) hx.1.1.1 rfl rfl (by decide) (k_productAt hx.1.1 (by (first | omega | (refine Nat.lt_of_le_of_lt Nat.and_le_left ?_; first | omega | (refine Nat.lt_of_le_of_lt Nat.and_le_left ?_; omega))))) rfl ?_
  refine r_astore_n (lv' := [(3, .ref (o + 12 + p)), (2, .ref (A l)), (0, .ref (o)), (1, .int (nI (l)))]) dX7_inspectLot_20 rfl (by decide) rfl ?_
  refine r_aload_n dX7_inspectLot_21 rfl 2 rfl ?_
  refine r_aload_n dX7_inspectLot_22 rfl 1 rfl ?_
  refine r_oexV (M2 := m_X7_listDrawable) (As := [.ref (A l)]) (rest := []) (v := some (.int (nI n))) dX7_inspectLot_23 cc_X7_inspectLot_154 rfl rfl rfl (Nat.le_of_ble_eq_true rfl) hx.1.1.1 rfl rfl (by decide) hx (hn ▸ o_list hx.1 hr hal hl) rfl (fun T cd (hx : OX S w A T w k o A cd) hcd => ?_)
  have hrd : Rel cd g N := Rel.dr hcd.1 hr
  refine r_istore (lv' := [(4, .int (nI (n))), (3, .ref (o + 12 + p)), (2, .ref (A l)), (0, .ref (o)), (1, .int (nI (l)))]) dX7_inspectLot_26 (by decide) rfl ?_
  refine r_aload_n dX7_inspectLot_28 rfl 1 rfl ?_
  refine r_ifnull dX7_inspectLot_29 ?_
  refine r_aload_n dX7_inspectLot_32 rfl 2 rfl ?_
  refine r_getI (ci := 7) (k := 3) dX7_inspectLot_33 fr_X7_108 (hx.1.lo hl24 hAl).2.1 rfl ?_
  refine Wx.top (hx.1.l3 hl24 hAl) ?_
  refine Wx.topN ((hrd.lot (l := l) (by (first | omega | (refine Nat.lt_of_le_of_lt Nat.and_le_left ?_; first | omega | (refine Nat.lt_of_le_of_lt Nat.and_le_left ?_; omega))))).h (f := 2) (by decide)) ?_
  refine r_if_neN (tgt := 52) dX7_inspectLot_36 (by decide) (by (first | omega | (refine Nat.lt_of_le_of_lt Nat.and_le_left ?_; first | omega | (refine Nat.lt_of_le_of_lt Nat.and_le_left ?_; omega)))) (fun h36 => ?_) (fun h36 => ?_)
  · exact absurd hok1 h36
  · refine r_iload dX7_inspectLot_39 0 rfl ?_
    refine r_if_eqN (tgt := 52) dX7_inspectLot_41 (by decide) (by (first | omega | (refine Nat.lt_of_le_of_lt Nat.and_le_left ?_; first | omega | (refine Nat.lt_of_le_of_lt Nat.and_le_left ?_; omega)))) (fun h41 => ?_) (fun h41 => ?_)
    · exact absurd h41 hok2
    · refine r_aload_n dX7_inspectLot_44 rfl 1 rfl ?_
      refine r_getI (ci := 10) (k := 3) dX7_inspectLot_45 fr_X7_98 (hx.1.1.2.2.2.2.2.2.2.2 p (by (first | omega | (refine Nat.lt_of_le_of_lt Nat.and_le_left ?_; first | omega | (refine Nat.lt_of_le_of_lt Nat.and_le_left ?_; omega))))).2 rfl ?_
      refine Wx.top (hx.1.p3 (i := p) (by (first | omega | (refine Nat.lt_of_le_of_lt Nat.and_le_left ?_; first | omega | (refine Nat.lt_of_le_of_lt Nat.and_le_left ?_; omega))))) ?_
      refine Wx.topN ((hrd.p (p := p) (by (first | omega | (refine Nat.lt_of_le_of_lt Nat.and_le_left ?_; first | omega | (refine Nat.lt_of_le_of_lt Nat.and_le_left ?_; omega))))).cf (f := 3) (by decide)) ?_
      refine Wx.topN hv ?_
      refine r_iconst (v := nI 3) dX7_inspectLot_48 (by decide) ?_
      refine r_icmp_neN (tgt := 55) dX7_inspectLot_49 (by decide) (by (first | omega | (refine Nat.lt_of_le_of_lt Nat.and_le_left ?_; first | omega | (refine Nat.lt_of_le_of_lt Nat.and_le_left ?_; omega)))) (by (first | omega | (refine Nat.lt_of_le_of_lt Nat.and_le_left ?_; first | omega | (refine Nat.lt_of_le_of_lt Nat.and_le_left ?_; omega)))) (fun h49 => ?_) (fun h49 => ?_)
      · refine r_aload_n dX7_inspectLot_55 rfl 2 rfl ?_
        refine r_getI (ci := 7) (k := 4) dX7_inspectLot_56 fr_X7_158 (hx.1.lo hl24 hAl).2.1 rfl ?_
        refine Wx.top (hx.1.l4 hl24 hAl) ?_
        refine Wx.topN ((hrd.lot (l := l) (by (first | omega | (refine Nat.lt_of_le_of_lt Nat.and_le_left ?_; first | omega | (refine Nat.lt_of_le_of_lt Nat.and_le_left ?_; omega))))).h (f := 3) (by decide)) ?_
        refine r_if_neN (tgt := 66) dX7_inspectLot_59 (by decide) (by (first | omega | (refine Nat.lt_of_le_of_lt Nat.and_le_left ?_; first | omega | (refine Nat.lt_of_le_of_lt Nat.and_le_left ?_; omega)))) (fun h59 => ?_) (fun h59 => ?_)
        · exact absurd hF h59
        · refine r_iconst (v := nI 1) dX7_inspectLot_62 (by decide) ?_
          refine r_goto (tgt := 67) dX7_inspectLot_63 (by decide) ?_
          refine r_istore (lv' := [(5, .int (nI (1))), (4, .int (nI (n))), (3, .ref (o + 12 + p)), (2, .ref (A l)), (0, .ref (o)), (1, .int (nI (l)))]) dX7_inspectLot_67 (by decide) rfl ?_
          refine r_aload_n dX7_inspectLot_69 rfl 3 rfl ?_
          refine r_iload dX7_inspectLot_70 0 rfl ?_
          refine r_if_eqN (tgt := 82) dX7_inspectLot_72 (by decide) (by (first | omega | (refine Nat.lt_of_le_of_lt Nat.and_le_left ?_; first | omega | (refine Nat.lt_of_le_of_lt Nat.and_le_left ?_; omega)))) (fun zz72 => ?_) (fun zz72 => ?_)
          · exact absurd zz72 (by decide)
          · refine r_aload_n dX7_inspectLot_75 rfl 2 rfl ?_
            refine r_getI (ci := 10) (k := 3) dX7_inspectLot_76 fr_X7_98 (hx.1.1.2.2.2.2.2.2.2.2 p (by (first | omega | (refine Nat.lt_of_le_of_lt Nat.and_le_left ?_; first | omega | (refine Nat.lt_of_le_of_lt Nat.and_le_left ?_; omega))))).2 rfl ?_
            refine Wx.top (hx.1.p3 (i := p) (by (first | omega | (refine Nat.lt_of_le_of_lt Nat.and_le_left ?_; first | omega | (refine Nat.lt_of_le_of_lt Nat.and_le_left ?_; omega))))) ?_
            refine Wx.topN ((hrd.p (p := p) (by (first | omega | (refine Nat.lt_of_le_of_lt Nat.and_le_left ?_; first | omega | (refine Nat.lt_of_le_of_lt Nat.and_le_left ?_; omega))))).cf (f := 3) (by decide)) ?_
            refine Wx.topN hv ?_
            refine r_goto (tgt := 83) dX7_inspectLot_79 (by decide) ?_
            refine r_putI (ci := 7) (k := 5) dX7_inspectLot_83 fw_X7_inspectLot_161 (hx.1.lo hl24 hAl).2.1 rfl rfl rfl ?_
            refine Wx.gx ((hx.L (f := 5) hl24 hAl (by decide))) (fun T_1 (hx_1 : OX S w A T_1 w k o A (up1 cd (90 + 13 * l + 4) (v))) => ?_)
            refine r_aload_n dX7_inspectLot_86 rfl 3 rfl ?_
            refine r_iload dX7_inspectLot_87 1 rfl ?_
            refine r_aload_n dX7_inspectLot_89 rfl 3 rfl ?_
            refine r_getI (ci := 7) (k := 5) dX7_inspectLot_90 fr_X7_161 (hx_1.1.lo hl24 hAl).2.1 rfl ?_
            refine Wx.top (hx_1.1.l5 hl24 hAl) ?_
            refine Wx.topN up1_s ?_
            refine r_fnS (M2 := m_X8_sampleSize) (As := [.int (nI (n)), .int (nI (v))]) (rest := [.ref (A l)]) (v := some (.int (nI (s)))) dX7_inspectLot_93 cc_X7_inspectLot_162 rfl rfl rfl (Nat.le_of_ble_eq_true rfl) (by have q9 := k_sample (G := G) (S := T_1) (n := n) (v := v) (by omega) (by omega); rw [show smpN n v = s from hsm] at q9; exact q9) rfl ?_
            refine r_putI (ci := 7) (k := 6) dX7_inspectLot_96 fw_X7_inspectLot_165 (hx_1.1.lo hl24 hAl).2.1 rfl rfl rfl ?_
            refine Wx.gx ((hx_1.L (f := 6) hl24 hAl (by decide))) (fun T_2 (hx_2 : OX S w A T_2 w k o A (up1 (up1 cd (90 + 13 * l + 4) (v)) (90 + 13 * l + 5) (s))) => ?_)
            refine r_aload_n dX7_inspectLot_99 rfl 3 rfl ?_
            refine r_aload_n dX7_inspectLot_100 rfl 2 rfl ?_
            refine r_aload_n dX7_inspectLot_101 rfl 3 rfl ?_
            refine r_getI (ci := 7) (k := 6) dX7_inspectLot_102 fr_X7_165 (hx_2.1.lo hl24 hAl).2.1 rfl ?_
            refine Wx.top (hx_2.1.l6 hl24 hAl) ?_
            refine Wx.topN up1_s ?_
            refine r_aload_n dX7_inspectLot_105 rfl 3 rfl ?_
            refine r_getI (ci := 7) (k := 5) dX7_inspectLot_106 fr_X7_161 (hx_2.1.lo hl24 hAl).2.1 rfl ?_
            refine Wx.top (hx_2.1.l5 hl24 hAl) ?_
            refine Wx.topN (up1_n (ins1_z1 hl24)) ?_
            refine Wx.topN up1_s ?_
            refine r_fnV (M2 := m_X8_allowedIn) (As := [.int (nI (s)), .int (nI (v))]) (rest := [.ref (A l)]) (v := some (.int (nI (a)))) dX7_inspectLot_109 cc_X7_inspectLot_168 rfl rfl rfl (Nat.le_of_ble_eq_true rfl) (hx_2.1.1.2.2.2.2.2.2.2.2 p (by (first | omega | (refine Nat.lt_of_le_of_lt Nat.and_le_left ?_; first | omega | (refine Nat.lt_of_le_of_lt Nat.and_le_left ?_; omega))))).2 rfl rfl (by decide) (by have q9 := k_allowed (G := G) (q := g (22 + 10 * p)) (hx_2.1.1.2.2.2.2.2.2.2.2 p (by (first | omega | (refine Nat.lt_of_le_of_lt Nat.and_le_left ?_; first | omega | (refine Nat.lt_of_le_of_lt Nat.and_le_left ?_; omega))))).2 ((hx_2.1.p0 (i := p) hp4).trans (congrArg nI (by rw [up1_n (by omega), up1_n (by omega), (hrd.p hp4).c0]))) (s := s) (v := v) (by omega) (by omega) (by omega); rw [show alwN s (g (22 + 10 * p)) v = a from hal9] at q9; exact q9) rfl ?_
            refine r_putI (ci := 7) (k := 7) dX7_inspectLot_112 fw_X7_inspectLot_171 (hx_2.1.lo hl24 hAl).2.1 rfl rfl rfl ?_
            refine Wx.gx ((hx_2.L (f := 7) hl24 hAl (by decide))) (fun T_3 (hx_3 : OX S w A T_3 w k o A (up1 (up1 (up1 cd (90 + 13 * l + 4) (v)) (90 + 13 * l + 5) (s)) (90 + 13 * l + 6) (a))) => ?_)
            refine r_aload_n dX7_inspectLot_115 rfl 3 rfl ?_
            refine r_iconst (v := nI 0) dX7_inspectLot_116 (by decide) ?_
            refine r_putI (ci := 7) (k := 8) dX7_inspectLot_117 fw_X7_inspectLot_174 (hx_3.1.lo hl24 hAl).2.1 rfl rfl rfl ?_
            refine Wx.gx ((hx_3.L (f := 8) hl24 hAl (by decide))) (fun T_4 (hx_4 : OX S w A T_4 w k o A (up1 (up1 (up1 (up1 cd (90 + 13 * l + 4) (v)) (90 + 13 * l + 5) (s)) (90 + 13 * l + 6) (a)) (90 + 13 * l + 7) (0))) => ?_)
            refine r_iconst (v := nI 0) dX7_inspectLot_120 (by decide) ?_
            refine r_istore (lv' := [(6, .int (nI (0))), (5, .int (nI (1))), (4, .int (nI (n))), (3, .ref (o + 12 + p)), (2, .ref (A l)), (0, .ref (o)), (1, .int (nI (l)))]) dX7_inspectLot_121 (by decide) rfl ?_
            have hr0 : Rel (up1 (up1 (up1 (up1 cd (90 + 13 * l + 4) (v)) (90 + 13 * l + 5) (s)) (90 + 13 * l + 6) (a)) (90 + 13 * l + 7) (0)) (GF g l cc e (g (90 + 13 * l + 1)) v s a 0) (N + 4 * 0) := Rel.i0 hrd hl hv2 (by omega) (by omega)
            have hd0 : LD (HD g l e 0) (up1 (up1 (up1 (up1 cd (90 + 13 * l + 4) (v)) (90 + 13 * l + 5) (s)) (90 + 13 * l + 6) (a)) (90 + 13 * l + 7) (0)) (n - 0) (g (90 + 13 * l + 1)) := LD.congr (fun v => ⟨fun q => ⟨q, fun ⟨z, hz, _⟩ => absurd hz (Nat.not_lt_zero z)⟩, fun q => q.1⟩) (fun j hj => by rw [up1_n (by omega), up1_n (by omega), up1_n (by omega), up1_n (by omega)]) hcd.2
            refine Wx.sub [5, 6, 4, 3, 2, 1, 0] rfl ?_
            refine Wx.loopR (fun dk T lv => ∃ c, OX S w A T w k o A c ∧ (Rel c (GF g l cc e (g (90 + 13 * l + 1)) v s a dk) (N + 4 * dk) ∧ LD (HD g l e dk) c (n - dk) (g (90 + 13 * l + 1))) ∧ lv = [(0, .ref (o)), (1, .int (nI (l))), (2, .ref (A l)), (3, .ref (o + 12 + p)), (4, .int (nI (n))), (5, .int (nI (1))), (6, .int (nI (dk)))]) (s) (0) (Nat.zero_le _) ⟨_, hx_4, ⟨hr0, hd0⟩, rfl⟩ (fun dk T_5 lv hge hle hI9 next => ?_)
            obtain ⟨c, hx_5, hP, rfl⟩ := hI9
            have hG3 : GF g l cc e (g (90 + 13 * l + 1)) v s a dk 3 = sdI g dk := by rw [GF_n (by omega), insI_3 hcc.1]
            have hGh : ∀ i, i ≠ 3 → (i < 62 ∨ 90 ≤ i) → (i < 90 + 13 * l + 4 ∨ 90 + 13 * l + 7 < i) → i < 402 → GF g l cc e (g (90 + 13 * l + 1)) v s a dk i = g i := fun i h1 h2 h3 h4 => by rw [GF_n h3]; exact insI_o hcc.1 h1 h2 _ (fun z _ => by omega)
            have hG7 : GF g l cc e (g (90 + 13 * l + 1)) v s a dk (90 + 13 * l + 7) = cnt (DB g l e dk) (g (90 + 13 * l + 1)) := GF_4.2.2.2
            have hks : g (22 + 10 * p + 1) < 16 := hpb.2.1
            have hfle : cnt (DB g l e dk) (g (90 + 13 * l + 1)) ≤ dk := DB_le dk
            have hfz : cnt (DB g l e dk) (g (90 + 13 * l + 1)) ≤ g (90 + 13 * l + 1) := cnt_le _ _
            have hG0 := hGh 0 (by omega) (by omega) (by omega) (by omega)
            have hLk := hP.1.lot (l := l) (by rw [hG0]; exact hl)
            have hkD : dk < s → e dk < g (90 + 13 * l + 1) ∧ sW (g (402 + 2 * (200 * l + e dk))) = 0 ∧ (¬ ∃ q, q < dk ∧ e dk = e q) ∧ cnt (HD g l e dk) (e dk) = sdI g (dk + 1) / 65536 % (n - dk) := fun q9 => hD dk q9
            have hfn := GF_4 (g := g) (l := l) (cc := cc) (e := e) (n := g (90 + 13 * l + 1)) (v := v) (s := s) (a := a) (k := dk)
            refine r_iload dX7_inspectLot_123 6 rfl ?_
            refine r_aload_n dX7_inspectLot_125 rfl 2 rfl ?_
            refine r_getI (ci := 7) (k := 6) dX7_inspectLot_126 fr_X7_165 (hx_5.1.lo hl24 hAl).2.1 rfl ?_
            refine Wx.top (hx_5.1.l6 hl24 hAl) ?_
            refine Wx.topN (((hLk).h (f := 5) (by decide)).trans hfn.2.1) ?_
            refine r_icmp_geN (tgt := 199) dX7_inspectLot_129 (by decide) (by (first | omega | (refine Nat.lt_of_le_of_lt Nat.and_le_left ?_; first | omega | (refine Nat.lt_of_le_of_lt Nat.and_le_left ?_; omega)))) (by (first | omega | (refine Nat.lt_of_le_of_lt Nat.and_le_left ?_; first | omega | (refine Nat.lt_of_le_of_lt Nat.and_le_left ?_; omega)))) (fun h129 => ?_) (fun h129 => ?_)
            · obtain rfl : s = dk := by omega
              refine r_aload_n dX7_inspectLot_199 rfl 2 rfl ?_
              refine r_dup dX7_inspectLot_200 rfl ?_
              refine r_getI (ci := 7) (k := 4) dX7_inspectLot_201 fr_X7_158 (hx_5.1.lo hl24 hAl).2.1 rfl ?_
              refine Wx.top (hx_5.1.l4 hl24 hAl) ?_
              refine Wx.topN (hLk.h (f := 3) (by decide)) ?_
              refine Wx.topN (show (GF g l cc e (g (90 + 13 * l + 1)) v s a s) (90 + 13 * l + 3) = g (90 + 13 * l + 3) from congrArg (fun z => z) (hGh _ (by omega) (by omega) (by omega) (by omega))) ?_
              refine r_iconst (v := nI 1) dX7_inspectLot_204 (by decide) ?_
              refine r_iaddN dX7_inspectLot_205 ?_
              refine r_putI (ci := 7) (k := 4) dX7_inspectLot_206 fw_X7_inspectLot_158 (hx_5.1.lo hl24 hAl).2.1 rfl rfl rfl ?_
              refine Wx.gx ((hx_5.L (f := 4) hl24 hAl (by decide))) (fun T_6 (hx_6 : OX S w A T_6 w k o A (up1 c (90 + 13 * l + 3) (g (90 + 13 * l + 3) + 1))) => ?_)
              refine r_aload_n dX7_inspectLot_209 rfl 2 rfl ?_
              refine r_aload_n dX7_inspectLot_210 rfl 2 rfl ?_
              refine r_getI (ci := 7) (k := 8) dX7_inspectLot_211 fr_X7_174 (hx_6.1.lo hl24 hAl).2.1 rfl ?_
              refine Wx.top (hx_6.1.l8 hl24 hAl) ?_
              refine Wx.topN (up1_n (ins1_z2 hl24)) ?_
              refine Wx.topN (((hLk).h (f := 7) (by decide)).trans hfn.2.2.2) ?_
              refine r_aload_n dX7_inspectLot_214 rfl 2 rfl ?_
              refine r_getI (ci := 7) (k := 7) dX7_inspectLot_215 fr_X7_171 (hx_6.1.lo hl24 hAl).2.1 rfl ?_
              refine Wx.top (hx_6.1.l7 hl24 hAl) ?_
              refine Wx.topN (up1_n (ins1_z3 hl24)) ?_
              refine Wx.topN (((hLk).h (f := 6) (by decide)).trans hfn.2.2.1) ?_
              refine r_icmp_leN (tgt := 225) dX7_inspectLot_218 (by decide) (by (first | omega | (refine Nat.lt_of_le_of_lt Nat.and_le_left ?_; first | omega | (refine Nat.lt_of_le_of_lt Nat.and_le_left ?_; omega)))) (by (first | omega | (refine Nat.lt_of_le_of_lt Nat.and_le_left ?_; first | omega | (refine Nat.lt_of_le_of_lt Nat.and_le_left ?_; omega)))) (fun h218 => ?_) (fun h218 => ?_)
              · refine r_iconst (v := nI 1) dX7_inspectLot_225 (by decide) ?_
                refine r_putI (ci := 7) (k := 3) dX7_inspectLot_226 fw_X7_inspectLot_108 (hx_6.1.lo hl24 hAl).2.1 rfl rfl rfl ?_
                refine Wx.gx ((hx_6.L (f := 3) hl24 hAl (by decide))) (fun T_7 (hx_7 : OX S w A T_7 w k o A (up1 (up1 c (90 + 13 * l + 3) (g (90 + 13 * l + 3) + 1)) (90 + 13 * l + 2) (1))) => ?_)
                refine r_iload dX7_inspectLot_229 5 rfl ?_
                refine r_if_eqN (tgt := 272) dX7_inspectLot_231 (by decide) (by (first | omega | (refine Nat.lt_of_le_of_lt Nat.and_le_left ?_; first | omega | (refine Nat.lt_of_le_of_lt Nat.and_le_left ?_; omega)))) (fun zz231 => ?_) (fun zz231 => ?_)
                · exact absurd zz231 (by decide)
                · refine r_aload_n dX7_inspectLot_234 rfl 3 rfl ?_
                  refine r_dup dX7_inspectLot_235 rfl ?_
                  refine r_getI (ci := 10) (k := 7) dX7_inspectLot_236 fr_X7_186 (hx_7.1.1.2.2.2.2.2.2.2.2 p (by (first | omega | (refine Nat.lt_of_le_of_lt Nat.and_le_left ?_; first | omega | (refine Nat.lt_of_le_of_lt Nat.and_le_left ?_; omega))))).2 rfl ?_
                  refine Wx.top (hx_7.1.p7 (i := p) (by (first | omega | (refine Nat.lt_of_le_of_lt Nat.and_le_left ?_; first | omega | (refine Nat.lt_of_le_of_lt Nat.and_le_left ?_; omega))))) ?_
                  refine Wx.topN (up1_n (ins1_z4 hl24 hp4)) ?_
                  refine Wx.topN (up1_n (ins1_z5 hl24 hp4)) ?_
                  refine Wx.topN (hP.1.p (p := p) (by (first | omega | (refine Nat.lt_of_le_of_lt Nat.and_le_left ?_; first | omega | (refine Nat.lt_of_le_of_lt Nat.and_le_left ?_; omega))))).c8 ?_
                  refine Wx.topN (show (GF g l cc e (g (90 + 13 * l + 1)) v s a s) (22 + 10 * p + 8) = g (22 + 10 * p + 8) from congrArg (fun z => z) (hGh _ (by omega) (by omega) (by omega) (by omega))) ?_
                  refine r_aload_n dX7_inspectLot_239 rfl 2 rfl ?_
                  refine r_getI (ci := 7) (k := 6) dX7_inspectLot_240 fr_X7_165 (hx_7.1.lo hl24 hAl).2.1 rfl ?_
                  refine Wx.top (hx_7.1.l6 hl24 hAl) ?_
                  refine Wx.topN (up1_n (ins1_z6 hl24)) ?_
                  refine Wx.topN (up1_n (ins1_z7 hl24)) ?_
                  refine Wx.topN (((hLk).h (f := 5) (by decide)).trans hfn.2.1) ?_
                  refine r_iaddN dX7_inspectLot_243 ?_
                  refine r_putI (ci := 10) (k := 7) dX7_inspectLot_244 fw_X7_inspectLot_186 (hx_7.1.1.2.2.2.2.2.2.2.2 p (by (first | omega | (refine Nat.lt_of_le_of_lt Nat.and_le_left ?_; first | omega | (refine Nat.lt_of_le_of_lt Nat.and_le_left ?_; omega))))).2 rfl rfl rfl ?_
                  refine Wx.gx ((hx_7.P (i := p) (f := 7) (by (first | omega | (refine Nat.lt_of_le_of_lt Nat.and_le_left ?_; first | omega | (refine Nat.lt_of_le_of_lt Nat.and_le_left ?_; omega)))) (by decide))) (fun T_8 (hx_8 : OX S w A T_8 w k o A (up1 (up1 (up1 c (90 + 13 * l + 3) (g (90 + 13 * l + 3) + 1)) (90 + 13 * l + 2) (1)) (22 + 10 * p + 8) (g (22 + 10 * p + 8) + s))) => ?_)
                  refine r_aload_n dX7_inspectLot_247 rfl 3 rfl ?_
                  refine r_dup dX7_inspectLot_248 rfl ?_
                  refine r_getI (ci := 10) (k := 8) dX7_inspectLot_249 fr_X7_189 (hx_8.1.1.2.2.2.2.2.2.2.2 p (by (first | omega | (refine Nat.lt_of_le_of_lt Nat.and_le_left ?_; first | omega | (refine Nat.lt_of_le_of_lt Nat.and_le_left ?_; omega))))).2 rfl ?_
                  refine Wx.top (hx_8.1.p8 (i := p) (by (first | omega | (refine Nat.lt_of_le_of_lt Nat.and_le_left ?_; first | omega | (refine Nat.lt_of_le_of_lt Nat.and_le_left ?_; omega))))) ?_
                  refine Wx.topN (up1_n (ins1_z8 hp4)) ?_
                  refine Wx.topN (up1_n (ins1_z9 hl24 hp4)) ?_
                  refine Wx.topN (up1_n (ins1_z10 hl24 hp4)) ?_
                  refine Wx.topN (hP.1.p (p := p) (by (first | omega | (refine Nat.lt_of_le_of_lt Nat.and_le_left ?_; first | omega | (refine Nat.lt_of_le_of_lt Nat.and_le_left ?_; omega))))).c9 ?_
                  refine Wx.topN (show (GF g l cc e (g (90 + 13 * l + 1)) v s a s) (22 + 10 * p + 9) = g (22 + 10 * p + 9) from congrArg (fun z => z) (hGh _ (by omega) (by omega) (by omega) (by omega))) ?_
                  refine r_aload_n dX7_inspectLot_252 rfl 2 rfl ?_
                  refine r_getI (ci := 7) (k := 8) dX7_inspectLot_253 fr_X7_174 (hx_8.1.lo hl24 hAl).2.1 rfl ?_
                  refine Wx.top (hx_8.1.l8 hl24 hAl) ?_
                  refine Wx.topN (up1_n (ins1_z11 hl24 hp4)) ?_
                  refine Wx.topN (up1_n (ins1_z12 hl24)) ?_
                  refine Wx.topN (up1_n (ins1_z13 hl24)) ?_
                  refine Wx.topN (((hLk).h (f := 7) (by decide)).trans hfn.2.2.2) ?_
                  refine r_iaddN dX7_inspectLot_256 ?_
                  refine r_putI (ci := 10) (k := 8) dX7_inspectLot_257 fw_X7_inspectLot_189 (hx_8.1.1.2.2.2.2.2.2.2.2 p (by (first | omega | (refine Nat.lt_of_le_of_lt Nat.and_le_left ?_; first | omega | (refine Nat.lt_of_le_of_lt Nat.and_le_left ?_; omega))))).2 rfl rfl rfl ?_
                  refine Wx.gx ((hx_8.P (i := p) (f := 8) (by (first | omega | (refine Nat.lt_of_le_of_lt Nat.and_le_left ?_; first | omega | (refine Nat.lt_of_le_of_lt Nat.and_le_left ?_; omega)))) (by decide))) (fun T_9 (hx_9 : OX S w A T_9 w k o A (up1 (up1 (up1 (up1 c (90 + 13 * l + 3) (g (90 + 13 * l + 3) + 1)) (90 + 13 * l + 2) (1)) (22 + 10 * p + 8) (g (22 + 10 * p + 8) + s)) (22 + 10 * p + 9) (g (22 + 10 * p + 9) + (cnt (DB g l e s) (g (90 + 13 * l + 1)))))) => ?_)
                  refine r_aload_n dX7_inspectLot_260 rfl 3 rfl ?_
                  refine r_aload_n dX7_inspectLot_261 rfl 2 rfl ?_
                  refine r_getI (ci := 7) (k := 8) dX7_inspectLot_262 fr_X7_174 (hx_9.1.lo hl24 hAl).2.1 rfl ?_
                  refine Wx.top (hx_9.1.l8 hl24 hAl) ?_
                  refine Wx.topN (up1_n (ins1_z14 hl24 hp4)) ?_
                  refine Wx.topN (up1_n (ins1_z15 hl24 hp4)) ?_
                  refine Wx.topN (up1_n (ins1_z16 hl24)) ?_
                  refine Wx.topN (up1_n (ins1_z17 hl24)) ?_
                  refine Wx.topN (((hLk).h (f := 7) (by decide)).trans hfn.2.2.2) ?_
                  refine r_aload_n dX7_inspectLot_265 rfl 2 rfl ?_
                  refine r_getI (ci := 7) (k := 7) dX7_inspectLot_266 fr_X7_171 (hx_9.1.lo hl24 hAl).2.1 rfl ?_
                  refine Wx.top (hx_9.1.l7 hl24 hAl) ?_
                  refine Wx.topN (up1_n (ins1_z18 hl24 hp4)) ?_
                  refine Wx.topN (up1_n (ins1_z19 hl24 hp4)) ?_
                  refine Wx.topN (up1_n (ins1_z20 hl24)) ?_
                  refine Wx.topN (up1_n (ins1_z21 hl24)) ?_
                  refine Wx.topN (((hLk).h (f := 6) (by decide)).trans hfn.2.2.1) ?_
                  have hi3 := hL.1.2.2.2.1
                  have hG3h : (GF g l cc e (g (90 + 13 * l + 1)) v s a s) (90 + 13 * l + 3) = g (90 + 13 * l + 3) := hGh _ (by omega) (by omega) (by omega) (by omega)
                  have hR2 : Rel (up1 (up1 c (90 + 13 * l + 3) (g (90 + 13 * l + 3) + 1)) (90 + 13 * l + 2) 1) (up1 (up1 (GF g l cc e (g (90 + 13 * l + 1)) v s a s) (90 + 13 * l + 3) (g (90 + 13 * l + 3) + 1)) (90 + 13 * l + 2) 1) (N + 4 * s + 1) := Rel.i2 hP.1 (by rw [hG0]; exact hl) (by omega) (by decide) (by omega) (by omega) (by rw [hfn.1, hfn.2.1, hfn.2.2.1, hfn.2.2.2]; exact ⟨hv2, by omega, by omega, by omega⟩)
                  have hgq : ∀ i, 22 ≤ i → i < 62 → (up1 (up1 (GF g l cc e (g (90 + 13 * l + 1)) v s a s) (90 + 13 * l + 3) (g (90 + 13 * l + 3) + 1)) (90 + 13 * l + 2) 1) i = g i := fun i h1 h2 => by rw [up1_n (by omega), up1_n (by omega)]; exact hGh i (by omega) (by omega) (by omega) (by omega)
                  have hq8 := hgq (22 + 10 * p + 8) (by omega) (by omega)
                  have hq9 := hgq (22 + 10 * p + 9) (by omega) (by omega)
                  have hR3 : Rel (up1 (up1 (up1 (up1 c (90 + 13 * l + 3) (g (90 + 13 * l + 3) + 1)) (90 + 13 * l + 2) 1) (22 + 10 * p + 8) (g (22 + 10 * p + 8) + s)) (22 + 10 * p + 9) (g (22 + 10 * p + 9) + cnt (DB g l e s) (g (90 + 13 * l + 1)))) (up1 (up1 (up1 (up1 (GF g l cc e (g (90 + 13 * l + 1)) v s a s) (90 + 13 * l + 3) (g (90 + 13 * l + 3) + 1)) (90 + 13 * l + 2) 1) (22 + 10 * p + 8) (g (22 + 10 * p + 8) + s)) (22 + 10 * p + 9) (g (22 + 10 * p + 9) + cnt (DB g l e s) (g (90 + 13 * l + 1)))) (N + 4 * s + 33) := by
                    have q9 := Rel.i3 (N' := N + 4 * s + 33) (s := s) (f := cnt (DB g l e s) (g (90 + 13 * l + 1))) hR2 hp4 (by omega) (by omega)
                    rw [hq8, hq9] at q9
                    exact q9
                  have hR3s : ¬ (up1 (up1 (up1 (up1 (GF g l cc e (g (90 + 13 * l + 1)) v s a s) (90 + 13 * l + 3) (g (90 + 13 * l + 3) + 1)) (90 + 13 * l + 2) 1) (22 + 10 * p + 8) (g (22 + 10 * p + 8) + s)) (22 + 10 * p + 9) (g (22 + 10 * p + 9) + cnt (DB g l e s) (g (90 + 13 * l + 1)))) (22 + 10 * p + 3) = 3 := by rw [up1_n (by omega), up1_n (by omega), hgq _ (by omega) (by omega)]; rw [hv]; omega
                  obtain ⟨x3, x4, x5, x6, hx1, hx2, hx3⟩ := Rel.rem (f := cnt (DB g l e s) (g (90 + 13 * l + 1))) (al := a) hR3 hp4 hR3s
                  refine r_fnV (M2 := m_X8_remember) (As := [.int (nI (cnt (DB g l e s) (g (90 + 13 * l + 1)))), .int (nI a)]) (rest := []) (v := none) dX7_inspectLot_269 cc_X7_inspectLot_190 rfl rfl rfl (Nat.le_of_ble_eq_true rfl) (hx_9.1.1.2.2.2.2.2.2.2.2 p (by (first | omega | (refine Nat.lt_of_le_of_lt Nat.and_le_left ?_; first | omega | (refine Nat.lt_of_le_of_lt Nat.and_le_left ?_; omega))))).2 rfl rfl (by decide) (p_rem (hx_9.1.1.2.2.2.2.2.2.2.2 p (by (first | omega | (refine Nat.lt_of_le_of_lt Nat.and_le_left ?_; first | omega | (refine Nat.lt_of_le_of_lt Nat.and_le_left ?_; omega))))).2 ((hx_9.1.p3 hp4).trans (congrArg nI ((hR3.p hp4).cf (f := 3) (by decide)))) ((hx_9.1.p4 hp4).trans (congrArg nI ((hR3.p hp4).cf (f := 4) (by decide)))) ((hx_9.1.p5 hp4).trans (congrArg nI ((hR3.p hp4).cf (f := 5) (by decide)))) (hx_9.1.p6 hp4) (hR3.p hp4).b.2.2.2.1 (hR3.p hp4).b.2.2.2.2.1 (hR3.p hp4).m.1 (Nat.lt_of_lt_of_le (hR3.p hp4).m.2.1 (Nat.pow_le_pow_right (by decide) (hR3.p hp4).m.1)) (by omega) (by omega)) rfl ?_
                  refine Wx.st' (hx1 _ _) ?_
                  refine Wx.gx ((((hx_9.P (i := p) (f := 3) hp4 (by decide)).P (i := p) (f := 4) hp4 (by decide)).P (i := p) (f := 5) hp4 (by decide)).P (i := p) (f := 6) hp4 (by decide)) (fun T_10 (hx_10 : OX S w A T_10 w k o A (up1 (up1 (up1 (up1 (up1 (up1 (up1 (up1 c (90 + 13 * l + 3) (g (90 + 13 * l + 3) + 1)) (90 + 13 * l + 2) (1)) (22 + 10 * p + 8) (g (22 + 10 * p + 8) + s)) (22 + 10 * p + 9) (g (22 + 10 * p + 9) + (cnt (DB g l e s) (g (90 + 13 * l + 1))))) (22 + 10 * p + 3) x3) (22 + 10 * p + 4) x4) (22 + 10 * p + 5) x5) (22 + 10 * p + 6) x6)) => ?_)
                  refine r_aload_n dX7_inspectLot_272 rfl 2 rfl ?_
                  refine r_getI (ci := 7) (k := 8) dX7_inspectLot_273 fr_X7_174 (hx_10.1.lo hl24 hAl).2.1 rfl ?_
                  refine Wx.top (hx_10.1.l8 hl24 hAl) ?_
                  refine Wx.topN ((up1_n (by omega)).trans ((up1_n (by omega)).trans ((up1_n (by omega)).trans ((up1_n (by omega)).trans ((up1_n (by omega)).trans ((up1_n (by omega)).trans ((up1_n (by omega)).trans ((up1_n (by omega)).trans (((hLk).h (f := 7) (by decide)).trans hfn.2.2.2))))))))) ?_
                  have hcnt : (up1 (up1 (up1 (up1 (GF g l cc e (g (90 + 13 * l + 1)) v s a s) (90 + 13 * l + 3) (g (90 + 13 * l + 3) + 1)) (90 + 13 * l + 2) 1) (22 + 10 * p + 8) (g (22 + 10 * p + 8) + s)) (22 + 10 * p + 9) (g (22 + 10 * p + 9) + cnt (DB g l e s) (g (90 + 13 * l + 1)))) (22 + 10 * p + 5) + 1 ≤ insC (up1 (up1 (up1 (up1 (GF g l cc e (g (90 + 13 * l + 1)) v s a s) (90 + 13 * l + 3) (g (90 + 13 * l + 3) + 1)) (90 + 13 * l + 2) 1) (22 + 10 * p + 8) (g (22 + 10 * p + 8) + s)) (22 + 10 * p + 9) (g (22 + 10 * p + 9) + cnt (DB g l e s) (g (90 + 13 * l + 1)))) ((up1 (up1 (up1 (up1 (GF g l cc e (g (90 + 13 * l + 1)) v s a s) (90 + 13 * l + 3) (g (90 + 13 * l + 3) + 1)) (90 + 13 * l + 2) 1) (22 + 10 * p + 8) (g (22 + 10 * p + 8) + s)) (22 + 10 * p + 9) (g (22 + 10 * p + 9) + cnt (DB g l e s) (g (90 + 13 * l + 1)))) 0) := insC_up hr hp4 hl hF (by rw [up1_n (by omega), up1_n (by omega), hgq _ (by omega) (by omega)]) (by rw [up1_n (by omega), up1_n (by omega), up1_n (by omega), up1_n (by omega)]; exact hG0) (by rw [up1_n (by omega), up1_n (by omega), up1_n (by omega), up1_s]; omega) (fun z hz9 hz8 => by rw [up1_n (by omega), up1_n (by omega), up1_n (by omega), up1_n (by omega), hGh _ (by omega) (by omega) (by omega) (by omega)])
                  exact r_iret (ty := .int) dX7_inspectLot_276 rfl rfl ⟨rfl, _, hx_10, (by rw [if_neg (Nat.not_lt.mpr h218)]; have q9 := (hx3 hcnt).le (N' := N + 1000) (by omega); rw [GF_e1 hp4] at q9; exact q9)⟩
              · refine r_iconst (v := nI 2) dX7_inspectLot_221 (by decide) ?_
                refine r_goto (tgt := 226) dX7_inspectLot_222 (by decide) ?_
                refine r_putI (ci := 7) (k := 3) dX7_inspectLot_226 fw_X7_inspectLot_108 (hx_6.1.lo hl24 hAl).2.1 rfl rfl rfl ?_
                refine Wx.gx ((hx_6.L (f := 3) hl24 hAl (by decide))) (fun T_11 (hx_11 : OX S w A T_11 w k o A (up1 (up1 c (90 + 13 * l + 3) (g (90 + 13 * l + 3) + 1)) (90 + 13 * l + 2) (2))) => ?_)
                refine r_iload dX7_inspectLot_229 5 rfl ?_
                refine r_if_eqN (tgt := 272) dX7_inspectLot_231 (by decide) (by (first | omega | (refine Nat.lt_of_le_of_lt Nat.and_le_left ?_; first | omega | (refine Nat.lt_of_le_of_lt Nat.and_le_left ?_; omega)))) (fun zz231_1 => ?_) (fun zz231_1 => ?_)
                · exact absurd zz231_1 (by decide)
                · refine r_aload_n dX7_inspectLot_234 rfl 3 rfl ?_
                  refine r_dup dX7_inspectLot_235 rfl ?_
                  refine r_getI (ci := 10) (k := 7) dX7_inspectLot_236 fr_X7_186 (hx_11.1.1.2.2.2.2.2.2.2.2 p (by (first | omega | (refine Nat.lt_of_le_of_lt Nat.and_le_left ?_; first | omega | (refine Nat.lt_of_le_of_lt Nat.and_le_left ?_; omega))))).2 rfl ?_
                  refine Wx.top (hx_11.1.p7 (i := p) (by (first | omega | (refine Nat.lt_of_le_of_lt Nat.and_le_left ?_; first | omega | (refine Nat.lt_of_le_of_lt Nat.and_le_left ?_; omega))))) ?_
                  refine Wx.topN (up1_n (ins1_z22 hl24 hp4)) ?_
                  refine Wx.topN (up1_n (ins1_z23 hl24 hp4)) ?_
                  refine Wx.topN (hP.1.p (p := p) (by (first | omega | (refine Nat.lt_of_le_of_lt Nat.and_le_left ?_; first | omega | (refine Nat.lt_of_le_of_lt Nat.and_le_left ?_; omega))))).c8 ?_
                  refine Wx.topN (show (GF g l cc e (g (90 + 13 * l + 1)) v s a s) (22 + 10 * p + 8) = g (22 + 10 * p + 8) from congrArg (fun z => z) (hGh _ (by omega) (by omega) (by omega) (by omega))) ?_
                  refine r_aload_n dX7_inspectLot_239 rfl 2 rfl ?_
                  refine r_getI (ci := 7) (k := 6) dX7_inspectLot_240 fr_X7_165 (hx_11.1.lo hl24 hAl).2.1 rfl ?_
                  refine Wx.top (hx_11.1.l6 hl24 hAl) ?_
                  refine Wx.topN (up1_n (ins1_z24 hl24)) ?_
                  refine Wx.topN (up1_n (ins1_z25 hl24)) ?_
                  refine Wx.topN (((hLk).h (f := 5) (by decide)).trans hfn.2.1) ?_
                  refine r_iaddN dX7_inspectLot_243 ?_
                  refine r_putI (ci := 10) (k := 7) dX7_inspectLot_244 fw_X7_inspectLot_186 (hx_11.1.1.2.2.2.2.2.2.2.2 p (by (first | omega | (refine Nat.lt_of_le_of_lt Nat.and_le_left ?_; first | omega | (refine Nat.lt_of_le_of_lt Nat.and_le_left ?_; omega))))).2 rfl rfl rfl ?_
                  refine Wx.gx ((hx_11.P (i := p) (f := 7) (by (first | omega | (refine Nat.lt_of_le_of_lt Nat.and_le_left ?_; first | omega | (refine Nat.lt_of_le_of_lt Nat.and_le_left ?_; omega)))) (by decide))) (fun T_12 (hx_12 : OX S w A T_12 w k o A (up1 (up1 (up1 c (90 + 13 * l + 3) (g (90 + 13 * l + 3) + 1)) (90 + 13 * l + 2) (2)) (22 + 10 * p + 8) (g (22 + 10 * p + 8) + s))) => ?_)
                  refine r_aload_n dX7_inspectLot_247 rfl 3 rfl ?_
                  refine r_dup dX7_inspectLot_248 rfl ?_
                  refine r_getI (ci := 10) (k := 8) dX7_inspectLot_249 fr_X7_189 (hx_12.1.1.2.2.2.2.2.2.2.2 p (by (first | omega | (refine Nat.lt_of_le_of_lt Nat.and_le_left ?_; first | omega | (refine Nat.lt_of_le_of_lt Nat.and_le_left ?_; omega))))).2 rfl ?_
                  refine Wx.top (hx_12.1.p8 (i := p) (by (first | omega | (refine Nat.lt_of_le_of_lt Nat.and_le_left ?_; first | omega | (refine Nat.lt_of_le_of_lt Nat.and_le_left ?_; omega))))) ?_
                  refine Wx.topN (up1_n (ins1_z26 hp4)) ?_
                  refine Wx.topN (up1_n (ins1_z27 hl24 hp4)) ?_
                  refine Wx.topN (up1_n (ins1_z28 hl24 hp4)) ?_
                  refine Wx.topN (hP.1.p (p := p) (by (first | omega | (refine Nat.lt_of_le_of_lt Nat.and_le_left ?_; first | omega | (refine Nat.lt_of_le_of_lt Nat.and_le_left ?_; omega))))).c9 ?_
                  refine Wx.topN (show (GF g l cc e (g (90 + 13 * l + 1)) v s a s) (22 + 10 * p + 9) = g (22 + 10 * p + 9) from congrArg (fun z => z) (hGh _ (by omega) (by omega) (by omega) (by omega))) ?_
                  refine r_aload_n dX7_inspectLot_252 rfl 2 rfl ?_
                  refine r_getI (ci := 7) (k := 8) dX7_inspectLot_253 fr_X7_174 (hx_12.1.lo hl24 hAl).2.1 rfl ?_
                  refine Wx.top (hx_12.1.l8 hl24 hAl) ?_
                  refine Wx.topN (up1_n (ins1_z29 hl24 hp4)) ?_
                  refine Wx.topN (up1_n (ins1_z30 hl24)) ?_
                  refine Wx.topN (up1_n (ins1_z31 hl24)) ?_
                  refine Wx.topN (((hLk).h (f := 7) (by decide)).trans hfn.2.2.2) ?_
                  refine r_iaddN dX7_inspectLot_256 ?_
                  refine r_putI (ci := 10) (k := 8) dX7_inspectLot_257 fw_X7_inspectLot_189 (hx_12.1.1.2.2.2.2.2.2.2.2 p (by (first | omega | (refine Nat.lt_of_le_of_lt Nat.and_le_left ?_; first | omega | (refine Nat.lt_of_le_of_lt Nat.and_le_left ?_; omega))))).2 rfl rfl rfl ?_
                  refine Wx.gx ((hx_12.P (i := p) (f := 8) (by (first | omega | (refine Nat.lt_of_le_of_lt Nat.and_le_left ?_; first | omega | (refine Nat.lt_of_le_of_lt Nat.and_le_left ?_; omega)))) (by decide))) (fun T_13 (hx_13 : OX S w A T_13 w k o A (up1 (up1 (up1 (up1 c (90 + 13 * l + 3) (g (90 + 13 * l + 3) + 1)) (90 + 13 * l + 2) (2)) (22 + 10 * p + 8) (g (22 + 10 * p + 8) + s)) (22 + 10 * p + 9) (g (22 + 10 * p + 9) + (cnt (DB g l e s) (g (90 + 13 * l + 1)))))) => ?_)
                  refine r_aload_n dX7_inspectLot_260 rfl 3 rfl ?_
                  refine r_aload_n dX7_inspectLot_261 rfl 2 rfl ?_
                  refine r_getI (ci := 7) (k := 8) dX7_inspectLot_262 fr_X7_174 (hx_13.1.lo hl24 hAl).2.1 rfl ?_
                  refine Wx.top (hx_13.1.l8 hl24 hAl) ?_
                  refine Wx.topN (up1_n (ins1_z32 hl24 hp4)) ?_
                  refine Wx.topN (up1_n (ins1_z33 hl24 hp4)) ?_
                  refine Wx.topN (up1_n (ins1_z34 hl24)) ?_
                  refine Wx.topN (up1_n (ins1_z35 hl24)) ?_
                  refine Wx.topN (((hLk).h (f := 7) (by decide)).trans hfn.2.2.2) ?_
                  refine r_aload_n dX7_inspectLot_265 rfl 2 rfl ?_
                  refine r_getI (ci := 7) (k := 7) dX7_inspectLot_266 fr_X7_171 (hx_13.1.lo hl24 hAl).2.1 rfl ?_
                  refine Wx.top (hx_13.1.l7 hl24 hAl) ?_
                  refine Wx.topN (up1_n (ins1_z36 hl24 hp4)) ?_
                  refine Wx.topN (up1_n (ins1_z37 hl24 hp4)) ?_
                  refine Wx.topN (up1_n (ins1_z38 hl24)) ?_
                  refine Wx.topN (up1_n (ins1_z39 hl24)) ?_
                  refine Wx.topN (((hLk).h (f := 6) (by decide)).trans hfn.2.2.1) ?_
                  have hi3 := hL.1.2.2.2.1
                  have hG3h : (GF g l cc e (g (90 + 13 * l + 1)) v s a s) (90 + 13 * l + 3) = g (90 + 13 * l + 3) := hGh _ (by omega) (by omega) (by omega) (by omega)
                  have hR2 : Rel (up1 (up1 c (90 + 13 * l + 3) (g (90 + 13 * l + 3) + 1)) (90 + 13 * l + 2) 2) (up1 (up1 (GF g l cc e (g (90 + 13 * l + 1)) v s a s) (90 + 13 * l + 3) (g (90 + 13 * l + 3) + 1)) (90 + 13 * l + 2) 2) (N + 4 * s + 1) := Rel.i2 hP.1 (by rw [hG0]; exact hl) (by omega) (by decide) (by omega) (by omega) (by rw [hfn.1, hfn.2.1, hfn.2.2.1, hfn.2.2.2]; exact ⟨hv2, by omega, by omega, by omega⟩)
                  have hgq : ∀ i, 22 ≤ i → i < 62 → (up1 (up1 (GF g l cc e (g (90 + 13 * l + 1)) v s a s) (90 + 13 * l + 3) (g (90 + 13 * l + 3) + 1)) (90 + 13 * l + 2) 2) i = g i := fun i h1 h2 => by rw [up1_n (by omega), up1_n (by omega)]; exact hGh i (by omega) (by omega) (by omega) (by omega)
                  have hq8 := hgq (22 + 10 * p + 8) (by omega) (by omega)
                  have hq9 := hgq (22 + 10 * p + 9) (by omega) (by omega)
                  have hR3 : Rel (up1 (up1 (up1 (up1 c (90 + 13 * l + 3) (g (90 + 13 * l + 3) + 1)) (90 + 13 * l + 2) 2) (22 + 10 * p + 8) (g (22 + 10 * p + 8) + s)) (22 + 10 * p + 9) (g (22 + 10 * p + 9) + cnt (DB g l e s) (g (90 + 13 * l + 1)))) (up1 (up1 (up1 (up1 (GF g l cc e (g (90 + 13 * l + 1)) v s a s) (90 + 13 * l + 3) (g (90 + 13 * l + 3) + 1)) (90 + 13 * l + 2) 2) (22 + 10 * p + 8) (g (22 + 10 * p + 8) + s)) (22 + 10 * p + 9) (g (22 + 10 * p + 9) + cnt (DB g l e s) (g (90 + 13 * l + 1)))) (N + 4 * s + 33) := by
                    have q9 := Rel.i3 (N' := N + 4 * s + 33) (s := s) (f := cnt (DB g l e s) (g (90 + 13 * l + 1))) hR2 hp4 (by omega) (by omega)
                    rw [hq8, hq9] at q9
                    exact q9
                  have hR3s : ¬ (up1 (up1 (up1 (up1 (GF g l cc e (g (90 + 13 * l + 1)) v s a s) (90 + 13 * l + 3) (g (90 + 13 * l + 3) + 1)) (90 + 13 * l + 2) 2) (22 + 10 * p + 8) (g (22 + 10 * p + 8) + s)) (22 + 10 * p + 9) (g (22 + 10 * p + 9) + cnt (DB g l e s) (g (90 + 13 * l + 1)))) (22 + 10 * p + 3) = 3 := by rw [up1_n (by omega), up1_n (by omega), hgq _ (by omega) (by omega)]; rw [hv]; omega
                  obtain ⟨x3, x4, x5, x6, hx1, hx2, hx3⟩ := Rel.rem (f := cnt (DB g l e s) (g (90 + 13 * l + 1))) (al := a) hR3 hp4 hR3s
                  refine r_fnV (M2 := m_X8_remember) (As := [.int (nI (cnt (DB g l e s) (g (90 + 13 * l + 1)))), .int (nI a)]) (rest := []) (v := none) dX7_inspectLot_269 cc_X7_inspectLot_190 rfl rfl rfl (Nat.le_of_ble_eq_true rfl) (hx_13.1.1.2.2.2.2.2.2.2.2 p (by (first | omega | (refine Nat.lt_of_le_of_lt Nat.and_le_left ?_; first | omega | (refine Nat.lt_of_le_of_lt Nat.and_le_left ?_; omega))))).2 rfl rfl (by decide) (p_rem (hx_13.1.1.2.2.2.2.2.2.2.2 p (by (first | omega | (refine Nat.lt_of_le_of_lt Nat.and_le_left ?_; first | omega | (refine Nat.lt_of_le_of_lt Nat.and_le_left ?_; omega))))).2 ((hx_13.1.p3 hp4).trans (congrArg nI ((hR3.p hp4).cf (f := 3) (by decide)))) ((hx_13.1.p4 hp4).trans (congrArg nI ((hR3.p hp4).cf (f := 4) (by decide)))) ((hx_13.1.p5 hp4).trans (congrArg nI ((hR3.p hp4).cf (f := 5) (by decide)))) (hx_13.1.p6 hp4) (hR3.p hp4).b.2.2.2.1 (hR3.p hp4).b.2.2.2.2.1 (hR3.p hp4).m.1 (Nat.lt_of_lt_of_le (hR3.p hp4).m.2.1 (Nat.pow_le_pow_right (by decide) (hR3.p hp4).m.1)) (by omega) (by omega)) rfl ?_
                  refine Wx.st' (hx1 _ _) ?_
                  refine Wx.gx ((((hx_13.P (i := p) (f := 3) hp4 (by decide)).P (i := p) (f := 4) hp4 (by decide)).P (i := p) (f := 5) hp4 (by decide)).P (i := p) (f := 6) hp4 (by decide)) (fun T_14 (hx_14 : OX S w A T_14 w k o A (up1 (up1 (up1 (up1 (up1 (up1 (up1 (up1 c (90 + 13 * l + 3) (g (90 + 13 * l + 3) + 1)) (90 + 13 * l + 2) (2)) (22 + 10 * p + 8) (g (22 + 10 * p + 8) + s)) (22 + 10 * p + 9) (g (22 + 10 * p + 9) + (cnt (DB g l e s) (g (90 + 13 * l + 1))))) (22 + 10 * p + 3) x3) (22 + 10 * p + 4) x4) (22 + 10 * p + 5) x5) (22 + 10 * p + 6) x6)) => ?_)
                  refine r_aload_n dX7_inspectLot_272 rfl 2 rfl ?_
                  refine r_getI (ci := 7) (k := 8) dX7_inspectLot_273 fr_X7_174 (hx_14.1.lo hl24 hAl).2.1 rfl ?_
                  refine Wx.top (hx_14.1.l8 hl24 hAl) ?_
                  refine Wx.topN ((up1_n (by omega)).trans ((up1_n (by omega)).trans ((up1_n (by omega)).trans ((up1_n (by omega)).trans ((up1_n (by omega)).trans ((up1_n (by omega)).trans ((up1_n (by omega)).trans ((up1_n (by omega)).trans (((hLk).h (f := 7) (by decide)).trans hfn.2.2.2))))))))) ?_
                  have hcnt : (up1 (up1 (up1 (up1 (GF g l cc e (g (90 + 13 * l + 1)) v s a s) (90 + 13 * l + 3) (g (90 + 13 * l + 3) + 1)) (90 + 13 * l + 2) 2) (22 + 10 * p + 8) (g (22 + 10 * p + 8) + s)) (22 + 10 * p + 9) (g (22 + 10 * p + 9) + cnt (DB g l e s) (g (90 + 13 * l + 1)))) (22 + 10 * p + 5) + 1 ≤ insC (up1 (up1 (up1 (up1 (GF g l cc e (g (90 + 13 * l + 1)) v s a s) (90 + 13 * l + 3) (g (90 + 13 * l + 3) + 1)) (90 + 13 * l + 2) 2) (22 + 10 * p + 8) (g (22 + 10 * p + 8) + s)) (22 + 10 * p + 9) (g (22 + 10 * p + 9) + cnt (DB g l e s) (g (90 + 13 * l + 1)))) ((up1 (up1 (up1 (up1 (GF g l cc e (g (90 + 13 * l + 1)) v s a s) (90 + 13 * l + 3) (g (90 + 13 * l + 3) + 1)) (90 + 13 * l + 2) 2) (22 + 10 * p + 8) (g (22 + 10 * p + 8) + s)) (22 + 10 * p + 9) (g (22 + 10 * p + 9) + cnt (DB g l e s) (g (90 + 13 * l + 1)))) 0) := insC_up hr hp4 hl hF (by rw [up1_n (by omega), up1_n (by omega), hgq _ (by omega) (by omega)]) (by rw [up1_n (by omega), up1_n (by omega), up1_n (by omega), up1_n (by omega)]; exact hG0) (by rw [up1_n (by omega), up1_n (by omega), up1_n (by omega), up1_s]; omega) (fun z hz9 hz8 => by rw [up1_n (by omega), up1_n (by omega), up1_n (by omega), up1_n (by omega), hGh _ (by omega) (by omega) (by omega) (by omega)])
                  exact r_iret (ty := .int) dX7_inspectLot_276 rfl rfl ⟨rfl, _, hx_14, (by rw [if_pos (Nat.lt_of_not_le h218)]; have q9 := (hx3 hcnt).le (N' := N + 1000) (by omega); rw [GF_e1 hp4] at q9; exact q9)⟩
            · refine r_aload_n dX7_inspectLot_132 rfl 0 rfl ?_
              refine r_iload dX7_inspectLot_133 4 rfl ?_
              refine r_iload dX7_inspectLot_135 6 rfl ?_
              refine r_isubN dX7_inspectLot_137 (by (first | omega | (refine Nat.lt_of_le_of_lt Nat.and_le_left ?_; first | omega | (refine Nat.lt_of_le_of_lt Nat.and_le_left ?_; omega)))) ?_
              obtain ⟨hz1, hz2, hz3, hz4⟩ := hkD (by omega)
              have hc3 : c 3 = sdI g dk := hP.1.c3.trans hG3
              have hsI : sdN (c 3) = sdI g (dk + 1) := congrArg sdN hc3
              have hidx : sdN (c 3) / 65536 % (n - dk) < n - dk := Nat.mod_lt _ (by omega)
              obtain ⟨hu1, hu2, hu3⟩ := hP.2 _ hidx
              have hek : c (60000 + (sdN (c 3) / 65536 % (n - dk))) = e dk := cnt_inj (p := HD g l e dk) hu2 ⟨hz2, hz3⟩ (by rw [hu3, hz4, hsI])
              refine r_ofV (M2 := m_X7_drawUnit) (As := [.int (nI (n - dk))]) (rest := []) (v := some (.int (nI (e dk)))) dX7_inspectLot_138 cc_X7_inspectLot_177 rfl rfl rfl (Nat.le_of_ble_eq_true rfl) hx_5.1.1.1 rfl rfl (by decide) hx_5 (hek ▸ o_draw hx_5.1 (m := n - dk) (by rw [hc3, ← hG3]; exact hP.1.g3) (by omega) (by omega)) rfl (fun T_15 (hx_15 : OX S w A T_15 w k o A (dwC c (n - dk) (sdN (c 3) / 65536 % (n - dk)))) => ?_)
              have hr1 : Rel (dwC c (n - dk) (sdN (c 3) / 65536 % (n - dk))) (up1 (GF g l cc e (g (90 + 13 * l + 1)) v s a dk) 3 (sdI g (dk + 1))) (N + 4 * dk) := hsI ▸ Rel.i1 hP.1
              have hd1 : LD (HD g l e (dk + 1)) (dwC c (n - dk) (sdN (c 3) / 65536 % (n - dk))) (n - (dk + 1)) (g (90 + 13 * l + 1)) := LD.next hidx hek hP.2
              have hgy : (GF g l cc e (g (90 + 13 * l + 1)) v s a dk) (402 + 2 * (200 * l + e dk)) = g (402 + 2 * (200 * l + e dk)) := by rw [GF_n (by omega)]; exact (insI_w hcc.1 _).2 (fun q => hz3 q.2.1)
              have h10 : (up1 (GF g l cc e (g (90 + 13 * l + 1)) v s a dk) 3 (sdI g (dk + 1))) 0 = g 0 := by rw [up1_n (by omega)]; exact hG0
              have h1z : (up1 (GF g l cc e (g (90 + 13 * l + 1)) v s a dk) 3 (sdI g (dk + 1))) (90 + 13 * l + 1) = g (90 + 13 * l + 1) := by rw [up1_n (by omega)]; exact hGh _ (by omega) (by omega) (by omega) (by omega)
              have h1y : (up1 (GF g l cc e (g (90 + 13 * l + 1)) v s a dk) 3 (sdI g (dk + 1))) (402 + 2 * (200 * l + e dk)) = g (402 + 2 * (200 * l + e dk)) := by rw [up1_n (by omega)]; exact hgy
              have hl1 : l < (up1 (GF g l cc e (g (90 + 13 * l + 1)) v s a dk) 3 (sdI g (dk + 1))) 0 := by rw [h10]; exact hl
              have hu9 : e dk < (up1 (GF g l cc e (g (90 + 13 * l + 1)) v s a dk) 3 (sdI g (dk + 1))) (90 + 13 * l + 1) := by rw [h1z]; exact hz1
              have ha1 : ∀ z, z < (up1 (GF g l cc e (g (90 + 13 * l + 1)) v s a dk) 3 (sdI g (dk + 1))) 0 → A z ≠ 0 := fun z hz9 => hal z (by rw [h10] at hz9; exact hz9)
              have hL1 := hr1.lot hl1
              have hf1 : cnt (DB g l e dk) (g (90 + 13 * l + 1)) + 1 ≤ 200 := by have := hs32.1; omega
              have hbv : badV g l (e dk) = (g (402 + 2 * (200 * l + e dk)) % 16 &&& g (22 + 10 * p + 1)) := by unfold badV; rw [hp]
              refine r_istore (lv' := [(7, .int (nI (e dk))), (0, .ref (o)), (1, .int (nI (l))), (2, .ref (A l)), (3, .ref (o + 12 + p)), (4, .int (nI (n))), (5, .int (nI (1))), (6, .int (nI (dk)))]) dX7_inspectLot_141 (by decide) rfl ?_
              refine r_aload_n dX7_inspectLot_143 rfl 3 rfl ?_
              refine r_iload dX7_inspectLot_144 0 rfl ?_
              refine r_aload_n dX7_inspectLot_146 rfl 4 rfl ?_
              refine r_getI (ci := 10) (k := 1) dX7_inspectLot_147 fr_X7_79 (hx_15.1.1.2.2.2.2.2.2.2.2 p (by (first | omega | (refine Nat.lt_of_le_of_lt Nat.and_le_left ?_; first | omega | (refine Nat.lt_of_le_of_lt Nat.and_le_left ?_; omega))))).2 rfl ?_
              refine Wx.top (hx_15.1.p1 (i := p) (by (first | omega | (refine Nat.lt_of_le_of_lt Nat.and_le_left ?_; first | omega | (refine Nat.lt_of_le_of_lt Nat.and_le_left ?_; omega))))) ?_
              refine Wx.topN ((hr1.p (p := p) (by (first | omega | (refine Nat.lt_of_le_of_lt Nat.and_le_left ?_; first | omega | (refine Nat.lt_of_le_of_lt Nat.and_le_left ?_; omega))))).cf (f := 1) (by decide)) ?_
              refine Wx.topN (show (up1 (GF g l cc e (g (90 + 13 * l + 1)) v s a dk) 3 (sdI g (dk + 1))) (22 + 10 * p + 1) = g (22 + 10 * p + 1) from congrArg (fun z => z) ((up1_n (by omega)).trans (hGh _ (by omega) (by omega) (by omega) (by omega)))) ?_
              refine r_fnV (M2 := m_X5_isBad) (As := [.int (nI (e dk)), .int (nI (g (22 + 10 * p + 1)))]) (rest := []) (v := some (.int (bI (¬ (badV g l (e dk) = 0))))) dX7_inspectLot_150 cc_X7_inspectLot_180 rfl rfl rfl (Nat.le_of_ble_eq_true rfl) (hx_15.1.lo hl24 hAl).2.1 rfl rfl (by decide) (by have q9 := o_isBad (G := G) hx_15.1 hr1 ha1 hl1 hu9 (ks := g (22 + 10 * p + 1)) hks; rw [h1y, ← hbv] at q9; exact q9) rfl ?_
              refine r_if_eqB (tgt := 193) dX7_inspectLot_153 (by decide) (fun h153 => ?_) (fun h153 => ?_)
              · refine r_iincN (k := 1) (lv' := [(6, .int (nI (dk + 1))), (7, .int (nI (e dk))), (0, .ref (o)), (1, .int (nI (l))), (2, .ref (A l)), (3, .ref (o + 12 + p)), (4, .int (nI (n))), (5, .int (nI (1)))]) dX7_inspectLot_193 (by decide) 7 rfl (by decide) rfl ?_
                refine r_goto (tgt := 123) dX7_inspectLot_196 (by decide) ?_
                refine Wx.sub [2, 3, 4, 5, 6, 7, 0] rfl ?_
                exact next _ _ (by omega) ⟨_, hx_15, ⟨(by rw [← GF_sg hcc.1 hl24 (Classical.not_not.mp h153)]; exact hr1.le (by omega)), hd1⟩, rfl⟩
              · refine r_aload_n dX7_inspectLot_156 rfl 3 rfl ?_
                refine r_dup dX7_inspectLot_157 rfl ?_
                refine r_getI (ci := 7) (k := 8) dX7_inspectLot_158 fr_X7_174 (hx_15.1.lo hl24 hAl).2.1 rfl ?_
                refine Wx.top (hx_15.1.l8 hl24 hAl) ?_
                refine Wx.topN (((hL1).h (f := 7) (by decide)).trans ((up1_n (by omega)).trans hfn.2.2.2)) ?_
                refine r_iconst (v := nI 1) dX7_inspectLot_161 (by decide) ?_
                refine r_iaddN dX7_inspectLot_162 ?_
                refine r_putI (ci := 7) (k := 8) dX7_inspectLot_163 fw_X7_inspectLot_174 (hx_15.1.lo hl24 hAl).2.1 rfl rfl rfl ?_
                refine Wx.gx ((hx_15.L (f := 8) hl24 hAl (by decide))) (fun T_16 (hx_16 : OX S w A T_16 w k o A (up1 (dwC c (n - dk) (sdN (c 3) / 65536 % (n - dk))) (90 + 13 * l + 7) (cnt (DB g l e dk) (g (90 + 13 * l + 1)) + 1))) => ?_)
                refine r_aload_n dX7_inspectLot_166 rfl 3 rfl ?_
                refine r_getR (ci := 7) (k := 11) (b := A l + 2) dX7_inspectLot_167 fr_X7_137 (hx_16.1.lo hl24 hAl).2.1 rfl (hx_16.1.lo hl24 hAl).2.2.1.2.1 ?_
                refine r_iload dX7_inspectLot_170 0 rfl ?_
                refine r_iconst (v := nI 1) dX7_inspectLot_172 (by decide) ?_
                refine r_iast dX7_inspectLot_173 (hx_16.1.lo hl24 hAl).2.2.2.2.1.1 (by rw [show zN T_16 (A l + 2) = 200 from (hx_16.1.lo hl24 hAl).2.2.2.2.1.2]; exact vp_in_nI (by (first | omega | (refine Nat.lt_of_le_of_lt Nat.and_le_left ?_; first | omega | (refine Nat.lt_of_le_of_lt Nat.and_le_left ?_; omega)))) (by decide)) ?_
                refine Wx.st' (S' := uA T_16 (A l + 2) (e dk) (nI (1))) (by rw [nI_clamp (by (first | omega | (refine Nat.lt_of_le_of_lt Nat.and_le_left ?_; first | omega | (refine Nat.lt_of_le_of_lt Nat.and_le_left ?_; omega))))]) ?_
                refine Wx.gx ((hx_16.U (f := 0) (u := e dk) hl24 hAl (by (first | omega | (refine Nat.lt_of_le_of_lt Nat.and_le_left ?_; first | omega | (refine Nat.lt_of_le_of_lt Nat.and_le_left ?_; omega)))) (by decide))) (fun T_17 (hx_17 : OX S w A T_17 w k o A (up1 (up1 (dwC c (n - dk) (sdN (c 3) / 65536 % (n - dk))) (90 + 13 * l + 7) (cnt (DB g l e dk) (g (90 + 13 * l + 1)) + 1)) (402 + 8 * (200 * l + (e dk))) (1))) => ?_)
                refine r_aload_n dX7_inspectLot_174 rfl 1 rfl ?_
                refine r_iload_n dX7_inspectLot_175 rfl 2 rfl ?_
                refine r_iload dX7_inspectLot_176 0 rfl ?_
                refine r_aload_n dX7_inspectLot_178 rfl 3 rfl ?_
                refine r_getR (ci := 7) (k := 12) (b := A l + 3) dX7_inspectLot_179 fr_X7_147 (hx_17.1.lo hl24 hAl).2.1 rfl (hx_17.1.lo hl24 hAl).2.2.1.2.2.1 ?_
                refine r_iload dX7_inspectLot_182 0 rfl ?_
                refine r_iald dX7_inspectLot_184 (hx_17.1.lo hl24 hAl).2.2.2.2.2.1.1 (by rw [show zN T_17 (A l + 3) = 200 from (hx_17.1.lo hl24 hAl).2.2.2.2.2.1.2]; exact vp_in_nI (by (first | omega | (refine Nat.lt_of_le_of_lt Nat.and_le_left ?_; first | omega | (refine Nat.lt_of_le_of_lt Nat.and_le_left ?_; omega)))) (by decide)) ?_
                refine Wx.top (congrArg (zA _ _) (nI_clamp (by (first | omega | (refine Nat.lt_of_le_of_lt Nat.and_le_left ?_; first | omega | (refine Nat.lt_of_le_of_lt Nat.and_le_left ?_; omega)))))) ?_
                refine Wx.top (hx_17.1.u1 (u := e dk) hl24 hAl (by (first | omega | (refine Nat.lt_of_le_of_lt Nat.and_le_left ?_; first | omega | (refine Nat.lt_of_le_of_lt Nat.and_le_left ?_; omega))))) ?_
                refine Wx.topN (up1_n (ins1_z40 hl24)) ?_
                refine Wx.topN (up1_n (ins1_z41 hl24)) ?_
                refine Wx.topN (hL1.u1 (u := (e dk)) hu9) ?_
                refine Wx.topN (show (up1 (GF g l cc e (g (90 + 13 * l + 1)) v s a dk) 3 (sdI g (dk + 1))) (402 + 2 * (200 * l + (e dk))) % 16 = g (402 + 2 * (200 * l + (e dk))) % 16 from congrArg (fun z => z % 16) h1y) ?_
                refine r_aload_n dX7_inspectLot_185 rfl 4 rfl ?_
                refine r_getI (ci := 10) (k := 1) dX7_inspectLot_186 fr_X7_79 (hx_17.1.1.2.2.2.2.2.2.2.2 p (by (first | omega | (refine Nat.lt_of_le_of_lt Nat.and_le_left ?_; first | omega | (refine Nat.lt_of_le_of_lt Nat.and_le_left ?_; omega))))).2 rfl ?_
                refine Wx.top (hx_17.1.p1 (i := p) (by (first | omega | (refine Nat.lt_of_le_of_lt Nat.and_le_left ?_; first | omega | (refine Nat.lt_of_le_of_lt Nat.and_le_left ?_; omega))))) ?_
                refine Wx.topN (up1_n (ins1_z42 hl24 hp4)) ?_
                refine Wx.topN (up1_n (ins1_z43 hl24 hp4)) ?_
                refine Wx.topN ((hr1.p (p := p) (by (first | omega | (refine Nat.lt_of_le_of_lt Nat.and_le_left ?_; first | omega | (refine Nat.lt_of_le_of_lt Nat.and_le_left ?_; omega))))).cf (f := 1) (by decide)) ?_
                refine Wx.topN (show (up1 (GF g l cc e (g (90 + 13 * l + 1)) v s a dk) 3 (sdI g (dk + 1))) (22 + 10 * p + 1) = g (22 + 10 * p + 1) from congrArg (fun z => z) ((up1_n (by omega)).trans (hGh _ (by omega) (by omega) (by omega) (by omega)))) ?_
                refine r_iandN dX7_inspectLot_189 (by (first | omega | (refine Nat.lt_of_le_of_lt Nat.and_le_left ?_; first | omega | (refine Nat.lt_of_le_of_lt Nat.and_le_left ?_; omega)))) (by (first | omega | (refine Nat.lt_of_le_of_lt Nat.and_le_left ?_; first | omega | (refine Nat.lt_of_le_of_lt Nat.and_le_left ?_; omega)))) ?_
                obtain ⟨hr3, h4d, hcc4, h40, h4z⟩ := Rel.i4 (f := cnt (DB g l e dk) (g (90 + 13 * l + 1)) + 1) (ks := g (22 + 10 * p + 1)) (cx := cc (e dk)) hr1 hl1 hu9 (by rw [h1y, hz2]) hf1 (CauC_GF hcc.1 hl24 hgy (hp ▸ hcc.2 (e dk) hz1))
                have hl4 : l < (becG (up1 (up1 (GF g l cc e (g (90 + 13 * l + 1)) v s a dk) 3 (sdI g (dk + 1))) (90 + 13 * l + 7) (cnt (DB g l e dk) (g (90 + 13 * l + 1)) + 1)) l (e dk) 1) 0 := by rw [h40]; exact hl1
                have hu4 : e dk < (becG (up1 (up1 (GF g l cc e (g (90 + 13 * l + 1)) v s a dk) 3 (sdI g (dk + 1))) (90 + 13 * l + 7) (cnt (DB g l e dk) (g (90 + 13 * l + 1)) + 1)) l (e dk) 1) (90 + 13 * l + 1) := by rw [h4z]; exact hu9
                have ha4 : ∀ z, z < (becG (up1 (up1 (GF g l cc e (g (90 + 13 * l + 1)) v s a dk) 3 (sdI g (dk + 1))) (90 + 13 * l + 7) (cnt (DB g l e dk) (g (90 + 13 * l + 1)) + 1)) l (e dk) 1) 0 → A z ≠ 0 := fun z hz9 => ha1 z (by rw [h40] at hz9; exact hz9)
                rw [h1y] at h4d
                refine r_ofV (M2 := m_X7_blameDefects) (As := [.int (nI (l)), .int (nI (e dk)), .int (nI ((g (402 + 2 * (200 * l + (e dk))) % 16) &&& (g (22 + 10 * p + 1))))]) (rest := []) (v := none) dX7_inspectLot_190 cc_X7_inspectLot_183 rfl rfl rfl (Nat.le_of_ble_eq_true rfl) hx_17.1.1.1 rfl rfl (by decide) hx_17 (by have q9 := o_blame (G := G) hx_17.1 hr3 ha4 hl4 hu4 hks hcc4; rw [h4d] at q9; exact q9) rfl (fun T_18 (hx_18 : OX S w A T_18 w k o A (mrg (up1 (up1 (dwC c (n - dk) (sdN (c 3) / 65536 % (n - dk))) (90 + 13 * l + 7) (cnt (DB g l e dk) (g (90 + 13 * l + 1)) + 1)) (402 + 8 * (200 * l + (e dk))) (1)) (blmG (becG (up1 (up1 (GF g l cc e (g (90 + 13 * l + 1)) v s a dk) 3 (sdI g (dk + 1))) (90 + 13 * l + 7) (cnt (DB g l e dk) (g (90 + 13 * l + 1)) + 1)) l (e dk) 1) (cc (e dk)) l (e dk) (g (22 + 10 * p + 1))))) => ?_)
                have hr4 : Rel (mrg (up1 (up1 (dwC c (n - dk) (sdN (c 3) / 65536 % (n - dk))) (90 + 13 * l + 7) (cnt (DB g l e dk) (g (90 + 13 * l + 1)) + 1)) (402 + 8 * (200 * l + (e dk))) (1)) (blmG (becG (up1 (up1 (GF g l cc e (g (90 + 13 * l + 1)) v s a dk) 3 (sdI g (dk + 1))) (90 + 13 * l + 7) (cnt (DB g l e dk) (g (90 + 13 * l + 1)) + 1)) l (e dk) 1) (cc (e dk)) l (e dk) (g (22 + 10 * p + 1)))) (blmG (becG (up1 (up1 (GF g l cc e (g (90 + 13 * l + 1)) v s a dk) 3 (sdI g (dk + 1))) (90 + 13 * l + 7) (cnt (DB g l e dk) (g (90 + 13 * l + 1)) + 1)) l (e dk) 1) (cc (e dk)) l (e dk) (g (22 + 10 * p + 1))) (N + 4 * dk + 4) := Rel.blm (Nat.le_add_right _ 4) (fun i hi => blmG_n (hcc.1 _) hi) (blmI_le (fun j hj => hr3.bb hj) 4) hr3
                refine r_iincN (k := 1) (lv' := [(6, .int (nI (dk + 1))), (7, .int (nI (e dk))), (0, .ref (o)), (1, .int (nI (l))), (2, .ref (A l)), (3, .ref (o + 12 + p)), (4, .int (nI (n))), (5, .int (nI (1)))]) dX7_inspectLot_193 (by decide) 7 rfl (by decide) rfl ?_
                refine r_goto (tgt := 123) dX7_inspectLot_196 (by decide) ?_
                refine Wx.sub [2, 3, 4, 5, 6, 7, 0] rfl ?_
                exact next _ _ (by omega) ⟨_, hx_18, ⟨(by rw [← GF_sb hcc.1 hl24 hz hz1 hz3 h153, hp]; exact hr4.le (by omega)), LD.congr (fun _ => Iff.rfl) (fun j hj => LD_far hl24 (Nat.lt_of_lt_of_le hz1 hz)) hd1⟩, rfl⟩
      · exact absurd h49 hv3
theorem ins2_z44 {l : Nat} (h0 : l < 24) : 90 + 13 * l + 4 ≠ 90 + 13 * l + 5 := by omega
theorem ins2_z45 {l : Nat} (h0 : l < 24) : 90 + 13 * l + 7 ≠ 90 + 13 * l + 3 := by omega
theorem ins2_z46 {l : Nat} (h0 : l < 24) : 90 + 13 * l + 6 ≠ 90 + 13 * l + 3 := by omega
theorem ins2_z47 {l : Nat} (h0 : l < 24) : 90 + 13 * l + 7 ≠ 90 + 13 * l + 2 := by omega
theorem ins2_z48 {l : Nat} (h0 : l < 24) : 90 + 13 * l + 7 ≠ 90 + 13 * l + 3 := by omega
theorem ins2_z49 {l : Nat} (h0 : l < 24) : 90 + 13 * l + 7 ≠ 90 + 13 * l + 2 := by omega
theorem ins2_z50 {l : Nat} (h0 : l < 24) : 90 + 13 * l + 7 ≠ 90 + 13 * l + 3 := by omega
theorem ins2_z51 {ek l : Nat} (h0 : l < 24) : 402 + 8 * (200 * l + ek) + 1 ≠ 402 + 8 * (200 * l + ek) := by omega
theorem ins2_z52 {ek l : Nat} (h0 : l < 24) : 402 + 8 * (200 * l + ek) + 1 ≠ 90 + 13 * l + 7 := by omega
theorem ins2_z53 {ek l p : Nat} (h0 : l < 24) (h1 : p < 4) : 22 + 10 * p + 1 ≠ 402 + 8 * (200 * l + ek) := by omega
theorem ins2_z54 {l p : Nat} (h0 : l < 24) (h1 : p < 4) : 22 + 10 * p + 1 ≠ 90 + 13 * l + 7 := by omega
set_option maxRecDepth 4000 in
set_option maxHeartbeats 400000 in
theorem ch_insp2 {G : GI} {S : Hp} {w : Nat → Nat} {k o : Nat} {A c g : Nat → Nat} {N : Nat} (h : OR S w k o A c) (hr : Rel c g N) (hal : ∀ l, l < g 0 → A l ≠ 0) {l : Nat} (hl : l < g 0) {p n s a : Nat} (hp : g (90 + 13 * l + 0) = p) (hF : ¬ g (90 + 13 * l + 3) = 0) (hn : inS g l 0 = n) (hsm : smpN n 1 = s) (hal9 : alwN s (g (22 + 10 * p)) 1 = a) (hok : ¬ (¬ g (90 + 13 * l + 2) = 0 ∨ inS g l 0 = 0 ∨ g (22 + 10 * p + 3) = 3)) {e : Nat → Nat} (hD : DrawE g l n s e) {cc : Nat → Nat → Nat} (hcc : CauA g l (g (90 + 13 * l + 1)) (g (22 + 10 * g (90 + 13 * l + 0) + 1)) cc) (hNb : N < 2147470000) : OCx m_X7_inspectLot G [.ref (o), .int (nI (l))] S w k o A (some (.int (nI (cnt (DB g l e s) (g (90 + 13 * l + 1)))))) (up1 (up1 (up1 (up1 (up1 (up1 (insI g l cc e s (g (90 + 13 * l + 1))) (90 + 13 * l + 2) (if a < cnt (DB g l e s) (g (90 + 13 * l + 1)) then 2 else 1)) (90 + 13 * l + 4) 1) (90 + 13 * l + 5) s) (90 + 13 * l + 6) a) (90 + 13 * l + 7) (cnt (DB g l e s) (g (90 + 13 * l + 1)))) (90 + 13 * l + 3) (g (90 + 13 * l + 3) + 1)) (N + 1000) := by
  refine Cn.of rfl (by decide) (Nat.le_of_ble_eq_true rfl) (fun hN hM => ?_)
  show Wx _ G _ 0 [(0, .ref (o)), (1, .int (nI (l)))] [] _
  have hx := OX.refl h
  have h24 := hr.n24
  have hl24 : l < 24 := by omega
  have hAl := hal l hl
  have hL := hr.lot hl
  have hz := hL.z
  have hp4 : p < 4 := by have := hL.pr; omega
  have hpb := (hr.p hp4).b
  have hcst := hL.st
  have hcin := hL.1.2.2.2.1
  have hsl := smpN_le n 1
  have hn200 : n ≤ 200 := by rw [← hn]; exact Nat.le_trans (cnt_le _ _) hz
  have hs32 : s ≤ 32 ∧ s ≤ n := by rw [← hsm]; exact ⟨hsl.2, hsl.1⟩
  have ha10 : a ≤ 10 := by rw [← hal9]; exact alwN_le hs32.1 hpb.1
  have hok1 : g (90 + 13 * l + 2) = 0 := Classical.not_not.mp fun q => hok (Or.inl q)
  have hok2 : ¬ n = 0 := fun q => hok (Or.inr (Or.inl (hn.trans q)))
  have hok3 : ¬ g (22 + 10 * p + 3) = 3 := fun q => hok (Or.inr (Or.inr q))
  have hv2 : 1 < 3 := by decide
  refine r_aload_n dX7_inspectLot_0 rfl 0 rfl ?_
  refine r_iload_n dX7_inspectLot_1 rfl 1 rfl ?_
  refine r_fnV (M2 := m_X7_lotAt) (As := [.int (nI (l))]) (rest := []) (v := some (.ref (A l))) dX7_inspectLot_2 cc_X7_inspectLot_105 rfl rfl rfl (Nat.le_of_ble_eq_true rfl) hx.1.1.1 rfl rfl (by decide) (o_lotAt hx.1 hr hal (l := l) (by (first | omega | (refine Nat.lt_of_le_of_lt Nat.and_le_left ?_; first | omega | (refine Nat.lt_of_le_of_lt Nat.and_le_left ?_; omega))))) rfl ?_
  refine r_astore_n (lv' := [(2, .ref (A l)), (0, .ref (o)), (1, .int (nI (l)))]) dX7_inspectLot_5 rfl (by decide) rfl ?_
  refine r_aload_n dX7_inspectLot_6 rfl 0 rfl ?_
  refine r_ifnonnull (tgt := 12) dX7_inspectLot_7 (by decide) ?_
  refine r_aload_n dX7_inspectLot_12 rfl 1 rfl ?_
  refine r_aload_n dX7_inspectLot_13 rfl 0 rfl ?_
  refine r_getI (ci := 7) (k := 0) dX7_inspectLot_14 fr_X7_72 (hx.1.lo hl24 hAl).2.1 rfl ?_
  refine Wx.top (hx.1.l0 hl24 hAl) ?_
  refine Wx.topN (hL.h (f := 0) (by decide)) ?_
  refine Wx.topN hp ?_
  refine r_fnV (M2 := m_X7_productAt) (As := [.int (nI (p))]) (rest := []) (v := some (.ref (o + 12 + p))) dX7_inspectLot_17 cc_X7_inspectLot_75 rfl rfl rfl (Nat.le_of_ble_eq_true rfl) hx.1.1.1 rfl rfl (by decide) (k_productAt hx.1.1 (by (first | omega | (refine Nat.lt_of_le_of_lt Nat.and_le_left ?_; first | omega | (refine Nat.lt_of_le_of_lt Nat.and_le_left ?_; omega))))) rfl ?_
  refine r_astore_n (lv' := [(3, .ref (o + 12 + p)), (2, .ref (A l)), (0, .ref (o)), (1, .int (nI (l)))]) dX7_inspectLot_20 rfl (by decide) rfl ?_
  refine r_aload_n dX7_inspectLot_21 rfl 2 rfl ?_
  refine r_aload_n dX7_inspectLot_22 rfl 1 rfl ?_
  refine r_oexV (M2 := m_X7_listDrawable) (As := [.ref (A l)]) (rest := []) (v := some (.int (nI n))) dX7_inspectLot_23 cc_X7_inspectLot_154 rfl rfl rfl (Nat.le_of_ble_eq_true rfl) hx.1.1.1 rfl rfl (by decide) hx (hn ▸ o_list hx.1 hr hal hl) rfl (fun T cd (hx : OX S w A T w k o A cd) hcd => ?_)
  have hrd : Rel cd g N := Rel.dr hcd.1 hr
  refine r_istore (lv' := [(4, .int (nI (n))), (3, .ref (o + 12 + p)), (2, .ref (A l)), (0, .ref (o)), (1, .int (nI (l)))]) dX7_inspectLot_26 (by decide) rfl ?_
  refine r_aload_n dX7_inspectLot_28 rfl 1 rfl ?_
  refine r_ifnull dX7_inspectLot_29 ?_
  refine r_aload_n dX7_inspectLot_32 rfl 2 rfl ?_
  refine r_getI (ci := 7) (k := 3) dX7_inspectLot_33 fr_X7_108 (hx.1.lo hl24 hAl).2.1 rfl ?_
  refine Wx.top (hx.1.l3 hl24 hAl) ?_
  refine Wx.topN ((hrd.lot (l := l) (by (first | omega | (refine Nat.lt_of_le_of_lt Nat.and_le_left ?_; first | omega | (refine Nat.lt_of_le_of_lt Nat.and_le_left ?_; omega))))).h (f := 2) (by decide)) ?_
  refine r_if_neN (tgt := 52) dX7_inspectLot_36 (by decide) (by (first | omega | (refine Nat.lt_of_le_of_lt Nat.and_le_left ?_; first | omega | (refine Nat.lt_of_le_of_lt Nat.and_le_left ?_; omega)))) (fun h36 => ?_) (fun h36 => ?_)
  · exact absurd hok1 h36
  · refine r_iload dX7_inspectLot_39 0 rfl ?_
    refine r_if_eqN (tgt := 52) dX7_inspectLot_41 (by decide) (by (first | omega | (refine Nat.lt_of_le_of_lt Nat.and_le_left ?_; first | omega | (refine Nat.lt_of_le_of_lt Nat.and_le_left ?_; omega)))) (fun h41 => ?_) (fun h41 => ?_)
    · exact absurd h41 hok2
    · refine r_aload_n dX7_inspectLot_44 rfl 1 rfl ?_
      refine r_getI (ci := 10) (k := 3) dX7_inspectLot_45 fr_X7_98 (hx.1.1.2.2.2.2.2.2.2.2 p (by (first | omega | (refine Nat.lt_of_le_of_lt Nat.and_le_left ?_; first | omega | (refine Nat.lt_of_le_of_lt Nat.and_le_left ?_; omega))))).2 rfl ?_
      refine Wx.top (hx.1.p3 (i := p) (by (first | omega | (refine Nat.lt_of_le_of_lt Nat.and_le_left ?_; first | omega | (refine Nat.lt_of_le_of_lt Nat.and_le_left ?_; omega))))) ?_
      refine Wx.topN ((hrd.p (p := p) (by (first | omega | (refine Nat.lt_of_le_of_lt Nat.and_le_left ?_; first | omega | (refine Nat.lt_of_le_of_lt Nat.and_le_left ?_; omega))))).cf (f := 3) (by decide)) ?_
      refine r_iconst (v := nI 3) dX7_inspectLot_48 (by decide) ?_
      refine r_icmp_neN (tgt := 55) dX7_inspectLot_49 (by decide) (by (first | omega | (refine Nat.lt_of_le_of_lt Nat.and_le_left ?_; first | omega | (refine Nat.lt_of_le_of_lt Nat.and_le_left ?_; omega)))) (by (first | omega | (refine Nat.lt_of_le_of_lt Nat.and_le_left ?_; first | omega | (refine Nat.lt_of_le_of_lt Nat.and_le_left ?_; omega)))) (fun h49 => ?_) (fun h49 => ?_)
      · refine r_aload_n dX7_inspectLot_55 rfl 2 rfl ?_
        refine r_getI (ci := 7) (k := 4) dX7_inspectLot_56 fr_X7_158 (hx.1.lo hl24 hAl).2.1 rfl ?_
        refine Wx.top (hx.1.l4 hl24 hAl) ?_
        refine Wx.topN ((hrd.lot (l := l) (by (first | omega | (refine Nat.lt_of_le_of_lt Nat.and_le_left ?_; first | omega | (refine Nat.lt_of_le_of_lt Nat.and_le_left ?_; omega))))).h (f := 3) (by decide)) ?_
        refine r_if_neN (tgt := 66) dX7_inspectLot_59 (by decide) (by (first | omega | (refine Nat.lt_of_le_of_lt Nat.and_le_left ?_; first | omega | (refine Nat.lt_of_le_of_lt Nat.and_le_left ?_; omega)))) (fun h59 => ?_) (fun h59 => ?_)
        · refine r_iconst (v := nI 0) dX7_inspectLot_66 (by decide) ?_
          refine r_istore (lv' := [(5, .int (nI (0))), (4, .int (nI (n))), (3, .ref (o + 12 + p)), (2, .ref (A l)), (0, .ref (o)), (1, .int (nI (l)))]) dX7_inspectLot_67 (by decide) rfl ?_
          refine r_aload_n dX7_inspectLot_69 rfl 3 rfl ?_
          refine r_iload dX7_inspectLot_70 0 rfl ?_
          refine r_if_eqN (tgt := 82) dX7_inspectLot_72 (by decide) (by (first | omega | (refine Nat.lt_of_le_of_lt Nat.and_le_left ?_; first | omega | (refine Nat.lt_of_le_of_lt Nat.and_le_left ?_; omega)))) (fun zz72 => ?_) (fun zz72 => ?_)
          · refine r_iconst (v := nI 1) dX7_inspectLot_82 (by decide) ?_
            refine r_putI (ci := 7) (k := 5) dX7_inspectLot_83 fw_X7_inspectLot_161 (hx.1.lo hl24 hAl).2.1 rfl rfl rfl ?_
            refine Wx.gx ((hx.L (f := 5) hl24 hAl (by decide))) (fun T_1 (hx_1 : OX S w A T_1 w k o A (up1 cd (90 + 13 * l + 4) (1))) => ?_)
            refine r_aload_n dX7_inspectLot_86 rfl 3 rfl ?_
            refine r_iload dX7_inspectLot_87 1 rfl ?_
            refine r_aload_n dX7_inspectLot_89 rfl 3 rfl ?_
            refine r_getI (ci := 7) (k := 5) dX7_inspectLot_90 fr_X7_161 (hx_1.1.lo hl24 hAl).2.1 rfl ?_
            refine Wx.top (hx_1.1.l5 hl24 hAl) ?_
            refine Wx.topN up1_s ?_
            refine r_fnS (M2 := m_X8_sampleSize) (As := [.int (nI (n)), .int (nI (1))]) (rest := [.ref (A l)]) (v := some (.int (nI (s)))) dX7_inspectLot_93 cc_X7_inspectLot_162 rfl rfl rfl (Nat.le_of_ble_eq_true rfl) (by have q9 := k_sample (G := G) (S := T_1) (n := n) (v := 1) (by omega) (by omega); rw [show smpN n 1 = s from hsm] at q9; exact q9) rfl ?_
            refine r_putI (ci := 7) (k := 6) dX7_inspectLot_96 fw_X7_inspectLot_165 (hx_1.1.lo hl24 hAl).2.1 rfl rfl rfl ?_
            refine Wx.gx ((hx_1.L (f := 6) hl24 hAl (by decide))) (fun T_2 (hx_2 : OX S w A T_2 w k o A (up1 (up1 cd (90 + 13 * l + 4) (1)) (90 + 13 * l + 5) (s))) => ?_)
            refine r_aload_n dX7_inspectLot_99 rfl 3 rfl ?_
            refine r_aload_n dX7_inspectLot_100 rfl 2 rfl ?_
            refine r_aload_n dX7_inspectLot_101 rfl 3 rfl ?_
            refine r_getI (ci := 7) (k := 6) dX7_inspectLot_102 fr_X7_165 (hx_2.1.lo hl24 hAl).2.1 rfl ?_
            refine Wx.top (hx_2.1.l6 hl24 hAl) ?_
            refine Wx.topN up1_s ?_
            refine r_aload_n dX7_inspectLot_105 rfl 3 rfl ?_
            refine r_getI (ci := 7) (k := 5) dX7_inspectLot_106 fr_X7_161 (hx_2.1.lo hl24 hAl).2.1 rfl ?_
            refine Wx.top (hx_2.1.l5 hl24 hAl) ?_
            refine Wx.topN (up1_n (ins2_z44 hl24)) ?_
            refine Wx.topN up1_s ?_
            refine r_fnV (M2 := m_X8_allowedIn) (As := [.int (nI (s)), .int (nI (1))]) (rest := [.ref (A l)]) (v := some (.int (nI (a)))) dX7_inspectLot_109 cc_X7_inspectLot_168 rfl rfl rfl (Nat.le_of_ble_eq_true rfl) (hx_2.1.1.2.2.2.2.2.2.2.2 p (by (first | omega | (refine Nat.lt_of_le_of_lt Nat.and_le_left ?_; first | omega | (refine Nat.lt_of_le_of_lt Nat.and_le_left ?_; omega))))).2 rfl rfl (by decide) (by have q9 := k_allowed (G := G) (q := g (22 + 10 * p)) (hx_2.1.1.2.2.2.2.2.2.2.2 p (by (first | omega | (refine Nat.lt_of_le_of_lt Nat.and_le_left ?_; first | omega | (refine Nat.lt_of_le_of_lt Nat.and_le_left ?_; omega))))).2 ((hx_2.1.p0 (i := p) hp4).trans (congrArg nI (by rw [up1_n (by omega), up1_n (by omega), (hrd.p hp4).c0]))) (s := s) (v := 1) (by omega) (by omega) (by omega); rw [show alwN s (g (22 + 10 * p)) 1 = a from hal9] at q9; exact q9) rfl ?_
            refine r_putI (ci := 7) (k := 7) dX7_inspectLot_112 fw_X7_inspectLot_171 (hx_2.1.lo hl24 hAl).2.1 rfl rfl rfl ?_
            refine Wx.gx ((hx_2.L (f := 7) hl24 hAl (by decide))) (fun T_3 (hx_3 : OX S w A T_3 w k o A (up1 (up1 (up1 cd (90 + 13 * l + 4) (1)) (90 + 13 * l + 5) (s)) (90 + 13 * l + 6) (a))) => ?_)
            refine r_aload_n dX7_inspectLot_115 rfl 3 rfl ?_
            refine r_iconst (v := nI 0) dX7_inspectLot_116 (by decide) ?_
            refine r_putI (ci := 7) (k := 8) dX7_inspectLot_117 fw_X7_inspectLot_174 (hx_3.1.lo hl24 hAl).2.1 rfl rfl rfl ?_
            refine Wx.gx ((hx_3.L (f := 8) hl24 hAl (by decide))) (fun T_4 (hx_4 : OX S w A T_4 w k o A (up1 (up1 (up1 (up1 cd (90 + 13 * l + 4) (1)) (90 + 13 * l + 5) (s)) (90 + 13 * l + 6) (a)) (90 + 13 * l + 7) (0))) => ?_)
            refine r_iconst (v := nI 0) dX7_inspectLot_120 (by decide) ?_
            refine r_istore (lv' := [(6, .int (nI (0))), (5, .int (nI (0))), (4, .int (nI (n))), (3, .ref (o + 12 + p)), (2, .ref (A l)), (0, .ref (o)), (1, .int (nI (l)))]) dX7_inspectLot_121 (by decide) rfl ?_
            have hr0 : Rel (up1 (up1 (up1 (up1 cd (90 + 13 * l + 4) (1)) (90 + 13 * l + 5) (s)) (90 + 13 * l + 6) (a)) (90 + 13 * l + 7) (0)) (GF g l cc e (g (90 + 13 * l + 1)) 1 s a 0) (N + 4 * 0) := Rel.i0 hrd hl hv2 (by omega) (by omega)
            have hd0 : LD (HD g l e 0) (up1 (up1 (up1 (up1 cd (90 + 13 * l + 4) (1)) (90 + 13 * l + 5) (s)) (90 + 13 * l + 6) (a)) (90 + 13 * l + 7) (0)) (n - 0) (g (90 + 13 * l + 1)) := LD.congr (fun v => ⟨fun q => ⟨q, fun ⟨z, hz, _⟩ => absurd hz (Nat.not_lt_zero z)⟩, fun q => q.1⟩) (fun j hj => by rw [up1_n (by omega), up1_n (by omega), up1_n (by omega), up1_n (by omega)]) hcd.2
            refine Wx.sub [5, 6, 4, 3, 2, 1, 0] rfl ?_
            refine Wx.loopR (fun dk T lv => ∃ c, OX S w A T w k o A c ∧ (Rel c (GF g l cc e (g (90 + 13 * l + 1)) 1 s a dk) (N + 4 * dk) ∧ LD (HD g l e dk) c (n - dk) (g (90 + 13 * l + 1))) ∧ lv = [(0, .ref (o)), (1, .int (nI (l))), (2, .ref (A l)), (3, .ref (o + 12 + p)), (4, .int (nI (n))), (5, .int (nI (0))), (6, .int (nI (dk)))]) (s) (0) (Nat.zero_le _) ⟨_, hx_4, ⟨hr0, hd0⟩, rfl⟩ (fun dk T_5 lv hge hle hI9 next => ?_)
            obtain ⟨c, hx_5, hP, rfl⟩ := hI9
            have hG3 : GF g l cc e (g (90 + 13 * l + 1)) 1 s a dk 3 = sdI g dk := by rw [GF_n (by omega), insI_3 hcc.1]
            have hGh : ∀ i, i ≠ 3 → (i < 62 ∨ 90 ≤ i) → (i < 90 + 13 * l + 4 ∨ 90 + 13 * l + 7 < i) → i < 402 → GF g l cc e (g (90 + 13 * l + 1)) 1 s a dk i = g i := fun i h1 h2 h3 h4 => by rw [GF_n h3]; exact insI_o hcc.1 h1 h2 _ (fun z _ => by omega)
            have hG7 : GF g l cc e (g (90 + 13 * l + 1)) 1 s a dk (90 + 13 * l + 7) = cnt (DB g l e dk) (g (90 + 13 * l + 1)) := GF_4.2.2.2
            have hks : g (22 + 10 * p + 1) < 16 := hpb.2.1
            have hfle : cnt (DB g l e dk) (g (90 + 13 * l + 1)) ≤ dk := DB_le dk
            have hfz : cnt (DB g l e dk) (g (90 + 13 * l + 1)) ≤ g (90 + 13 * l + 1) := cnt_le _ _
            have hG0 := hGh 0 (by omega) (by omega) (by omega) (by omega)
            have hLk := hP.1.lot (l := l) (by rw [hG0]; exact hl)
            have hkD : dk < s → e dk < g (90 + 13 * l + 1) ∧ sW (g (402 + 2 * (200 * l + e dk))) = 0 ∧ (¬ ∃ q, q < dk ∧ e dk = e q) ∧ cnt (HD g l e dk) (e dk) = sdI g (dk + 1) / 65536 % (n - dk) := fun q9 => hD dk q9
            have hfn := GF_4 (g := g) (l := l) (cc := cc) (e := e) (n := g (90 + 13 * l + 1)) (v := 1) (s := s) (a := a) (k := dk)
            refine r_iload dX7_inspectLot_123 6 rfl ?_
            refine r_aload_n dX7_inspectLot_125 rfl 2 rfl ?_
            refine r_getI (ci := 7) (k := 6) dX7_inspectLot_126 fr_X7_165 (hx_5.1.lo hl24 hAl).2.1 rfl ?_
            refine Wx.top (hx_5.1.l6 hl24 hAl) ?_
            refine Wx.topN (((hLk).h (f := 5) (by decide)).trans hfn.2.1) ?_
            refine r_icmp_geN (tgt := 199) dX7_inspectLot_129 (by decide) (by (first | omega | (refine Nat.lt_of_le_of_lt Nat.and_le_left ?_; first | omega | (refine Nat.lt_of_le_of_lt Nat.and_le_left ?_; omega)))) (by (first | omega | (refine Nat.lt_of_le_of_lt Nat.and_le_left ?_; first | omega | (refine Nat.lt_of_le_of_lt Nat.and_le_left ?_; omega)))) (fun h129 => ?_) (fun h129 => ?_)
            · obtain rfl : s = dk := by omega
              refine r_aload_n dX7_inspectLot_199 rfl 2 rfl ?_
              refine r_dup dX7_inspectLot_200 rfl ?_
              refine r_getI (ci := 7) (k := 4) dX7_inspectLot_201 fr_X7_158 (hx_5.1.lo hl24 hAl).2.1 rfl ?_
              refine Wx.top (hx_5.1.l4 hl24 hAl) ?_
              refine Wx.topN (hLk.h (f := 3) (by decide)) ?_
              refine Wx.topN (show (GF g l cc e (g (90 + 13 * l + 1)) 1 s a s) (90 + 13 * l + 3) = g (90 + 13 * l + 3) from congrArg (fun z => z) (hGh _ (by omega) (by omega) (by omega) (by omega))) ?_
              refine r_iconst (v := nI 1) dX7_inspectLot_204 (by decide) ?_
              refine r_iaddN dX7_inspectLot_205 ?_
              refine r_putI (ci := 7) (k := 4) dX7_inspectLot_206 fw_X7_inspectLot_158 (hx_5.1.lo hl24 hAl).2.1 rfl rfl rfl ?_
              refine Wx.gx ((hx_5.L (f := 4) hl24 hAl (by decide))) (fun T_6 (hx_6 : OX S w A T_6 w k o A (up1 c (90 + 13 * l + 3) (g (90 + 13 * l + 3) + 1))) => ?_)
              refine r_aload_n dX7_inspectLot_209 rfl 2 rfl ?_
              refine r_aload_n dX7_inspectLot_210 rfl 2 rfl ?_
              refine r_getI (ci := 7) (k := 8) dX7_inspectLot_211 fr_X7_174 (hx_6.1.lo hl24 hAl).2.1 rfl ?_
              refine Wx.top (hx_6.1.l8 hl24 hAl) ?_
              refine Wx.topN (up1_n (ins2_z45 hl24)) ?_
              refine Wx.topN (((hLk).h (f := 7) (by decide)).trans hfn.2.2.2) ?_
              refine r_aload_n dX7_inspectLot_214 rfl 2 rfl ?_
              refine r_getI (ci := 7) (k := 7) dX7_inspectLot_215 fr_X7_171 (hx_6.1.lo hl24 hAl).2.1 rfl ?_
              refine Wx.top (hx_6.1.l7 hl24 hAl) ?_
              refine Wx.topN (up1_n (ins2_z46 hl24)) ?_
              refine Wx.topN (((hLk).h (f := 6) (by decide)).trans hfn.2.2.1) ?_
              refine r_icmp_leN (tgt := 225) dX7_inspectLot_218 (by decide) (by (first | omega | (refine Nat.lt_of_le_of_lt Nat.and_le_left ?_; first | omega | (refine Nat.lt_of_le_of_lt Nat.and_le_left ?_; omega)))) (by (first | omega | (refine Nat.lt_of_le_of_lt Nat.and_le_left ?_; first | omega | (refine Nat.lt_of_le_of_lt Nat.and_le_left ?_; omega)))) (fun h218 => ?_) (fun h218 => ?_)
              · refine r_iconst (v := nI 1) dX7_inspectLot_225 (by decide) ?_
                refine r_putI (ci := 7) (k := 3) dX7_inspectLot_226 fw_X7_inspectLot_108 (hx_6.1.lo hl24 hAl).2.1 rfl rfl rfl ?_
                refine Wx.gx ((hx_6.L (f := 3) hl24 hAl (by decide))) (fun T_7 (hx_7 : OX S w A T_7 w k o A (up1 (up1 c (90 + 13 * l + 3) (g (90 + 13 * l + 3) + 1)) (90 + 13 * l + 2) (1))) => ?_)
                refine r_iload dX7_inspectLot_229 5 rfl ?_
                refine r_if_eqN (tgt := 272) dX7_inspectLot_231 (by decide) (by (first | omega | (refine Nat.lt_of_le_of_lt Nat.and_le_left ?_; first | omega | (refine Nat.lt_of_le_of_lt Nat.and_le_left ?_; omega)))) (fun zz231 => ?_) (fun zz231 => ?_)
                · refine r_aload_n dX7_inspectLot_272 rfl 2 rfl ?_
                  refine r_getI (ci := 7) (k := 8) dX7_inspectLot_273 fr_X7_174 (hx_7.1.lo hl24 hAl).2.1 rfl ?_
                  refine Wx.top (hx_7.1.l8 hl24 hAl) ?_
                  refine Wx.topN (up1_n (ins2_z47 hl24)) ?_
                  refine Wx.topN (up1_n (ins2_z48 hl24)) ?_
                  refine Wx.topN (((hLk).h (f := 7) (by decide)).trans hfn.2.2.2) ?_
                  have hi3 := hL.1.2.2.2.1
                  have hG3h : (GF g l cc e (g (90 + 13 * l + 1)) 1 s a s) (90 + 13 * l + 3) = g (90 + 13 * l + 3) := hGh _ (by omega) (by omega) (by omega) (by omega)
                  have hR2 : Rel (up1 (up1 c (90 + 13 * l + 3) (g (90 + 13 * l + 3) + 1)) (90 + 13 * l + 2) 1) (up1 (up1 (GF g l cc e (g (90 + 13 * l + 1)) 1 s a s) (90 + 13 * l + 3) (g (90 + 13 * l + 3) + 1)) (90 + 13 * l + 2) 1) (N + 4 * s + 1) := Rel.i2 hP.1 (by rw [hG0]; exact hl) (by omega) (by decide) (by omega) (by omega) (by rw [hfn.1, hfn.2.1, hfn.2.2.1, hfn.2.2.2]; exact ⟨hv2, by omega, by omega, by omega⟩)
                  have hfin := hR2
                  exact r_iret (ty := .int) dX7_inspectLot_276 rfl rfl ⟨rfl, _, hx_7, (by rw [if_neg (Nat.not_lt.mpr h218)]; have q9 := hR2.le (N' := N + 1000) (by omega); rw [GF_e2] at q9; exact q9)⟩
                · exact absurd zz231 (by decide)
              · refine r_iconst (v := nI 2) dX7_inspectLot_221 (by decide) ?_
                refine r_goto (tgt := 226) dX7_inspectLot_222 (by decide) ?_
                refine r_putI (ci := 7) (k := 3) dX7_inspectLot_226 fw_X7_inspectLot_108 (hx_6.1.lo hl24 hAl).2.1 rfl rfl rfl ?_
                refine Wx.gx ((hx_6.L (f := 3) hl24 hAl (by decide))) (fun T_8 (hx_8 : OX S w A T_8 w k o A (up1 (up1 c (90 + 13 * l + 3) (g (90 + 13 * l + 3) + 1)) (90 + 13 * l + 2) (2))) => ?_)
                refine r_iload dX7_inspectLot_229 5 rfl ?_
                refine r_if_eqN (tgt := 272) dX7_inspectLot_231 (by decide) (by (first | omega | (refine Nat.lt_of_le_of_lt Nat.and_le_left ?_; first | omega | (refine Nat.lt_of_le_of_lt Nat.and_le_left ?_; omega)))) (fun zz231_1 => ?_) (fun zz231_1 => ?_)
                · refine r_aload_n dX7_inspectLot_272 rfl 2 rfl ?_
                  refine r_getI (ci := 7) (k := 8) dX7_inspectLot_273 fr_X7_174 (hx_8.1.lo hl24 hAl).2.1 rfl ?_
                  refine Wx.top (hx_8.1.l8 hl24 hAl) ?_
                  refine Wx.topN (up1_n (ins2_z49 hl24)) ?_
                  refine Wx.topN (up1_n (ins2_z50 hl24)) ?_
                  refine Wx.topN (((hLk).h (f := 7) (by decide)).trans hfn.2.2.2) ?_
                  have hi3 := hL.1.2.2.2.1
                  have hG3h : (GF g l cc e (g (90 + 13 * l + 1)) 1 s a s) (90 + 13 * l + 3) = g (90 + 13 * l + 3) := hGh _ (by omega) (by omega) (by omega) (by omega)
                  have hR2 : Rel (up1 (up1 c (90 + 13 * l + 3) (g (90 + 13 * l + 3) + 1)) (90 + 13 * l + 2) 2) (up1 (up1 (GF g l cc e (g (90 + 13 * l + 1)) 1 s a s) (90 + 13 * l + 3) (g (90 + 13 * l + 3) + 1)) (90 + 13 * l + 2) 2) (N + 4 * s + 1) := Rel.i2 hP.1 (by rw [hG0]; exact hl) (by omega) (by decide) (by omega) (by omega) (by rw [hfn.1, hfn.2.1, hfn.2.2.1, hfn.2.2.2]; exact ⟨hv2, by omega, by omega, by omega⟩)
                  have hfin := hR2
                  exact r_iret (ty := .int) dX7_inspectLot_276 rfl rfl ⟨rfl, _, hx_8, (by rw [if_pos (Nat.lt_of_not_le h218)]; have q9 := hR2.le (N' := N + 1000) (by omega); rw [GF_e2] at q9; exact q9)⟩
                · exact absurd zz231_1 (by decide)
            · refine r_aload_n dX7_inspectLot_132 rfl 0 rfl ?_
              refine r_iload dX7_inspectLot_133 4 rfl ?_
              refine r_iload dX7_inspectLot_135 6 rfl ?_
              refine r_isubN dX7_inspectLot_137 (by (first | omega | (refine Nat.lt_of_le_of_lt Nat.and_le_left ?_; first | omega | (refine Nat.lt_of_le_of_lt Nat.and_le_left ?_; omega)))) ?_
              obtain ⟨hz1, hz2, hz3, hz4⟩ := hkD (by omega)
              have hc3 : c 3 = sdI g dk := hP.1.c3.trans hG3
              have hsI : sdN (c 3) = sdI g (dk + 1) := congrArg sdN hc3
              have hidx : sdN (c 3) / 65536 % (n - dk) < n - dk := Nat.mod_lt _ (by omega)
              obtain ⟨hu1, hu2, hu3⟩ := hP.2 _ hidx
              have hek : c (60000 + (sdN (c 3) / 65536 % (n - dk))) = e dk := cnt_inj (p := HD g l e dk) hu2 ⟨hz2, hz3⟩ (by rw [hu3, hz4, hsI])
              refine r_ofV (M2 := m_X7_drawUnit) (As := [.int (nI (n - dk))]) (rest := []) (v := some (.int (nI (e dk)))) dX7_inspectLot_138 cc_X7_inspectLot_177 rfl rfl rfl (Nat.le_of_ble_eq_true rfl) hx_5.1.1.1 rfl rfl (by decide) hx_5 (hek ▸ o_draw hx_5.1 (m := n - dk) (by rw [hc3, ← hG3]; exact hP.1.g3) (by omega) (by omega)) rfl (fun T_9 (hx_9 : OX S w A T_9 w k o A (dwC c (n - dk) (sdN (c 3) / 65536 % (n - dk)))) => ?_)
              have hr1 : Rel (dwC c (n - dk) (sdN (c 3) / 65536 % (n - dk))) (up1 (GF g l cc e (g (90 + 13 * l + 1)) 1 s a dk) 3 (sdI g (dk + 1))) (N + 4 * dk) := hsI ▸ Rel.i1 hP.1
              have hd1 : LD (HD g l e (dk + 1)) (dwC c (n - dk) (sdN (c 3) / 65536 % (n - dk))) (n - (dk + 1)) (g (90 + 13 * l + 1)) := LD.next hidx hek hP.2
              have hgy : (GF g l cc e (g (90 + 13 * l + 1)) 1 s a dk) (402 + 2 * (200 * l + e dk)) = g (402 + 2 * (200 * l + e dk)) := by rw [GF_n (by omega)]; exact (insI_w hcc.1 _).2 (fun q => hz3 q.2.1)
              have h10 : (up1 (GF g l cc e (g (90 + 13 * l + 1)) 1 s a dk) 3 (sdI g (dk + 1))) 0 = g 0 := by rw [up1_n (by omega)]; exact hG0
              have h1z : (up1 (GF g l cc e (g (90 + 13 * l + 1)) 1 s a dk) 3 (sdI g (dk + 1))) (90 + 13 * l + 1) = g (90 + 13 * l + 1) := by rw [up1_n (by omega)]; exact hGh _ (by omega) (by omega) (by omega) (by omega)
              have h1y : (up1 (GF g l cc e (g (90 + 13 * l + 1)) 1 s a dk) 3 (sdI g (dk + 1))) (402 + 2 * (200 * l + e dk)) = g (402 + 2 * (200 * l + e dk)) := by rw [up1_n (by omega)]; exact hgy
              have hl1 : l < (up1 (GF g l cc e (g (90 + 13 * l + 1)) 1 s a dk) 3 (sdI g (dk + 1))) 0 := by rw [h10]; exact hl
              have hu9 : e dk < (up1 (GF g l cc e (g (90 + 13 * l + 1)) 1 s a dk) 3 (sdI g (dk + 1))) (90 + 13 * l + 1) := by rw [h1z]; exact hz1
              have ha1 : ∀ z, z < (up1 (GF g l cc e (g (90 + 13 * l + 1)) 1 s a dk) 3 (sdI g (dk + 1))) 0 → A z ≠ 0 := fun z hz9 => hal z (by rw [h10] at hz9; exact hz9)
              have hL1 := hr1.lot hl1
              have hf1 : cnt (DB g l e dk) (g (90 + 13 * l + 1)) + 1 ≤ 200 := by have := hs32.1; omega
              have hbv : badV g l (e dk) = (g (402 + 2 * (200 * l + e dk)) % 16 &&& g (22 + 10 * p + 1)) := by unfold badV; rw [hp]
              refine r_istore (lv' := [(7, .int (nI (e dk))), (0, .ref (o)), (1, .int (nI (l))), (2, .ref (A l)), (3, .ref (o + 12 + p)), (4, .int (nI (n))), (5, .int (nI (0))), (6, .int (nI (dk)))]) dX7_inspectLot_141 (by decide) rfl ?_
              refine r_aload_n dX7_inspectLot_143 rfl 3 rfl ?_
              refine r_iload dX7_inspectLot_144 0 rfl ?_
              refine r_aload_n dX7_inspectLot_146 rfl 4 rfl ?_
              refine r_getI (ci := 10) (k := 1) dX7_inspectLot_147 fr_X7_79 (hx_9.1.1.2.2.2.2.2.2.2.2 p (by (first | omega | (refine Nat.lt_of_le_of_lt Nat.and_le_left ?_; first | omega | (refine Nat.lt_of_le_of_lt Nat.and_le_left ?_; omega))))).2 rfl ?_
              refine Wx.top (hx_9.1.p1 (i := p) (by (first | omega | (refine Nat.lt_of_le_of_lt Nat.and_le_left ?_; first | omega | (refine Nat.lt_of_le_of_lt Nat.and_le_left ?_; omega))))) ?_
              refine Wx.topN ((hr1.p (p := p) (by (first | omega | (refine Nat.lt_of_le_of_lt Nat.and_le_left ?_; first | omega | (refine Nat.lt_of_le_of_lt Nat.and_le_left ?_; omega))))).cf (f := 1) (by decide)) ?_
              refine Wx.topN (show (up1 (GF g l cc e (g (90 + 13 * l + 1)) 1 s a dk) 3 (sdI g (dk + 1))) (22 + 10 * p + 1) = g (22 + 10 * p + 1) from congrArg (fun z => z) ((up1_n (by omega)).trans (hGh _ (by omega) (by omega) (by omega) (by omega)))) ?_
              refine r_fnV (M2 := m_X5_isBad) (As := [.int (nI (e dk)), .int (nI (g (22 + 10 * p + 1)))]) (rest := []) (v := some (.int (bI (¬ (badV g l (e dk) = 0))))) dX7_inspectLot_150 cc_X7_inspectLot_180 rfl rfl rfl (Nat.le_of_ble_eq_true rfl) (hx_9.1.lo hl24 hAl).2.1 rfl rfl (by decide) (by have q9 := o_isBad (G := G) hx_9.1 hr1 ha1 hl1 hu9 (ks := g (22 + 10 * p + 1)) hks; rw [h1y, ← hbv] at q9; exact q9) rfl ?_
              refine r_if_eqB (tgt := 193) dX7_inspectLot_153 (by decide) (fun h153 => ?_) (fun h153 => ?_)
              · refine r_iincN (k := 1) (lv' := [(6, .int (nI (dk + 1))), (7, .int (nI (e dk))), (0, .ref (o)), (1, .int (nI (l))), (2, .ref (A l)), (3, .ref (o + 12 + p)), (4, .int (nI (n))), (5, .int (nI (0)))]) dX7_inspectLot_193 (by decide) 7 rfl (by decide) rfl ?_
                refine r_goto (tgt := 123) dX7_inspectLot_196 (by decide) ?_
                refine Wx.sub [2, 3, 4, 5, 6, 7, 0] rfl ?_
                exact next _ _ (by omega) ⟨_, hx_9, ⟨(by rw [← GF_sg hcc.1 hl24 (Classical.not_not.mp h153)]; exact hr1.le (by omega)), hd1⟩, rfl⟩
              · refine r_aload_n dX7_inspectLot_156 rfl 3 rfl ?_
                refine r_dup dX7_inspectLot_157 rfl ?_
                refine r_getI (ci := 7) (k := 8) dX7_inspectLot_158 fr_X7_174 (hx_9.1.lo hl24 hAl).2.1 rfl ?_
                refine Wx.top (hx_9.1.l8 hl24 hAl) ?_
                refine Wx.topN (((hL1).h (f := 7) (by decide)).trans ((up1_n (by omega)).trans hfn.2.2.2)) ?_
                refine r_iconst (v := nI 1) dX7_inspectLot_161 (by decide) ?_
                refine r_iaddN dX7_inspectLot_162 ?_
                refine r_putI (ci := 7) (k := 8) dX7_inspectLot_163 fw_X7_inspectLot_174 (hx_9.1.lo hl24 hAl).2.1 rfl rfl rfl ?_
                refine Wx.gx ((hx_9.L (f := 8) hl24 hAl (by decide))) (fun T_10 (hx_10 : OX S w A T_10 w k o A (up1 (dwC c (n - dk) (sdN (c 3) / 65536 % (n - dk))) (90 + 13 * l + 7) (cnt (DB g l e dk) (g (90 + 13 * l + 1)) + 1))) => ?_)
                refine r_aload_n dX7_inspectLot_166 rfl 3 rfl ?_
                refine r_getR (ci := 7) (k := 11) (b := A l + 2) dX7_inspectLot_167 fr_X7_137 (hx_10.1.lo hl24 hAl).2.1 rfl (hx_10.1.lo hl24 hAl).2.2.1.2.1 ?_
                refine r_iload dX7_inspectLot_170 0 rfl ?_
                refine r_iconst (v := nI 1) dX7_inspectLot_172 (by decide) ?_
                refine r_iast dX7_inspectLot_173 (hx_10.1.lo hl24 hAl).2.2.2.2.1.1 (by rw [show zN T_10 (A l + 2) = 200 from (hx_10.1.lo hl24 hAl).2.2.2.2.1.2]; exact vp_in_nI (by (first | omega | (refine Nat.lt_of_le_of_lt Nat.and_le_left ?_; first | omega | (refine Nat.lt_of_le_of_lt Nat.and_le_left ?_; omega)))) (by decide)) ?_
                refine Wx.st' (S' := uA T_10 (A l + 2) (e dk) (nI (1))) (by rw [nI_clamp (by (first | omega | (refine Nat.lt_of_le_of_lt Nat.and_le_left ?_; first | omega | (refine Nat.lt_of_le_of_lt Nat.and_le_left ?_; omega))))]) ?_
                refine Wx.gx ((hx_10.U (f := 0) (u := e dk) hl24 hAl (by (first | omega | (refine Nat.lt_of_le_of_lt Nat.and_le_left ?_; first | omega | (refine Nat.lt_of_le_of_lt Nat.and_le_left ?_; omega)))) (by decide))) (fun T_11 (hx_11 : OX S w A T_11 w k o A (up1 (up1 (dwC c (n - dk) (sdN (c 3) / 65536 % (n - dk))) (90 + 13 * l + 7) (cnt (DB g l e dk) (g (90 + 13 * l + 1)) + 1)) (402 + 8 * (200 * l + (e dk))) (1))) => ?_)
                refine r_aload_n dX7_inspectLot_174 rfl 1 rfl ?_
                refine r_iload_n dX7_inspectLot_175 rfl 2 rfl ?_
                refine r_iload dX7_inspectLot_176 0 rfl ?_
                refine r_aload_n dX7_inspectLot_178 rfl 3 rfl ?_
                refine r_getR (ci := 7) (k := 12) (b := A l + 3) dX7_inspectLot_179 fr_X7_147 (hx_11.1.lo hl24 hAl).2.1 rfl (hx_11.1.lo hl24 hAl).2.2.1.2.2.1 ?_
                refine r_iload dX7_inspectLot_182 0 rfl ?_
                refine r_iald dX7_inspectLot_184 (hx_11.1.lo hl24 hAl).2.2.2.2.2.1.1 (by rw [show zN T_11 (A l + 3) = 200 from (hx_11.1.lo hl24 hAl).2.2.2.2.2.1.2]; exact vp_in_nI (by (first | omega | (refine Nat.lt_of_le_of_lt Nat.and_le_left ?_; first | omega | (refine Nat.lt_of_le_of_lt Nat.and_le_left ?_; omega)))) (by decide)) ?_
                refine Wx.top (congrArg (zA _ _) (nI_clamp (by (first | omega | (refine Nat.lt_of_le_of_lt Nat.and_le_left ?_; first | omega | (refine Nat.lt_of_le_of_lt Nat.and_le_left ?_; omega)))))) ?_
                refine Wx.top (hx_11.1.u1 (u := e dk) hl24 hAl (by (first | omega | (refine Nat.lt_of_le_of_lt Nat.and_le_left ?_; first | omega | (refine Nat.lt_of_le_of_lt Nat.and_le_left ?_; omega))))) ?_
                refine Wx.topN (up1_n (ins2_z51 hl24)) ?_
                refine Wx.topN (up1_n (ins2_z52 hl24)) ?_
                refine Wx.topN (hL1.u1 (u := (e dk)) hu9) ?_
                refine Wx.topN (show (up1 (GF g l cc e (g (90 + 13 * l + 1)) 1 s a dk) 3 (sdI g (dk + 1))) (402 + 2 * (200 * l + (e dk))) % 16 = g (402 + 2 * (200 * l + (e dk))) % 16 from congrArg (fun z => z % 16) h1y) ?_
                refine r_aload_n dX7_inspectLot_185 rfl 4 rfl ?_
                refine r_getI (ci := 10) (k := 1) dX7_inspectLot_186 fr_X7_79 (hx_11.1.1.2.2.2.2.2.2.2.2 p (by (first | omega | (refine Nat.lt_of_le_of_lt Nat.and_le_left ?_; first | omega | (refine Nat.lt_of_le_of_lt Nat.and_le_left ?_; omega))))).2 rfl ?_
                refine Wx.top (hx_11.1.p1 (i := p) (by (first | omega | (refine Nat.lt_of_le_of_lt Nat.and_le_left ?_; first | omega | (refine Nat.lt_of_le_of_lt Nat.and_le_left ?_; omega))))) ?_
                refine Wx.topN (up1_n (ins2_z53 hl24 hp4)) ?_
                refine Wx.topN (up1_n (ins2_z54 hl24 hp4)) ?_
                refine Wx.topN ((hr1.p (p := p) (by (first | omega | (refine Nat.lt_of_le_of_lt Nat.and_le_left ?_; first | omega | (refine Nat.lt_of_le_of_lt Nat.and_le_left ?_; omega))))).cf (f := 1) (by decide)) ?_
                refine Wx.topN (show (up1 (GF g l cc e (g (90 + 13 * l + 1)) 1 s a dk) 3 (sdI g (dk + 1))) (22 + 10 * p + 1) = g (22 + 10 * p + 1) from congrArg (fun z => z) ((up1_n (by omega)).trans (hGh _ (by omega) (by omega) (by omega) (by omega)))) ?_
                refine r_iandN dX7_inspectLot_189 (by (first | omega | (refine Nat.lt_of_le_of_lt Nat.and_le_left ?_; first | omega | (refine Nat.lt_of_le_of_lt Nat.and_le_left ?_; omega)))) (by (first | omega | (refine Nat.lt_of_le_of_lt Nat.and_le_left ?_; first | omega | (refine Nat.lt_of_le_of_lt Nat.and_le_left ?_; omega)))) ?_
                obtain ⟨hr3, h4d, hcc4, h40, h4z⟩ := Rel.i4 (f := cnt (DB g l e dk) (g (90 + 13 * l + 1)) + 1) (ks := g (22 + 10 * p + 1)) (cx := cc (e dk)) hr1 hl1 hu9 (by rw [h1y, hz2]) hf1 (CauC_GF hcc.1 hl24 hgy (hp ▸ hcc.2 (e dk) hz1))
                have hl4 : l < (becG (up1 (up1 (GF g l cc e (g (90 + 13 * l + 1)) 1 s a dk) 3 (sdI g (dk + 1))) (90 + 13 * l + 7) (cnt (DB g l e dk) (g (90 + 13 * l + 1)) + 1)) l (e dk) 1) 0 := by rw [h40]; exact hl1
                have hu4 : e dk < (becG (up1 (up1 (GF g l cc e (g (90 + 13 * l + 1)) 1 s a dk) 3 (sdI g (dk + 1))) (90 + 13 * l + 7) (cnt (DB g l e dk) (g (90 + 13 * l + 1)) + 1)) l (e dk) 1) (90 + 13 * l + 1) := by rw [h4z]; exact hu9
                have ha4 : ∀ z, z < (becG (up1 (up1 (GF g l cc e (g (90 + 13 * l + 1)) 1 s a dk) 3 (sdI g (dk + 1))) (90 + 13 * l + 7) (cnt (DB g l e dk) (g (90 + 13 * l + 1)) + 1)) l (e dk) 1) 0 → A z ≠ 0 := fun z hz9 => ha1 z (by rw [h40] at hz9; exact hz9)
                rw [h1y] at h4d
                refine r_ofV (M2 := m_X7_blameDefects) (As := [.int (nI (l)), .int (nI (e dk)), .int (nI ((g (402 + 2 * (200 * l + (e dk))) % 16) &&& (g (22 + 10 * p + 1))))]) (rest := []) (v := none) dX7_inspectLot_190 cc_X7_inspectLot_183 rfl rfl rfl (Nat.le_of_ble_eq_true rfl) hx_11.1.1.1 rfl rfl (by decide) hx_11 (by have q9 := o_blame (G := G) hx_11.1 hr3 ha4 hl4 hu4 hks hcc4; rw [h4d] at q9; exact q9) rfl (fun T_12 (hx_12 : OX S w A T_12 w k o A (mrg (up1 (up1 (dwC c (n - dk) (sdN (c 3) / 65536 % (n - dk))) (90 + 13 * l + 7) (cnt (DB g l e dk) (g (90 + 13 * l + 1)) + 1)) (402 + 8 * (200 * l + (e dk))) (1)) (blmG (becG (up1 (up1 (GF g l cc e (g (90 + 13 * l + 1)) 1 s a dk) 3 (sdI g (dk + 1))) (90 + 13 * l + 7) (cnt (DB g l e dk) (g (90 + 13 * l + 1)) + 1)) l (e dk) 1) (cc (e dk)) l (e dk) (g (22 + 10 * p + 1))))) => ?_)
                have hr4 : Rel (mrg (up1 (up1 (dwC c (n - dk) (sdN (c 3) / 65536 % (n - dk))) (90 + 13 * l + 7) (cnt (DB g l e dk) (g (90 + 13 * l + 1)) + 1)) (402 + 8 * (200 * l + (e dk))) (1)) (blmG (becG (up1 (up1 (GF g l cc e (g (90 + 13 * l + 1)) 1 s a dk) 3 (sdI g (dk + 1))) (90 + 13 * l + 7) (cnt (DB g l e dk) (g (90 + 13 * l + 1)) + 1)) l (e dk) 1) (cc (e dk)) l (e dk) (g (22 + 10 * p + 1)))) (blmG (becG (up1 (up1 (GF g l cc e (g (90 + 13 * l + 1)) 1 s a dk) 3 (sdI g (dk + 1))) (90 + 13 * l + 7) (cnt (DB g l e dk) (g (90 + 13 * l + 1)) + 1)) l (e dk) 1) (cc (e dk)) l (e dk) (g (22 + 10 * p + 1))) (N + 4 * dk + 4) := Rel.blm (Nat.le_add_right _ 4) (fun i hi => blmG_n (hcc.1 _) hi) (blmI_le (fun j hj => hr3.bb hj) 4) hr3
                refine r_iincN (k := 1) (lv' := [(6, .int (nI (dk + 1))), (7, .int (nI (e dk))), (0, .ref (o)), (1, .int (nI (l))), (2, .ref (A l)), (3, .ref (o + 12 + p)), (4, .int (nI (n))), (5, .int (nI (0)))]) dX7_inspectLot_193 (by decide) 7 rfl (by decide) rfl ?_
                refine r_goto (tgt := 123) dX7_inspectLot_196 (by decide) ?_
                refine Wx.sub [2, 3, 4, 5, 6, 7, 0] rfl ?_
                exact next _ _ (by omega) ⟨_, hx_12, ⟨(by rw [← GF_sb hcc.1 hl24 hz hz1 hz3 h153, hp]; exact hr4.le (by omega)), LD.congr (fun _ => Iff.rfl) (fun j hj => LD_far hl24 (Nat.lt_of_lt_of_le hz1 hz)) hd1⟩, rfl⟩
          · exact absurd zz72 (by decide)
        · exact absurd h59 hF
      · exact absurd h49 hok3
