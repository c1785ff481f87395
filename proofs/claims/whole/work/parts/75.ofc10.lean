set_option maxRecDepth 4000 in
set_option maxHeartbeats 400000 in
theorem ch_sort {G : GI} {S : Hp} {w : Nat → Nat} {k o : Nat} {A c g : Nat → Nat} {N : Nat} (h : OR S w k o A c) (hr : Rel c g N) (hal : ∀ l, l < g 0 → A l ≠ 0) {l : Nat} (hl : l < g 0) {p : Nat} (hp : g (90 + 13 * l + 0) = p) (hNb : N < 2147470000) (hok : g (90 + 13 * l + 2) = 2) {cc : Nat → Nat → Nat} (hcc : CauA g l (g (90 + 13 * l + 1)) (g (22 + 10 * g (90 + 13 * l + 0) + 1)) cc) : OCx m_X7_sortLot G [.ref (o), .int (nI (l))] S w k o A (some (.int (nI (cnt (scrP g l) (g (90 + 13 * l + 1)))))) (up1 (sorI g l cc (g (90 + 13 * l + 1))) (90 + 13 * l + 2) 0) (N + 1000) := by
  refine Cn.of rfl (by decide) (Nat.le_of_ble_eq_true rfl) (fun hN hM => ?_)
  show Wx _ G _ 0 [(0, .ref (o)), (1, .int (nI (l)))] [] _
  have hx := OX.refl h
  have h24 := hr.n24
  have hl24 : l < 24 := by omega
  have hAl := hal l hl
  have hL := hr.lot hl
  have hz := hL.z
  have hp4 : p < 4 := by have := hL.pr; omega
  have hpb := (hr.p hp4).b
  have hcst := hL.st
  refine r_aload_n dX7_sortLot_0 rfl 0 rfl ?_
  refine r_iload_n dX7_sortLot_1 rfl 1 rfl ?_
  refine r_fnV (M2 := m_X7_lotAt) (As := [.int (nI (l))]) (rest := []) (v := some (.ref (A l))) dX7_sortLot_2 cc_X7_sortLot_105 rfl rfl rfl (Nat.le_of_ble_eq_true rfl) hx.1.1.1 rfl rfl (by decide) (o_lotAt hx.1 hr hal (l := l) (by (first | omega | (refine Nat.lt_of_le_of_lt Nat.and_le_left ?_; first | omega | (refine Nat.lt_of_le_of_lt Nat.and_le_left ?_; omega)) | (have := sW_lt (g (402 + 2 * (200 * l + u))); omega)))) rfl ?_
  refine r_astore_n (lv' := [(2, .ref (A l)), (0, .ref (o)), (1, .int (nI (l)))]) dX7_sortLot_5 rfl (by decide) rfl ?_
  refine r_aload_n dX7_sortLot_6 rfl 0 rfl ?_
  refine r_ifnonnull (tgt := 12) dX7_sortLot_7 (by decide) ?_
  refine r_aload_n dX7_sortLot_12 rfl 1 rfl ?_
  refine r_aload_n dX7_sortLot_13 rfl 0 rfl ?_
  refine r_getI (ci := 7) (k := 0) dX7_sortLot_14 fr_X7_72 (hx.1.lo hl24 hAl).2.1 rfl ?_
  refine Wx.top (hx.1.l0 hl24 hAl) ?_
  refine Wx.topN (hL.h (f := 0) (by decide)) ?_
  refine Wx.topN hp ?_
  refine r_fnV (M2 := m_X7_productAt) (As := [.int (nI (p))]) (rest := []) (v := some (.ref (o + 12 + p))) dX7_sortLot_17 cc_X7_sortLot_75 rfl rfl rfl (Nat.le_of_ble_eq_true rfl) hx.1.1.1 rfl rfl (by decide) (k_productAt hx.1.1 (by (first | omega | (refine Nat.lt_of_le_of_lt Nat.and_le_left ?_; first | omega | (refine Nat.lt_of_le_of_lt Nat.and_le_left ?_; omega)) | (have := sW_lt (g (402 + 2 * (200 * l + u))); omega)))) rfl ?_
  refine r_astore_n (lv' := [(3, .ref (o + 12 + p)), (2, .ref (A l)), (0, .ref (o)), (1, .int (nI (l)))]) dX7_sortLot_20 rfl (by decide) rfl ?_
  refine r_aload_n dX7_sortLot_21 rfl 0 rfl ?_
  refine r_ifnull dX7_sortLot_22 ?_
  refine r_aload_n dX7_sortLot_25 rfl 1 rfl ?_
  refine r_getI (ci := 7) (k := 3) dX7_sortLot_26 fr_X7_108 (hx.1.lo hl24 hAl).2.1 rfl ?_
  refine Wx.top (hx.1.l3 hl24 hAl) ?_
  refine Wx.topN (hL.h (f := 2) (by decide)) ?_
  refine r_iconst (v := nI 2) dX7_sortLot_29 (by decide) ?_
  refine r_icmp_eqN (tgt := 36) dX7_sortLot_30 (by decide) (by (first | omega | (refine Nat.lt_of_le_of_lt Nat.and_le_left ?_; first | omega | (refine Nat.lt_of_le_of_lt Nat.and_le_left ?_; omega)) | (have := sW_lt (g (402 + 2 * (200 * l + u))); omega))) (by (first | omega | (refine Nat.lt_of_le_of_lt Nat.and_le_left ?_; first | omega | (refine Nat.lt_of_le_of_lt Nat.and_le_left ?_; omega)) | (have := sW_lt (g (402 + 2 * (200 * l + u))); omega))) (fun h30 => ?_) (fun h30 => ?_)
  · refine r_iconst (v := nI 0) dX7_sortLot_36 (by decide) ?_
    refine r_istore (lv' := [(4, .int (nI (0))), (3, .ref (o + 12 + p)), (2, .ref (A l)), (0, .ref (o)), (1, .int (nI (l)))]) dX7_sortLot_37 (by decide) rfl ?_
    refine r_iconst (v := nI 0) dX7_sortLot_39 (by decide) ?_
    refine r_istore (lv' := [(5, .int (nI (0))), (4, .int (nI (0))), (3, .ref (o + 12 + p)), (2, .ref (A l)), (0, .ref (o)), (1, .int (nI (l)))]) dX7_sortLot_40 (by decide) rfl ?_
    refine Wx.sub [4, 5, 3, 2, 1, 0] rfl ?_
    refine Wx.loopR (fun u T lv => ∃ c, OX S w A T w k o A c ∧ (Rel c (sorI g l cc u) (N + 5 * u)) ∧ lv = [(0, .ref (o)), (1, .int (nI (l))), (2, .ref (A l)), (3, .ref (o + 12 + p)), (4, .int (nI (cnt (scrP g l) u))), (5, .int (nI (u)))]) (g (90 + 13 * l + 1)) (0) (Nat.zero_le _) ⟨_, hx, hr, rfl⟩ (fun u T lv hge hle hI9 next => ?_)
    obtain ⟨c, hx, hP, rfl⟩ := hI9
    have hG : ∀ i, i ≠ 1 → (i < 62 ∨ 90 ≤ i) → (i < 402 + 2 * (200 * l) ∨ 402 + 2 * (200 * l + u) ≤ i) → sorI g l cc u i = g i := fun i h1 h2 h3 => sorI_n hcc.1 h1 h2 h3
    have hg0 := hG 0 (by omega) (by omega) (by omega)
    have hgz := hG (90 + 13 * l + 1) (by omega) (by omega) (by omega)
    have hgp := hG (90 + 13 * l + 0) (by omega) (by omega) (by omega)
    have hgy := hG (402 + 2 * (200 * l + u)) (by omega) (by omega) (by omega)
    have hgk := hG (22 + 10 * p + 1) (by omega) (by omega) (by omega)
    have hgr := hG (22 + 10 * p + 2) (by omega) (by omega) (by omega)
    have hlu : l < sorI g l cc u 0 := by rw [hg0]; exact hl
    have halu : ∀ z, z < sorI g l cc u 0 → A z ≠ 0 := fun z hz9 => hal z (by rw [hg0] at hz9; exact hz9)
    have hLu := hP.lot hlu
    have hcu : ∀ q9 : u < g (90 + 13 * l + 1), CauC (sorI g l cc u) l u (g (22 + 10 * p + 1)) (cc u) := fun q9 => by
      have h9 := hcc.2 u q9
      rw [hp] at h9
      exact CauC.congr hl24 (fun i h1 h2 => hG i (by omega) (by omega) (by omega)) hgy (hG _ (by omega) (by omega) (by omega)) h9
    refine r_iload dX7_sortLot_42 5 rfl ?_
    refine r_aload_n dX7_sortLot_44 rfl 2 rfl ?_
    refine r_getI (ci := 7) (k := 2) dX7_sortLot_45 fr_X7_134 (hx.1.lo hl24 hAl).2.1 rfl ?_
    refine Wx.top (hx.1.l2 hl24 hAl) ?_
    refine Wx.topN (hLu.h (f := 1) (by decide)) ?_
    refine Wx.topN (show (sorI g l cc u) (90 + 13 * l + 1) = g (90 + 13 * l + 1) from congrArg (fun z => z) (hG _ (by omega) (by omega) (by omega))) ?_
    refine r_icmp_geN (tgt := 161) dX7_sortLot_48 (by decide) (by (first | omega | (refine Nat.lt_of_le_of_lt Nat.and_le_left ?_; first | omega | (refine Nat.lt_of_le_of_lt Nat.and_le_left ?_; omega)) | (have := sW_lt (g (402 + 2 * (200 * l + u))); omega))) (by (first | omega | (refine Nat.lt_of_le_of_lt Nat.and_le_left ?_; first | omega | (refine Nat.lt_of_le_of_lt Nat.and_le_left ?_; omega)) | (have := sW_lt (g (402 + 2 * (200 * l + u))); omega))) (fun h48 => ?_) (fun h48 => ?_)
    · refine r_aload_n dX7_sortLot_161 rfl 2 rfl ?_
      refine r_iconst (v := nI 0) dX7_sortLot_162 (by decide) ?_
      refine r_putI (ci := 7) (k := 3) dX7_sortLot_163 fw_X7_sortLot_108 (hx.1.lo hl24 hAl).2.1 rfl rfl rfl ?_
      refine Wx.gx ((hx.L (f := 3) hl24 hAl (by decide))) (fun T_1 (hx_1 : OX S w A T_1 w k o A (up1 c (90 + 13 * l + 2) (0))) => ?_)
      refine r_iload dX7_sortLot_166 4 rfl ?_
      obtain rfl : u = g (90 + 13 * l + 1) := by omega
      exact r_iret (ty := .int) dX7_sortLot_168 rfl rfl ⟨rfl, _, hx_1, (Rel.status hP hlu (by decide)).le (by omega)⟩
    · refine r_aload_n dX7_sortLot_51 rfl 2 rfl ?_
      refine r_getR (ci := 7) (k := 11) (b := A l + 2) dX7_sortLot_52 fr_X7_137 (hx.1.lo hl24 hAl).2.1 rfl (hx.1.lo hl24 hAl).2.2.1.2.1 ?_
      refine r_iload dX7_sortLot_55 5 rfl ?_
      refine r_iald dX7_sortLot_57 (hx.1.lo hl24 hAl).2.2.2.2.1.1 (by rw [show zN T (A l + 2) = 200 from (hx.1.lo hl24 hAl).2.2.2.2.1.2]; exact vp_in_nI (by (first | omega | (refine Nat.lt_of_le_of_lt Nat.and_le_left ?_; first | omega | (refine Nat.lt_of_le_of_lt Nat.and_le_left ?_; omega)) | (have := sW_lt (g (402 + 2 * (200 * l + u))); omega))) (by decide)) ?_
      refine Wx.top (congrArg (zA _ _) (nI_clamp (by (first | omega | (refine Nat.lt_of_le_of_lt Nat.and_le_left ?_; first | omega | (refine Nat.lt_of_le_of_lt Nat.and_le_left ?_; omega)) | (have := sW_lt (g (402 + 2 * (200 * l + u))); omega))))) ?_
      refine Wx.top (hx.1.u0 (u := u) hl24 hAl (by (first | omega | (refine Nat.lt_of_le_of_lt Nat.and_le_left ?_; first | omega | (refine Nat.lt_of_le_of_lt Nat.and_le_left ?_; omega)) | (have := sW_lt (g (402 + 2 * (200 * l + u))); omega)))) ?_
      refine Wx.topN (hLu.u0 (u := u) (by (first | omega | (refine Nat.lt_of_le_of_lt Nat.and_le_left ?_; first | omega | (refine Nat.lt_of_le_of_lt Nat.and_le_left ?_; omega)) | (have := sW_lt (g (402 + 2 * (200 * l + u))); omega)))) ?_
      refine Wx.topN (show sW ((sorI g l cc u) (402 + 2 * (200 * l + u))) = sW (g (402 + 2 * (200 * l + u))) from congrArg (fun z => sW (z)) (hG _ (by omega) (by omega) (by omega))) ?_
      refine r_iconst (v := nI 1) dX7_sortLot_58 (by decide) ?_
      refine r_icmp_neN (tgt := 66) dX7_sortLot_59 (by decide) (by (first | omega | (refine Nat.lt_of_le_of_lt Nat.and_le_left ?_; first | omega | (refine Nat.lt_of_le_of_lt Nat.and_le_left ?_; omega)) | (have := sW_lt (g (402 + 2 * (200 * l + u))); omega))) (by (first | omega | (refine Nat.lt_of_le_of_lt Nat.and_le_left ?_; first | omega | (refine Nat.lt_of_le_of_lt Nat.and_le_left ?_; omega)) | (have := sW_lt (g (402 + 2 * (200 * l + u))); omega))) (fun h59 => ?_) (fun h59 => ?_)
      · refine r_iconst (v := nI 0) dX7_sortLot_66 (by decide) ?_
        refine r_istore (lv' := [(6, .int (nI (0))), (0, .ref (o)), (1, .int (nI (l))), (2, .ref (A l)), (3, .ref (o + 12 + p)), (4, .int (nI (cnt (scrP g l) u))), (5, .int (nI (u)))]) dX7_sortLot_67 (by decide) rfl ?_
        refine r_aload_n dX7_sortLot_69 rfl 3 rfl ?_
        refine r_getR (ci := 7) (k := 11) (b := A l + 2) dX7_sortLot_70 fr_X7_137 (hx.1.lo hl24 hAl).2.1 rfl (hx.1.lo hl24 hAl).2.2.1.2.1 ?_
        refine r_iload dX7_sortLot_73 6 rfl ?_
        refine r_iald dX7_sortLot_75 (hx.1.lo hl24 hAl).2.2.2.2.1.1 (by rw [show zN T (A l + 2) = 200 from (hx.1.lo hl24 hAl).2.2.2.2.1.2]; exact vp_in_nI (by (first | omega | (refine Nat.lt_of_le_of_lt Nat.and_le_left ?_; first | omega | (refine Nat.lt_of_le_of_lt Nat.and_le_left ?_; omega)) | (have := sW_lt (g (402 + 2 * (200 * l + u))); omega))) (by decide)) ?_
        refine Wx.top (congrArg (zA _ _) (nI_clamp (by (first | omega | (refine Nat.lt_of_le_of_lt Nat.and_le_left ?_; first | omega | (refine Nat.lt_of_le_of_lt Nat.and_le_left ?_; omega)) | (have := sW_lt (g (402 + 2 * (200 * l + u))); omega))))) ?_
        refine Wx.top (hx.1.u0 (u := u) hl24 hAl (by (first | omega | (refine Nat.lt_of_le_of_lt Nat.and_le_left ?_; first | omega | (refine Nat.lt_of_le_of_lt Nat.and_le_left ?_; omega)) | (have := sW_lt (g (402 + 2 * (200 * l + u))); omega)))) ?_
        refine Wx.topN (hLu.u0 (u := u) (by (first | omega | (refine Nat.lt_of_le_of_lt Nat.and_le_left ?_; first | omega | (refine Nat.lt_of_le_of_lt Nat.and_le_left ?_; omega)) | (have := sW_lt (g (402 + 2 * (200 * l + u))); omega)))) ?_
        refine Wx.topN (show sW ((sorI g l cc u) (402 + 2 * (200 * l + u))) = sW (g (402 + 2 * (200 * l + u))) from congrArg (fun z => sW (z)) (hG _ (by omega) (by omega) (by omega))) ?_
        refine r_if_neN (tgt := 96) dX7_sortLot_76 (by decide) (by (first | omega | (refine Nat.lt_of_le_of_lt Nat.and_le_left ?_; first | omega | (refine Nat.lt_of_le_of_lt Nat.and_le_left ?_; omega)) | (have := sW_lt (g (402 + 2 * (200 * l + u))); omega))) (fun h76 => ?_) (fun h76 => ?_)
        · refine r_iconst (v := nI 0) dX7_sortLot_96 (by decide) ?_
          refine r_istore (lv' := [(7, .int (nI (0))), (6, .int (nI (0))), (0, .ref (o)), (1, .int (nI (l))), (2, .ref (A l)), (3, .ref (o + 12 + p)), (4, .int (nI (cnt (scrP g l) u))), (5, .int (nI (u)))]) dX7_sortLot_97 (by decide) rfl ?_
          refine r_iload dX7_sortLot_99 0 rfl ?_
          refine r_if_eqN (tgt := 123) dX7_sortLot_101 (by decide) (by (first | omega | (refine Nat.lt_of_le_of_lt Nat.and_le_left ?_; first | omega | (refine Nat.lt_of_le_of_lt Nat.and_le_left ?_; omega)) | (have := sW_lt (g (402 + 2 * (200 * l + u))); omega))) (fun zz101 => ?_) (fun zz101 => ?_)
          · refine r_iload dX7_sortLot_123 0 rfl ?_
            refine r_if_neN (tgt := 133) dX7_sortLot_125 (by decide) (by (first | omega | (refine Nat.lt_of_le_of_lt Nat.and_le_left ?_; first | omega | (refine Nat.lt_of_le_of_lt Nat.and_le_left ?_; omega)) | (have := sW_lt (g (402 + 2 * (200 * l + u))); omega))) (fun zz125 => ?_) (fun zz125 => ?_)
            · exact absurd zz125 (by decide)
            · refine r_iload dX7_sortLot_128 1 rfl ?_
              refine r_if_eqN (tgt := 155) dX7_sortLot_130 (by decide) (by (first | omega | (refine Nat.lt_of_le_of_lt Nat.and_le_left ?_; first | omega | (refine Nat.lt_of_le_of_lt Nat.and_le_left ?_; omega)) | (have := sW_lt (g (402 + 2 * (200 * l + u))); omega))) (fun zz130 => ?_) (fun zz130 => ?_)
              · refine r_iincN (k := 1) (lv' := [(5, .int (nI (u + 1))), (7, .int (nI (0))), (6, .int (nI (0))), (0, .ref (o)), (1, .int (nI (l))), (2, .ref (A l)), (3, .ref (o + 12 + p)), (4, .int (nI (cnt (scrP g l) u)))]) dX7_sortLot_155 (by decide) 7 rfl (by decide) rfl ?_
                refine r_goto (tgt := 42) dX7_sortLot_158 (by decide) ?_
                refine Wx.sub [3, 4, 5, 6, 7, 0] rfl ?_
                have hrn : Rel c (sorI g l cc (u + 1)) (N + 5 * (u + 1)) := by
                  show Rel _ (sorS g (sorI g l cc u) l u cc) (N + 5 * (u + 1))
                  unfold sorS
                  rw [if_neg h76, if_neg h59]
                  exact hP.le (by omega)
                have hcn := cnt_f (p := scrP g l) (fun q9 => q9.1.elim (fun q8 => q8.2 (absurd q8.1 h76)) (fun q8 => h59 q8))
                refine Wx.loc (show _ = [(0, .ref (o)), (1, .int (nI (l))), (2, .ref (A l)), (3, .ref (o + 12 + p)), (4, .int (nI (cnt (scrP g l) (u + 1)))), (5, .int (nI (u + 1)))] from by rw [hcn]; rfl) ?_
                exact next _ _ (by omega) ⟨_, hx, hrn, rfl⟩
              · exact absurd zz130 (by decide)
          · exact absurd zz101 (by decide)
        · refine r_aload_n dX7_sortLot_79 rfl 3 rfl ?_
          refine r_iload dX7_sortLot_80 6 rfl ?_
          refine r_aload_n dX7_sortLot_82 rfl 4 rfl ?_
          refine r_getI (ci := 10) (k := 1) dX7_sortLot_83 fr_X7_79 (hx.1.1.2.2.2.2.2.2.2.2 p (by (first | omega | (refine Nat.lt_of_le_of_lt Nat.and_le_left ?_; first | omega | (refine Nat.lt_of_le_of_lt Nat.and_le_left ?_; omega)) | (have := sW_lt (g (402 + 2 * (200 * l + u))); omega)))).2 rfl ?_
          refine Wx.top (hx.1.p1 (i := p) (by (first | omega | (refine Nat.lt_of_le_of_lt Nat.and_le_left ?_; first | omega | (refine Nat.lt_of_le_of_lt Nat.and_le_left ?_; omega)) | (have := sW_lt (g (402 + 2 * (200 * l + u))); omega)))) ?_
          refine Wx.topN ((hP.p (p := p) (by (first | omega | (refine Nat.lt_of_le_of_lt Nat.and_le_left ?_; first | omega | (refine Nat.lt_of_le_of_lt Nat.and_le_left ?_; omega)) | (have := sW_lt (g (402 + 2 * (200 * l + u))); omega)))).cf (f := 1) (by decide)) ?_
          refine Wx.topN (show (sorI g l cc u) (22 + 10 * p + 1) = g (22 + 10 * p + 1) from congrArg (fun z => z) (hG _ (by omega) (by omega) (by omega))) ?_
          refine r_fnV (M2 := m_X5_isBad) (As := [.int (nI (u)), .int (nI (g (22 + 10 * p + 1)))]) (rest := []) (v := some (.int (bI (¬ (g (402 + 2 * (200 * l + u)) % 16 &&& g (22 + 10 * p + 1) = 0))))) dX7_sortLot_86 cc_X7_sortLot_180 rfl rfl rfl (Nat.le_of_ble_eq_true rfl) (hx.1.lo hl24 hAl).2.1 rfl rfl (by decide) (by have q9 := o_isBad (G := G) hx.1 hP halu hlu (u := u) (ks := g (22 + 10 * p + 1)) (by omega) (by omega); rw [hgy] at q9; exact q9) rfl ?_
          refine r_if_eqB (tgt := 96) dX7_sortLot_89 (by decide) (fun h89 => ?_) (fun h89 => ?_)
          · refine r_iconst (v := nI 0) dX7_sortLot_96 (by decide) ?_
            refine r_istore (lv' := [(7, .int (nI (0))), (6, .int (nI (0))), (0, .ref (o)), (1, .int (nI (l))), (2, .ref (A l)), (3, .ref (o + 12 + p)), (4, .int (nI (cnt (scrP g l) u))), (5, .int (nI (u)))]) dX7_sortLot_97 (by decide) rfl ?_
            refine r_iload dX7_sortLot_99 0 rfl ?_
            refine r_if_eqN (tgt := 123) dX7_sortLot_101 (by decide) (by (first | omega | (refine Nat.lt_of_le_of_lt Nat.and_le_left ?_; first | omega | (refine Nat.lt_of_le_of_lt Nat.and_le_left ?_; omega)) | (have := sW_lt (g (402 + 2 * (200 * l + u))); omega))) (fun zz101_1 => ?_) (fun zz101_1 => ?_)
            · refine r_iload dX7_sortLot_123 0 rfl ?_
              refine r_if_neN (tgt := 133) dX7_sortLot_125 (by decide) (by (first | omega | (refine Nat.lt_of_le_of_lt Nat.and_le_left ?_; first | omega | (refine Nat.lt_of_le_of_lt Nat.and_le_left ?_; omega)) | (have := sW_lt (g (402 + 2 * (200 * l + u))); omega))) (fun zz125_1 => ?_) (fun zz125_1 => ?_)
              · exact absurd zz125_1 (by decide)
              · refine r_iload dX7_sortLot_128 1 rfl ?_
                refine r_if_eqN (tgt := 155) dX7_sortLot_130 (by decide) (by (first | omega | (refine Nat.lt_of_le_of_lt Nat.and_le_left ?_; first | omega | (refine Nat.lt_of_le_of_lt Nat.and_le_left ?_; omega)) | (have := sW_lt (g (402 + 2 * (200 * l + u))); omega))) (fun zz130_1 => ?_) (fun zz130_1 => ?_)
                · refine r_iincN (k := 1) (lv' := [(5, .int (nI (u + 1))), (7, .int (nI (0))), (6, .int (nI (0))), (0, .ref (o)), (1, .int (nI (l))), (2, .ref (A l)), (3, .ref (o + 12 + p)), (4, .int (nI (cnt (scrP g l) u)))]) dX7_sortLot_155 (by decide) 7 rfl (by decide) rfl ?_
                  refine r_goto (tgt := 42) dX7_sortLot_158 (by decide) ?_
                  refine Wx.sub [3, 4, 5, 6, 7, 0] rfl ?_
                  have hrn : Rel c (sorI g l cc (u + 1)) (N + 5 * (u + 1)) := by
                    show Rel _ (sorS g (sorI g l cc u) l u cc) (N + 5 * (u + 1))
                    unfold sorS
                    rw [if_pos h76]
                    rw [if_pos (show badV g l u = 0 from by unfold badV; rw [hp]; exact Classical.not_not.mp h89)]
                    exact hP.le (by omega)
                  have hcn := cnt_f (p := scrP g l) (fun q9 => q9.1.elim (fun q8 => q8.2 (show badV g l u = 0 from by unfold badV; rw [hp]; exact Classical.not_not.mp h89)) (fun q8 => absurd (q8.symm.trans h76) (by decide)))
                  refine Wx.loc (show _ = [(0, .ref (o)), (1, .int (nI (l))), (2, .ref (A l)), (3, .ref (o + 12 + p)), (4, .int (nI (cnt (scrP g l) (u + 1)))), (5, .int (nI (u + 1)))] from by rw [hcn]; rfl) ?_
                  exact next _ _ (by omega) ⟨_, hx, hrn, rfl⟩
                · exact absurd zz130_1 (by decide)
            · exact absurd zz101_1 (by decide)
          · refine r_iconst (v := nI 1) dX7_sortLot_92 (by decide) ?_
            refine r_goto (tgt := 97) dX7_sortLot_93 (by decide) ?_
            refine r_istore (lv' := [(7, .int (nI (1))), (6, .int (nI (0))), (0, .ref (o)), (1, .int (nI (l))), (2, .ref (A l)), (3, .ref (o + 12 + p)), (4, .int (nI (cnt (scrP g l) u))), (5, .int (nI (u)))]) dX7_sortLot_97 (by decide) rfl ?_
            refine r_iload dX7_sortLot_99 0 rfl ?_
            refine r_if_eqN (tgt := 123) dX7_sortLot_101 (by decide) (by (first | omega | (refine Nat.lt_of_le_of_lt Nat.and_le_left ?_; first | omega | (refine Nat.lt_of_le_of_lt Nat.and_le_left ?_; omega)) | (have := sW_lt (g (402 + 2 * (200 * l + u))); omega))) (fun zz101_2 => ?_) (fun zz101_2 => ?_)
            · exact absurd zz101_2 (by decide)
            · refine r_aload_n dX7_sortLot_104 rfl 2 rfl ?_
              refine r_iload_n dX7_sortLot_105 rfl 3 rfl ?_
              refine r_iload dX7_sortLot_106 7 rfl ?_
              refine r_aload_n dX7_sortLot_108 rfl 4 rfl ?_
              refine r_getR (ci := 7) (k := 12) (b := A l + 3) dX7_sortLot_109 fr_X7_147 (hx.1.lo hl24 hAl).2.1 rfl (hx.1.lo hl24 hAl).2.2.1.2.2.1 ?_
              refine r_iload dX7_sortLot_112 7 rfl ?_
              refine r_iald dX7_sortLot_114 (hx.1.lo hl24 hAl).2.2.2.2.2.1.1 (by rw [show zN T (A l + 3) = 200 from (hx.1.lo hl24 hAl).2.2.2.2.2.1.2]; exact vp_in_nI (by (first | omega | (refine Nat.lt_of_le_of_lt Nat.and_le_left ?_; first | omega | (refine Nat.lt_of_le_of_lt Nat.and_le_left ?_; omega)) | (have := sW_lt (g (402 + 2 * (200 * l + u))); omega))) (by decide)) ?_
              refine Wx.top (congrArg (zA _ _) (nI_clamp (by (first | omega | (refine Nat.lt_of_le_of_lt Nat.and_le_left ?_; first | omega | (refine Nat.lt_of_le_of_lt Nat.and_le_left ?_; omega)) | (have := sW_lt (g (402 + 2 * (200 * l + u))); omega))))) ?_
              refine Wx.top (hx.1.u1 (u := u) hl24 hAl (by (first | omega | (refine Nat.lt_of_le_of_lt Nat.and_le_left ?_; first | omega | (refine Nat.lt_of_le_of_lt Nat.and_le_left ?_; omega)) | (have := sW_lt (g (402 + 2 * (200 * l + u))); omega)))) ?_
              refine Wx.topN (hLu.u1 (u := u) (by (first | omega | (refine Nat.lt_of_le_of_lt Nat.and_le_left ?_; first | omega | (refine Nat.lt_of_le_of_lt Nat.and_le_left ?_; omega)) | (have := sW_lt (g (402 + 2 * (200 * l + u))); omega)))) ?_
              refine Wx.topN (show (sorI g l cc u) (402 + 2 * (200 * l + u)) % 16 = g (402 + 2 * (200 * l + u)) % 16 from congrArg (fun z => z % 16) (hG _ (by omega) (by omega) (by omega))) ?_
              refine r_aload_n dX7_sortLot_115 rfl 5 rfl ?_
              refine r_getI (ci := 10) (k := 1) dX7_sortLot_116 fr_X7_79 (hx.1.1.2.2.2.2.2.2.2.2 p (by (first | omega | (refine Nat.lt_of_le_of_lt Nat.and_le_left ?_; first | omega | (refine Nat.lt_of_le_of_lt Nat.and_le_left ?_; omega)) | (have := sW_lt (g (402 + 2 * (200 * l + u))); omega)))).2 rfl ?_
              refine Wx.top (hx.1.p1 (i := p) (by (first | omega | (refine Nat.lt_of_le_of_lt Nat.and_le_left ?_; first | omega | (refine Nat.lt_of_le_of_lt Nat.and_le_left ?_; omega)) | (have := sW_lt (g (402 + 2 * (200 * l + u))); omega)))) ?_
              refine Wx.topN ((hP.p (p := p) (by (first | omega | (refine Nat.lt_of_le_of_lt Nat.and_le_left ?_; first | omega | (refine Nat.lt_of_le_of_lt Nat.and_le_left ?_; omega)) | (have := sW_lt (g (402 + 2 * (200 * l + u))); omega)))).cf (f := 1) (by decide)) ?_
              refine Wx.topN (show (sorI g l cc u) (22 + 10 * p + 1) = g (22 + 10 * p + 1) from congrArg (fun z => z) (hG _ (by omega) (by omega) (by omega))) ?_
              refine r_iandN dX7_sortLot_119 (by (first | omega | (refine Nat.lt_of_le_of_lt Nat.and_le_left ?_; first | omega | (refine Nat.lt_of_le_of_lt Nat.and_le_left ?_; omega)) | (have := sW_lt (g (402 + 2 * (200 * l + u))); omega))) (by (first | omega | (refine Nat.lt_of_le_of_lt Nat.and_le_left ?_; first | omega | (refine Nat.lt_of_le_of_lt Nat.and_le_left ?_; omega)) | (have := sW_lt (g (402 + 2 * (200 * l + u))); omega))) ?_
              have hrb : Rel (mrg c (blmG (sorI g l cc u) (cc u) l u (g (22 + 10 * p + 1)))) (blmG (sorI g l cc u) (cc u) l u (g (22 + 10 * p + 1))) (N + 5 * u + 4) := Rel.blm (by omega) (fun i hi => blmG_n (hcc.1 u) hi) (blmI_le (fun j hj => hP.bb hj) 4) hP
              have hG2 : ∀ i, (i < 62 ∨ 90 ≤ i) → blmG (sorI g l cc u) (cc u) l u (g (22 + 10 * p + 1)) i = sorI g l cc u i := fun i hi => blmG_n (hcc.1 u) hi
              refine r_ofV (M2 := m_X7_blameDefects) (As := [.int (nI (l)), .int (nI (u)), .int (nI ((g (402 + 2 * (200 * l + u)) % 16) &&& (g (22 + 10 * p + 1))))]) (rest := []) (v := none) dX7_sortLot_120 cc_X7_sortLot_183 rfl rfl rfl (Nat.le_of_ble_eq_true rfl) hx.1.1.1 rfl rfl (by decide) hx (by have q9 := o_blame (G := G) hx.1 hP halu hlu (u := u) (by omega) (by omega) (hcu (by omega)); rw [hgy] at q9; exact q9) rfl (fun T_2 (hx_2 : OX S w A T_2 w k o A (mrg c (blmG (sorI g l cc u) (cc u) l u (g (22 + 10 * p + 1))))) => ?_)
              refine r_iload dX7_sortLot_123 0 rfl ?_
              refine r_if_neN (tgt := 133) dX7_sortLot_125 (by decide) (by (first | omega | (refine Nat.lt_of_le_of_lt Nat.and_le_left ?_; first | omega | (refine Nat.lt_of_le_of_lt Nat.and_le_left ?_; omega)) | (have := sW_lt (g (402 + 2 * (200 * l + u))); omega))) (fun zz125_2 => ?_) (fun zz125_2 => ?_)
              · have hn3 : ¬ sW (g (402 + 2 * (200 * l + u))) = 3 := by rw [h76]; decide
                refine r_aload_n dX7_sortLot_133 rfl 2 rfl ?_
                refine r_aload_n dX7_sortLot_134 rfl 4 rfl ?_
                refine r_iload dX7_sortLot_135 7 rfl ?_
                refine r_aload_n dX7_sortLot_137 rfl 5 rfl ?_
                have k0 : (blmG (sorI g l cc u) (cc u) l u (g (22 + 10 * p + 1))) 0 = g 0 := ((hG2 _ (by omega)).trans (hG (0) (by omega) (by omega) (by omega)))
                have kz : (blmG (sorI g l cc u) (cc u) l u (g (22 + 10 * p + 1))) (90 + 13 * l + 1) = g (90 + 13 * l + 1) := ((hG2 _ (by omega)).trans (hG (90 + 13 * l + 1) (by omega) (by omega) (by omega)))
                have kp : (blmG (sorI g l cc u) (cc u) l u (g (22 + 10 * p + 1))) (90 + 13 * l + 0) = p := ((hG2 _ (by omega)).trans (hG (90 + 13 * l + 0) (by omega) (by omega) (by omega))).trans hp
                have ky : (blmG (sorI g l cc u) (cc u) l u (g (22 + 10 * p + 1))) (402 + 2 * (200 * l + u)) = g (402 + 2 * (200 * l + u)) := ((hG2 _ (by omega)).trans (hG (402 + 2 * (200 * l + u)) (by omega) (by omega) (by omega)))
                have kk : (blmG (sorI g l cc u) (cc u) l u (g (22 + 10 * p + 1))) (22 + 10 * p + 1) = g (22 + 10 * p + 1) := ((hG2 _ (by omega)).trans (hG (22 + 10 * p + 1) (by omega) (by omega) (by omega)))
                have kr : (blmG (sorI g l cc u) (cc u) l u (g (22 + 10 * p + 1))) (22 + 10 * p + 2) = g (22 + 10 * p + 2) := ((hG2 _ (by omega)).trans (hG (22 + 10 * p + 2) (by omega) (by omega) (by omega)))
                have kh : hopV (blmG (sorI g l cc u) (cc u) l u (g (22 + 10 * p + 1))) l u = hopV g l u := by unfold hopV; rw [kp, ky, kk, kr, hp]
                have kl : l < (blmG (sorI g l cc u) (cc u) l u (g (22 + 10 * p + 1))) 0 := by rw [k0]; exact hl
                have ku : u < (blmG (sorI g l cc u) (cc u) l u (g (22 + 10 * p + 1))) (90 + 13 * l + 1) := by rw [kz]; omega
                have ka : ∀ z, z < (blmG (sorI g l cc u) (cc u) l u (g (22 + 10 * p + 1))) 0 → A z ≠ 0 := fun z hz9 => hal z (by rw [k0] at hz9; exact hz9)
                by_cases hrp : hopV g l u = 0 ∧ rW (g (402 + 2 * (200 * l + u))) < 2
                · refine r_ocxV (M2 := m_X7_isRepaired) (As := [.ref (A l), .int (nI (u)), .ref (o + 12 + p)]) (rest := []) (v := some (.int (nI 1))) dX7_sortLot_138 cc_X7_sortLot_201 rfl rfl rfl (Nat.le_of_ble_eq_true rfl) hx_2.1.1.1 rfl rfl (by decide) hx_2 (ch_rep hx_2.1 hrb ka kl ku kp (by omega) (by rw [kh]; exact hrp.1) (by rw [ky]; exact hrp.2) (by rw [ky]; exact hn3)) rfl (fun T_3 c_1 (hx_3 : OX S w A T_3 w k o A c_1) hP_1 => ?_)
                  refine r_if_neN (tgt := 155) dX7_sortLot_141 (by decide) (by (first | omega | (refine Nat.lt_of_le_of_lt Nat.and_le_left ?_; first | omega | (refine Nat.lt_of_le_of_lt Nat.and_le_left ?_; omega)) | (have := sW_lt (g (402 + 2 * (200 * l + u))); omega))) (fun zz141 => ?_) (fun zz141 => ?_)
                  · refine r_iincN (k := 1) (lv' := [(5, .int (nI (u + 1))), (7, .int (nI (1))), (6, .int (nI (0))), (0, .ref (o)), (1, .int (nI (l))), (2, .ref (A l)), (3, .ref (o + 12 + p)), (4, .int (nI (cnt (scrP g l) u)))]) dX7_sortLot_155 (by decide) 7 rfl (by decide) rfl ?_
                    refine r_goto (tgt := 42) dX7_sortLot_158 (by decide) ?_
                    refine Wx.sub [3, 4, 5, 6, 7, 0] rfl ?_
                    have hrn : Rel c_1 (sorI g l cc (u + 1)) (N + 5 * (u + 1)) := by
                      show Rel _ (sorS g (sorI g l cc u) l u cc) (N + 5 * (u + 1))
                      unfold sorS
                      rw [if_pos h76]
                      rw [if_neg (show ¬ badV g l u = 0 from by unfold badV; rw [hp]; exact h89)]
                      unfold fixS
                      rw [if_pos hrp.1, if_pos hrp.2]
                      unfold blmS
                      rw [hp]
                      exact hP_1.le (by omega)
                    have hcn := cnt_f (p := scrP g l) (fun q9 => q9.2 hrp)
                    refine Wx.loc (show _ = [(0, .ref (o)), (1, .int (nI (l))), (2, .ref (A l)), (3, .ref (o + 12 + p)), (4, .int (nI (cnt (scrP g l) (u + 1)))), (5, .int (nI (u + 1)))] from by rw [hcn]; rfl) ?_
                    exact next _ _ (by omega) ⟨_, hx_3, hrn, rfl⟩
                  · exact absurd zz141 (by decide)
                · refine r_fnV (M2 := m_X7_isRepaired) (As := [.ref (A l), .int (nI (u)), .ref (o + 12 + p)]) (rest := []) (v := some (.int (nI 0))) dX7_sortLot_138 cc_X7_sortLot_201 rfl rfl rfl (Nat.le_of_ble_eq_true rfl) hx_2.1.1.1 rfl rfl (by decide) (o_rep_0 hx_2.1 hrb ka kl ku kp (by rw [kh, ky]; exact hrp)) rfl ?_
                  refine r_if_neN (tgt := 155) dX7_sortLot_141 (by decide) (by (first | omega | (refine Nat.lt_of_le_of_lt Nat.and_le_left ?_; first | omega | (refine Nat.lt_of_le_of_lt Nat.and_le_left ?_; omega)) | (have := sW_lt (g (402 + 2 * (200 * l + u))); omega))) (fun zz141_1 => ?_) (fun zz141_1 => ?_)
                  · exact absurd zz141_1 (by decide)
                  · refine r_aload_n dX7_sortLot_144 rfl 4 rfl ?_
                    refine r_getR (ci := 7) (k := 11) (b := A l + 2) dX7_sortLot_145 fr_X7_137 (hx_2.1.lo hl24 hAl).2.1 rfl (hx_2.1.lo hl24 hAl).2.2.1.2.1 ?_
                    refine r_iload dX7_sortLot_148 7 rfl ?_
                    refine r_iconst (v := nI 2) dX7_sortLot_150 (by decide) ?_
                    refine r_iast dX7_sortLot_151 (hx_2.1.lo hl24 hAl).2.2.2.2.1.1 (by rw [show zN T_2 (A l + 2) = 200 from (hx_2.1.lo hl24 hAl).2.2.2.2.1.2]; exact vp_in_nI (by (first | omega | (refine Nat.lt_of_le_of_lt Nat.and_le_left ?_; first | omega | (refine Nat.lt_of_le_of_lt Nat.and_le_left ?_; omega)) | (have := sW_lt (g (402 + 2 * (200 * l + u))); omega))) (by decide)) ?_
                    refine Wx.st' (S' := uA T_2 (A l + 2) (u) (nI (2))) (by rw [nI_clamp (by (first | omega | (refine Nat.lt_of_le_of_lt Nat.and_le_left ?_; first | omega | (refine Nat.lt_of_le_of_lt Nat.and_le_left ?_; omega)) | (have := sW_lt (g (402 + 2 * (200 * l + u))); omega)))]) ?_
                    refine Wx.gx ((hx_2.U (f := 0) (u := u) hl24 hAl (by (first | omega | (refine Nat.lt_of_le_of_lt Nat.and_le_left ?_; first | omega | (refine Nat.lt_of_le_of_lt Nat.and_le_left ?_; omega)) | (have := sW_lt (g (402 + 2 * (200 * l + u))); omega))) (by decide))) (fun T_4 (hx_4 : OX S w A T_4 w k o A (up1 (mrg c (blmG (sorI g l cc u) (cc u) l u (g (22 + 10 * p + 1)))) (402 + 8 * (200 * l + u)) (2))) => ?_)
                    refine r_iincN (k := 1) (lv' := [(4, .int (nI (cnt (scrP g l) u + 1))), (7, .int (nI (1))), (6, .int (nI (0))), (0, .ref (o)), (1, .int (nI (l))), (2, .ref (A l)), (3, .ref (o + 12 + p)), (5, .int (nI (u)))]) dX7_sortLot_152 (by decide) 6 rfl (by decide) rfl ?_
                    refine r_iincN (k := 1) (lv' := [(5, .int (nI (u + 1))), (4, .int (nI (cnt (scrP g l) u + 1))), (7, .int (nI (1))), (6, .int (nI (0))), (0, .ref (o)), (1, .int (nI (l))), (2, .ref (A l)), (3, .ref (o + 12 + p))]) dX7_sortLot_155 (by decide) 7 rfl (by decide) rfl ?_
                    refine r_goto (tgt := 42) dX7_sortLot_158 (by decide) ?_
                    refine Wx.sub [4, 5, 6, 7, 1, 0] rfl ?_
                    have hrn : Rel (up1 (mrg c (blmG (sorI g l cc u) (cc u) l u (g (22 + 10 * p + 1)))) (402 + 8 * (200 * l + u)) (2)) (sorI g l cc (u + 1)) (N + 5 * (u + 1)) := by
                      show Rel _ (sorS g (sorI g l cc u) l u cc) (N + 5 * (u + 1))
                      unfold sorS
                      rw [if_pos h76]
                      rw [if_neg (show ¬ badV g l u = 0 from by unfold badV; rw [hp]; exact h89)]
                      have e9 : fixS g (blmS g (sorI g l cc u) l u cc) l u = becG (blmS g (sorI g l cc u) l u cc) l u 2 := by
                        unfold fixS
                        by_cases q9 : hopV g l u = 0
                        · rw [if_pos q9, if_neg (fun q8 => hrp ⟨q9, q8⟩)]
                        · rw [if_neg q9]
                      rw [e9]
                      unfold blmS
                      rw [hp]
                      exact (Rel.bec hrb kl ku (by rw [ky]; exact hn3) (by decide) (by decide)).le (by omega)
                    have hcn := cnt_t (p := scrP g l) ⟨Or.inl ⟨h76, show ¬ badV g l u = 0 from by unfold badV; rw [hp]; exact h89⟩, hrp⟩
                    refine Wx.loc (show _ = [(0, .ref (o)), (1, .int (nI (l))), (2, .ref (A l)), (3, .ref (o + 12 + p)), (4, .int (nI (cnt (scrP g l) (u + 1)))), (5, .int (nI (u + 1)))] from by rw [hcn]; rfl) ?_
                    exact next _ _ (by omega) ⟨_, hx_4, hrn, rfl⟩
              · exact absurd zz125_2 (by decide)
      · refine r_iconst (v := nI 1) dX7_sortLot_62 (by decide) ?_
        refine r_goto (tgt := 67) dX7_sortLot_63 (by decide) ?_
        refine r_istore (lv' := [(6, .int (nI (1))), (0, .ref (o)), (1, .int (nI (l))), (2, .ref (A l)), (3, .ref (o + 12 + p)), (4, .int (nI (cnt (scrP g l) u))), (5, .int (nI (u)))]) dX7_sortLot_67 (by decide) rfl ?_
        refine r_aload_n dX7_sortLot_69 rfl 3 rfl ?_
        refine r_getR (ci := 7) (k := 11) (b := A l + 2) dX7_sortLot_70 fr_X7_137 (hx.1.lo hl24 hAl).2.1 rfl (hx.1.lo hl24 hAl).2.2.1.2.1 ?_
        refine r_iload dX7_sortLot_73 6 rfl ?_
        refine r_iald dX7_sortLot_75 (hx.1.lo hl24 hAl).2.2.2.2.1.1 (by rw [show zN T (A l + 2) = 200 from (hx.1.lo hl24 hAl).2.2.2.2.1.2]; exact vp_in_nI (by (first | omega | (refine Nat.lt_of_le_of_lt Nat.and_le_left ?_; first | omega | (refine Nat.lt_of_le_of_lt Nat.and_le_left ?_; omega)) | (have := sW_lt (g (402 + 2 * (200 * l + u))); omega))) (by decide)) ?_
        refine Wx.top (congrArg (zA _ _) (nI_clamp (by (first | omega | (refine Nat.lt_of_le_of_lt Nat.and_le_left ?_; first | omega | (refine Nat.lt_of_le_of_lt Nat.and_le_left ?_; omega)) | (have := sW_lt (g (402 + 2 * (200 * l + u))); omega))))) ?_
        refine Wx.top (hx.1.u0 (u := u) hl24 hAl (by (first | omega | (refine Nat.lt_of_le_of_lt Nat.and_le_left ?_; first | omega | (refine Nat.lt_of_le_of_lt Nat.and_le_left ?_; omega)) | (have := sW_lt (g (402 + 2 * (200 * l + u))); omega)))) ?_
        refine Wx.topN (hLu.u0 (u := u) (by (first | omega | (refine Nat.lt_of_le_of_lt Nat.and_le_left ?_; first | omega | (refine Nat.lt_of_le_of_lt Nat.and_le_left ?_; omega)) | (have := sW_lt (g (402 + 2 * (200 * l + u))); omega)))) ?_
        refine Wx.topN (show sW ((sorI g l cc u) (402 + 2 * (200 * l + u))) = sW (g (402 + 2 * (200 * l + u))) from congrArg (fun z => sW (z)) (hG _ (by omega) (by omega) (by omega))) ?_
        refine r_if_neN (tgt := 96) dX7_sortLot_76 (by decide) (by (first | omega | (refine Nat.lt_of_le_of_lt Nat.and_le_left ?_; first | omega | (refine Nat.lt_of_le_of_lt Nat.and_le_left ?_; omega)) | (have := sW_lt (g (402 + 2 * (200 * l + u))); omega))) (fun h76_1 => ?_) (fun h76_1 => ?_)
        · refine r_iconst (v := nI 0) dX7_sortLot_96 (by decide) ?_
          refine r_istore (lv' := [(7, .int (nI (0))), (6, .int (nI (1))), (0, .ref (o)), (1, .int (nI (l))), (2, .ref (A l)), (3, .ref (o + 12 + p)), (4, .int (nI (cnt (scrP g l) u))), (5, .int (nI (u)))]) dX7_sortLot_97 (by decide) rfl ?_
          refine r_iload dX7_sortLot_99 0 rfl ?_
          refine r_if_eqN (tgt := 123) dX7_sortLot_101 (by decide) (by (first | omega | (refine Nat.lt_of_le_of_lt Nat.and_le_left ?_; first | omega | (refine Nat.lt_of_le_of_lt Nat.and_le_left ?_; omega)) | (have := sW_lt (g (402 + 2 * (200 * l + u))); omega))) (fun zz101_3 => ?_) (fun zz101_3 => ?_)
          · refine r_iload dX7_sortLot_123 0 rfl ?_
            refine r_if_neN (tgt := 133) dX7_sortLot_125 (by decide) (by (first | omega | (refine Nat.lt_of_le_of_lt Nat.and_le_left ?_; first | omega | (refine Nat.lt_of_le_of_lt Nat.and_le_left ?_; omega)) | (have := sW_lt (g (402 + 2 * (200 * l + u))); omega))) (fun zz125_3 => ?_) (fun zz125_3 => ?_)
            · exact absurd zz125_3 (by decide)
            · refine r_iload dX7_sortLot_128 1 rfl ?_
              refine r_if_eqN (tgt := 155) dX7_sortLot_130 (by decide) (by (first | omega | (refine Nat.lt_of_le_of_lt Nat.and_le_left ?_; first | omega | (refine Nat.lt_of_le_of_lt Nat.and_le_left ?_; omega)) | (have := sW_lt (g (402 + 2 * (200 * l + u))); omega))) (fun zz130_2 => ?_) (fun zz130_2 => ?_)
              · exact absurd zz130_2 (by decide)
              · have hn3 : ¬ sW (g (402 + 2 * (200 * l + u))) = 3 := by rw [h59]; decide
                refine r_aload_n dX7_sortLot_133 rfl 2 rfl ?_
                refine r_aload_n dX7_sortLot_134 rfl 4 rfl ?_
                refine r_iload dX7_sortLot_135 7 rfl ?_
                refine r_aload_n dX7_sortLot_137 rfl 5 rfl ?_
                have k0 : (sorI g l cc u) 0 = g 0 := ((hG (0) (by omega) (by omega) (by omega)))
                have kz : (sorI g l cc u) (90 + 13 * l + 1) = g (90 + 13 * l + 1) := ((hG (90 + 13 * l + 1) (by omega) (by omega) (by omega)))
                have kp : (sorI g l cc u) (90 + 13 * l + 0) = p := ((hG (90 + 13 * l + 0) (by omega) (by omega) (by omega))).trans hp
                have ky : (sorI g l cc u) (402 + 2 * (200 * l + u)) = g (402 + 2 * (200 * l + u)) := ((hG (402 + 2 * (200 * l + u)) (by omega) (by omega) (by omega)))
                have kk : (sorI g l cc u) (22 + 10 * p + 1) = g (22 + 10 * p + 1) := ((hG (22 + 10 * p + 1) (by omega) (by omega) (by omega)))
                have kr : (sorI g l cc u) (22 + 10 * p + 2) = g (22 + 10 * p + 2) := ((hG (22 + 10 * p + 2) (by omega) (by omega) (by omega)))
                have kh : hopV (sorI g l cc u) l u = hopV g l u := by unfold hopV; rw [kp, ky, kk, kr, hp]
                have kl : l < (sorI g l cc u) 0 := by rw [k0]; exact hl
                have ku : u < (sorI g l cc u) (90 + 13 * l + 1) := by rw [kz]; omega
                have ka : ∀ z, z < (sorI g l cc u) 0 → A z ≠ 0 := fun z hz9 => hal z (by rw [k0] at hz9; exact hz9)
                by_cases hrp : hopV g l u = 0 ∧ rW (g (402 + 2 * (200 * l + u))) < 2
                · refine r_ocxV (M2 := m_X7_isRepaired) (As := [.ref (A l), .int (nI (u)), .ref (o + 12 + p)]) (rest := []) (v := some (.int (nI 1))) dX7_sortLot_138 cc_X7_sortLot_201 rfl rfl rfl (Nat.le_of_ble_eq_true rfl) hx.1.1.1 rfl rfl (by decide) hx (ch_rep hx.1 hP ka kl ku kp (by omega) (by rw [kh]; exact hrp.1) (by rw [ky]; exact hrp.2) (by rw [ky]; exact hn3)) rfl (fun T_5 c_2 (hx_5 : OX S w A T_5 w k o A c_2) hP_2 => ?_)
                  refine r_if_neN (tgt := 155) dX7_sortLot_141 (by decide) (by (first | omega | (refine Nat.lt_of_le_of_lt Nat.and_le_left ?_; first | omega | (refine Nat.lt_of_le_of_lt Nat.and_le_left ?_; omega)) | (have := sW_lt (g (402 + 2 * (200 * l + u))); omega))) (fun zz141_2 => ?_) (fun zz141_2 => ?_)
                  · refine r_iincN (k := 1) (lv' := [(5, .int (nI (u + 1))), (7, .int (nI (0))), (6, .int (nI (1))), (0, .ref (o)), (1, .int (nI (l))), (2, .ref (A l)), (3, .ref (o + 12 + p)), (4, .int (nI (cnt (scrP g l) u)))]) dX7_sortLot_155 (by decide) 7 rfl (by decide) rfl ?_
                    refine r_goto (tgt := 42) dX7_sortLot_158 (by decide) ?_
                    refine Wx.sub [3, 4, 5, 6, 7, 0] rfl ?_
                    have hrn : Rel c_2 (sorI g l cc (u + 1)) (N + 5 * (u + 1)) := by
                      show Rel _ (sorS g (sorI g l cc u) l u cc) (N + 5 * (u + 1))
                      unfold sorS
                      rw [if_neg h76_1, if_pos h59]
                      unfold fixS
                      rw [if_pos hrp.1, if_pos hrp.2]
                      exact hP_2.le (by omega)
                    have hcn := cnt_f (p := scrP g l) (fun q9 => q9.2 hrp)
                    refine Wx.loc (show _ = [(0, .ref (o)), (1, .int (nI (l))), (2, .ref (A l)), (3, .ref (o + 12 + p)), (4, .int (nI (cnt (scrP g l) (u + 1)))), (5, .int (nI (u + 1)))] from by rw [hcn]; rfl) ?_
                    exact next _ _ (by omega) ⟨_, hx_5, hrn, rfl⟩
                  · exact absurd zz141_2 (by decide)
                · refine r_fnV (M2 := m_X7_isRepaired) (As := [.ref (A l), .int (nI (u)), .ref (o + 12 + p)]) (rest := []) (v := some (.int (nI 0))) dX7_sortLot_138 cc_X7_sortLot_201 rfl rfl rfl (Nat.le_of_ble_eq_true rfl) hx.1.1.1 rfl rfl (by decide) (o_rep_0 hx.1 hP ka kl ku kp (by rw [kh, ky]; exact hrp)) rfl ?_
                  refine r_if_neN (tgt := 155) dX7_sortLot_141 (by decide) (by (first | omega | (refine Nat.lt_of_le_of_lt Nat.and_le_left ?_; first | omega | (refine Nat.lt_of_le_of_lt Nat.and_le_left ?_; omega)) | (have := sW_lt (g (402 + 2 * (200 * l + u))); omega))) (fun zz141_3 => ?_) (fun zz141_3 => ?_)
                  · exact absurd zz141_3 (by decide)
                  · refine r_aload_n dX7_sortLot_144 rfl 4 rfl ?_
                    refine r_getR (ci := 7) (k := 11) (b := A l + 2) dX7_sortLot_145 fr_X7_137 (hx.1.lo hl24 hAl).2.1 rfl (hx.1.lo hl24 hAl).2.2.1.2.1 ?_
                    refine r_iload dX7_sortLot_148 7 rfl ?_
                    refine r_iconst (v := nI 2) dX7_sortLot_150 (by decide) ?_
                    refine r_iast dX7_sortLot_151 (hx.1.lo hl24 hAl).2.2.2.2.1.1 (by rw [show zN T (A l + 2) = 200 from (hx.1.lo hl24 hAl).2.2.2.2.1.2]; exact vp_in_nI (by (first | omega | (refine Nat.lt_of_le_of_lt Nat.and_le_left ?_; first | omega | (refine Nat.lt_of_le_of_lt Nat.and_le_left ?_; omega)) | (have := sW_lt (g (402 + 2 * (200 * l + u))); omega))) (by decide)) ?_
                    refine Wx.st' (S' := uA T (A l + 2) (u) (nI (2))) (by rw [nI_clamp (by (first | omega | (refine Nat.lt_of_le_of_lt Nat.and_le_left ?_; first | omega | (refine Nat.lt_of_le_of_lt Nat.and_le_left ?_; omega)) | (have := sW_lt (g (402 + 2 * (200 * l + u))); omega)))]) ?_
                    refine Wx.gx ((hx.U (f := 0) (u := u) hl24 hAl (by (first | omega | (refine Nat.lt_of_le_of_lt Nat.and_le_left ?_; first | omega | (refine Nat.lt_of_le_of_lt Nat.and_le_left ?_; omega)) | (have := sW_lt (g (402 + 2 * (200 * l + u))); omega))) (by decide))) (fun T_6 (hx_6 : OX S w A T_6 w k o A (up1 c (402 + 8 * (200 * l + u)) (2))) => ?_)
                    refine r_iincN (k := 1) (lv' := [(4, .int (nI (cnt (scrP g l) u + 1))), (7, .int (nI (0))), (6, .int (nI (1))), (0, .ref (o)), (1, .int (nI (l))), (2, .ref (A l)), (3, .ref (o + 12 + p)), (5, .int (nI (u)))]) dX7_sortLot_152 (by decide) 6 rfl (by decide) rfl ?_
                    refine r_iincN (k := 1) (lv' := [(5, .int (nI (u + 1))), (4, .int (nI (cnt (scrP g l) u + 1))), (7, .int (nI (0))), (6, .int (nI (1))), (0, .ref (o)), (1, .int (nI (l))), (2, .ref (A l)), (3, .ref (o + 12 + p))]) dX7_sortLot_155 (by decide) 7 rfl (by decide) rfl ?_
                    refine r_goto (tgt := 42) dX7_sortLot_158 (by decide) ?_
                    refine Wx.sub [4, 5, 6, 7, 1, 0] rfl ?_
                    have hrn : Rel (up1 c (402 + 8 * (200 * l + u)) (2)) (sorI g l cc (u + 1)) (N + 5 * (u + 1)) := by
                      show Rel _ (sorS g (sorI g l cc u) l u cc) (N + 5 * (u + 1))
                      unfold sorS
                      rw [if_neg h76_1, if_pos h59]
                      have e9 : fixS g (sorI g l cc u) l u = becG (sorI g l cc u) l u 2 := by
                        unfold fixS
                        by_cases q9 : hopV g l u = 0
                        · rw [if_pos q9, if_neg (fun q8 => hrp ⟨q9, q8⟩)]
                        · rw [if_neg q9]
                      rw [e9]
                      exact (Rel.bec hP kl ku (by rw [ky]; exact hn3) (by decide) (by decide)).le (by omega)
                    have hcn := cnt_t (p := scrP g l) ⟨Or.inr h59, hrp⟩
                    refine Wx.loc (show _ = [(0, .ref (o)), (1, .int (nI (l))), (2, .ref (A l)), (3, .ref (o + 12 + p)), (4, .int (nI (cnt (scrP g l) (u + 1)))), (5, .int (nI (u + 1)))] from by rw [hcn]; rfl) ?_
                    exact next _ _ (by omega) ⟨_, hx_6, hrn, rfl⟩
          · exact absurd zz101_3 (by decide)
        · exact absurd (h59.symm.trans h76_1) (by decide)
  · exact absurd hok h30
