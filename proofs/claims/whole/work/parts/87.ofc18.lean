/-! PARTS AND THE WHOLE OF MAKING -/
theorem o_lotAtC {G : GI} {S : Hp} {w : Nat → Nat} {k o : Nat} {A c : Nat → Nat} (h : OR S w k o A c) (h24 : c 0 ≤ 24) (hal : ∀ l, l < c 0 → A l ≠ 0) {l : Nat} (hl : l < c 0) : Fn m_X7_lotAt G [.ref o, .int (nI l)] S (some (.ref (A l))) S := k_lotAt h.1 h.o0 h24 (fun i hi => (h.lo (by omega) (hal i hi)).1) hl
theorem o_lotAtC_no {G : GI} {S : Hp} {w : Nat → Nat} {k o : Nat} {A c : Nat → Nat} (h : OR S w k o A c) (h24 : c 0 ≤ 24) {x : Int32} (hx : ¬ vp_in x (c 0)) : Fn m_X7_lotAt G [.ref o, .int x] S (some .null) S := k_lotAt_no h.1 h.o0 h24 hx
/-- a unit of part t is here -/
def hrC (c : Nat → Nat) (t v : Nat) : Prop := c (402 + 8 * (200 * t + v)) = 0
/-- the first u units of part t have been gone through for lot l -/
def UP (c : Nat → Nat) (l t u : Nat) (c' : Nat → Nat) : Prop := (∀ j, (∀ v, v < u → j ≠ 402 + 8 * (200 * t + v) ∧ j ≠ 402 + 8 * (200 * t + v) + 4) → (∀ q, q < cnt (hrC c t) u → j ≠ 402 + 8 * (200 * l + q) + 1) → c' j = c j) ∧ (∀ v, v < u → (hrC c t v → c' (402 + 8 * (200 * t + v)) = 3 ∧ c' (402 + 8 * (200 * t + v) + 4) = 1000 * c 0 + cnt (hrC c t) v ∧ c' (402 + 8 * (200 * l + cnt (hrC c t) v) + 1) = (c (402 + 8 * (200 * l + cnt (hrC c t) v) + 1) ||| c (402 + 8 * (200 * t + v) + 1))) ∧ (¬ hrC c t v → c' (402 + 8 * (200 * t + v)) = c (402 + 8 * (200 * t + v)) ∧ c' (402 + 8 * (200 * t + v) + 4) = c (402 + 8 * (200 * t + v) + 4)))
theorem UP.stepf {c c1 : Nat → Nat} {l t u : Nat} (h : UP c l t u c1) (hn : ¬ hrC c t u) (hl : l < 24) (ht : t < 24) (hlt : l ≠ t) (hu : u < 200) (hc : cnt (hrC c t) u < 200) : UP c l t (u + 1) c1 := by
  obtain ⟨h1, h2⟩ := h
  have e : cnt (hrC c t) (u + 1) = cnt (hrC c t) u := cnt_f hn
  refine ⟨fun j hj1 hj2 => h1 j (fun v hv => hj1 v (by omega)) (fun q hq => hj2 q (by rw [e]; exact hq)), fun v hv => ?_⟩
  by_cases q : v = u
  · subst q
    exact ⟨fun z => absurd z hn, fun _ => ⟨h1 _ (fun z hz => by omega) (fun z hz => by omega), h1 _ (fun z hz => by omega) (fun z hz => by omega)⟩⟩
  · exact h2 v (by omega)
theorem UP.stept {c c1 : Nat → Nat} {l t u x : Nat} (h : UP c l t u c1) (hn : hrC c t u) (hl : l < 24) (ht : t < 24) (hlt : l ≠ t) (hu : u < 200) (hc : cnt (hrC c t) u < 200) (hx : x = (c (402 + 8 * (200 * l + cnt (hrC c t) u) + 1) ||| c (402 + 8 * (200 * t + u) + 1))) : UP c l t (u + 1) (up1 (up1 (up1 c1 (402 + 8 * (200 * t + u)) 3) (402 + 8 * (200 * t + u) + 4) (1000 * c 0 + cnt (hrC c t) u)) (402 + 8 * (200 * l + cnt (hrC c t) u) + 1) x) := by
  obtain ⟨h1, h2⟩ := h
  have e : cnt (hrC c t) (u + 1) = cnt (hrC c t) u + 1 := cnt_t hn
  refine ⟨fun j hj1 hj2 => ?_, fun v hv => ?_⟩
  · have q1 := hj1 u (by omega)
    have q2 := hj2 (cnt (hrC c t) u) (by omega)
    rw [up1_n q2, up1_n q1.2, up1_n q1.1]
    exact h1 j (fun v hv => hj1 v (by omega)) (fun q hq => hj2 q (by omega))
  · by_cases q : v = u
    · subst q
      refine ⟨fun _ => ⟨?_, ?_, ?_⟩, fun z => absurd hn z⟩
      · rw [up1_n (by omega), up1_n (by omega), up1_s]
      · rw [up1_n (by omega), up1_s]
      · rw [up1_s]; exact hx
    · have hcv : hrC c t v → cnt (hrC c t) v < cnt (hrC c t) u := fun z => cnt_lt z (by omega)
      obtain ⟨q1, q2⟩ := h2 v (by omega)
      refine ⟨fun z => ?_, fun z => ?_⟩
      · have := hcv z
        rw [up1_n (by omega), up1_n (by omega), up1_n (by omega), up1_n (by omega), up1_n (by omega), up1_n (by omega), up1_n (by omega), up1_n (by omega), up1_n (by omega)]
        exact q1 z
      · rw [up1_n (by omega), up1_n (by omega), up1_n (by omega), up1_n (by omega), up1_n (by omega), up1_n (by omega)]
        exact q2 z
theorem UP.d {c c1 : Nat → Nat} {l t u : Nat} (h : UP c l t u c1) (hl : l < 24) (ht : t < 24) (hlt : l ≠ t) (hc : cnt (hrC c t) u ≤ 200) (hu : u ≤ 200) : ∀ v, u ≤ v → v < 200 → c1 (402 + 8 * (200 * t + v)) = c (402 + 8 * (200 * t + v)) ∧ c1 (402 + 8 * (200 * t + v) + 1) = c (402 + 8 * (200 * t + v) + 1) := fun v h1 h2 => ⟨h.1 _ (fun z hz => by omega) (fun z hz => by omega), h.1 _ (fun z hz => by omega) (fun z hz => by omega)⟩
set_option maxRecDepth 4000 in
set_option maxHeartbeats 400000 in
theorem o_usePart {G : GI} {S : Hp} {w : Nat → Nat} {k o : Nat} {A c : Nat → Nat} (h : OR S w k o A c) {l t n zt kp : Nat} (hl24 : l < 24) (hAl : A l ≠ 0) (h24 : c 0 ≤ 24) (hal : ∀ l, l < c 0 → A l ≠ 0) (ht : t < c 0) (hlt : l ≠ t) (hn : c (90 + 13 * l + 1) = n) (hn200 : n ≤ 200) (hzt : c (90 + 13 * t + 1) = zt) (hz200 : zt ≤ 200) (hkp : c (90 + 13 * l + 8) = kp) (hkp3 : kp < 3) (hst : ∀ u, u < zt → c (402 + 8 * (200 * t + u)) < 8) (hd1 : ∀ u, u < zt → c (402 + 8 * (200 * t + u) + 1) < 16) (hd2 : ∀ u, u < n → c (402 + 8 * (200 * l + u) + 1) < 16) (hgv : n ≤ cnt (hrC (up1 (up1 c (90 + 13 * l + (10 + kp)) t) (90 + 13 * l + 8) (kp + 1)) t) zt) : OEx m_X7_usePart G [.ref o, .ref (A l), .int (nI t)] S w k o A none (fun c' => ∃ ue, ue ≤ zt ∧ cnt (hrC (up1 (up1 c (90 + 13 * l + (10 + kp)) t) (90 + 13 * l + 8) (kp + 1)) t) ue = n ∧ UP (up1 (up1 c (90 + 13 * l + (10 + kp)) t) (90 + 13 * l + 8) (kp + 1)) l t ue c') := by
  refine Cn.of rfl (by decide) (Nat.le_of_ble_eq_true rfl) (fun hN hM => ?_)
  show Wx _ G _ 0 [(0, .ref (o)), (1, .ref (A l)), (2, .int (nI (t)))] [] _
  have hx := OX.refl h
  have hl24' := hl24
  have ht24 : t < 24 := by omega
  have hAt := hal t ht
  refine r_aload_n dX7_usePart_0 rfl 0 rfl ?_
  refine r_iload_n dX7_usePart_1 rfl 2 rfl ?_
  refine r_fnV (M2 := m_X7_lotAt) (As := [.int (nI (t))]) (rest := []) (v := some (.ref (A t))) dX7_usePart_2 cc_X7_usePart_105 rfl rfl rfl (Nat.le_of_ble_eq_true rfl) hx.1.1.1 rfl rfl (by decide) (o_lotAtC hx.1 h24 hal ht) rfl ?_
  refine r_astore_n (lv' := [(3, .ref (A t)), (0, .ref (o)), (1, .ref (A l)), (2, .int (nI (t)))]) dX7_usePart_5 rfl (by decide) rfl ?_
  refine r_aload_n dX7_usePart_6 rfl 0 rfl ?_
  refine r_ifnonnull (tgt := 11) dX7_usePart_7 (by decide) ?_
  refine r_aload_n dX7_usePart_11 rfl 2 rfl ?_
  refine r_iload_n dX7_usePart_12 rfl 3 rfl ?_
  refine r_fnV (M2 := m_X5_addPart) (As := [.int (nI t)]) (rest := []) (v := none) dX7_usePart_13 cc_X7_usePart_131 rfl rfl rfl (Nat.le_of_ble_eq_true rfl) (hx.1.lo hl24 hAl).2.1 rfl rfl (by decide) (k_addPart (hx.1.lo hl24 hAl).2 ((hx.1.l9 hl24 hAl).trans (congrArg nI hkp)) hkp3) rfl ?_
  refine Wx.gx (((hx.R (j := kp) hl24 hAl hkp3).L (f := 9) hl24 hAl (by decide))) (fun T (hx : OX S w A T w k o A (up1 (up1 c (90 + 13 * l + (10 + kp)) t) (90 + 13 * l + 8) (kp + 1))) => ?_)
  refine r_iconst (v := nI 0) dX7_usePart_16 (by decide) ?_
  refine r_istore (lv' := [(4, .int (nI (0))), (3, .ref (A t)), (0, .ref (o)), (1, .ref (A l)), (2, .int (nI (t)))]) dX7_usePart_17 (by decide) rfl ?_
  refine r_iconst (v := nI 0) dX7_usePart_19 (by decide) ?_
  refine r_istore (lv' := [(5, .int (nI (0))), (4, .int (nI (0))), (3, .ref (A t)), (0, .ref (o)), (1, .ref (A l)), (2, .int (nI (t)))]) dX7_usePart_20 (by decide) rfl ?_
  have hca : ∀ j, j ≠ 90 + 13 * l + (10 + kp) → j ≠ 90 + 13 * l + 8 → (up1 (up1 c (90 + 13 * l + (10 + kp)) t) (90 + 13 * l + 8) (kp + 1)) j = c j := fun j h1 h2 => by rw [up1_n h2, up1_n h1]
  have hcz : (up1 (up1 c (90 + 13 * l + (10 + kp)) t) (90 + 13 * l + 8) (kp + 1)) (90 + 13 * t + 1) = zt := (hca _ (by omega) (by omega)).trans hzt
  have hcl : (up1 (up1 c (90 + 13 * l + (10 + kp)) t) (90 + 13 * l + 8) (kp + 1)) (90 + 13 * l + 1) = n := (hca _ (by omega) (by omega)).trans hn
  refine Wx.sub [3, 4, 5, 2, 1, 0] rfl ?_
  refine Wx.loopR (fun u T lv => ∃ c9, OX S w A T w k o A c9 ∧ (cnt (hrC (up1 (up1 c (90 + 13 * l + (10 + kp)) t) (90 + 13 * l + 8) (kp + 1)) t) u ≤ n ∧ UP (up1 (up1 c (90 + 13 * l + (10 + kp)) t) (90 + 13 * l + 8) (kp + 1)) l t u c9) ∧ lv = [(0, .ref (o)), (1, .ref (A l)), (2, .int (nI (t))), (3, .ref (A t)), (4, .int (nI (cnt (hrC (up1 (up1 c (90 + 13 * l + (10 + kp)) t) (90 + 13 * l + 8) (kp + 1)) t) u))), (5, .int (nI (u)))]) (zt) (0) (Nat.zero_le _) ⟨_, hx, ⟨Nat.zero_le _, fun _ _ _ => rfl, fun v hv => absurd hv (Nat.not_lt_zero v)⟩, rfl⟩ (fun u T_1 lv hge hle hI9 next => ?_)
  obtain ⟨c9, hx_1, hP, rfl⟩ := hI9
  have hs8 : ∀ u, u < zt → (up1 (up1 c (90 + 13 * l + (10 + kp)) t) (90 + 13 * l + 8) (kp + 1)) (402 + 8 * (200 * t + u)) < 8 := fun u hu => by rw [hca _ (by omega) (by omega)]; exact hst u hu
  have hdt : ∀ u, u < zt → (up1 (up1 c (90 + 13 * l + (10 + kp)) t) (90 + 13 * l + 8) (kp + 1)) (402 + 8 * (200 * t + u) + 1) < 16 := fun u hu => by rw [hca _ (by omega) (by omega)]; exact hd1 u hu
  have hdl : ∀ u, u < n → (up1 (up1 c (90 + 13 * l + (10 + kp)) t) (90 + 13 * l + 8) (kp + 1)) (402 + 8 * (200 * l + u) + 1) < 16 := fun u hu => by rw [hca _ (by omega) (by omega)]; exact hd2 u hu
  refine r_iload dX7_usePart_22 5 rfl ?_
  refine r_aload_n dX7_usePart_24 rfl 3 rfl ?_
  refine r_getI (ci := 7) (k := 2) dX7_usePart_25 fr_X7_134 (hx_1.1.lo ht24 hAt).2.1 rfl ?_
  refine Wx.top (hx_1.1.l2 ht24 hAt) ?_
  refine Wx.topN ((hP.2.1 _ (fun v _ => by omega) (fun q _ => by omega)).trans hcz) ?_
  refine r_icmp_geN (tgt := 100) dX7_usePart_28 (by decide) (by (first | omega | (have := hs8 u (by omega); omega) | (have := hdl (cnt (hrC (up1 (up1 c (90 + 13 * l + (10 + kp)) t) (90 + 13 * l + 8) (kp + 1)) t) u) (by omega); have := hdt u (by omega); omega))) (by (first | omega | (have := hs8 u (by omega); omega) | (have := hdl (cnt (hrC (up1 (up1 c (90 + 13 * l + (10 + kp)) t) (90 + 13 * l + 8) (kp + 1)) t) u) (by omega); have := hdt u (by omega); omega))) (fun h28 => ?_) (fun h28 => ?_)
  · have hue : cnt (hrC (up1 (up1 c (90 + 13 * l + (10 + kp)) t) (90 + 13 * l + 8) (kp + 1)) t) u = n := by
      obtain rfl : u = zt := by omega
      have := hgv
      omega
    exact r_vret dX7_usePart_100 rfl ⟨rfl, _, hx_1, u, by omega, hue, hP.2⟩
  · refine r_iload dX7_usePart_31 4 rfl ?_
    refine r_aload_n dX7_usePart_33 rfl 1 rfl ?_
    refine r_getI (ci := 7) (k := 2) dX7_usePart_34 fr_X7_134 (hx_1.1.lo hl24 hAl).2.1 rfl ?_
    refine Wx.top (hx_1.1.l2 hl24 hAl) ?_
    refine Wx.topN ((hP.2.1 _ (fun v _ => by omega) (fun q _ => by omega)).trans hcl) ?_
    refine r_icmp_geN (tgt := 100) dX7_usePart_37 (by decide) (by (first | omega | (have := hs8 u (by omega); omega) | (have := hdl (cnt (hrC (up1 (up1 c (90 + 13 * l + (10 + kp)) t) (90 + 13 * l + 8) (kp + 1)) t) u) (by omega); have := hdt u (by omega); omega))) (by (first | omega | (have := hs8 u (by omega); omega) | (have := hdl (cnt (hrC (up1 (up1 c (90 + 13 * l + (10 + kp)) t) (90 + 13 * l + 8) (kp + 1)) t) u) (by omega); have := hdt u (by omega); omega))) (fun h37 => ?_) (fun h37 => ?_)
    · have hue : cnt (hrC (up1 (up1 c (90 + 13 * l + (10 + kp)) t) (90 + 13 * l + 8) (kp + 1)) t) u = n := by omega
      exact r_vret dX7_usePart_100 rfl ⟨rfl, _, hx_1, u, by omega, hue, hP.2⟩
    · refine r_aload_n dX7_usePart_40 rfl 3 rfl ?_
      refine r_getR (ci := 7) (k := 11) (b := A t + 2) dX7_usePart_41 fr_X7_137 (hx_1.1.lo ht24 hAt).2.1 rfl (hx_1.1.lo ht24 hAt).2.2.1.2.1 ?_
      refine r_iload dX7_usePart_44 5 rfl ?_
      refine r_iald dX7_usePart_46 (hx_1.1.lo ht24 hAt).2.2.2.2.1.1 (by rw [show zN T_1 (A t + 2) = 200 from (hx_1.1.lo ht24 hAt).2.2.2.2.1.2]; exact vp_in_nI (by (first | omega | (have := hs8 u (by omega); omega) | (have := hdl (cnt (hrC (up1 (up1 c (90 + 13 * l + (10 + kp)) t) (90 + 13 * l + 8) (kp + 1)) t) u) (by omega); have := hdt u (by omega); omega))) (by decide)) ?_
      refine Wx.top (congrArg (zA _ _) (nI_clamp (by (first | omega | (have := hs8 u (by omega); omega) | (have := hdl (cnt (hrC (up1 (up1 c (90 + 13 * l + (10 + kp)) t) (90 + 13 * l + 8) (kp + 1)) t) u) (by omega); have := hdt u (by omega); omega))))) ?_
      refine Wx.top (hx_1.1.u0 (u := u) ht24 hAt (by (first | omega | (have := hs8 u (by omega); omega) | (have := hdl (cnt (hrC (up1 (up1 c (90 + 13 * l + (10 + kp)) t) (90 + 13 * l + 8) (kp + 1)) t) u) (by omega); have := hdt u (by omega); omega)))) ?_
      refine Wx.topN ((hP.2.d hl24 ht24 hlt (by omega) (by omega) u (Nat.le_refl u) (by omega)).1) ?_
      refine r_if_neN (tgt := 94) dX7_usePart_47 (by decide) (by (first | omega | (have := hs8 u (by omega); omega) | (have := hdl (cnt (hrC (up1 (up1 c (90 + 13 * l + (10 + kp)) t) (90 + 13 * l + 8) (kp + 1)) t) u) (by omega); have := hdt u (by omega); omega))) (fun h47 => ?_) (fun h47 => ?_)
      · refine r_iincN (k := 1) (lv' := [(5, .int (nI (u + 1))), (0, .ref (o)), (1, .ref (A l)), (2, .int (nI (t))), (3, .ref (A t)), (4, .int (nI (cnt (hrC (up1 (up1 c (90 + 13 * l + (10 + kp)) t) (90 + 13 * l + 8) (kp + 1)) t) u)))]) dX7_usePart_94 (by decide) 5 rfl (by decide) rfl ?_
        refine r_goto (tgt := 22) dX7_usePart_97 (by decide) ?_
        refine Wx.sub [1, 2, 3, 4, 5, 0] rfl ?_
        have hcn : cnt (hrC (up1 (up1 c (90 + 13 * l + (10 + kp)) t) (90 + 13 * l + 8) (kp + 1)) t) (u + 1) = cnt (hrC (up1 (up1 c (90 + 13 * l + (10 + kp)) t) (90 + 13 * l + 8) (kp + 1)) t) u := cnt_f h47
        refine Wx.loc (show _ = [(0, .ref (o)), (1, .ref (A l)), (2, .int (nI (t))), (3, .ref (A t)), (4, .int (nI (cnt (hrC (up1 (up1 c (90 + 13 * l + (10 + kp)) t) (90 + 13 * l + 8) (kp + 1)) t) (u + 1)))), (5, .int (nI (u + 1)))] from by rw [hcn]; rfl) ?_
        exact next _ _ (by omega) ⟨_, hx_1, ⟨by omega, UP.stepf hP.2 h47 hl24 ht24 hlt (by omega) (by omega)⟩, rfl⟩
      · refine r_aload_n dX7_usePart_50 rfl 3 rfl ?_
        refine r_getR (ci := 7) (k := 11) (b := A t + 2) dX7_usePart_51 fr_X7_137 (hx_1.1.lo ht24 hAt).2.1 rfl (hx_1.1.lo ht24 hAt).2.2.1.2.1 ?_
        refine r_iload dX7_usePart_54 5 rfl ?_
        refine r_iconst (v := nI 3) dX7_usePart_56 (by decide) ?_
        refine r_iast dX7_usePart_57 (hx_1.1.lo ht24 hAt).2.2.2.2.1.1 (by rw [show zN T_1 (A t + 2) = 200 from (hx_1.1.lo ht24 hAt).2.2.2.2.1.2]; exact vp_in_nI (by (first | omega | (have := hs8 u (by omega); omega) | (have := hdl (cnt (hrC (up1 (up1 c (90 + 13 * l + (10 + kp)) t) (90 + 13 * l + 8) (kp + 1)) t) u) (by omega); have := hdt u (by omega); omega))) (by decide)) ?_
        refine Wx.st' (S' := uA T_1 (A t + 2) (u) (nI (3))) (by rw [nI_clamp (by (first | omega | (have := hs8 u (by omega); omega) | (have := hdl (cnt (hrC (up1 (up1 c (90 + 13 * l + (10 + kp)) t) (90 + 13 * l + 8) (kp + 1)) t) u) (by omega); have := hdt u (by omega); omega)))]) ?_
        refine Wx.gx ((hx_1.U (f := 0) (u := u) ht24 hAt (by (first | omega | (have := hs8 u (by omega); omega) | (have := hdl (cnt (hrC (up1 (up1 c (90 + 13 * l + (10 + kp)) t) (90 + 13 * l + 8) (kp + 1)) t) u) (by omega); have := hdt u (by omega); omega))) (by decide))) (fun T_2 (hx_2 : OX S w A T_2 w k o A (up1 c9 (402 + 8 * (200 * t + u)) (3))) => ?_)
        refine r_aload_n dX7_usePart_58 rfl 3 rfl ?_
        refine r_getR (ci := 7) (k := 15) (b := A t + 6) dX7_usePart_59 fr_X7_140 (hx_2.1.lo ht24 hAt).2.1 rfl (hx_2.1.lo ht24 hAt).2.2.1.2.2.2.2.2.1 ?_
        refine r_iload dX7_usePart_62 5 rfl ?_
        refine r_aload_n dX7_usePart_64 rfl 0 rfl ?_
        refine r_getI (ci := 9) (k := 5) dX7_usePart_65 fr_X7_49 hx_2.1.1.1 rfl ?_
        refine Wx.top hx_2.1.o0 ?_
        refine Wx.topN (up1_n (by (first | omega | (have := hs8 u (by omega); omega) | (have := hdl (cnt (hrC (up1 (up1 c (90 + 13 * l + (10 + kp)) t) (90 + 13 * l + 8) (kp + 1)) t) u) (by omega); have := hdt u (by omega); omega)))) ?_
        refine Wx.topN ((hP.2.1 _ (fun v _ => by omega) (fun q _ => by omega)).trans (hca 0 (by omega) (by omega))) ?_
        refine r_iload dX7_usePart_68 4 rfl ?_
        refine r_fnS (M2 := m_X12_placeOf) (As := [.int (nI (c 0)), .int (nI (cnt (hrC (up1 (up1 c (90 + 13 * l + (10 + kp)) t) (90 + 13 * l + 8) (kp + 1)) t) u))]) (rest := [.int (nI (u)), .ref (A t + 6)]) (v := some (.int (nI (1000 * (c 0) + (cnt (hrC (up1 (up1 c (90 + 13 * l + (10 + kp)) t) (90 + 13 * l + 8) (kp + 1)) t) u))))) dX7_usePart_70 cc_X7_usePart_143 rfl rfl rfl (Nat.le_of_ble_eq_true rfl) o_placeOf rfl ?_
        refine r_iast dX7_usePart_73 (hx_2.1.lo ht24 hAt).2.2.2.2.2.2.2.2.1.1 (by rw [show zN T_2 (A t + 6) = 200 from (hx_2.1.lo ht24 hAt).2.2.2.2.2.2.2.2.1.2]; exact vp_in_nI (by (first | omega | (have := hs8 u (by omega); omega) | (have := hdl (cnt (hrC (up1 (up1 c (90 + 13 * l + (10 + kp)) t) (90 + 13 * l + 8) (kp + 1)) t) u) (by omega); have := hdt u (by omega); omega))) (by decide)) ?_
        refine Wx.st' (S' := uA T_2 (A t + 6) (u) (nI (1000 * (c 0) + (cnt (hrC (up1 (up1 c (90 + 13 * l + (10 + kp)) t) (90 + 13 * l + 8) (kp + 1)) t) u)))) (by rw [nI_clamp (by (first | omega | (have := hs8 u (by omega); omega) | (have := hdl (cnt (hrC (up1 (up1 c (90 + 13 * l + (10 + kp)) t) (90 + 13 * l + 8) (kp + 1)) t) u) (by omega); have := hdt u (by omega); omega)))]) ?_
        refine Wx.gx ((hx_2.U (f := 4) (u := u) ht24 hAt (by (first | omega | (have := hs8 u (by omega); omega) | (have := hdl (cnt (hrC (up1 (up1 c (90 + 13 * l + (10 + kp)) t) (90 + 13 * l + 8) (kp + 1)) t) u) (by omega); have := hdt u (by omega); omega))) (by decide))) (fun T_3 (hx_3 : OX S w A T_3 w k o A (up1 (up1 c9 (402 + 8 * (200 * t + u)) (3)) (402 + 8 * (200 * t + u) + 4) (1000 * (c 0) + (cnt (hrC (up1 (up1 c (90 + 13 * l + (10 + kp)) t) (90 + 13 * l + 8) (kp + 1)) t) u)))) => ?_)
        refine r_aload_n dX7_usePart_74 rfl 1 rfl ?_
        refine r_getR (ci := 7) (k := 12) (b := A l + 3) dX7_usePart_75 fr_X7_147 (hx_3.1.lo hl24 hAl).2.1 rfl (hx_3.1.lo hl24 hAl).2.2.1.2.2.1 ?_
        refine r_iload dX7_usePart_78 4 rfl ?_
        refine r_dup2 dX7_usePart_80 rfl rfl ?_
        refine r_iald dX7_usePart_81 (hx_3.1.lo hl24 hAl).2.2.2.2.2.1.1 (by rw [show zN T_3 (A l + 3) = 200 from (hx_3.1.lo hl24 hAl).2.2.2.2.2.1.2]; exact vp_in_nI (by (first | omega | (have := hs8 u (by omega); omega) | (have := hdl (cnt (hrC (up1 (up1 c (90 + 13 * l + (10 + kp)) t) (90 + 13 * l + 8) (kp + 1)) t) u) (by omega); have := hdt u (by omega); omega))) (by decide)) ?_
        refine Wx.top (congrArg (zA _ _) (nI_clamp (by (first | omega | (have := hs8 u (by omega); omega) | (have := hdl (cnt (hrC (up1 (up1 c (90 + 13 * l + (10 + kp)) t) (90 + 13 * l + 8) (kp + 1)) t) u) (by omega); have := hdt u (by omega); omega))))) ?_
        refine Wx.top (hx_3.1.u1 (u := cnt (hrC (up1 (up1 c (90 + 13 * l + (10 + kp)) t) (90 + 13 * l + 8) (kp + 1)) t) u) hl24 hAl (by (first | omega | (have := hs8 u (by omega); omega) | (have := hdl (cnt (hrC (up1 (up1 c (90 + 13 * l + (10 + kp)) t) (90 + 13 * l + 8) (kp + 1)) t) u) (by omega); have := hdt u (by omega); omega)))) ?_
        refine Wx.topN (up1_n (by (first | omega | (have := hs8 u (by omega); omega) | (have := hdl (cnt (hrC (up1 (up1 c (90 + 13 * l + (10 + kp)) t) (90 + 13 * l + 8) (kp + 1)) t) u) (by omega); have := hdt u (by omega); omega)))) ?_
        refine Wx.topN (up1_n (by (first | omega | (have := hs8 u (by omega); omega) | (have := hdl (cnt (hrC (up1 (up1 c (90 + 13 * l + (10 + kp)) t) (90 + 13 * l + 8) (kp + 1)) t) u) (by omega); have := hdt u (by omega); omega)))) ?_
        refine Wx.topN (hP.2.1 _ (fun v _ => by omega) (fun q _ => by omega)) ?_
        refine r_aload_n dX7_usePart_82 rfl 3 rfl ?_
        refine r_getR (ci := 7) (k := 12) (b := A t + 3) dX7_usePart_83 fr_X7_147 (hx_3.1.lo ht24 hAt).2.1 rfl (hx_3.1.lo ht24 hAt).2.2.1.2.2.1 ?_
        refine r_iload dX7_usePart_86 5 rfl ?_
        refine r_iald dX7_usePart_88 (hx_3.1.lo ht24 hAt).2.2.2.2.2.1.1 (by rw [show zN T_3 (A t + 3) = 200 from (hx_3.1.lo ht24 hAt).2.2.2.2.2.1.2]; exact vp_in_nI (by (first | omega | (have := hs8 u (by omega); omega) | (have := hdl (cnt (hrC (up1 (up1 c (90 + 13 * l + (10 + kp)) t) (90 + 13 * l + 8) (kp + 1)) t) u) (by omega); have := hdt u (by omega); omega))) (by decide)) ?_
        refine Wx.top (congrArg (zA _ _) (nI_clamp (by (first | omega | (have := hs8 u (by omega); omega) | (have := hdl (cnt (hrC (up1 (up1 c (90 + 13 * l + (10 + kp)) t) (90 + 13 * l + 8) (kp + 1)) t) u) (by omega); have := hdt u (by omega); omega))))) ?_
        refine Wx.top (hx_3.1.u1 (u := u) ht24 hAt (by (first | omega | (have := hs8 u (by omega); omega) | (have := hdl (cnt (hrC (up1 (up1 c (90 + 13 * l + (10 + kp)) t) (90 + 13 * l + 8) (kp + 1)) t) u) (by omega); have := hdt u (by omega); omega)))) ?_
        refine Wx.topN (up1_n (by (first | omega | (have := hs8 u (by omega); omega) | (have := hdl (cnt (hrC (up1 (up1 c (90 + 13 * l + (10 + kp)) t) (90 + 13 * l + 8) (kp + 1)) t) u) (by omega); have := hdt u (by omega); omega)))) ?_
        refine Wx.topN (up1_n (by (first | omega | (have := hs8 u (by omega); omega) | (have := hdl (cnt (hrC (up1 (up1 c (90 + 13 * l + (10 + kp)) t) (90 + 13 * l + 8) (kp + 1)) t) u) (by omega); have := hdt u (by omega); omega)))) ?_
        refine Wx.topN ((hP.2.d hl24 ht24 hlt (by omega) (by omega) u (Nat.le_refl u) (by omega)).2) ?_
        refine r_iorN dX7_usePart_89 (by (first | omega | (have := hs8 u (by omega); omega) | (have := hdl (cnt (hrC (up1 (up1 c (90 + 13 * l + (10 + kp)) t) (90 + 13 * l + 8) (kp + 1)) t) u) (by omega); have := hdt u (by omega); omega))) (by (first | omega | (have := hs8 u (by omega); omega) | (have := hdl (cnt (hrC (up1 (up1 c (90 + 13 * l + (10 + kp)) t) (90 + 13 * l + 8) (kp + 1)) t) u) (by omega); have := hdt u (by omega); omega))) ?_
        refine r_iast dX7_usePart_90 (hx_3.1.lo hl24 hAl).2.2.2.2.2.1.1 (by rw [show zN T_3 (A l + 3) = 200 from (hx_3.1.lo hl24 hAl).2.2.2.2.2.1.2]; exact vp_in_nI (by (first | omega | (have := hs8 u (by omega); omega) | (have := hdl (cnt (hrC (up1 (up1 c (90 + 13 * l + (10 + kp)) t) (90 + 13 * l + 8) (kp + 1)) t) u) (by omega); have := hdt u (by omega); omega))) (by decide)) ?_
        refine Wx.st' (S' := uA T_3 (A l + 3) (cnt (hrC (up1 (up1 c (90 + 13 * l + (10 + kp)) t) (90 + 13 * l + 8) (kp + 1)) t) u) (nI (((up1 (up1 c (90 + 13 * l + (10 + kp)) t) (90 + 13 * l + 8) (kp + 1)) (402 + 8 * (200 * l + cnt (hrC (up1 (up1 c (90 + 13 * l + (10 + kp)) t) (90 + 13 * l + 8) (kp + 1)) t) u) + 1)) ||| ((up1 (up1 c (90 + 13 * l + (10 + kp)) t) (90 + 13 * l + 8) (kp + 1)) (402 + 8 * (200 * t + u) + 1))))) (by rw [nI_clamp (by (first | omega | (have := hs8 u (by omega); omega) | (have := hdl (cnt (hrC (up1 (up1 c (90 + 13 * l + (10 + kp)) t) (90 + 13 * l + 8) (kp + 1)) t) u) (by omega); have := hdt u (by omega); omega)))]) ?_
        refine Wx.gx ((hx_3.U (f := 1) (u := cnt (hrC (up1 (up1 c (90 + 13 * l + (10 + kp)) t) (90 + 13 * l + 8) (kp + 1)) t) u) hl24 hAl (by (first | omega | (have := hs8 u (by omega); omega) | (have := hdl (cnt (hrC (up1 (up1 c (90 + 13 * l + (10 + kp)) t) (90 + 13 * l + 8) (kp + 1)) t) u) (by omega); have := hdt u (by omega); omega))) (by decide))) (fun T_4 (hx_4 : OX S w A T_4 w k o A (up1 (up1 (up1 c9 (402 + 8 * (200 * t + u)) (3)) (402 + 8 * (200 * t + u) + 4) (1000 * (c 0) + (cnt (hrC (up1 (up1 c (90 + 13 * l + (10 + kp)) t) (90 + 13 * l + 8) (kp + 1)) t) u))) (402 + 8 * (200 * l + (cnt (hrC (up1 (up1 c (90 + 13 * l + (10 + kp)) t) (90 + 13 * l + 8) (kp + 1)) t) u)) + 1) (((up1 (up1 c (90 + 13 * l + (10 + kp)) t) (90 + 13 * l + 8) (kp + 1)) (402 + 8 * (200 * l + cnt (hrC (up1 (up1 c (90 + 13 * l + (10 + kp)) t) (90 + 13 * l + 8) (kp + 1)) t) u) + 1)) ||| ((up1 (up1 c (90 + 13 * l + (10 + kp)) t) (90 + 13 * l + 8) (kp + 1)) (402 + 8 * (200 * t + u) + 1))))) => ?_)
        refine r_iincN (k := 1) (lv' := [(4, .int (nI (cnt (hrC (up1 (up1 c (90 + 13 * l + (10 + kp)) t) (90 + 13 * l + 8) (kp + 1)) t) u + 1))), (0, .ref (o)), (1, .ref (A l)), (2, .int (nI (t))), (3, .ref (A t)), (5, .int (nI (u)))]) dX7_usePart_91 (by decide) 4 rfl (by decide) rfl ?_
        refine r_iincN (k := 1) (lv' := [(5, .int (nI (u + 1))), (4, .int (nI (cnt (hrC (up1 (up1 c (90 + 13 * l + (10 + kp)) t) (90 + 13 * l + 8) (kp + 1)) t) u + 1))), (0, .ref (o)), (1, .ref (A l)), (2, .int (nI (t))), (3, .ref (A t))]) dX7_usePart_94 (by decide) 5 rfl (by decide) rfl ?_
        refine r_goto (tgt := 22) dX7_usePart_97 (by decide) ?_
        refine Wx.sub [2, 3, 4, 5, 1, 0] rfl ?_
        have hcn : cnt (hrC (up1 (up1 c (90 + 13 * l + (10 + kp)) t) (90 + 13 * l + 8) (kp + 1)) t) (u + 1) = cnt (hrC (up1 (up1 c (90 + 13 * l + (10 + kp)) t) (90 + 13 * l + 8) (kp + 1)) t) u + 1 := cnt_t h47
        refine Wx.loc (show _ = [(0, .ref (o)), (1, .ref (A l)), (2, .int (nI (t))), (3, .ref (A t)), (4, .int (nI (cnt (hrC (up1 (up1 c (90 + 13 * l + (10 + kp)) t) (90 + 13 * l + 8) (kp + 1)) t) (u + 1)))), (5, .int (nI (u + 1)))] from by rw [hcn]; rfl) ?_
        exact next _ _ (by omega) ⟨_, hx_4, ⟨by omega, by have q9 := UP.stept hP.2 h47 hl24 ht24 hlt (by omega) (by omega) rfl; rw [hca 0 (by omega) (by omega)] at q9; exact q9⟩, rfl⟩
set_option maxRecDepth 4000 in
set_option maxHeartbeats 400000 in
theorem o_usePart_no {G : GI} {S : Hp} {w : Nat → Nat} {k o : Nat} {A c : Nat → Nat} (h : OR S w k o A c) {l : Nat} (hl24 : l < 24) (hAl : A l ≠ 0) (h24 : c 0 ≤ 24) {x : Int32} (hno : ¬ vp_in x (c 0)) : Fn m_X7_usePart G [.ref o, .ref (A l), .int x] S none S := by
  refine Cn.of rfl (by decide) (Nat.le_of_ble_eq_true rfl) (fun hN hM => ?_)
  show Wx _ G _ 0 [(0, .ref (o)), (1, .ref (A l)), (2, .int (x))] [] _
  have hx := OX.refl h
  refine r_aload_n dX7_usePart_0 rfl 0 rfl ?_
  refine r_iload_n dX7_usePart_1 rfl 2 rfl ?_
  refine r_fnV (M2 := m_X7_lotAt) (As := [.int (x)]) (rest := []) (v := some (.null)) dX7_usePart_2 cc_X7_usePart_105 rfl rfl rfl (Nat.le_of_ble_eq_true rfl) hx.1.1.1 rfl rfl (by decide) (o_lotAtC_no hx.1 h24 hno) rfl ?_
  refine r_astore_nN (lv' := [(3, .null), (0, .ref (o)), (1, .ref (A l)), (2, .int (x))]) dX7_usePart_5 rfl (by decide) rfl ?_
  refine r_aload_nN dX7_usePart_6 rfl 0 rfl ?_
  refine r_ifnonnullN dX7_usePart_7 ?_
  exact r_vret dX7_usePart_10 rfl ⟨rfl, rfl⟩
