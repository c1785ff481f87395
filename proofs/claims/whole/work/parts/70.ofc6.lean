/-- every unit ends somewhere -/
theorem Rel.out {c g : Nat → Nat} {N : Nat} (hr : Rel c g N) : ∀ k l u, 24 ≤ l + k → l < g 0 → u < g (90 + 13 * l + 1) → ∃ n l' u', OutC g n l u l' u' ∧ n < k
  | 0, l, u, hk, hl, hu => by have := hr.n24; omega
  | k + 1, l, u, hk, hl, hu => by
    have hL := hr.lot hl
    obtain ⟨u1, u2⟩ := hL.uu hu
    by_cases c3 : sW (g (402 + 2 * (200 * l + u))) = 3
    · obtain ⟨L, U, q, r1, r2, r3, r4, r5, r6⟩ := u1 c3
      have hLL := hr.lot r1
      have hlt := hLL.pt r3
      rw [r4] at hlt
      obtain ⟨n, l', u', ho, hn⟩ := Rel.out hr k L U (by omega) r1 r2
      refine ⟨n + 1, l', u', ⟨hl, hu, c3, L, U, r1, by omega, r2, ⟨q, r3, r4, r5⟩, fun l2 u2 h1 h2 h3 h4 h5 => ?_, ho⟩, by omega⟩
      obtain ⟨q2, s1, s2, s3⟩ := h5
      have hl2 : l2 < g 0 := by omega
      have e := ((hr.lot hl2).pu h2 q2 s1).2.2
      rw [s2, s3, r6] at e
      have := (hr.lot hl2).z
      have := hLL.z
      omega
    · exact ⟨0, l, u, ⟨hl, hu, c3, rfl, rfl⟩, by omega⟩
set_option maxRecDepth 4000 in
set_option maxHeartbeats 400000 in
theorem o_outermost {G : GI} {S : Hp} {w : Nat → Nat} {k o : Nat} {A c g : Nat → Nat} {N : Nat} (h : OR S w k o A c) (hr : Rel c g N) (hal : ∀ l, l < g 0 → A l ≠ 0) {l u n l' u' : Nat} (ho : OutC g n l u l' u') (hn24 : n < 24) : Fn m_X7_outermost G [.ref (o), .int (nI (1000 * l + u))] S (some (.int (nI (1000 * l' + u')))) S := by
  refine Cn.of rfl (by decide) (Nat.le_of_ble_eq_true rfl) (fun hN hM => ?_)
  show Wx _ G _ 0 [(0, .ref (o)), (1, .int (nI (1000 * l + u)))] [] _
  have hx := OX.refl h
  have h24 := hr.n24
  have hlz := (hr.lot ho.lt.1).z
  have hlu := ho.lt
  refine r_iload_n dX7_outermost_0 rfl 1 rfl ?_
  refine r_istore_n (lv' := [(2, .int (nI (1000 * l + u))), (0, .ref (o)), (1, .int (nI (1000 * l + u)))]) dX7_outermost_1 rfl (by decide) rfl ?_
  refine r_iconst (v := nI 0) dX7_outermost_2 (by decide) ?_
  refine r_istore_n (lv' := [(3, .int (nI (0))), (2, .int (nI (1000 * l + u))), (0, .ref (o)), (1, .int (nI (1000 * l + u)))]) dX7_outermost_3 rfl (by decide) rfl ?_
  refine Wx.sub [2, 3, 1, 0] rfl ?_
  refine Wx.loopR (fun t T lv => ∃ lt ut, (t ≤ n ∧ OutC g (n - t) lt ut l' u') ∧ S = T ∧ lv = [(0, .ref (o)), (1, .int (nI (1000 * l + u))), (2, .int (nI (1000 * lt + ut))), (3, .int (nI (t)))]) (n) (0) (Nat.zero_le _) ⟨l, u, ⟨Nat.zero_le _, ho⟩, rfl, rfl⟩ (fun t T lv hge hle hI9 next => ?_)
  obtain ⟨lt, ut, ⟨ht, hog⟩, rfl, rfl⟩ := hI9
  have hlt := hog.lt
  have hLt := hr.lot hlt.1
  have hzt := hLt.z
  have hlt24 : lt < 24 := by omega
  have hAlt := hal lt hlt.1
  cases hm : n - t with
  | zero =>
    rw [hm] at hog
    obtain ⟨o1, o2, o3, rfl, rfl⟩ := hog
    have hus := (hLt.uu hlt.2).2 o3
    refine r_iload_n dX7_outermost_4 rfl 3 rfl ?_
    refine r_bipush (v := nI 24) dX7_outermost_5 (by decide) ?_
    refine r_icmp_geN (tgt := 71) dX7_outermost_7 (by decide) (by omega) (by omega) (fun h7 => ?_) (fun h7 => ?_)
    · exact absurd h7 (by omega)
    · refine r_iload_n dX7_outermost_10 rfl 2 rfl ?_
      refine r_sipush (v := nI 1000) dX7_outermost_11 (by decide) ?_
      refine r_iremN dX7_outermost_14 (by omega) (by omega) (by omega) ?_
      refine Wx.topN (show (1000 * lt + ut) % 1000 = ut from by omega) ?_
      refine r_istore (lv' := [(4, .int (nI (ut))), (0, .ref (o)), (1, .int (nI (1000 * l + u))), (2, .int (nI (1000 * lt + ut))), (3, .int (nI (t)))]) dX7_outermost_15 (by decide) rfl ?_
      refine r_aload_n dX7_outermost_17 rfl 1 rfl ?_
      refine r_iload_n dX7_outermost_18 rfl 3 rfl ?_
      refine r_sipush (v := nI 1000) dX7_outermost_19 (by decide) ?_
      refine r_idivN dX7_outermost_22 (by omega) (by omega) (by omega) ?_
      refine Wx.topN (show (1000 * lt + ut) / 1000 = lt from by omega) ?_
      refine r_fnV (M2 := m_X7_lotAt) (As := [.int (nI (lt))]) (rest := []) (v := some (.ref (A lt))) dX7_outermost_23 cc_X7_outermost_105 rfl rfl rfl (Nat.le_of_ble_eq_true rfl) hx.1.1.1 rfl rfl (by decide) (o_lotAt hx.1 hr hal (l := lt) (by omega)) rfl ?_
      refine r_astore (lv' := [(5, .ref (A lt)), (4, .int (nI (ut))), (0, .ref (o)), (1, .int (nI (1000 * l + u))), (2, .int (nI (1000 * lt + ut))), (3, .int (nI (t)))]) dX7_outermost_26 (by decide) rfl ?_
      refine r_aload dX7_outermost_28 0 rfl ?_
      refine r_ifnull dX7_outermost_30 ?_
      refine r_aload dX7_outermost_33 0 rfl ?_
      refine r_iload dX7_outermost_35 1 rfl ?_
      refine r_fnV (M2 := m_X5_has) (As := [.int (nI (ut))]) (rest := []) (v := some (.int (nI (1)))) dX7_outermost_37 cc_X7_outermost_213 rfl rfl rfl (Nat.le_of_ble_eq_true rfl) (hx.1.lo hlt24 hAlt).2.1 rfl rfl (by decide) (o_has hx.1 hr hal (l := lt) (by omega) (by omega)) rfl ?_
      refine r_if_eqN (tgt := 54) dX7_outermost_40 (by decide) (by omega) (fun zz40 => ?_) (fun zz40 => ?_)
      · exact absurd zz40 (by decide)
      · refine r_aload dX7_outermost_43 0 rfl ?_
        refine r_getR (ci := 7) (k := 15) (b := A lt + 6) dX7_outermost_45 fr_X7_140 (hx.1.lo hlt24 hAlt).2.1 rfl (hx.1.lo hlt24 hAlt).2.2.1.2.2.2.2.2.1 ?_
        refine r_iload dX7_outermost_48 1 rfl ?_
        refine r_iald dX7_outermost_50 (hx.1.lo hlt24 hAlt).2.2.2.2.2.2.2.2.1.1 (by rw [show zN S (A lt + 6) = 200 from (hx.1.lo hlt24 hAlt).2.2.2.2.2.2.2.2.1.2]; exact vp_in_nI (by omega) (by decide)) ?_
        refine Wx.top (congrArg (zA _ _) (nI_clamp (by omega))) ?_
        refine Wx.top (hx.1.u4 (u := ut) hlt24 hAlt (by omega)) ?_
        refine Wx.top ((congrArg nI hus).trans nI_m1) ?_
        refine r_if_ge (tgt := 56) dX7_outermost_51 (by decide) (fun h51 => ?_) (fun h51 => ?_)
        · exact absurd h51 i0m1
        · refine r_iload_n dX7_outermost_54 rfl 4 rfl ?_
          exact r_iret (ty := .int) dX7_outermost_55 rfl rfl ⟨rfl, rfl⟩
  | succ mm =>
    rw [hm] at hog
    obtain ⟨o1, o2, o3, L, U, p1, p2, p3, ⟨q2, s1, s2, s3⟩, p5, oo⟩ := hog
    have hus : c (402 + 8 * (200 * lt + ut) + 4) = 1000 * L + U := by
      have e := ((hr.lot p1).pu p3 q2 s1).2.2
      rw [s2, s3] at e
      exact e
    have hLz := (hr.lot p1).z
    refine r_iload_n dX7_outermost_4 rfl 3 rfl ?_
    refine r_bipush (v := nI 24) dX7_outermost_5 (by decide) ?_
    refine r_icmp_geN (tgt := 71) dX7_outermost_7 (by decide) (by omega) (by omega) (fun h7_1 => ?_) (fun h7_1 => ?_)
    · exact absurd h7_1 (by omega)
    · refine r_iload_n dX7_outermost_10 rfl 2 rfl ?_
      refine r_sipush (v := nI 1000) dX7_outermost_11 (by decide) ?_
      refine r_iremN dX7_outermost_14 (by omega) (by omega) (by omega) ?_
      refine Wx.topN (show (1000 * lt + ut) % 1000 = ut from by omega) ?_
      refine r_istore (lv' := [(4, .int (nI (ut))), (0, .ref (o)), (1, .int (nI (1000 * l + u))), (2, .int (nI (1000 * lt + ut))), (3, .int (nI (t)))]) dX7_outermost_15 (by decide) rfl ?_
      refine r_aload_n dX7_outermost_17 rfl 1 rfl ?_
      refine r_iload_n dX7_outermost_18 rfl 3 rfl ?_
      refine r_sipush (v := nI 1000) dX7_outermost_19 (by decide) ?_
      refine r_idivN dX7_outermost_22 (by omega) (by omega) (by omega) ?_
      refine Wx.topN (show (1000 * lt + ut) / 1000 = lt from by omega) ?_
      refine r_fnV (M2 := m_X7_lotAt) (As := [.int (nI (lt))]) (rest := []) (v := some (.ref (A lt))) dX7_outermost_23 cc_X7_outermost_105 rfl rfl rfl (Nat.le_of_ble_eq_true rfl) hx.1.1.1 rfl rfl (by decide) (o_lotAt hx.1 hr hal (l := lt) (by omega)) rfl ?_
      refine r_astore (lv' := [(5, .ref (A lt)), (4, .int (nI (ut))), (0, .ref (o)), (1, .int (nI (1000 * l + u))), (2, .int (nI (1000 * lt + ut))), (3, .int (nI (t)))]) dX7_outermost_26 (by decide) rfl ?_
      refine r_aload dX7_outermost_28 0 rfl ?_
      refine r_ifnull dX7_outermost_30 ?_
      refine r_aload dX7_outermost_33 0 rfl ?_
      refine r_iload dX7_outermost_35 1 rfl ?_
      refine r_fnV (M2 := m_X5_has) (As := [.int (nI (ut))]) (rest := []) (v := some (.int (nI (1)))) dX7_outermost_37 cc_X7_outermost_213 rfl rfl rfl (Nat.le_of_ble_eq_true rfl) (hx.1.lo hlt24 hAlt).2.1 rfl rfl (by decide) (o_has hx.1 hr hal (l := lt) (by omega) (by omega)) rfl ?_
      refine r_if_eqN (tgt := 54) dX7_outermost_40 (by decide) (by omega) (fun zz40_1 => ?_) (fun zz40_1 => ?_)
      · exact absurd zz40_1 (by decide)
      · refine r_aload dX7_outermost_43 0 rfl ?_
        refine r_getR (ci := 7) (k := 15) (b := A lt + 6) dX7_outermost_45 fr_X7_140 (hx.1.lo hlt24 hAlt).2.1 rfl (hx.1.lo hlt24 hAlt).2.2.1.2.2.2.2.2.1 ?_
        refine r_iload dX7_outermost_48 1 rfl ?_
        refine r_iald dX7_outermost_50 (hx.1.lo hlt24 hAlt).2.2.2.2.2.2.2.2.1.1 (by rw [show zN S (A lt + 6) = 200 from (hx.1.lo hlt24 hAlt).2.2.2.2.2.2.2.2.1.2]; exact vp_in_nI (by omega) (by decide)) ?_
        refine Wx.top (congrArg (zA _ _) (nI_clamp (by omega))) ?_
        refine Wx.top (hx.1.u4 (u := ut) hlt24 hAlt (by omega)) ?_
        refine Wx.topN hus ?_
        refine r_if_geN (tgt := 56) dX7_outermost_51 (by decide) (by omega) ?_
        refine r_aload dX7_outermost_56 0 rfl ?_
        refine r_getR (ci := 7) (k := 15) (b := A lt + 6) dX7_outermost_58 fr_X7_140 (hx.1.lo hlt24 hAlt).2.1 rfl (hx.1.lo hlt24 hAlt).2.2.1.2.2.2.2.2.1 ?_
        refine r_iload dX7_outermost_61 1 rfl ?_
        refine r_iald dX7_outermost_63 (hx.1.lo hlt24 hAlt).2.2.2.2.2.2.2.2.1.1 (by rw [show zN S (A lt + 6) = 200 from (hx.1.lo hlt24 hAlt).2.2.2.2.2.2.2.2.1.2]; exact vp_in_nI (by omega) (by decide)) ?_
        refine Wx.top (congrArg (zA _ _) (nI_clamp (by omega))) ?_
        refine Wx.top (hx.1.u4 (u := ut) hlt24 hAlt (by omega)) ?_
        refine Wx.topN hus ?_
        refine r_istore_n (lv' := [(2, .int (nI (1000 * L + U))), (5, .ref (A lt)), (4, .int (nI (ut))), (0, .ref (o)), (1, .int (nI (1000 * l + u))), (3, .int (nI (t)))]) dX7_outermost_64 rfl (by decide) rfl ?_
        refine r_iincN (k := 1) (lv' := [(3, .int (nI (t + 1))), (2, .int (nI (1000 * L + U))), (5, .ref (A lt)), (4, .int (nI (ut))), (0, .ref (o)), (1, .int (nI (1000 * l + u)))]) dX7_outermost_65 (by decide) 5 rfl (by decide) rfl ?_
        refine r_goto (tgt := 4) dX7_outermost_68 (by decide) ?_
        refine Wx.sub [4, 5, 1, 0] rfl ?_
        exact next _ _ (by omega) ⟨L, U, ⟨by omega, by rw [show n - (t + 1) = mm by omega]; exact oo⟩, rfl, rfl⟩
