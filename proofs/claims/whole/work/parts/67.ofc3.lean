theorem i0m1 : ¬ (0 : Int32) ≤ -1 := by decide
def OgI (g : Nat → Nat) (q l' u' : Nat) (t m : Nat) (lt ut : Nat) : Prop := t ≤ m ∧ Org g q (m - t) lt ut l' u' ∧ lt < g 0 ∧ ut < g (90 + 13 * lt + 1) ∧ bW (g (402 + 2 * (200 * lt + ut))) q = 1
theorem Org.end {g : Nat → Nat} {q l' u' : Nat} : ∀ {m l u : Nat}, Org g q m l u l' u' → ¬ yW (g (402 + 2 * (200 * l' + u'))) q = 0 ∧ l' < 24 ∧ u' < 200
  | 0, l, u, h => by
    obtain ⟨h1, h2, h3, rfl, rfl⟩ := h
    exact ⟨h3, h1, h2⟩
  | m + 1, l, u, h => by
    obtain ⟨-, -, -, i, -, -, -, -, h⟩ := h
    exact Org.end h
theorem Org.in {c g : Nat → Nat} {N : Nat} (hr : Rel c g N) {q l' u' : Nat} (hq : q < 4) : ∀ {m l u : Nat}, Org g q m l u l' u' → l < g 0 → u < g (90 + 13 * l + 1) → bW (g (402 + 2 * (200 * l + u))) q = 1 → l' < g 0 ∧ u' < g (90 + 13 * l' + 1) ∧ bW (g (402 + 2 * (200 * l' + u'))) q = 1 ∧ m ≤ l
  | 0, l, u, h, hl, hu, hb => by
    obtain ⟨h1, h2, h3, rfl, rfl⟩ := h
    exact ⟨hl, hu, hb, Nat.zero_le _⟩
  | m + 1, l, u, h, hl, hu, hb => by
    obtain ⟨h1, h2, h3, i, hi, hp, hf, hn, h⟩ := h
    have hL := hr.lot hl
    -- a part with the defect stands among the parts
    obtain ⟨-, -, -, w4⟩ := hL.wu hu
    obtain ⟨k0, hk0, hbk⟩ := (w4 q hq).2.2.1 hb h3
    have hik : i ≤ k0 := Nat.le_of_not_lt fun c9 => by
      have e := hf k0 c9
      have e2 : bW (g (pat g l u k0)) q = 1 := hbk
      unfold pat at e2
      omega
    obtain ⟨p1, p2, p3⟩ := hL.pu hu i (by omega)
    have hb2 := bW_01 (w := g (402 + 2 * (200 * g (90 + 13 * l + (10 + i)) + pW (g (402 + 2 * (200 * l + u) + 1)) i))) (q := q)
    have hpl := hL.pt (k := i) (by omega)
    obtain ⟨r1, r2, r3, r4⟩ := Org.in hr hq h (by omega) p1 (by omega)
    exact ⟨r1, r2, r3, by omega⟩
set_option maxRecDepth 4000 in
set_option maxHeartbeats 400000 in
theorem o_originOf {G : GI} {S : Hp} {w : Nat → Nat} {k o : Nat} {A c g : Nat → Nat} {N : Nat} (h : OR S w k o A c) (hr : Rel c g N) (hal : ∀ l, l < g 0 → A l ≠ 0) {l : Nat} (hl : l < g 0) {u : Nat} (hu : u < g (90 + 13 * l + 1)) {q : Nat} (hq : q < 4) {m l' u' : Nat} (ho : Org g q m l u l' u') (hb : bW (g (402 + 2 * (200 * l + u))) q = 1) (hm24 : m < 24) : Fn m_X7_originOf G [.ref (o), .int (nI (1000 * l + u)), .int (nI (q))] S (some (.int (nI (1000 * l' + u')))) S := by
  refine Cn.of rfl (by decide) (Nat.le_of_ble_eq_true rfl) (fun hN hM => ?_)
  show Wx _ G _ 0 [(0, .ref (o)), (1, .int (nI (1000 * l + u))), (2, .int (nI (q)))] [] _
  have hx := OX.refl h
  have h24 := hr.n24
  have hl24 : l < 24 := by omega
  have hAl := hal l hl
  have hL := hr.lot hl
  have hz := hL.z
  refine r_iload_n dX7_originOf_0 rfl 1 rfl ?_
  refine r_istore_n (lv' := [(3, .int (nI (1000 * l + u))), (0, .ref (o)), (1, .int (nI (1000 * l + u))), (2, .int (nI (q)))]) dX7_originOf_1 rfl (by decide) rfl ?_
  refine r_iconst (v := nI 0) dX7_originOf_2 (by decide) ?_
  refine r_istore (lv' := [(4, .int (nI (0))), (3, .int (nI (1000 * l + u))), (0, .ref (o)), (1, .int (nI (1000 * l + u))), (2, .int (nI (q)))]) dX7_originOf_3 (by decide) rfl ?_
  refine Wx.sub [2, 3, 4, 1, 0] rfl ?_
  refine Wx.loopR (fun t T lv => ∃ lt ut, OgI g q l' u' t m lt ut ∧ T = S ∧ lv = [(0, .ref (o)), (1, .int (nI (1000 * l + u))), (2, .int (nI (q))), (3, .int (nI (1000 * lt + ut))), (4, .int (nI (t)))]) (m) (0) (Nat.zero_le _) ⟨l, u, ⟨Nat.zero_le _, ho, hl, hu, hb⟩, rfl, rfl⟩ (fun t T lv hge hle hI9 next => ?_)
  obtain ⟨lt, ut, ⟨ht, hog, hlt, hut, hbt⟩, rfl, rfl⟩ := hI9
  have hLt := hr.lot hlt
  have hzt := hLt.z
  have hwu := (hLt.wu hut).2.2.2 q hq
  refine r_iload dX7_originOf_5 4 rfl ?_
  refine r_bipush (v := nI 24) dX7_originOf_7 (by decide) ?_
  refine r_icmp_geN (tgt := 36) dX7_originOf_9 (by decide) (by (first | omega | (have := hzt; omega))) (by (first | omega | (have := hzt; omega))) (fun h9 => ?_) (fun h9 => ?_)
  · exact absurd h9 (by omega)
  · refine r_aload_n dX7_originOf_12 rfl 0 rfl ?_
    refine r_iload_n dX7_originOf_13 rfl 3 rfl ?_
    refine r_iload_n dX7_originOf_14 rfl 2 rfl ?_
    cases hm : m - t with
    | zero =>
      rw [hm] at hog
      obtain ⟨o1, o2, o3, rfl, rfl⟩ := hog
      by_cases hy2 : yW (g (402 + 2 * (200 * lt + ut))) q = 2
      · refine r_fnV (M2 := m_X7_partWithDefect) (As := [.int (nI (1000 * lt + ut)), .int (nI (q))]) (rest := []) (v := some (.int (-1))) dX7_originOf_15 cc_X7_originOf_226 rfl rfl rfl (Nat.le_of_ble_eq_true rfl) hx.1.1.1 rfl rfl (by decide) (o_pwd_r h hr hal hlt hut hq hy2) rfl ?_
        refine r_istore (lv' := [(5, .int ((-1))), (0, .ref (o)), (1, .int (nI (1000 * l + u))), (2, .int (nI (q))), (3, .int (nI (1000 * lt + ut))), (4, .int (nI (t)))]) dX7_originOf_18 (by decide) rfl ?_
        refine r_iload dX7_originOf_20 0 rfl ?_
        refine r_if_ge (tgt := 27) dX7_originOf_22 (by decide) (fun h22 => ?_) (fun h22 => ?_)
        · exact absurd h22 i0m1
        · refine r_iload_n dX7_originOf_25 rfl 4 rfl ?_
          exact r_iret (ty := .int) dX7_originOf_26 rfl rfl ⟨rfl, rfl⟩
      · refine r_fnV (M2 := m_X7_partWithDefect) (As := [.int (nI (1000 * lt + ut)), .int (nI (q))]) (rest := []) (v := some (.int (-1))) dX7_originOf_15 cc_X7_originOf_226 rfl rfl rfl (Nat.le_of_ble_eq_true rfl) hx.1.1.1 rfl rfl (by decide) (o_pwd_n h hr hal hlt hut hq hy2 (hwu.2.2.2 (by have := hwu.2.1; omega))) rfl ?_
        refine r_istore (lv' := [(5, .int ((-1))), (0, .ref (o)), (1, .int (nI (1000 * l + u))), (2, .int (nI (q))), (3, .int (nI (1000 * lt + ut))), (4, .int (nI (t)))]) dX7_originOf_18 (by decide) rfl ?_
        refine r_iload dX7_originOf_20 0 rfl ?_
        refine r_if_ge (tgt := 27) dX7_originOf_22 (by decide) (fun h22_1 => ?_) (fun h22_1 => ?_)
        · exact absurd h22_1 i0m1
        · refine r_iload_n dX7_originOf_25 rfl 4 rfl ?_
          exact r_iret (ty := .int) dX7_originOf_26 rfl rfl ⟨rfl, rfl⟩
    | succ mm =>
      rw [hm] at hog
      obtain ⟨o1, o2, o3, i, oi, op, of, on, oo⟩ := hog
      obtain ⟨k0, hk0, hbk⟩ := hwu.2.2.1 hbt o3
      have hik : i < g (90 + 13 * lt + 8) := Nat.lt_of_not_le fun c9 => by
        have e := of k0 (by omega)
        have e2 : bW (g (pat g lt ut k0)) q = 1 := hbk
        unfold pat at e2
        omega
      obtain ⟨p1, p2, p3⟩ := hLt.pu hut i hik
      have hb2 := bW_01 (w := g (402 + 2 * (200 * g (90 + 13 * lt + (10 + i)) + pW (g (402 + 2 * (200 * lt + ut) + 1)) i))) (q := q)
      have hpl := hLt.pt hik
      have hpz := (hr.lot (l := g (90 + 13 * lt + (10 + i))) (by omega)).z
      refine r_fnV (M2 := m_X7_partWithDefect) (As := [.int (nI (1000 * lt + ut)), .int (nI (q))]) (rest := []) (v := some (.int (nI (1000 * g (90 + 13 * lt + (10 + i)) + pW (g (402 + 2 * (200 * lt + ut) + 1)) i)))) dX7_originOf_15 cc_X7_originOf_226 rfl rfl rfl (Nat.le_of_ble_eq_true rfl) hx.1.1.1 rfl rfl (by decide) (o_pwd_y h hr hal hlt hut hq (by rw [o3]; decide) hik of on) rfl ?_
      refine r_istore (lv' := [(5, .int (nI (1000 * g (90 + 13 * lt + (10 + i)) + pW (g (402 + 2 * (200 * lt + ut) + 1)) i))), (0, .ref (o)), (1, .int (nI (1000 * l + u))), (2, .int (nI (q))), (3, .int (nI (1000 * lt + ut))), (4, .int (nI (t)))]) dX7_originOf_18 (by decide) rfl ?_
      refine r_iload dX7_originOf_20 0 rfl ?_
      refine r_if_geN (tgt := 27) dX7_originOf_22 (by decide) (by (first | omega | (have := hzt; omega))) ?_
      refine r_iload dX7_originOf_27 0 rfl ?_
      refine r_istore_n (lv' := [(3, .int (nI (1000 * g (90 + 13 * lt + (10 + i)) + pW (g (402 + 2 * (200 * lt + ut) + 1)) i))), (5, .int (nI (1000 * g (90 + 13 * lt + (10 + i)) + pW (g (402 + 2 * (200 * lt + ut) + 1)) i))), (0, .ref (o)), (1, .int (nI (1000 * l + u))), (2, .int (nI (q))), (4, .int (nI (t)))]) dX7_originOf_29 rfl (by decide) rfl ?_
      refine r_iincN (k := 1) (lv' := [(4, .int (nI (t + 1))), (3, .int (nI (1000 * g (90 + 13 * lt + (10 + i)) + pW (g (402 + 2 * (200 * lt + ut) + 1)) i))), (5, .int (nI (1000 * g (90 + 13 * lt + (10 + i)) + pW (g (402 + 2 * (200 * lt + ut) + 1)) i))), (0, .ref (o)), (1, .int (nI (1000 * l + u))), (2, .int (nI (q)))]) dX7_originOf_30 (by decide) 5 rfl (by decide) rfl ?_
      refine r_goto (tgt := 5) dX7_originOf_33 (by decide) ?_
      refine Wx.sub [3, 4, 5, 1, 0] rfl ?_
      exact next _ _ (by omega) ⟨_, _, ⟨by omega, by rw [show m - (t + 1) = mm by omega]; exact oo, by omega, p1, by omega⟩, rfl, rfl⟩
set_option maxRecDepth 4000 in
set_option maxHeartbeats 400000 in
theorem o_causeAt {G : GI} {S : Hp} {w : Nat → Nat} {k o : Nat} {A c g : Nat → Nat} {N : Nat} (h : OR S w k o A c) (hr : Rel c g N) (hal : ∀ l, l < g 0 → A l ≠ 0) {l : Nat} (hl : l < g 0) {u : Nat} (hu : u < g (90 + 13 * l + 1)) {q : Nat} (hq : q < 4) : Fn m_X7_causeAt G [.ref (o), .int (nI (1000 * l + u)), .int (nI (q))] S (some (.int (nI (cauV g q l u)))) S := by
  refine Cn.of rfl (by decide) (Nat.le_of_ble_eq_true rfl) (fun hN hM => ?_)
  show Wx _ G _ 0 [(0, .ref (o)), (1, .int (nI (1000 * l + u))), (2, .int (nI (q)))] [] _
  have hx := OX.refl h
  have h24 := hr.n24
  have hl24 : l < 24 := by omega
  have hAl := hal l hl
  have hL := hr.lot hl
  have hz := hL.z
  have hq8 : 2 ^ q ≤ 2 ^ 3 := Nat.pow_le_pow_right (by decide) (by omega)
  refine r_iload_n dX7_causeAt_0 rfl 1 rfl ?_
  refine r_sipush (v := nI 1000) dX7_causeAt_1 (by decide) ?_
  refine r_iremN dX7_causeAt_4 (by (first | omega | (have := frW_lt (g (402 + 2 * (200 * l + u))); omega) | (refine Nat.lt_of_le_of_lt Nat.and_le_left ?_; first | omega | (have := frW_lt (g (402 + 2 * (200 * l + u))); omega)))) (by (first | omega | (have := frW_lt (g (402 + 2 * (200 * l + u))); omega) | (refine Nat.lt_of_le_of_lt Nat.and_le_left ?_; first | omega | (have := frW_lt (g (402 + 2 * (200 * l + u))); omega)))) (by (first | omega | (have := frW_lt (g (402 + 2 * (200 * l + u))); omega) | (refine Nat.lt_of_le_of_lt Nat.and_le_left ?_; first | omega | (have := frW_lt (g (402 + 2 * (200 * l + u))); omega)))) ?_
  refine Wx.topN (show (1000 * l + u) % 1000 = u from by omega) ?_
  refine r_istore_n (lv' := [(3, .int (nI (u))), (0, .ref (o)), (1, .int (nI (1000 * l + u))), (2, .int (nI (q)))]) dX7_causeAt_5 rfl (by decide) rfl ?_
  refine r_aload_n dX7_causeAt_6 rfl 1 rfl ?_
  refine r_iload_n dX7_causeAt_7 rfl 2 rfl ?_
  refine r_sipush (v := nI 1000) dX7_causeAt_8 (by decide) ?_
  refine r_idivN dX7_causeAt_11 (by (first | omega | (have := frW_lt (g (402 + 2 * (200 * l + u))); omega) | (refine Nat.lt_of_le_of_lt Nat.and_le_left ?_; first | omega | (have := frW_lt (g (402 + 2 * (200 * l + u))); omega)))) (by (first | omega | (have := frW_lt (g (402 + 2 * (200 * l + u))); omega) | (refine Nat.lt_of_le_of_lt Nat.and_le_left ?_; first | omega | (have := frW_lt (g (402 + 2 * (200 * l + u))); omega)))) (by (first | omega | (have := frW_lt (g (402 + 2 * (200 * l + u))); omega) | (refine Nat.lt_of_le_of_lt Nat.and_le_left ?_; first | omega | (have := frW_lt (g (402 + 2 * (200 * l + u))); omega)))) ?_
  refine Wx.topN (show (1000 * l + u) / 1000 = l from by omega) ?_
  refine r_fnV (M2 := m_X7_lotAt) (As := [.int (nI (l))]) (rest := []) (v := some (.ref (A l))) dX7_causeAt_12 cc_X7_causeAt_105 rfl rfl rfl (Nat.le_of_ble_eq_true rfl) hx.1.1.1 rfl rfl (by decide) (o_lotAt hx.1 hr hal (l := l) (by (first | omega | (have := frW_lt (g (402 + 2 * (200 * l + u))); omega) | (refine Nat.lt_of_le_of_lt Nat.and_le_left ?_; first | omega | (have := frW_lt (g (402 + 2 * (200 * l + u))); omega))))) rfl ?_
  refine r_astore (lv' := [(4, .ref (A l)), (3, .int (nI (u))), (0, .ref (o)), (1, .int (nI (1000 * l + u))), (2, .int (nI (q)))]) dX7_causeAt_15 (by decide) rfl ?_
  refine r_aload dX7_causeAt_17 0 rfl ?_
  refine r_ifnull dX7_causeAt_19 ?_
  refine r_aload dX7_causeAt_22 0 rfl ?_
  refine r_iload_n dX7_causeAt_24 rfl 1 rfl ?_
  refine r_fnV (M2 := m_X5_has) (As := [.int (nI (u))]) (rest := []) (v := some (.int (nI (1)))) dX7_causeAt_25 cc_X7_causeAt_213 rfl rfl rfl (Nat.le_of_ble_eq_true rfl) (hx.1.lo hl24 hAl).2.1 rfl rfl (by decide) (o_has hx.1 hr hal (l := l) (by (first | omega | (have := frW_lt (g (402 + 2 * (200 * l + u))); omega) | (refine Nat.lt_of_le_of_lt Nat.and_le_left ?_; first | omega | (have := frW_lt (g (402 + 2 * (200 * l + u))); omega)))) (by (first | omega | (have := frW_lt (g (402 + 2 * (200 * l + u))); omega) | (refine Nat.lt_of_le_of_lt Nat.and_le_left ?_; first | omega | (have := frW_lt (g (402 + 2 * (200 * l + u))); omega))))) rfl ?_
  refine r_if_neN (tgt := 33) dX7_causeAt_28 (by decide) (by (first | omega | (have := frW_lt (g (402 + 2 * (200 * l + u))); omega) | (refine Nat.lt_of_le_of_lt Nat.and_le_left ?_; first | omega | (have := frW_lt (g (402 + 2 * (200 * l + u))); omega)))) (fun zz28 => ?_) (fun zz28 => ?_)
  · refine r_aload dX7_causeAt_33 0 rfl ?_
    refine r_getR (ci := 7) (k := 14) (b := A l + 5) dX7_causeAt_35 fr_X7_229 (hx.1.lo hl24 hAl).2.1 rfl (hx.1.lo hl24 hAl).2.2.1.2.2.2.2.1 ?_
    refine r_iload_n dX7_causeAt_38 rfl 1 rfl ?_
    refine r_iald dX7_causeAt_39 (hx.1.lo hl24 hAl).2.2.2.2.2.2.2.1.1 (by rw [show zN S (A l + 5) = 200 from (hx.1.lo hl24 hAl).2.2.2.2.2.2.2.1.2]; exact vp_in_nI (by (first | omega | (have := frW_lt (g (402 + 2 * (200 * l + u))); omega) | (refine Nat.lt_of_le_of_lt Nat.and_le_left ?_; first | omega | (have := frW_lt (g (402 + 2 * (200 * l + u))); omega)))) (by decide)) ?_
    refine Wx.top (congrArg (zA _ _) (nI_clamp (by (first | omega | (have := frW_lt (g (402 + 2 * (200 * l + u))); omega) | (refine Nat.lt_of_le_of_lt Nat.and_le_left ?_; first | omega | (have := frW_lt (g (402 + 2 * (200 * l + u))); omega)))))) ?_
    refine Wx.top (hx.1.u3 (u := u) hl24 hAl (by (first | omega | (have := frW_lt (g (402 + 2 * (200 * l + u))); omega) | (refine Nat.lt_of_le_of_lt Nat.and_le_left ?_; first | omega | (have := frW_lt (g (402 + 2 * (200 * l + u))); omega))))) ?_
    refine Wx.topN (hL.u3 (u := u) (by (first | omega | (have := frW_lt (g (402 + 2 * (200 * l + u))); omega) | (refine Nat.lt_of_le_of_lt Nat.and_le_left ?_; first | omega | (have := frW_lt (g (402 + 2 * (200 * l + u))); omega))))) ?_
    refine r_iconst (v := nI 1) dX7_causeAt_40 (by decide) ?_
    refine r_iload_n dX7_causeAt_41 rfl 4 rfl ?_
    refine r_ishlN dX7_causeAt_42 (by (first | omega | (have := frW_lt (g (402 + 2 * (200 * l + u))); omega) | (refine Nat.lt_of_le_of_lt Nat.and_le_left ?_; first | omega | (have := frW_lt (g (402 + 2 * (200 * l + u))); omega)))) (by (first | omega | (have := frW_lt (g (402 + 2 * (200 * l + u))); omega) | (refine Nat.lt_of_le_of_lt Nat.and_le_left ?_; first | omega | (have := frW_lt (g (402 + 2 * (200 * l + u))); omega)))) ?_
    refine r_iandN dX7_causeAt_43 (by (first | omega | (have := frW_lt (g (402 + 2 * (200 * l + u))); omega) | (refine Nat.lt_of_le_of_lt Nat.and_le_left ?_; first | omega | (have := frW_lt (g (402 + 2 * (200 * l + u))); omega)))) (by (first | omega | (have := frW_lt (g (402 + 2 * (200 * l + u))); omega) | (refine Nat.lt_of_le_of_lt Nat.and_le_left ?_; first | omega | (have := frW_lt (g (402 + 2 * (200 * l + u))); omega)))) ?_
    refine r_if_eqN (tgt := 52) dX7_causeAt_44 (by decide) (by (first | omega | (have := frW_lt (g (402 + 2 * (200 * l + u))); omega) | (refine Nat.lt_of_le_of_lt Nat.and_le_left ?_; first | omega | (have := frW_lt (g (402 + 2 * (200 * l + u))); omega)))) (fun h44 => ?_) (fun h44 => ?_)
    · refine r_aload dX7_causeAt_52 0 rfl ?_
      refine r_getI (ci := 7) (k := 1) dX7_causeAt_54 fr_X7_241 (hx.1.lo hl24 hAl).2.1 rfl ?_
      refine Wx.top (hx.1.l1 hl24 hAl) ?_
      refine Wx.topN (hL.h (f := 9) (by decide)) ?_
      exact r_iret (ty := .int) dX7_causeAt_57 rfl rfl ⟨congrArg (fun x => Sum.inl (some (Value.int (nI x)))) (show g (90 + 13 * l + 9) = cauV g q l u from (if_neg ((fr_b hq).mp h44)).symm), rfl⟩
    · refine r_bipush (v := nI 6) dX7_causeAt_47 (by decide) ?_
      refine r_goto (tgt := 57) dX7_causeAt_49 (by decide) ?_
      exact r_iret (ty := .int) dX7_causeAt_57 rfl rfl ⟨congrArg (fun x => Sum.inl (some (Value.int (nI x)))) (show 6 = cauV g q l u from (if_pos (Classical.not_not.mp fun q9 => h44 ((fr_b hq).mpr q9))).symm), rfl⟩
  · exact absurd zz28 (by decide)
