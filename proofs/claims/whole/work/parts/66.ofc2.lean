/-! CAUSES -/
theorem nI_m1 : nI 4294967295 = -1 := by decide
theorem and_b {a q : Nat} : (a &&& 1 * 2 ^ q = 0) ↔ ¬ a / 2 ^ q % 2 = 1 := by
  have e : (a &&& 1 * 2 ^ q).testBit q = a.testBit q := by
    rw [Nat.testBit_and, Nat.one_mul, Nat.testBit_two_pow_self, Bool.and_true]
  constructor
  · intro h1 h2
    rw [h1, Nat.zero_testBit, Nat.testBit_eq_decide_div_mod_eq, decide_eq_true h2] at e
    exact absurd e (by decide)
  · intro h
    refine Nat.eq_of_testBit_eq fun i => ?_
    rw [Nat.zero_testBit, Nat.testBit_and, Nat.one_mul, Nat.testBit_two_pow]
    by_cases c : q = i
    · subst c
      rw [Nat.testBit_eq_decide_div_mod_eq, decide_eq_false h, Bool.false_and]
    · rw [decide_eq_false c, Bool.and_false]
theorem fr_b {w q : Nat} (hq : q < 4) : (frW w &&& 1 * 2 ^ q = 0) ↔ ¬ yW w q = 2 := by
  rw [and_b, frW_b hq]
  by_cases c : yW w q = 2
  · rw [if_pos c]; exact ⟨fun h => absurd rfl h, fun h => absurd c h⟩
  · rw [if_neg c]; exact ⟨fun _ => c, fun _ => by decide⟩
theorem d_b {w q : Nat} : (w % 16 &&& 1 * 2 ^ q = 0) ↔ bW w q = 0 := by
  rw [and_b]
  unfold bW
  omega
theorem first3 {P : Nat → Prop} {n : Nat} (hn : n ≤ 3) (h : ∃ k, k < n ∧ P k) : ∃ i, i < n ∧ P i ∧ ∀ j, j < i → ¬ P j := by
  obtain ⟨k, hk, hp⟩ := h
  by_cases c0 : P 0
  · exact ⟨0, by omega, c0, fun j hj => absurd hj (by omega)⟩
  · by_cases c1 : 1 < n ∧ P 1
    · exact ⟨1, c1.1, c1.2, fun j hj => by obtain rfl : j = 0 := by omega
                                           exact c0⟩
    · refine ⟨k, hk, hp, fun j hj hpj => ?_⟩
      obtain rfl | rfl | rfl : k = 0 ∨ k = 1 ∨ k = 2 := by omega
      · omega
      · obtain rfl : j = 0 := by omega
        exact c0 hpj
      · obtain rfl | rfl : j = 0 ∨ j = 1 := by omega
        · exact c0 hpj
        · exact c1 ⟨by omega, hpj⟩
/-- every defect has an origin -/
theorem Rel.org {c g : Nat → Nat} {N : Nat} (hr : Rel c g N) {q : Nat} (hq : q < 4) : ∀ n l u, l ≤ n → l < g 0 → u < g (90 + 13 * l + 1) → bW (g (402 + 2 * (200 * l + u))) q = 1 → ∃ m l' u', Org g q m l u l' u' ∧ m ≤ l ∧ l' < g 0 ∧ u' < g (90 + 13 * l' + 1)
  | n, l, u, hn, hl, hu, hb => by
    have hL := hr.lot hl
    have hz := hL.z
    have h24 := hr.n24
    obtain ⟨w1, w2, w3, w4⟩ := hL.wu hu
    obtain ⟨y1, y2, y3, y4⟩ := w4 q hq
    by_cases c : yW (g (402 + 2 * (200 * l + u))) q = 0
    · obtain ⟨i, hi, hbi, hf⟩ := first3 hL.pc (y3 hb c)
      obtain ⟨p1, p2, p3⟩ := hL.pu hu i hi
      have hpl := hL.pt hi
      match n, hn with
      | 0, hn => omega
      | n + 1, hn =>
        obtain ⟨m, l', u', ho, hm, hl', hu'⟩ := Rel.org hr hq n _ _ (by omega) (by omega) p1 hbi
        refine ⟨m + 1, l', u', ⟨by omega, by omega, c, i, by have := hL.pc; omega, fun j hj => ⟨hL.pt (by omega), ?_⟩, fun j hj => ?_, fun h => ?_, ho⟩, by omega, hl', hu'⟩
        · have := (hL.pu hu j (by omega)).1
          have := (hr.lot (l := g (90 + 13 * l + (10 + j))) (by have := hL.pt (k := j) (by omega); omega)).z
          omega
        · have := hf j hj
          have := bW_01 (w := g (pat g l u j)) (q := q)
          unfold pat at *
          omega
        · have e : bW (g (pat g l u i)) q = 0 := h
          omega
    · exact ⟨0, l, u, ⟨by omega, by omega, c, rfl, rfl⟩, Nat.zero_le _, hl, hu⟩
set_option maxRecDepth 4000 in
set_option maxHeartbeats 400000 in
theorem o_usedIn {G : GI} {S : Hp} {w : Nat → Nat} {k o : Nat} {A c g : Nat → Nat} {N : Nat} (h : OR S w k o A c) (hr : Rel c g N) (hal : ∀ l, l < g 0 → A l ≠ 0) {l : Nat} (hl : l < g 0) {u : Nat} (hu : u < g (90 + 13 * l + 1)) {i p e : Nat} (hi : i < g (90 + 13 * l + 8)) (hp : g (90 + 13 * l + (10 + i)) = p) (he : pW (g (402 + 2 * (200 * l + u) + 1)) i = e) : Fn m_X5_unitUsedIn G [.ref (A p), .int (nI (1000 * l + u))] S (some (.int (nI e))) S := by
  have h24 := hr.n24
  have hL := hr.lot hl
  have hz := hL.z
  have hpl := hL.pt hi
  obtain ⟨p1, p2, p3⟩ := hL.pu hu i hi
  rw [hp] at hpl p1 p3
  rw [he] at p1 p3
  have hP := hr.lot (l := p) (by omega)
  have hAp := hal p (by omega)
  have hpz := hP.z
  have hLo := (h.lo (i := p) (by omega) hAp).2
  refine k_usedIn hLo (us := fun v => nI (c (402 + 8 * (200 * p + v) + 4))) ((h.l2 (by omega) hAp).trans (congrArg nI (hP.h (f := 1) (by decide)))) hP.z (fun v hv => h.u4 (by omega) hAp (by omega)) p1 (congrArg nI p3) (fun v hv q => ?_)
  obtain ⟨u1, u2⟩ := hP.uu (u := v) (by omega)
  by_cases c3 : sW (g (402 + 2 * (200 * p + v))) = 3
  · obtain ⟨L, U, k2, r1, r2, r3, r4, r5, r6⟩ := u1 c3
    have hz2 := (hr.lot r1).z
    rw [r6] at q
    have := nI_inj (by omega) (by omega) q
    obtain rfl : L = l := by omega
    obtain rfl : U = u := by omega
    by_cases d : k2 = i
    · subst d; omega
    · rcases Nat.lt_or_gt_of_ne d with d | d
      · exact hL.pd d hi (r4.trans hp.symm)
      · exact hL.pd d r3 (hp.trans r4.symm)
  · rw [u2 c3] at q
    have := nI_inj (by omega) (by omega) q
    omega
set_option maxRecDepth 4000 in
set_option maxHeartbeats 400000 in
theorem o_placeOf {G : GI} {S : Hp} {a b : Nat} : Fn m_X12_placeOf G [.int (nI a), .int (nI b)] S (some (.int (nI (1000 * a + b)))) S := by
  refine Cn.of rfl (by decide) (Nat.le_of_ble_eq_true rfl) (fun hN hM => ?_)
  show Wx _ G _ 0 [(0, .int (nI (a))), (1, .int (nI (b)))] [] _
  refine r_sipush (v := nI 1000) dX12_placeOf_0 (by decide) ?_
  refine r_iload_n dX12_placeOf_3 rfl 0 rfl ?_
  refine r_imulN dX12_placeOf_4 ?_
  refine r_iload_n dX12_placeOf_5 rfl 1 rfl ?_
  refine r_iaddN dX12_placeOf_6 ?_
  exact r_iret (ty := .int) dX12_placeOf_7 rfl rfl ⟨rfl, rfl⟩
set_option maxRecDepth 4000 in
set_option maxHeartbeats 400000 in
theorem o_pwd_r {G : GI} {S : Hp} {w : Nat → Nat} {k o : Nat} {A c g : Nat → Nat} {N : Nat} (h : OR S w k o A c) (hr : Rel c g N) (hal : ∀ l, l < g 0 → A l ≠ 0) {l : Nat} (hl : l < g 0) {u : Nat} (hu : u < g (90 + 13 * l + 1)) {q : Nat} (hq : q < 4) (h2 : yW (g (402 + 2 * (200 * l + u))) q = 2) : Fn m_X7_partWithDefect G [.ref (o), .int (nI (1000 * l + u)), .int (nI (q))] S (some (.int (-1))) S := by
  refine Cn.of rfl (by decide) (Nat.le_of_ble_eq_true rfl) (fun hN hM => ?_)
  show Wx _ G _ 0 [(0, .ref (o)), (1, .int (nI (1000 * l + u))), (2, .int (nI (q)))] [] _
  have hx := OX.refl h
  have h24 := hr.n24
  have hl24 : l < 24 := by omega
  have hAl := hal l hl
  have hL := hr.lot hl
  have hz := hL.z
  have hq8 : 2 ^ q ≤ 2 ^ 3 := Nat.pow_le_pow_right (by decide) (by omega)
  refine r_iconst (v := nI 1) dX7_partWithDefect_0 (by decide) ?_
  refine r_iload_n dX7_partWithDefect_1 rfl 2 rfl ?_
  refine r_ishlN dX7_partWithDefect_2 (by (first | omega | (have := frW_lt (g (402 + 2 * (200 * l + u))); omega) | (refine Nat.lt_of_le_of_lt Nat.and_le_left ?_; first | omega | (have := frW_lt (g (402 + 2 * (200 * l + u))); omega)))) (by (first | omega | (have := frW_lt (g (402 + 2 * (200 * l + u))); omega) | (refine Nat.lt_of_le_of_lt Nat.and_le_left ?_; first | omega | (have := frW_lt (g (402 + 2 * (200 * l + u))); omega)))) ?_
  refine r_istore_n (lv' := [(3, .int (nI (1 * 2 ^ q))), (0, .ref (o)), (1, .int (nI (1000 * l + u))), (2, .int (nI (q)))]) dX7_partWithDefect_3 rfl (by decide) rfl ?_
  refine r_iload_n dX7_partWithDefect_4 rfl 2 rfl ?_
  refine r_sipush (v := nI 1000) dX7_partWithDefect_5 (by decide) ?_
  refine r_iremN dX7_partWithDefect_8 (by (first | omega | (have := frW_lt (g (402 + 2 * (200 * l + u))); omega) | (refine Nat.lt_of_le_of_lt Nat.and_le_left ?_; first | omega | (have := frW_lt (g (402 + 2 * (200 * l + u))); omega)))) (by (first | omega | (have := frW_lt (g (402 + 2 * (200 * l + u))); omega) | (refine Nat.lt_of_le_of_lt Nat.and_le_left ?_; first | omega | (have := frW_lt (g (402 + 2 * (200 * l + u))); omega)))) (by (first | omega | (have := frW_lt (g (402 + 2 * (200 * l + u))); omega) | (refine Nat.lt_of_le_of_lt Nat.and_le_left ?_; first | omega | (have := frW_lt (g (402 + 2 * (200 * l + u))); omega)))) ?_
  refine Wx.topN (show (1000 * l + u) % 1000 = u from by omega) ?_
  refine r_istore (lv' := [(4, .int (nI (u))), (3, .int (nI (1 * 2 ^ q))), (0, .ref (o)), (1, .int (nI (1000 * l + u))), (2, .int (nI (q)))]) dX7_partWithDefect_9 (by decide) rfl ?_
  refine r_aload_n dX7_partWithDefect_11 rfl 2 rfl ?_
  refine r_iload_n dX7_partWithDefect_12 rfl 3 rfl ?_
  refine r_sipush (v := nI 1000) dX7_partWithDefect_13 (by decide) ?_
  refine r_idivN dX7_partWithDefect_16 (by (first | omega | (have := frW_lt (g (402 + 2 * (200 * l + u))); omega) | (refine Nat.lt_of_le_of_lt Nat.and_le_left ?_; first | omega | (have := frW_lt (g (402 + 2 * (200 * l + u))); omega)))) (by (first | omega | (have := frW_lt (g (402 + 2 * (200 * l + u))); omega) | (refine Nat.lt_of_le_of_lt Nat.and_le_left ?_; first | omega | (have := frW_lt (g (402 + 2 * (200 * l + u))); omega)))) (by (first | omega | (have := frW_lt (g (402 + 2 * (200 * l + u))); omega) | (refine Nat.lt_of_le_of_lt Nat.and_le_left ?_; first | omega | (have := frW_lt (g (402 + 2 * (200 * l + u))); omega)))) ?_
  refine Wx.topN (show (1000 * l + u) / 1000 = l from by omega) ?_
  refine r_fnV (M2 := m_X7_lotAt) (As := [.int (nI (l))]) (rest := []) (v := some (.ref (A l))) dX7_partWithDefect_17 cc_X7_partWithDefect_105 rfl rfl rfl (Nat.le_of_ble_eq_true rfl) hx.1.1.1 rfl rfl (by decide) (o_lotAt hx.1 hr hal (l := l) (by (first | omega | (have := frW_lt (g (402 + 2 * (200 * l + u))); omega) | (refine Nat.lt_of_le_of_lt Nat.and_le_left ?_; first | omega | (have := frW_lt (g (402 + 2 * (200 * l + u))); omega))))) rfl ?_
  refine r_astore (lv' := [(5, .ref (A l)), (4, .int (nI (u))), (3, .int (nI (1 * 2 ^ q))), (0, .ref (o)), (1, .int (nI (1000 * l + u))), (2, .int (nI (q)))]) dX7_partWithDefect_20 (by decide) rfl ?_
  refine r_aload dX7_partWithDefect_22 0 rfl ?_
  refine r_ifnull dX7_partWithDefect_24 ?_
  refine r_aload dX7_partWithDefect_27 0 rfl ?_
  refine r_iload dX7_partWithDefect_29 1 rfl ?_
  refine r_fnV (M2 := m_X5_has) (As := [.int (nI (u))]) (rest := []) (v := some (.int (nI (1)))) dX7_partWithDefect_31 cc_X7_partWithDefect_213 rfl rfl rfl (Nat.le_of_ble_eq_true rfl) (hx.1.lo hl24 hAl).2.1 rfl rfl (by decide) (o_has hx.1 hr hal (l := l) (by (first | omega | (have := frW_lt (g (402 + 2 * (200 * l + u))); omega) | (refine Nat.lt_of_le_of_lt Nat.and_le_left ?_; first | omega | (have := frW_lt (g (402 + 2 * (200 * l + u))); omega)))) (by (first | omega | (have := frW_lt (g (402 + 2 * (200 * l + u))); omega) | (refine Nat.lt_of_le_of_lt Nat.and_le_left ?_; first | omega | (have := frW_lt (g (402 + 2 * (200 * l + u))); omega))))) rfl ?_
  refine r_if_eqN (tgt := 50) dX7_partWithDefect_34 (by decide) (by (first | omega | (have := frW_lt (g (402 + 2 * (200 * l + u))); omega) | (refine Nat.lt_of_le_of_lt Nat.and_le_left ?_; first | omega | (have := frW_lt (g (402 + 2 * (200 * l + u))); omega)))) (fun zz34 => ?_) (fun zz34 => ?_)
  · exact absurd zz34 (by decide)
  · refine r_aload dX7_partWithDefect_37 0 rfl ?_
    refine r_getR (ci := 7) (k := 14) (b := A l + 5) dX7_partWithDefect_39 fr_X7_229 (hx.1.lo hl24 hAl).2.1 rfl (hx.1.lo hl24 hAl).2.2.1.2.2.2.2.1 ?_
    refine r_iload dX7_partWithDefect_42 1 rfl ?_
    refine r_iald dX7_partWithDefect_44 (hx.1.lo hl24 hAl).2.2.2.2.2.2.2.1.1 (by rw [show zN S (A l + 5) = 200 from (hx.1.lo hl24 hAl).2.2.2.2.2.2.2.1.2]; exact vp_in_nI (by (first | omega | (have := frW_lt (g (402 + 2 * (200 * l + u))); omega) | (refine Nat.lt_of_le_of_lt Nat.and_le_left ?_; first | omega | (have := frW_lt (g (402 + 2 * (200 * l + u))); omega)))) (by decide)) ?_
    refine Wx.top (congrArg (zA _ _) (nI_clamp (by (first | omega | (have := frW_lt (g (402 + 2 * (200 * l + u))); omega) | (refine Nat.lt_of_le_of_lt Nat.and_le_left ?_; first | omega | (have := frW_lt (g (402 + 2 * (200 * l + u))); omega)))))) ?_
    refine Wx.top (hx.1.u3 (u := u) hl24 hAl (by (first | omega | (have := frW_lt (g (402 + 2 * (200 * l + u))); omega) | (refine Nat.lt_of_le_of_lt Nat.and_le_left ?_; first | omega | (have := frW_lt (g (402 + 2 * (200 * l + u))); omega))))) ?_
    refine Wx.topN (hL.u3 (u := u) (by (first | omega | (have := frW_lt (g (402 + 2 * (200 * l + u))); omega) | (refine Nat.lt_of_le_of_lt Nat.and_le_left ?_; first | omega | (have := frW_lt (g (402 + 2 * (200 * l + u))); omega))))) ?_
    refine r_iload_n dX7_partWithDefect_45 rfl 2 rfl ?_
    refine r_iandN dX7_partWithDefect_46 (by (first | omega | (have := frW_lt (g (402 + 2 * (200 * l + u))); omega) | (refine Nat.lt_of_le_of_lt Nat.and_le_left ?_; first | omega | (have := frW_lt (g (402 + 2 * (200 * l + u))); omega)))) (by (first | omega | (have := frW_lt (g (402 + 2 * (200 * l + u))); omega) | (refine Nat.lt_of_le_of_lt Nat.and_le_left ?_; first | omega | (have := frW_lt (g (402 + 2 * (200 * l + u))); omega)))) ?_
    refine r_if_eqN (tgt := 52) dX7_partWithDefect_47 (by decide) (by (first | omega | (have := frW_lt (g (402 + 2 * (200 * l + u))); omega) | (refine Nat.lt_of_le_of_lt Nat.and_le_left ?_; first | omega | (have := frW_lt (g (402 + 2 * (200 * l + u))); omega)))) (fun h47 => ?_) (fun h47 => ?_)
    · exact absurd h2 ((fr_b hq).mp h47)
    · refine r_iconst (v := nI 4294967295) dX7_partWithDefect_50 (by decide) ?_
      exact r_iret (ty := .int) dX7_partWithDefect_51 rfl rfl ⟨congrArg (fun x => Sum.inl (some (Value.int x))) nI_m1, rfl⟩
set_option maxRecDepth 4000 in
set_option maxHeartbeats 400000 in
theorem o_pwd_n {G : GI} {S : Hp} {w : Nat → Nat} {k o : Nat} {A c g : Nat → Nat} {N : Nat} (h : OR S w k o A c) (hr : Rel c g N) (hal : ∀ l, l < g 0 → A l ≠ 0) {l : Nat} (hl : l < g 0) {u : Nat} (hu : u < g (90 + 13 * l + 1)) {q : Nat} (hq : q < 4) (hy : ¬ yW (g (402 + 2 * (200 * l + u))) q = 2) (hbf : ∀ j, j < g (90 + 13 * l + 8) → bW (g (402 + 2 * (200 * g (90 + 13 * l + (10 + j)) + pW (g (402 + 2 * (200 * l + u) + 1)) j))) q = 0) : Fn m_X7_partWithDefect G [.ref (o), .int (nI (1000 * l + u)), .int (nI (q))] S (some (.int (-1))) S := by
  refine Cn.of rfl (by decide) (Nat.le_of_ble_eq_true rfl) (fun hN hM => ?_)
  show Wx _ G _ 0 [(0, .ref (o)), (1, .int (nI (1000 * l + u))), (2, .int (nI (q)))] [] _
  have hx := OX.refl h
  have h24 := hr.n24
  have hl24 : l < 24 := by omega
  have hAl := hal l hl
  have hL := hr.lot hl
  have hz := hL.z
  have hq8 : 2 ^ q ≤ 2 ^ 3 := Nat.pow_le_pow_right (by decide) (by omega)
  refine r_iconst (v := nI 1) dX7_partWithDefect_0 (by decide) ?_
  refine r_iload_n dX7_partWithDefect_1 rfl 2 rfl ?_
  refine r_ishlN dX7_partWithDefect_2 (by (first | omega | (have := frW_lt (g (402 + 2 * (200 * l + u))); omega) | (refine Nat.lt_of_le_of_lt Nat.and_le_left ?_; first | omega | (have := frW_lt (g (402 + 2 * (200 * l + u))); omega)))) (by (first | omega | (have := frW_lt (g (402 + 2 * (200 * l + u))); omega) | (refine Nat.lt_of_le_of_lt Nat.and_le_left ?_; first | omega | (have := frW_lt (g (402 + 2 * (200 * l + u))); omega)))) ?_
  refine r_istore_n (lv' := [(3, .int (nI (1 * 2 ^ q))), (0, .ref (o)), (1, .int (nI (1000 * l + u))), (2, .int (nI (q)))]) dX7_partWithDefect_3 rfl (by decide) rfl ?_
  refine r_iload_n dX7_partWithDefect_4 rfl 2 rfl ?_
  refine r_sipush (v := nI 1000) dX7_partWithDefect_5 (by decide) ?_
  refine r_iremN dX7_partWithDefect_8 (by (first | omega | (have := frW_lt (g (402 + 2 * (200 * l + u))); omega) | (refine Nat.lt_of_le_of_lt Nat.and_le_left ?_; first | omega | (have := frW_lt (g (402 + 2 * (200 * l + u))); omega)))) (by (first | omega | (have := frW_lt (g (402 + 2 * (200 * l + u))); omega) | (refine Nat.lt_of_le_of_lt Nat.and_le_left ?_; first | omega | (have := frW_lt (g (402 + 2 * (200 * l + u))); omega)))) (by (first | omega | (have := frW_lt (g (402 + 2 * (200 * l + u))); omega) | (refine Nat.lt_of_le_of_lt Nat.and_le_left ?_; first | omega | (have := frW_lt (g (402 + 2 * (200 * l + u))); omega)))) ?_
  refine Wx.topN (show (1000 * l + u) % 1000 = u from by omega) ?_
  refine r_istore (lv' := [(4, .int (nI (u))), (3, .int (nI (1 * 2 ^ q))), (0, .ref (o)), (1, .int (nI (1000 * l + u))), (2, .int (nI (q)))]) dX7_partWithDefect_9 (by decide) rfl ?_
  refine r_aload_n dX7_partWithDefect_11 rfl 2 rfl ?_
  refine r_iload_n dX7_partWithDefect_12 rfl 3 rfl ?_
  refine r_sipush (v := nI 1000) dX7_partWithDefect_13 (by decide) ?_
  refine r_idivN dX7_partWithDefect_16 (by (first | omega | (have := frW_lt (g (402 + 2 * (200 * l + u))); omega) | (refine Nat.lt_of_le_of_lt Nat.and_le_left ?_; first | omega | (have := frW_lt (g (402 + 2 * (200 * l + u))); omega)))) (by (first | omega | (have := frW_lt (g (402 + 2 * (200 * l + u))); omega) | (refine Nat.lt_of_le_of_lt Nat.and_le_left ?_; first | omega | (have := frW_lt (g (402 + 2 * (200 * l + u))); omega)))) (by (first | omega | (have := frW_lt (g (402 + 2 * (200 * l + u))); omega) | (refine Nat.lt_of_le_of_lt Nat.and_le_left ?_; first | omega | (have := frW_lt (g (402 + 2 * (200 * l + u))); omega)))) ?_
  refine Wx.topN (show (1000 * l + u) / 1000 = l from by omega) ?_
  refine r_fnV (M2 := m_X7_lotAt) (As := [.int (nI (l))]) (rest := []) (v := some (.ref (A l))) dX7_partWithDefect_17 cc_X7_partWithDefect_105 rfl rfl rfl (Nat.le_of_ble_eq_true rfl) hx.1.1.1 rfl rfl (by decide) (o_lotAt hx.1 hr hal (l := l) (by (first | omega | (have := frW_lt (g (402 + 2 * (200 * l + u))); omega) | (refine Nat.lt_of_le_of_lt Nat.and_le_left ?_; first | omega | (have := frW_lt (g (402 + 2 * (200 * l + u))); omega))))) rfl ?_
  refine r_astore (lv' := [(5, .ref (A l)), (4, .int (nI (u))), (3, .int (nI (1 * 2 ^ q))), (0, .ref (o)), (1, .int (nI (1000 * l + u))), (2, .int (nI (q)))]) dX7_partWithDefect_20 (by decide) rfl ?_
  refine r_aload dX7_partWithDefect_22 0 rfl ?_
  refine r_ifnull dX7_partWithDefect_24 ?_
  refine r_aload dX7_partWithDefect_27 0 rfl ?_
  refine r_iload dX7_partWithDefect_29 1 rfl ?_
  refine r_fnV (M2 := m_X5_has) (As := [.int (nI (u))]) (rest := []) (v := some (.int (nI (1)))) dX7_partWithDefect_31 cc_X7_partWithDefect_213 rfl rfl rfl (Nat.le_of_ble_eq_true rfl) (hx.1.lo hl24 hAl).2.1 rfl rfl (by decide) (o_has hx.1 hr hal (l := l) (by (first | omega | (have := frW_lt (g (402 + 2 * (200 * l + u))); omega) | (refine Nat.lt_of_le_of_lt Nat.and_le_left ?_; first | omega | (have := frW_lt (g (402 + 2 * (200 * l + u))); omega)))) (by (first | omega | (have := frW_lt (g (402 + 2 * (200 * l + u))); omega) | (refine Nat.lt_of_le_of_lt Nat.and_le_left ?_; first | omega | (have := frW_lt (g (402 + 2 * (200 * l + u))); omega))))) rfl ?_
  refine r_if_eqN (tgt := 50) dX7_partWithDefect_34 (by decide) (by (first | omega | (have := frW_lt (g (402 + 2 * (200 * l + u))); omega) | (refine Nat.lt_of_le_of_lt Nat.and_le_left ?_; first | omega | (have := frW_lt (g (402 + 2 * (200 * l + u))); omega)))) (fun zz34 => ?_) (fun zz34 => ?_)
  · exact absurd zz34 (by decide)
  · refine r_aload dX7_partWithDefect_37 0 rfl ?_
    refine r_getR (ci := 7) (k := 14) (b := A l + 5) dX7_partWithDefect_39 fr_X7_229 (hx.1.lo hl24 hAl).2.1 rfl (hx.1.lo hl24 hAl).2.2.1.2.2.2.2.1 ?_
    refine r_iload dX7_partWithDefect_42 1 rfl ?_
    refine r_iald dX7_partWithDefect_44 (hx.1.lo hl24 hAl).2.2.2.2.2.2.2.1.1 (by rw [show zN S (A l + 5) = 200 from (hx.1.lo hl24 hAl).2.2.2.2.2.2.2.1.2]; exact vp_in_nI (by (first | omega | (have := frW_lt (g (402 + 2 * (200 * l + u))); omega) | (refine Nat.lt_of_le_of_lt Nat.and_le_left ?_; first | omega | (have := frW_lt (g (402 + 2 * (200 * l + u))); omega)))) (by decide)) ?_
    refine Wx.top (congrArg (zA _ _) (nI_clamp (by (first | omega | (have := frW_lt (g (402 + 2 * (200 * l + u))); omega) | (refine Nat.lt_of_le_of_lt Nat.and_le_left ?_; first | omega | (have := frW_lt (g (402 + 2 * (200 * l + u))); omega)))))) ?_
    refine Wx.top (hx.1.u3 (u := u) hl24 hAl (by (first | omega | (have := frW_lt (g (402 + 2 * (200 * l + u))); omega) | (refine Nat.lt_of_le_of_lt Nat.and_le_left ?_; first | omega | (have := frW_lt (g (402 + 2 * (200 * l + u))); omega))))) ?_
    refine Wx.topN (hL.u3 (u := u) (by (first | omega | (have := frW_lt (g (402 + 2 * (200 * l + u))); omega) | (refine Nat.lt_of_le_of_lt Nat.and_le_left ?_; first | omega | (have := frW_lt (g (402 + 2 * (200 * l + u))); omega))))) ?_
    refine r_iload_n dX7_partWithDefect_45 rfl 2 rfl ?_
    refine r_iandN dX7_partWithDefect_46 (by (first | omega | (have := frW_lt (g (402 + 2 * (200 * l + u))); omega) | (refine Nat.lt_of_le_of_lt Nat.and_le_left ?_; first | omega | (have := frW_lt (g (402 + 2 * (200 * l + u))); omega)))) (by (first | omega | (have := frW_lt (g (402 + 2 * (200 * l + u))); omega) | (refine Nat.lt_of_le_of_lt Nat.and_le_left ?_; first | omega | (have := frW_lt (g (402 + 2 * (200 * l + u))); omega)))) ?_
    refine r_if_eqN (tgt := 52) dX7_partWithDefect_47 (by decide) (by (first | omega | (have := frW_lt (g (402 + 2 * (200 * l + u))); omega) | (refine Nat.lt_of_le_of_lt Nat.and_le_left ?_; first | omega | (have := frW_lt (g (402 + 2 * (200 * l + u))); omega)))) (fun h47 => ?_) (fun h47 => ?_)
    · refine r_iconst (v := nI 0) dX7_partWithDefect_52 (by decide) ?_
      refine r_istore (lv' := [(6, .int (nI (0))), (5, .ref (A l)), (4, .int (nI (u))), (3, .int (nI (1 * 2 ^ q))), (0, .ref (o)), (1, .int (nI (1000 * l + u))), (2, .int (nI (q)))]) dX7_partWithDefect_53 (by decide) rfl ?_
      refine Wx.sub [4, 5, 6, 3, 2, 1, 0] rfl ?_
      refine Wx.loop (fun i => S) (fun i => [(0, .ref (o)), (1, .int (nI (1000 * l + u))), (2, .int (nI (q))), (3, .int (nI (1 * 2 ^ q))), (4, .int (nI (u))), (5, .ref (A l)), (6, .int (nI (i)))]) (g (90 + 13 * l + 8)) (0) (Nat.zero_le _) (fun i hge hle next => ?_)
      show Wx _ G (S) 55 [(0, .ref (o)), (1, .int (nI (1000 * l + u))), (2, .int (nI (q))), (3, .int (nI (1 * 2 ^ q))), (4, .int (nI (u))), (5, .ref (A l)), (6, .int (nI (i)))] [] _
      have hpt : i < g (90 + 13 * l + 8) → g (90 + 13 * l + (10 + i)) < l := fun q9 => hL.pt q9
      have hpc := hL.pc
      have hbd : i < g (90 + 13 * l + 8) → pW (g (402 + 2 * (200 * l + u) + 1)) i < g (90 + 13 * g (90 + 13 * l + (10 + i)) + 1) ∧ g (90 + 13 * g (90 + 13 * l + (10 + i)) + 1) ≤ 200 := fun q9 => ⟨(hL.pu hu i q9).1, (hr.lot (by have := hpt q9; omega)).z⟩
      refine r_iload dX7_partWithDefect_55 6 rfl ?_
      refine r_aload dX7_partWithDefect_57 5 rfl ?_
      refine r_getI (ci := 7) (k := 9) dX7_partWithDefect_59 fr_X7_232 (hx.1.lo hl24 hAl).2.1 rfl ?_
      refine Wx.top (hx.1.l9 hl24 hAl) ?_
      refine Wx.topN (hL.h (f := 8) (by decide)) ?_
      refine r_icmp_geN (tgt := 145) dX7_partWithDefect_62 (by decide) (by (first | omega | (have := frW_lt (g (402 + 2 * (200 * l + u))); omega) | (refine Nat.lt_of_le_of_lt Nat.and_le_left ?_; first | omega | (have := frW_lt (g (402 + 2 * (200 * l + u))); omega)))) (by (first | omega | (have := frW_lt (g (402 + 2 * (200 * l + u))); omega) | (refine Nat.lt_of_le_of_lt Nat.and_le_left ?_; first | omega | (have := frW_lt (g (402 + 2 * (200 * l + u))); omega)))) (fun h62 => ?_) (fun h62 => ?_)
      · refine r_iconst (v := nI 4294967295) dX7_partWithDefect_145 (by decide) ?_
        exact r_iret (ty := .int) dX7_partWithDefect_146 rfl rfl ⟨congrArg (fun x => Sum.inl (some (Value.int x))) nI_m1, rfl⟩
      · refine r_iload dX7_partWithDefect_65 6 rfl ?_
        refine r_aload dX7_partWithDefect_67 5 rfl ?_
        refine r_getR (ci := 7) (k := 10) (b := A l + 1) dX7_partWithDefect_69 fr_X7_235 (hx.1.lo hl24 hAl).2.1 rfl (hx.1.lo hl24 hAl).2.2.1.1 ?_
        refine r_alen101 dX7_partWithDefect_72 (hx.1.lo hl24 hAl).2.2.2.1.1 ?_
        refine Wx.top (congrArg nI (hx.1.lo hl24 hAl).2.2.2.1.2) ?_
        refine r_icmp_geN (tgt := 145) dX7_partWithDefect_73 (by decide) (by (first | omega | (have := frW_lt (g (402 + 2 * (200 * l + u))); omega) | (refine Nat.lt_of_le_of_lt Nat.and_le_left ?_; first | omega | (have := frW_lt (g (402 + 2 * (200 * l + u))); omega)))) (by (first | omega | (have := frW_lt (g (402 + 2 * (200 * l + u))); omega) | (refine Nat.lt_of_le_of_lt Nat.and_le_left ?_; first | omega | (have := frW_lt (g (402 + 2 * (200 * l + u))); omega)))) (fun h73 => ?_) (fun h73 => ?_)
        · exact absurd h73 (by omega)
        · refine r_aload_n dX7_partWithDefect_76 rfl 0 rfl ?_
          refine r_aload dX7_partWithDefect_77 5 rfl ?_
          refine r_getR (ci := 7) (k := 10) (b := A l + 1) dX7_partWithDefect_79 fr_X7_235 (hx.1.lo hl24 hAl).2.1 rfl (hx.1.lo hl24 hAl).2.2.1.1 ?_
          refine r_iload dX7_partWithDefect_82 6 rfl ?_
          refine r_iald dX7_partWithDefect_84 (hx.1.lo hl24 hAl).2.2.2.1.1 (by rw [show zN S (A l + 1) = 3 from (hx.1.lo hl24 hAl).2.2.2.1.2]; exact vp_in_nI (by (first | omega | (have := frW_lt (g (402 + 2 * (200 * l + u))); omega) | (refine Nat.lt_of_le_of_lt Nat.and_le_left ?_; first | omega | (have := frW_lt (g (402 + 2 * (200 * l + u))); omega)))) (by decide)) ?_
          refine Wx.top (congrArg (zA _ _) (nI_clamp (by (first | omega | (have := frW_lt (g (402 + 2 * (200 * l + u))); omega) | (refine Nat.lt_of_le_of_lt Nat.and_le_left ?_; first | omega | (have := frW_lt (g (402 + 2 * (200 * l + u))); omega)))))) ?_
          refine Wx.top (hx.1.r (j := i) hl24 hAl (by (first | omega | (have := frW_lt (g (402 + 2 * (200 * l + u))); omega) | (refine Nat.lt_of_le_of_lt Nat.and_le_left ?_; first | omega | (have := frW_lt (g (402 + 2 * (200 * l + u))); omega))))) ?_
          refine Wx.topN (hL.p (k := i) (by (first | omega | (have := frW_lt (g (402 + 2 * (200 * l + u))); omega) | (refine Nat.lt_of_le_of_lt Nat.and_le_left ?_; first | omega | (have := frW_lt (g (402 + 2 * (200 * l + u))); omega))))) ?_
          have hp24 : g (90 + 13 * l + (10 + i)) < 24 := by have := hpt (by omega); omega
          have hAp := hal (g (90 + 13 * l + (10 + i))) (by have := hpt (by omega); omega)
          have hbd2 := hbd (by omega)
          have hpt2 := hpt (by omega)
          refine r_fnV (M2 := m_X7_lotAt) (As := [.int (nI (g (90 + 13 * l + (10 + i))))]) (rest := []) (v := some (.ref (A (g (90 + 13 * l + (10 + i)))))) dX7_partWithDefect_85 cc_X7_partWithDefect_105 rfl rfl rfl (Nat.le_of_ble_eq_true rfl) hx.1.1.1 rfl rfl (by decide) (o_lotAt hx.1 hr hal (l := g (90 + 13 * l + (10 + i))) (by (first | omega | (have := frW_lt (g (402 + 2 * (200 * l + u))); omega) | (refine Nat.lt_of_le_of_lt Nat.and_le_left ?_; first | omega | (have := frW_lt (g (402 + 2 * (200 * l + u))); omega))))) rfl ?_
          refine r_astore (lv' := [(7, .ref (A (g (90 + 13 * l + (10 + i))))), (0, .ref (o)), (1, .int (nI (1000 * l + u))), (2, .int (nI (q))), (3, .int (nI (1 * 2 ^ q))), (4, .int (nI (u))), (5, .ref (A l)), (6, .int (nI (i)))]) dX7_partWithDefect_88 (by decide) rfl ?_
          refine r_aload dX7_partWithDefect_90 0 rfl ?_
          refine r_ifnonnull (tgt := 99) dX7_partWithDefect_92 (by decide) ?_
          refine r_aload dX7_partWithDefect_99 0 rfl ?_
          refine r_iload_n dX7_partWithDefect_101 rfl 2 rfl ?_
          refine r_fnV (M2 := m_X5_unitUsedIn) (As := [.int (nI (1000 * l + u))]) (rest := []) (v := some (.int (nI (pW (g (402 + 2 * (200 * l + u) + 1)) i)))) dX7_partWithDefect_102 cc_X7_partWithDefect_238 rfl rfl rfl (Nat.le_of_ble_eq_true rfl) (hx.1.lo hp24 hAp).2.1 rfl rfl (by decide) (o_usedIn h hr hal hl hu (i := i) (p := (g (90 + 13 * l + (10 + i)))) (by (first | omega | (have := frW_lt (g (402 + 2 * (200 * l + u))); omega) | (refine Nat.lt_of_le_of_lt Nat.and_le_left ?_; first | omega | (have := frW_lt (g (402 + 2 * (200 * l + u))); omega)))) rfl rfl) rfl ?_
          refine r_istore (lv' := [(8, .int (nI (pW (g (402 + 2 * (200 * l + u) + 1)) i))), (7, .ref (A (g (90 + 13 * l + (10 + i))))), (0, .ref (o)), (1, .int (nI (1000 * l + u))), (2, .int (nI (q))), (3, .int (nI (1 * 2 ^ q))), (4, .int (nI (u))), (5, .ref (A l)), (6, .int (nI (i)))]) dX7_partWithDefect_105 (by decide) rfl ?_
          refine r_iload dX7_partWithDefect_107 0 rfl ?_
          refine r_if_ltN (tgt := 139) dX7_partWithDefect_109 (by decide) (by (first | omega | (have := frW_lt (g (402 + 2 * (200 * l + u))); omega) | (refine Nat.lt_of_le_of_lt Nat.and_le_left ?_; first | omega | (have := frW_lt (g (402 + 2 * (200 * l + u))); omega)))) ?_
          refine r_aload dX7_partWithDefect_112 1 rfl ?_
          refine r_getR (ci := 7) (k := 12) (b := A (g (90 + 13 * l + (10 + i))) + 3) dX7_partWithDefect_114 fr_X7_147 (hx.1.lo hp24 hAp).2.1 rfl (hx.1.lo hp24 hAp).2.2.1.2.2.1 ?_
          refine r_iload dX7_partWithDefect_117 0 rfl ?_
          refine r_iald dX7_partWithDefect_119 (hx.1.lo hp24 hAp).2.2.2.2.2.1.1 (by rw [show zN S (A (g (90 + 13 * l + (10 + i))) + 3) = 200 from (hx.1.lo hp24 hAp).2.2.2.2.2.1.2]; exact vp_in_nI (by (first | omega | (have := frW_lt (g (402 + 2 * (200 * l + u))); omega) | (refine Nat.lt_of_le_of_lt Nat.and_le_left ?_; first | omega | (have := frW_lt (g (402 + 2 * (200 * l + u))); omega)))) (by decide)) ?_
          refine Wx.top (congrArg (zA _ _) (nI_clamp (by (first | omega | (have := frW_lt (g (402 + 2 * (200 * l + u))); omega) | (refine Nat.lt_of_le_of_lt Nat.and_le_left ?_; first | omega | (have := frW_lt (g (402 + 2 * (200 * l + u))); omega)))))) ?_
          refine Wx.top (hx.1.u1 (u := pW (g (402 + 2 * (200 * l + u) + 1)) i) hp24 hAp (by (first | omega | (have := frW_lt (g (402 + 2 * (200 * l + u))); omega) | (refine Nat.lt_of_le_of_lt Nat.and_le_left ?_; first | omega | (have := frW_lt (g (402 + 2 * (200 * l + u))); omega))))) ?_
          refine Wx.topN ((hr.lot (l := (g (90 + 13 * l + (10 + i)))) (by (first | omega | (have := frW_lt (g (402 + 2 * (200 * l + u))); omega) | (refine Nat.lt_of_le_of_lt Nat.and_le_left ?_; first | omega | (have := frW_lt (g (402 + 2 * (200 * l + u))); omega))))).u1 (u := (pW (g (402 + 2 * (200 * l + u) + 1)) i)) (by (first | omega | (have := frW_lt (g (402 + 2 * (200 * l + u))); omega) | (refine Nat.lt_of_le_of_lt Nat.and_le_left ?_; first | omega | (have := frW_lt (g (402 + 2 * (200 * l + u))); omega))))) ?_
          refine r_iload_n dX7_partWithDefect_120 rfl 5 rfl ?_
          refine r_iandN dX7_partWithDefect_121 (by (first | omega | (have := frW_lt (g (402 + 2 * (200 * l + u))); omega) | (refine Nat.lt_of_le_of_lt Nat.and_le_left ?_; first | omega | (have := frW_lt (g (402 + 2 * (200 * l + u))); omega)))) (by (first | omega | (have := frW_lt (g (402 + 2 * (200 * l + u))); omega) | (refine Nat.lt_of_le_of_lt Nat.and_le_left ?_; first | omega | (have := frW_lt (g (402 + 2 * (200 * l + u))); omega)))) ?_
          refine r_if_eqN (tgt := 139) dX7_partWithDefect_122 (by decide) (by (first | omega | (have := frW_lt (g (402 + 2 * (200 * l + u))); omega) | (refine Nat.lt_of_le_of_lt Nat.and_le_left ?_; first | omega | (have := frW_lt (g (402 + 2 * (200 * l + u))); omega)))) (fun h122 => ?_) (fun h122 => ?_)
          · refine r_iincN (k := 1) (lv' := [(6, .int (nI (i + 1))), (8, .int (nI (pW (g (402 + 2 * (200 * l + u) + 1)) i))), (7, .ref (A (g (90 + 13 * l + (10 + i))))), (0, .ref (o)), (1, .int (nI (1000 * l + u))), (2, .int (nI (q))), (3, .int (nI (1 * 2 ^ q))), (4, .int (nI (u))), (5, .ref (A l))]) dX7_partWithDefect_139 (by decide) 8 rfl (by decide) rfl ?_
            refine r_goto (tgt := 55) dX7_partWithDefect_142 (by decide) ?_
            refine Wx.sub [3, 4, 5, 6, 7, 8, 0] rfl ?_
            exact next (by omega)
          · exact absurd (d_b.mpr (hbf i (by omega))) h122
    · exact absurd ((fr_b hq).mpr hy) h47
set_option maxRecDepth 4000 in
set_option maxHeartbeats 400000 in
theorem o_pwd_y {G : GI} {S : Hp} {w : Nat → Nat} {k o : Nat} {A c g : Nat → Nat} {N : Nat} (h : OR S w k o A c) (hr : Rel c g N) (hal : ∀ l, l < g 0 → A l ≠ 0) {l : Nat} (hl : l < g 0) {u : Nat} (hu : u < g (90 + 13 * l + 1)) {q : Nat} (hq : q < 4) (hy : ¬ yW (g (402 + 2 * (200 * l + u))) q = 2) {e : Nat} (he : e < g (90 + 13 * l + 8)) (hbf : ∀ j, j < e → bW (g (402 + 2 * (200 * g (90 + 13 * l + (10 + j)) + pW (g (402 + 2 * (200 * l + u) + 1)) j))) q = 0) (hbe : ¬ bW (g (402 + 2 * (200 * g (90 + 13 * l + (10 + e)) + pW (g (402 + 2 * (200 * l + u) + 1)) e))) q = 0) : Fn m_X7_partWithDefect G [.ref (o), .int (nI (1000 * l + u)), .int (nI (q))] S (some (.int (nI (1000 * g (90 + 13 * l + (10 + e)) + pW (g (402 + 2 * (200 * l + u) + 1)) e)))) S := by
  refine Cn.of rfl (by decide) (Nat.le_of_ble_eq_true rfl) (fun hN hM => ?_)
  show Wx _ G _ 0 [(0, .ref (o)), (1, .int (nI (1000 * l + u))), (2, .int (nI (q)))] [] _
  have hx := OX.refl h
  have h24 := hr.n24
  have hl24 : l < 24 := by omega
  have hAl := hal l hl
  have hL := hr.lot hl
  have hz := hL.z
  have hq8 : 2 ^ q ≤ 2 ^ 3 := Nat.pow_le_pow_right (by decide) (by omega)
  refine r_iconst (v := nI 1) dX7_partWithDefect_0 (by decide) ?_
  refine r_iload_n dX7_partWithDefect_1 rfl 2 rfl ?_
  refine r_ishlN dX7_partWithDefect_2 (by (first | omega | (have := frW_lt (g (402 + 2 * (200 * l + u))); omega) | (refine Nat.lt_of_le_of_lt Nat.and_le_left ?_; first | omega | (have := frW_lt (g (402 + 2 * (200 * l + u))); omega)))) (by (first | omega | (have := frW_lt (g (402 + 2 * (200 * l + u))); omega) | (refine Nat.lt_of_le_of_lt Nat.and_le_left ?_; first | omega | (have := frW_lt (g (402 + 2 * (200 * l + u))); omega)))) ?_
  refine r_istore_n (lv' := [(3, .int (nI (1 * 2 ^ q))), (0, .ref (o)), (1, .int (nI (1000 * l + u))), (2, .int (nI (q)))]) dX7_partWithDefect_3 rfl (by decide) rfl ?_
  refine r_iload_n dX7_partWithDefect_4 rfl 2 rfl ?_
  refine r_sipush (v := nI 1000) dX7_partWithDefect_5 (by decide) ?_
  refine r_iremN dX7_partWithDefect_8 (by (first | omega | (have := frW_lt (g (402 + 2 * (200 * l + u))); omega) | (refine Nat.lt_of_le_of_lt Nat.and_le_left ?_; first | omega | (have := frW_lt (g (402 + 2 * (200 * l + u))); omega)))) (by (first | omega | (have := frW_lt (g (402 + 2 * (200 * l + u))); omega) | (refine Nat.lt_of_le_of_lt Nat.and_le_left ?_; first | omega | (have := frW_lt (g (402 + 2 * (200 * l + u))); omega)))) (by (first | omega | (have := frW_lt (g (402 + 2 * (200 * l + u))); omega) | (refine Nat.lt_of_le_of_lt Nat.and_le_left ?_; first | omega | (have := frW_lt (g (402 + 2 * (200 * l + u))); omega)))) ?_
  refine Wx.topN (show (1000 * l + u) % 1000 = u from by omega) ?_
  refine r_istore (lv' := [(4, .int (nI (u))), (3, .int (nI (1 * 2 ^ q))), (0, .ref (o)), (1, .int (nI (1000 * l + u))), (2, .int (nI (q)))]) dX7_partWithDefect_9 (by decide) rfl ?_
  refine r_aload_n dX7_partWithDefect_11 rfl 2 rfl ?_
  refine r_iload_n dX7_partWithDefect_12 rfl 3 rfl ?_
  refine r_sipush (v := nI 1000) dX7_partWithDefect_13 (by decide) ?_
  refine r_idivN dX7_partWithDefect_16 (by (first | omega | (have := frW_lt (g (402 + 2 * (200 * l + u))); omega) | (refine Nat.lt_of_le_of_lt Nat.and_le_left ?_; first | omega | (have := frW_lt (g (402 + 2 * (200 * l + u))); omega)))) (by (first | omega | (have := frW_lt (g (402 + 2 * (200 * l + u))); omega) | (refine Nat.lt_of_le_of_lt Nat.and_le_left ?_; first | omega | (have := frW_lt (g (402 + 2 * (200 * l + u))); omega)))) (by (first | omega | (have := frW_lt (g (402 + 2 * (200 * l + u))); omega) | (refine Nat.lt_of_le_of_lt Nat.and_le_left ?_; first | omega | (have := frW_lt (g (402 + 2 * (200 * l + u))); omega)))) ?_
  refine Wx.topN (show (1000 * l + u) / 1000 = l from by omega) ?_
  refine r_fnV (M2 := m_X7_lotAt) (As := [.int (nI (l))]) (rest := []) (v := some (.ref (A l))) dX7_partWithDefect_17 cc_X7_partWithDefect_105 rfl rfl rfl (Nat.le_of_ble_eq_true rfl) hx.1.1.1 rfl rfl (by decide) (o_lotAt hx.1 hr hal (l := l) (by (first | omega | (have := frW_lt (g (402 + 2 * (200 * l + u))); omega) | (refine Nat.lt_of_le_of_lt Nat.and_le_left ?_; first | omega | (have := frW_lt (g (402 + 2 * (200 * l + u))); omega))))) rfl ?_
  refine r_astore (lv' := [(5, .ref (A l)), (4, .int (nI (u))), (3, .int (nI (1 * 2 ^ q))), (0, .ref (o)), (1, .int (nI (1000 * l + u))), (2, .int (nI (q)))]) dX7_partWithDefect_20 (by decide) rfl ?_
  refine r_aload dX7_partWithDefect_22 0 rfl ?_
  refine r_ifnull dX7_partWithDefect_24 ?_
  refine r_aload dX7_partWithDefect_27 0 rfl ?_
  refine r_iload dX7_partWithDefect_29 1 rfl ?_
  refine r_fnV (M2 := m_X5_has) (As := [.int (nI (u))]) (rest := []) (v := some (.int (nI (1)))) dX7_partWithDefect_31 cc_X7_partWithDefect_213 rfl rfl rfl (Nat.le_of_ble_eq_true rfl) (hx.1.lo hl24 hAl).2.1 rfl rfl (by decide) (o_has hx.1 hr hal (l := l) (by (first | omega | (have := frW_lt (g (402 + 2 * (200 * l + u))); omega) | (refine Nat.lt_of_le_of_lt Nat.and_le_left ?_; first | omega | (have := frW_lt (g (402 + 2 * (200 * l + u))); omega)))) (by (first | omega | (have := frW_lt (g (402 + 2 * (200 * l + u))); omega) | (refine Nat.lt_of_le_of_lt Nat.and_le_left ?_; first | omega | (have := frW_lt (g (402 + 2 * (200 * l + u))); omega))))) rfl ?_
  refine r_if_eqN (tgt := 50) dX7_partWithDefect_34 (by decide) (by (first | omega | (have := frW_lt (g (402 + 2 * (200 * l + u))); omega) | (refine Nat.lt_of_le_of_lt Nat.and_le_left ?_; first | omega | (have := frW_lt (g (402 + 2 * (200 * l + u))); omega)))) (fun zz34 => ?_) (fun zz34 => ?_)
  · exact absurd zz34 (by decide)
  · refine r_aload dX7_partWithDefect_37 0 rfl ?_
    refine r_getR (ci := 7) (k := 14) (b := A l + 5) dX7_partWithDefect_39 fr_X7_229 (hx.1.lo hl24 hAl).2.1 rfl (hx.1.lo hl24 hAl).2.2.1.2.2.2.2.1 ?_
    refine r_iload dX7_partWithDefect_42 1 rfl ?_
    refine r_iald dX7_partWithDefect_44 (hx.1.lo hl24 hAl).2.2.2.2.2.2.2.1.1 (by rw [show zN S (A l + 5) = 200 from (hx.1.lo hl24 hAl).2.2.2.2.2.2.2.1.2]; exact vp_in_nI (by (first | omega | (have := frW_lt (g (402 + 2 * (200 * l + u))); omega) | (refine Nat.lt_of_le_of_lt Nat.and_le_left ?_; first | omega | (have := frW_lt (g (402 + 2 * (200 * l + u))); omega)))) (by decide)) ?_
    refine Wx.top (congrArg (zA _ _) (nI_clamp (by (first | omega | (have := frW_lt (g (402 + 2 * (200 * l + u))); omega) | (refine Nat.lt_of_le_of_lt Nat.and_le_left ?_; first | omega | (have := frW_lt (g (402 + 2 * (200 * l + u))); omega)))))) ?_
    refine Wx.top (hx.1.u3 (u := u) hl24 hAl (by (first | omega | (have := frW_lt (g (402 + 2 * (200 * l + u))); omega) | (refine Nat.lt_of_le_of_lt Nat.and_le_left ?_; first | omega | (have := frW_lt (g (402 + 2 * (200 * l + u))); omega))))) ?_
    refine Wx.topN (hL.u3 (u := u) (by (first | omega | (have := frW_lt (g (402 + 2 * (200 * l + u))); omega) | (refine Nat.lt_of_le_of_lt Nat.and_le_left ?_; first | omega | (have := frW_lt (g (402 + 2 * (200 * l + u))); omega))))) ?_
    refine r_iload_n dX7_partWithDefect_45 rfl 2 rfl ?_
    refine r_iandN dX7_partWithDefect_46 (by (first | omega | (have := frW_lt (g (402 + 2 * (200 * l + u))); omega) | (refine Nat.lt_of_le_of_lt Nat.and_le_left ?_; first | omega | (have := frW_lt (g (402 + 2 * (200 * l + u))); omega)))) (by (first | omega | (have := frW_lt (g (402 + 2 * (200 * l + u))); omega) | (refine Nat.lt_of_le_of_lt Nat.and_le_left ?_; first | omega | (have := frW_lt (g (402 + 2 * (200 * l + u))); omega)))) ?_
    refine r_if_eqN (tgt := 52) dX7_partWithDefect_47 (by decide) (by (first | omega | (have := frW_lt (g (402 + 2 * (200 * l + u))); omega) | (refine Nat.lt_of_le_of_lt Nat.and_le_left ?_; first | omega | (have := frW_lt (g (402 + 2 * (200 * l + u))); omega)))) (fun h47 => ?_) (fun h47 => ?_)
    · refine r_iconst (v := nI 0) dX7_partWithDefect_52 (by decide) ?_
      refine r_istore (lv' := [(6, .int (nI (0))), (5, .ref (A l)), (4, .int (nI (u))), (3, .int (nI (1 * 2 ^ q))), (0, .ref (o)), (1, .int (nI (1000 * l + u))), (2, .int (nI (q)))]) dX7_partWithDefect_53 (by decide) rfl ?_
      refine Wx.sub [4, 5, 6, 3, 2, 1, 0] rfl ?_
      refine Wx.loop (fun i => S) (fun i => [(0, .ref (o)), (1, .int (nI (1000 * l + u))), (2, .int (nI (q))), (3, .int (nI (1 * 2 ^ q))), (4, .int (nI (u))), (5, .ref (A l)), (6, .int (nI (i)))]) (e) (0) (Nat.zero_le _) (fun i hge hle next => ?_)
      show Wx _ G (S) 55 [(0, .ref (o)), (1, .int (nI (1000 * l + u))), (2, .int (nI (q))), (3, .int (nI (1 * 2 ^ q))), (4, .int (nI (u))), (5, .ref (A l)), (6, .int (nI (i)))] [] _
      have hpt : i < g (90 + 13 * l + 8) → g (90 + 13 * l + (10 + i)) < l := fun q9 => hL.pt q9
      have hpc := hL.pc
      have hbd : i < g (90 + 13 * l + 8) → pW (g (402 + 2 * (200 * l + u) + 1)) i < g (90 + 13 * g (90 + 13 * l + (10 + i)) + 1) ∧ g (90 + 13 * g (90 + 13 * l + (10 + i)) + 1) ≤ 200 := fun q9 => ⟨(hL.pu hu i q9).1, (hr.lot (by have := hpt q9; omega)).z⟩
      refine r_iload dX7_partWithDefect_55 6 rfl ?_
      refine r_aload dX7_partWithDefect_57 5 rfl ?_
      refine r_getI (ci := 7) (k := 9) dX7_partWithDefect_59 fr_X7_232 (hx.1.lo hl24 hAl).2.1 rfl ?_
      refine Wx.top (hx.1.l9 hl24 hAl) ?_
      refine Wx.topN (hL.h (f := 8) (by decide)) ?_
      refine r_icmp_geN (tgt := 145) dX7_partWithDefect_62 (by decide) (by (first | omega | (have := frW_lt (g (402 + 2 * (200 * l + u))); omega) | (refine Nat.lt_of_le_of_lt Nat.and_le_left ?_; first | omega | (have := frW_lt (g (402 + 2 * (200 * l + u))); omega)))) (by (first | omega | (have := frW_lt (g (402 + 2 * (200 * l + u))); omega) | (refine Nat.lt_of_le_of_lt Nat.and_le_left ?_; first | omega | (have := frW_lt (g (402 + 2 * (200 * l + u))); omega)))) (fun h62 => ?_) (fun h62 => ?_)
      · exact absurd h62 (by omega)
      · refine r_iload dX7_partWithDefect_65 6 rfl ?_
        refine r_aload dX7_partWithDefect_67 5 rfl ?_
        refine r_getR (ci := 7) (k := 10) (b := A l + 1) dX7_partWithDefect_69 fr_X7_235 (hx.1.lo hl24 hAl).2.1 rfl (hx.1.lo hl24 hAl).2.2.1.1 ?_
        refine r_alen101 dX7_partWithDefect_72 (hx.1.lo hl24 hAl).2.2.2.1.1 ?_
        refine Wx.top (congrArg nI (hx.1.lo hl24 hAl).2.2.2.1.2) ?_
        refine r_icmp_geN (tgt := 145) dX7_partWithDefect_73 (by decide) (by (first | omega | (have := frW_lt (g (402 + 2 * (200 * l + u))); omega) | (refine Nat.lt_of_le_of_lt Nat.and_le_left ?_; first | omega | (have := frW_lt (g (402 + 2 * (200 * l + u))); omega)))) (by (first | omega | (have := frW_lt (g (402 + 2 * (200 * l + u))); omega) | (refine Nat.lt_of_le_of_lt Nat.and_le_left ?_; first | omega | (have := frW_lt (g (402 + 2 * (200 * l + u))); omega)))) (fun h73 => ?_) (fun h73 => ?_)
        · exact absurd h73 (by omega)
        · refine r_aload_n dX7_partWithDefect_76 rfl 0 rfl ?_
          refine r_aload dX7_partWithDefect_77 5 rfl ?_
          refine r_getR (ci := 7) (k := 10) (b := A l + 1) dX7_partWithDefect_79 fr_X7_235 (hx.1.lo hl24 hAl).2.1 rfl (hx.1.lo hl24 hAl).2.2.1.1 ?_
          refine r_iload dX7_partWithDefect_82 6 rfl ?_
          refine r_iald dX7_partWithDefect_84 (hx.1.lo hl24 hAl).2.2.2.1.1 (by rw [show zN S (A l + 1) = 3 from (hx.1.lo hl24 hAl).2.2.2.1.2]; exact vp_in_nI (by (first | omega | (have := frW_lt (g (402 + 2 * (200 * l + u))); omega) | (refine Nat.lt_of_le_of_lt Nat.and_le_left ?_; first | omega | (have := frW_lt (g (402 + 2 * (200 * l + u))); omega)))) (by decide)) ?_
          refine Wx.top (congrArg (zA _ _) (nI_clamp (by (first | omega | (have := frW_lt (g (402 + 2 * (200 * l + u))); omega) | (refine Nat.lt_of_le_of_lt Nat.and_le_left ?_; first | omega | (have := frW_lt (g (402 + 2 * (200 * l + u))); omega)))))) ?_
          refine Wx.top (hx.1.r (j := i) hl24 hAl (by (first | omega | (have := frW_lt (g (402 + 2 * (200 * l + u))); omega) | (refine Nat.lt_of_le_of_lt Nat.and_le_left ?_; first | omega | (have := frW_lt (g (402 + 2 * (200 * l + u))); omega))))) ?_
          refine Wx.topN (hL.p (k := i) (by (first | omega | (have := frW_lt (g (402 + 2 * (200 * l + u))); omega) | (refine Nat.lt_of_le_of_lt Nat.and_le_left ?_; first | omega | (have := frW_lt (g (402 + 2 * (200 * l + u))); omega))))) ?_
          have hp24 : g (90 + 13 * l + (10 + i)) < 24 := by have := hpt (by omega); omega
          have hAp := hal (g (90 + 13 * l + (10 + i))) (by have := hpt (by omega); omega)
          have hbd2 := hbd (by omega)
          have hpt2 := hpt (by omega)
          refine r_fnV (M2 := m_X7_lotAt) (As := [.int (nI (g (90 + 13 * l + (10 + i))))]) (rest := []) (v := some (.ref (A (g (90 + 13 * l + (10 + i)))))) dX7_partWithDefect_85 cc_X7_partWithDefect_105 rfl rfl rfl (Nat.le_of_ble_eq_true rfl) hx.1.1.1 rfl rfl (by decide) (o_lotAt hx.1 hr hal (l := g (90 + 13 * l + (10 + i))) (by (first | omega | (have := frW_lt (g (402 + 2 * (200 * l + u))); omega) | (refine Nat.lt_of_le_of_lt Nat.and_le_left ?_; first | omega | (have := frW_lt (g (402 + 2 * (200 * l + u))); omega))))) rfl ?_
          refine r_astore (lv' := [(7, .ref (A (g (90 + 13 * l + (10 + i))))), (0, .ref (o)), (1, .int (nI (1000 * l + u))), (2, .int (nI (q))), (3, .int (nI (1 * 2 ^ q))), (4, .int (nI (u))), (5, .ref (A l)), (6, .int (nI (i)))]) dX7_partWithDefect_88 (by decide) rfl ?_
          refine r_aload dX7_partWithDefect_90 0 rfl ?_
          refine r_ifnonnull (tgt := 99) dX7_partWithDefect_92 (by decide) ?_
          refine r_aload dX7_partWithDefect_99 0 rfl ?_
          refine r_iload_n dX7_partWithDefect_101 rfl 2 rfl ?_
          refine r_fnV (M2 := m_X5_unitUsedIn) (As := [.int (nI (1000 * l + u))]) (rest := []) (v := some (.int (nI (pW (g (402 + 2 * (200 * l + u) + 1)) i)))) dX7_partWithDefect_102 cc_X7_partWithDefect_238 rfl rfl rfl (Nat.le_of_ble_eq_true rfl) (hx.1.lo hp24 hAp).2.1 rfl rfl (by decide) (o_usedIn h hr hal hl hu (i := i) (p := (g (90 + 13 * l + (10 + i)))) (by (first | omega | (have := frW_lt (g (402 + 2 * (200 * l + u))); omega) | (refine Nat.lt_of_le_of_lt Nat.and_le_left ?_; first | omega | (have := frW_lt (g (402 + 2 * (200 * l + u))); omega)))) rfl rfl) rfl ?_
          refine r_istore (lv' := [(8, .int (nI (pW (g (402 + 2 * (200 * l + u) + 1)) i))), (7, .ref (A (g (90 + 13 * l + (10 + i))))), (0, .ref (o)), (1, .int (nI (1000 * l + u))), (2, .int (nI (q))), (3, .int (nI (1 * 2 ^ q))), (4, .int (nI (u))), (5, .ref (A l)), (6, .int (nI (i)))]) dX7_partWithDefect_105 (by decide) rfl ?_
          refine r_iload dX7_partWithDefect_107 0 rfl ?_
          refine r_if_ltN (tgt := 139) dX7_partWithDefect_109 (by decide) (by (first | omega | (have := frW_lt (g (402 + 2 * (200 * l + u))); omega) | (refine Nat.lt_of_le_of_lt Nat.and_le_left ?_; first | omega | (have := frW_lt (g (402 + 2 * (200 * l + u))); omega)))) ?_
          refine r_aload dX7_partWithDefect_112 1 rfl ?_
          refine r_getR (ci := 7) (k := 12) (b := A (g (90 + 13 * l + (10 + i))) + 3) dX7_partWithDefect_114 fr_X7_147 (hx.1.lo hp24 hAp).2.1 rfl (hx.1.lo hp24 hAp).2.2.1.2.2.1 ?_
          refine r_iload dX7_partWithDefect_117 0 rfl ?_
          refine r_iald dX7_partWithDefect_119 (hx.1.lo hp24 hAp).2.2.2.2.2.1.1 (by rw [show zN S (A (g (90 + 13 * l + (10 + i))) + 3) = 200 from (hx.1.lo hp24 hAp).2.2.2.2.2.1.2]; exact vp_in_nI (by (first | omega | (have := frW_lt (g (402 + 2 * (200 * l + u))); omega) | (refine Nat.lt_of_le_of_lt Nat.and_le_left ?_; first | omega | (have := frW_lt (g (402 + 2 * (200 * l + u))); omega)))) (by decide)) ?_
          refine Wx.top (congrArg (zA _ _) (nI_clamp (by (first | omega | (have := frW_lt (g (402 + 2 * (200 * l + u))); omega) | (refine Nat.lt_of_le_of_lt Nat.and_le_left ?_; first | omega | (have := frW_lt (g (402 + 2 * (200 * l + u))); omega)))))) ?_
          refine Wx.top (hx.1.u1 (u := pW (g (402 + 2 * (200 * l + u) + 1)) i) hp24 hAp (by (first | omega | (have := frW_lt (g (402 + 2 * (200 * l + u))); omega) | (refine Nat.lt_of_le_of_lt Nat.and_le_left ?_; first | omega | (have := frW_lt (g (402 + 2 * (200 * l + u))); omega))))) ?_
          refine Wx.topN ((hr.lot (l := (g (90 + 13 * l + (10 + i)))) (by (first | omega | (have := frW_lt (g (402 + 2 * (200 * l + u))); omega) | (refine Nat.lt_of_le_of_lt Nat.and_le_left ?_; first | omega | (have := frW_lt (g (402 + 2 * (200 * l + u))); omega))))).u1 (u := (pW (g (402 + 2 * (200 * l + u) + 1)) i)) (by (first | omega | (have := frW_lt (g (402 + 2 * (200 * l + u))); omega) | (refine Nat.lt_of_le_of_lt Nat.and_le_left ?_; first | omega | (have := frW_lt (g (402 + 2 * (200 * l + u))); omega))))) ?_
          refine r_iload_n dX7_partWithDefect_120 rfl 5 rfl ?_
          refine r_iandN dX7_partWithDefect_121 (by (first | omega | (have := frW_lt (g (402 + 2 * (200 * l + u))); omega) | (refine Nat.lt_of_le_of_lt Nat.and_le_left ?_; first | omega | (have := frW_lt (g (402 + 2 * (200 * l + u))); omega)))) (by (first | omega | (have := frW_lt (g (402 + 2 * (200 * l + u))); omega) | (refine Nat.lt_of_le_of_lt Nat.and_le_left ?_; first | omega | (have := frW_lt (g (402 + 2 * (200 * l + u))); omega)))) ?_
          refine r_if_eqN (tgt := 139) dX7_partWithDefect_122 (by decide) (by (first | omega | (have := frW_lt (g (402 + 2 * (200 * l + u))); omega) | (refine Nat.lt_of_le_of_lt Nat.and_le_left ?_; first | omega | (have := frW_lt (g (402 + 2 * (200 * l + u))); omega)))) (fun h122 => ?_) (fun h122 => ?_)
          · refine r_iincN (k := 1) (lv' := [(6, .int (nI (i + 1))), (8, .int (nI (pW (g (402 + 2 * (200 * l + u) + 1)) i))), (7, .ref (A (g (90 + 13 * l + (10 + i))))), (0, .ref (o)), (1, .int (nI (1000 * l + u))), (2, .int (nI (q))), (3, .int (nI (1 * 2 ^ q))), (4, .int (nI (u))), (5, .ref (A l))]) dX7_partWithDefect_139 (by decide) 8 rfl (by decide) rfl ?_
            refine r_goto (tgt := 55) dX7_partWithDefect_142 (by decide) ?_
            refine Wx.sub [3, 4, 5, 6, 7, 8, 0] rfl ?_
            exact next (by have : ¬ i = e := fun q9 => hbe (by subst q9; exact d_b.mp h122); omega)
          · refine r_aload dX7_partWithDefect_125 7 rfl ?_
            refine r_getR (ci := 7) (k := 10) (b := A l + 1) dX7_partWithDefect_127 fr_X7_235 (hx.1.lo hl24 hAl).2.1 rfl (hx.1.lo hl24 hAl).2.2.1.1 ?_
            refine r_iload dX7_partWithDefect_130 8 rfl ?_
            refine r_iald dX7_partWithDefect_132 (hx.1.lo hl24 hAl).2.2.2.1.1 (by rw [show zN S (A l + 1) = 3 from (hx.1.lo hl24 hAl).2.2.2.1.2]; exact vp_in_nI (by (first | omega | (have := frW_lt (g (402 + 2 * (200 * l + u))); omega) | (refine Nat.lt_of_le_of_lt Nat.and_le_left ?_; first | omega | (have := frW_lt (g (402 + 2 * (200 * l + u))); omega)))) (by decide)) ?_
            refine Wx.top (congrArg (zA _ _) (nI_clamp (by (first | omega | (have := frW_lt (g (402 + 2 * (200 * l + u))); omega) | (refine Nat.lt_of_le_of_lt Nat.and_le_left ?_; first | omega | (have := frW_lt (g (402 + 2 * (200 * l + u))); omega)))))) ?_
            refine Wx.top (hx.1.r (j := i) hl24 hAl (by (first | omega | (have := frW_lt (g (402 + 2 * (200 * l + u))); omega) | (refine Nat.lt_of_le_of_lt Nat.and_le_left ?_; first | omega | (have := frW_lt (g (402 + 2 * (200 * l + u))); omega))))) ?_
            refine Wx.topN (hL.p (k := i) (by (first | omega | (have := frW_lt (g (402 + 2 * (200 * l + u))); omega) | (refine Nat.lt_of_le_of_lt Nat.and_le_left ?_; first | omega | (have := frW_lt (g (402 + 2 * (200 * l + u))); omega))))) ?_
            refine r_iload dX7_partWithDefect_133 0 rfl ?_
            refine r_fnS (M2 := m_X12_placeOf) (As := [.int (nI (g (90 + 13 * l + (10 + i)))), .int (nI (pW (g (402 + 2 * (200 * l + u) + 1)) i))]) (rest := []) (v := some (.int (nI (1000 * (g (90 + 13 * l + (10 + i))) + (pW (g (402 + 2 * (200 * l + u) + 1)) i))))) dX7_partWithDefect_135 cc_X7_partWithDefect_143 rfl rfl rfl (Nat.le_of_ble_eq_true rfl) o_placeOf rfl ?_
            obtain rfl : i = e := Nat.le_antisymm hle (Nat.le_of_not_lt fun q9 => h122 (d_b.mpr (hbf i q9)))
            exact r_iret (ty := .int) dX7_partWithDefect_138 rfl rfl ⟨rfl, rfl⟩
    · exact absurd ((fr_b hq).mpr hy) h47
