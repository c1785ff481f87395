set_option maxRecDepth 4000 in
set_option maxHeartbeats 400000 in
theorem o_lotAt {G : GI} {S : Hp} {w : Nat → Nat} {k o : Nat} {A c g : Nat → Nat} {N : Nat} (h : OR S w k o A c) (hr : Rel c g N) (hal : ∀ l, l < g 0 → A l ≠ 0) {l : Nat} (hl : l < g 0) : Fn m_X7_lotAt G [.ref (o), .int (nI (l))] S (some (.ref (A l))) S := by
  exact k_lotAt h.1 (n := g 0) (by rw [h.o0, hr.c0]) hr.n24 (fun i hi => (h.lo (by have := hr.n24; omega) (hal i hi)).1) hl
set_option maxRecDepth 4000 in
set_option maxHeartbeats 400000 in
theorem o_lotAt_no {G : GI} {S : Hp} {w : Nat → Nat} {k o : Nat} {A c g : Nat → Nat} {N : Nat} (h : OR S w k o A c) (hr : Rel c g N) (hal : ∀ l, l < g 0 → A l ≠ 0) {x : Int32} (hx : ¬ vp_in x (g 0)) : Fn m_X7_lotAt G [.ref (o), .int (x)] S (some .null) S := by
  exact k_lotAt_no h.1 (n := g 0) (by rw [h.o0, hr.c0]) hr.n24 hx
set_option maxRecDepth 4000 in
set_option maxHeartbeats 400000 in
theorem o_inspectedOf {G : GI} {S : Hp} {w : Nat → Nat} {k o : Nat} {A c g : Nat → Nat} {N : Nat} (h : OR S w k o A c) (hr : Rel c g N) (hal : ∀ l, l < g 0 → A l ≠ 0) {l : Nat} (hl : l < g 0) : Fn m_X7_inspectedOf G [.ref (o), .ref (A l)] S (some (.int (nI (g (22 + 10 * g (90 + 13 * l + 0) + 1))))) S := by
  have hl24 : l < 24 := Nat.lt_of_lt_of_le hl hr.n24
  have hAl := hal l hl
  have hL := hr.lot hl
  have hLo := (h.lo hl24 hAl).2
  exact k_inspectedOf h.1 hLo.1 ((h.l0 hl24 hAl).trans (congrArg nI (hL.h (f := 0) (by decide)))) hL.pr ((h.p1 hL.pr).trans (congrArg nI ((hr.p hL.pr).cf (f := 1) (by decide))))
set_option maxRecDepth 4000 in
set_option maxHeartbeats 400000 in
theorem o_has {G : GI} {S : Hp} {w : Nat → Nat} {k o : Nat} {A c g : Nat → Nat} {N : Nat} (h : OR S w k o A c) (hr : Rel c g N) (hal : ∀ l, l < g 0 → A l ≠ 0) {l : Nat} (hl : l < g 0) {u : Nat} (hu : u < g (90 + 13 * l + 1)) : Fn m_X5_has G [.ref (A l), .int (nI (u))] S (some (.int (nI (1)))) S := by
  have hl24 : l < 24 := Nat.lt_of_lt_of_le hl hr.n24
  have hAl := hal l hl
  have hL := hr.lot hl
  have hLo := (h.lo hl24 hAl).2
  exact k_has_1 hLo ((h.l2 hl24 hAl).trans (congrArg nI (hL.h (f := 1) (by decide)))) hL.z hu
set_option maxRecDepth 4000 in
set_option maxHeartbeats 400000 in
theorem o_has_no {G : GI} {S : Hp} {w : Nat → Nat} {k o : Nat} {A c g : Nat → Nat} {N : Nat} (h : OR S w k o A c) (hr : Rel c g N) (hal : ∀ l, l < g 0 → A l ≠ 0) {l : Nat} (hl : l < g 0) {x : Int32} (hx : ¬ vp_in x (g (90 + 13 * l + 1))) : Fn m_X5_has G [.ref (A l), .int (x)] S (some (.int (nI (0)))) S := by
  have hl24 : l < 24 := Nat.lt_of_lt_of_le hl hr.n24
  have hAl := hal l hl
  have hL := hr.lot hl
  have hLo := (h.lo hl24 hAl).2
  exact k_has_0 hLo ((h.l2 hl24 hAl).trans (congrArg nI (hL.h (f := 1) (by decide)))) hL.z hx
set_option maxRecDepth 4000 in
set_option maxHeartbeats 400000 in
theorem o_unitsIn {G : GI} {S : Hp} {w : Nat → Nat} {k o : Nat} {A c g : Nat → Nat} {N : Nat} (h : OR S w k o A c) (hr : Rel c g N) (hal : ∀ l, l < g 0 → A l ≠ 0) {l : Nat} (hl : l < g 0) {x : Nat} (hx : x < 8) : Fn m_X5_unitsIn G [.ref (A l), .int (nI (x))] S (some (.int (nI (inS g l x)))) S := by
  have hl24 : l < 24 := Nat.lt_of_lt_of_le hl hr.n24
  have hAl := hal l hl
  have hL := hr.lot hl
  have hLo := (h.lo hl24 hAl).2
  exact k_unitsIn hLo ((h.l2 hl24 hAl).trans (congrArg nI (hL.h (f := 1) (by decide)))) hL.z (fun u hu => (h.u0 hl24 hAl (Nat.lt_of_lt_of_le hu hL.z)).trans (congrArg nI (hL.u0 hu))) (fun u _ => sW_lt _) hx
set_option maxRecDepth 4000 in
set_option maxHeartbeats 400000 in
theorem o_isBad {G : GI} {S : Hp} {w : Nat → Nat} {k o : Nat} {A c g : Nat → Nat} {N : Nat} (h : OR S w k o A c) (hr : Rel c g N) (hal : ∀ l, l < g 0 → A l ≠ 0) {l : Nat} (hl : l < g 0) {u ks : Nat} (hu : u < g (90 + 13 * l + 1)) (hk : ks < 16) : Fn m_X5_isBad G [.ref (A l), .int (nI (u)), .int (nI (ks))] S (some (.int (bI (¬ (g (402 + 2 * (200 * l + u)) % 16 &&& ks = 0))))) S := by
  have hl24 : l < 24 := Nat.lt_of_lt_of_le hl hr.n24
  have hAl := hal l hl
  have hL := hr.lot hl
  have hLo := (h.lo hl24 hAl).2
  exact k_isBad hLo ((h.l2 hl24 hAl).trans (congrArg nI (hL.h (f := 1) (by decide)))) hL.z (fun u hu => (h.u1 hl24 hAl (Nat.lt_of_lt_of_le hu hL.z)).trans (congrArg nI (hL.u1 hu))) (fun u _ => Nat.mod_lt _ (by decide)) hu hk
set_option maxRecDepth 4000 in
set_option maxHeartbeats 400000 in
theorem o_badUnitsIn {G : GI} {S : Hp} {w : Nat → Nat} {k o : Nat} {A c g : Nat → Nat} {N : Nat} (h : OR S w k o A c) (hr : Rel c g N) (hal : ∀ l, l < g 0 → A l ≠ 0) {l : Nat} (hl : l < g 0) {x ks : Nat} (hx : x < 8) (hk : ks < 16) : Fn m_X5_badUnitsIn G [.ref (A l), .int (nI (x)), .int (nI (ks))] S (some (.int (nI (cnt (fun u => sW (g (402 + 2 * (200 * l + u))) = x ∧ ¬ g (402 + 2 * (200 * l + u)) % 16 &&& ks = 0) (g (90 + 13 * l + 1)))))) S := by
  have hl24 : l < 24 := Nat.lt_of_lt_of_le hl hr.n24
  have hAl := hal l hl
  have hL := hr.lot hl
  have hLo := (h.lo hl24 hAl).2
  exact k_badUnitsIn hLo ((h.l2 hl24 hAl).trans (congrArg nI (hL.h (f := 1) (by decide)))) hL.z (fun u hu => (h.u0 hl24 hAl (Nat.lt_of_lt_of_le hu hL.z)).trans (congrArg nI (hL.u0 hu))) (fun u _ => sW_lt _) (fun u hu => (h.u1 hl24 hAl (Nat.lt_of_lt_of_le hu hL.z)).trans (congrArg nI (hL.u1 hu))) (fun u _ => Nat.mod_lt _ (by decide)) hx hk
set_option maxRecDepth 4000 in
set_option maxHeartbeats 400000 in
theorem o_gives_1 {G : GI} {S : Hp} {w : Nat → Nat} {k o : Nat} {A c g : Nat → Nat} {N : Nat} (h : OR S w k o A c) (hr : Rel c g N) (hal : ∀ l, l < g 0 → A l ≠ 0) {l : Nat} (hl : l < g 0) {n : Nat} (hn : n ≤ 200) (hf : ¬ fewP g l n) : Fn m_X7_gives G [.ref (o), .int (nI (l)), .int (nI (n))] S (some (.int (nI (1)))) S := by
  refine Cn.of rfl (by decide) (Nat.le_of_ble_eq_true rfl) (fun hN hM => ?_)
  show Wx _ G _ 0 [(0, .ref (o)), (1, .int (nI (l))), (2, .int (nI (n)))] [] _
  have hx := OX.refl h
  have h24 := hr.n24
  have hl24 : l < 24 := by omega
  have hAl := hal l hl
  have hL := hr.lot hl
  have hz := hL.z
  have hin : inS g l 0 ≤ g (90 + 13 * l + 1) := cnt_le _ _
  refine r_aload_n dX7_gives_0 rfl 0 rfl ?_
  refine r_iload_n dX7_gives_1 rfl 1 rfl ?_
  refine r_fnV (M2 := m_X7_lotAt) (As := [.int (nI (l))]) (rest := []) (v := some (.ref (A l))) dX7_gives_2 cc_X7_gives_105 rfl rfl rfl (Nat.le_of_ble_eq_true rfl) hx.1.1.1 rfl rfl (by decide) (o_lotAt hx.1 hr hal (l := l) (by (first | omega | (have := hL.st; omega)))) rfl ?_
  refine r_astore_n (lv' := [(3, .ref (A l)), (0, .ref (o)), (1, .int (nI (l))), (2, .int (nI (n)))]) dX7_gives_5 rfl (by decide) rfl ?_
  refine r_aload_n dX7_gives_6 rfl 0 rfl ?_
  refine r_ifnull dX7_gives_7 ?_
  refine r_aload_n dX7_gives_10 rfl 0 rfl ?_
  refine r_getI (ci := 7) (k := 3) dX7_gives_11 fr_X7_108 (hx.1.lo hl24 hAl).2.1 rfl ?_
  refine Wx.top (hx.1.l3 hl24 hAl) ?_
  refine Wx.topN (hL.h (f := 2) (by decide)) ?_
  refine r_iconst (v := nI 1) dX7_gives_14 (by decide) ?_
  refine r_icmp_neN (tgt := 31) dX7_gives_15 (by decide) (by (first | omega | (have := hL.st; omega))) (by (first | omega | (have := hL.st; omega))) (fun h15 => ?_) (fun h15 => ?_)
  · refine r_iconst (v := nI 0) dX7_gives_31 (by decide) ?_
    exact (hf (Or.inl h15)).elim
  · refine r_aload_n dX7_gives_18 rfl 0 rfl ?_
    refine r_iconst (v := nI 0) dX7_gives_19 (by decide) ?_
    refine r_fnV (M2 := m_X5_unitsIn) (As := [.int (nI (0))]) (rest := []) (v := some (.int (nI (inS g l 0)))) dX7_gives_20 cc_X7_gives_127 rfl rfl rfl (Nat.le_of_ble_eq_true rfl) (hx.1.lo hl24 hAl).2.1 rfl rfl (by decide) (o_unitsIn hx.1 hr hal (l := l) (by (first | omega | (have := hL.st; omega))) (by (first | omega | (have := hL.st; omega)))) rfl ?_
    refine r_iload_n dX7_gives_23 rfl 3 rfl ?_
    refine r_icmp_ltN (tgt := 31) dX7_gives_24 (by decide) (by (first | omega | (have := hL.st; omega))) (by (first | omega | (have := hL.st; omega))) (fun h24 => ?_) (fun h24 => ?_)
    · refine r_iconst (v := nI 0) dX7_gives_31 (by decide) ?_
      exact (hf (Or.inr h24)).elim
    · refine r_iconst (v := nI 1) dX7_gives_27 (by decide) ?_
      refine r_goto (tgt := 32) dX7_gives_28 (by decide) ?_
      exact r_iret (ty := .boolean) dX7_gives_32 rfl (by decide) ⟨rfl, rfl⟩
set_option maxRecDepth 4000 in
set_option maxHeartbeats 400000 in
theorem o_gives_0 {G : GI} {S : Hp} {w : Nat → Nat} {k o : Nat} {A c g : Nat → Nat} {N : Nat} (h : OR S w k o A c) (hr : Rel c g N) (hal : ∀ l, l < g 0 → A l ≠ 0) {l : Nat} (hl : l < g 0) {n : Nat} (hn : n ≤ 200) (hf : fewP g l n) : Fn m_X7_gives G [.ref (o), .int (nI (l)), .int (nI (n))] S (some (.int (nI (0)))) S := by
  refine Cn.of rfl (by decide) (Nat.le_of_ble_eq_true rfl) (fun hN hM => ?_)
  show Wx _ G _ 0 [(0, .ref (o)), (1, .int (nI (l))), (2, .int (nI (n)))] [] _
  have hx := OX.refl h
  have h24 := hr.n24
  have hl24 : l < 24 := by omega
  have hAl := hal l hl
  have hL := hr.lot hl
  have hz := hL.z
  have hin : inS g l 0 ≤ g (90 + 13 * l + 1) := cnt_le _ _
  refine r_aload_n dX7_gives_0 rfl 0 rfl ?_
  refine r_iload_n dX7_gives_1 rfl 1 rfl ?_
  refine r_fnV (M2 := m_X7_lotAt) (As := [.int (nI (l))]) (rest := []) (v := some (.ref (A l))) dX7_gives_2 cc_X7_gives_105 rfl rfl rfl (Nat.le_of_ble_eq_true rfl) hx.1.1.1 rfl rfl (by decide) (o_lotAt hx.1 hr hal (l := l) (by (first | omega | (have := hL.st; omega)))) rfl ?_
  refine r_astore_n (lv' := [(3, .ref (A l)), (0, .ref (o)), (1, .int (nI (l))), (2, .int (nI (n)))]) dX7_gives_5 rfl (by decide) rfl ?_
  refine r_aload_n dX7_gives_6 rfl 0 rfl ?_
  refine r_ifnull dX7_gives_7 ?_
  refine r_aload_n dX7_gives_10 rfl 0 rfl ?_
  refine r_getI (ci := 7) (k := 3) dX7_gives_11 fr_X7_108 (hx.1.lo hl24 hAl).2.1 rfl ?_
  refine Wx.top (hx.1.l3 hl24 hAl) ?_
  refine Wx.topN (hL.h (f := 2) (by decide)) ?_
  refine r_iconst (v := nI 1) dX7_gives_14 (by decide) ?_
  refine r_icmp_neN (tgt := 31) dX7_gives_15 (by decide) (by (first | omega | (have := hL.st; omega))) (by (first | omega | (have := hL.st; omega))) (fun h15 => ?_) (fun h15 => ?_)
  · refine r_iconst (v := nI 0) dX7_gives_31 (by decide) ?_
    exact r_iret (ty := .boolean) dX7_gives_32 rfl (by decide) ⟨rfl, rfl⟩
  · refine r_aload_n dX7_gives_18 rfl 0 rfl ?_
    refine r_iconst (v := nI 0) dX7_gives_19 (by decide) ?_
    refine r_fnV (M2 := m_X5_unitsIn) (As := [.int (nI (0))]) (rest := []) (v := some (.int (nI (inS g l 0)))) dX7_gives_20 cc_X7_gives_127 rfl rfl rfl (Nat.le_of_ble_eq_true rfl) (hx.1.lo hl24 hAl).2.1 rfl rfl (by decide) (o_unitsIn hx.1 hr hal (l := l) (by (first | omega | (have := hL.st; omega))) (by (first | omega | (have := hL.st; omega)))) rfl ?_
    refine r_iload_n dX7_gives_23 rfl 3 rfl ?_
    refine r_icmp_ltN (tgt := 31) dX7_gives_24 (by decide) (by (first | omega | (have := hL.st; omega))) (by (first | omega | (have := hL.st; omega))) (fun h24 => ?_) (fun h24 => ?_)
    · refine r_iconst (v := nI 0) dX7_gives_31 (by decide) ?_
      exact r_iret (ty := .boolean) dX7_gives_32 rfl (by decide) ⟨rfl, rfl⟩
    · refine r_iconst (v := nI 1) dX7_gives_27 (by decide) ?_
      refine r_goto (tgt := 32) dX7_gives_28 (by decide) ?_
      exact (hf.elim (fun q => q h15) (fun q => absurd q h24)).elim
