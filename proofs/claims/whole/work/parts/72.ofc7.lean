/-! HEADS changed on both sides -/
theorem Rel.machine {c g : Nat → Nat} {N i y z : Nat} (hr : Rel c g N) (hi : i < 6) (hy : y ≤ 50) (hz : z < 4) : Rel (up1 (up1 c (4 + 3 * i) y) (4 + 3 * i + 1) z) (up1 (up1 g (4 + 3 * i) y) (4 + 3 * i + 1) z) N := by
  have hc : ∀ j, j ≠ 4 + 3 * i → j ≠ 4 + 3 * i + 1 → up1 (up1 c (4 + 3 * i) y) (4 + 3 * i + 1) z j = c j := fun j h1 h2 => by rw [up1_n h2, up1_n h1]
  have hg : ∀ j, j ≠ 4 + 3 * i → j ≠ 4 + 3 * i + 1 → up1 (up1 g (4 + 3 * i) y) (4 + 3 * i + 1) z j = g j := fun j h1 h2 => by rw [up1_n h2, up1_n h1]
  refine Rel.head (Nat.le_refl N) (fun j h1 _ => hc j (by omega) (by omega)) (fun j h1 => hg j (by omega) (by omega)) (hg 0 (by omega) (by omega)) ⟨fun j hj => ?_, ?_, ?_, ?_⟩ (fun j hj => ?_) (fun p hp => HdP.congr hp (Nat.le_refl N) (fun j h1 h2 => hc j (by omega) (by omega)) (fun j h1 h2 => hg j (by omega) (by omega)) (hr.p hp)) (fun j hj => ?_) (fun p hp => ?_) hr
  · rw [hc j (by omega) (by omega), hg j (by omega) (by omega)]; exact hr.1.2.1 j hj
  · rw [hg 3 (by omega) (by omega)]; exact hr.g3
  · rw [hg 1 (by omega) (by omega)]; exact hr.g1
  · rw [hg 2 (by omega) (by omega)]; exact hr.g2
  · by_cases e : j = i
    · subst e
      refine ⟨fun f hf => ?_, ?_, ?_, ?_⟩
      · obtain rfl | rfl | rfl : f = 0 ∨ f = 1 ∨ f = 2 := by omega
        · show up1 (up1 c (4 + 3 * j) y) (4 + 3 * j + 1) z (4 + 3 * j) = up1 (up1 g (4 + 3 * j) y) (4 + 3 * j + 1) z (4 + 3 * j)
          rw [up1_n (by omega), up1_s, up1_n (by omega), up1_s]
        · rw [up1_s, up1_s]
        · rw [hc _ (by omega) (by omega), hg _ (by omega) (by omega)]; exact hr.m2 hj
      · rw [up1_n (by omega), up1_s]; exact hy
      · rw [up1_s]; exact hz
      · rw [hg _ (by omega) (by omega)]; exact (hr.mb hj).2.2
    · obtain ⟨r1, r2⟩ := hr.2.1 j hj
      refine ⟨fun f hf => by rw [hc _ (by omega) (by omega), hg _ (by omega) (by omega)]; exact r1 f hf, ?_⟩
      rw [hg _ (by omega) (by omega), hg _ (by omega) (by omega), hg _ (by omega) (by omega)]; exact r2
  · rw [hc _ (by omega) (by omega), hg _ (by omega) (by omega)]; exact hr.2.2.2.1 j hj
  · rw [hg _ (by omega) (by omega)]; exact Nat.le_refl _
theorem Rel.seed {c g : Nat → Nat} {N n : Nat} (hr : Rel c g N) (hn : n < 2147483648) : Rel (up1 c 3 n) (up1 g 3 n) N := by
  have hc : ∀ j, j ≠ 3 → up1 c 3 n j = c j := fun j h => up1_n h
  have hg : ∀ j, j ≠ 3 → up1 g 3 n j = g j := fun j h => up1_n h
  refine Rel.head (Nat.le_refl N) (fun j h1 _ => hc j (by omega)) (fun j h1 => hg j (by omega)) (hg 0 (by omega)) ⟨fun j hj => ?_, ?_, ?_, ?_⟩ (fun j hj => ?_) (fun p hp => HdP.congr hp (Nat.le_refl N) (fun j h1 h2 => hc j (by omega)) (fun j h1 h2 => hg j (by omega)) (hr.p hp)) (fun j hj => ?_) (fun p hp => ?_) hr
  · by_cases e : j = 3
    · rw [e, up1_s, up1_s]
    · rw [hc j e, hg j e]; exact hr.1.2.1 j hj
  · rw [up1_s]; exact hn
  · rw [hg 1 (by omega)]; exact hr.g1
  · rw [hg 2 (by omega)]; exact hr.g2
  · obtain ⟨r1, r2⟩ := hr.2.1 j hj
    refine ⟨fun f hf => by rw [hc _ (by omega), hg _ (by omega)]; exact r1 f hf, ?_⟩
    rw [hg _ (by omega), hg _ (by omega), hg _ (by omega)]; exact r2
  · rw [hc _ (by omega), hg _ (by omega)]; exact hr.2.2.2.1 j hj
  · rw [hg _ (by omega)]; exact Nat.le_refl _
/-- one product's numbers -/
theorem Rel.prod {c c' g g' : Nat → Nat} {N N' p : Nat} (hr : Rel c g N) (hN : N ≤ N') (hp : p < 4) (hc : ∀ j, (j < 22 + 10 * p ∨ 22 + 10 * p + 10 ≤ j) → c' j = c j) (hg : ∀ j, (j < 22 + 10 * p ∨ 22 + 10 * p + 10 ≤ j) → g' j = g j) (hH : HdP c' g' N' p) (h5 : g' (22 + 10 * p + 5) ≤ insC g (g 0)) : Rel c' g' N' := by
  obtain ⟨⟨a1, a2, a3, a4, a5⟩, b, pp, bl, m, lt, wb⟩ := id hr
  have hg9 : ∀ i, 90 ≤ i → g' i = g i := fun i hi => hg i (by omega)
  refine ⟨⟨by rw [hg 0 (by omega)]; exact a1, fun j hj => by rw [hc j (by omega), hg j (by omega)]; exact a2 j hj, by rw [hg 3 (by omega)]; exact a3, by rw [hg 1 (by omega)]; omega, by rw [hg 2 (by omega)]; omega⟩, fun j hj => ?_, fun q hq => ?_, fun j hj => ?_, fun q hq => ?_, fun l hl => ?_, fun i hi => by rw [hg i (by omega)]; exact wb i hi⟩
  · obtain ⟨r1, r2, r3, r4⟩ := b j hj
    refine ⟨fun f hf => by rw [hc _ (by omega), hg _ (by omega)]; exact r1 f hf, ?_, ?_, ?_⟩
    · rw [hg _ (by omega)]; exact r2
    · rw [hg _ (by omega)]; exact r3
    · rw [hg _ (by omega)]; omega
  · by_cases e : q = p
    · subst e; exact hH
    · have h := pp q hq
      unfold HdP at h ⊢
      obtain ⟨h1, h2⟩ := h
      refine ⟨fun f hf => by rw [hc _ (by omega), hg _ (by omega)]; exact h1 f hf, ?_⟩
      rw [hc _ (by omega), hc _ (by omega), hc _ (by omega), hg _ (by omega), hg _ (by omega), hg _ (by omega), hg _ (by omega), hg _ (by omega), hg _ (by omega), hg _ (by omega), hg _ (by omega), hg _ (by omega), hg _ (by omega)]
      obtain ⟨q1, q2, q3, q4, q5, q6⟩ := h2
      exact ⟨q1, q2, q3, q4, q5, by omega⟩
  · rw [hc _ (by omega), hg _ (by omega)]; exact ⟨(bl j hj).1, Nat.le_trans (bl j hj).2 hN⟩
  · rw [hg 0 (by omega), insC_congr hg9]
    by_cases e : q = p
    · subst e; exact h5
    · rw [hg _ (by omega)]; exact m q hq
  · rw [hg 0 (by omega)] at hl ⊢
    exact LT.congr hN (fun i h1 h2 => hc i (by omega)) hg9 a1 hl (fun l hl => (hr.lot hl).z) (lt l hl)
theorem Rel.product {c g : Nat → Nat} {N i x y z : Nat} (hr : Rel c g N) (hi : i < 4) (hx : x ≤ 30) (hy : y < 16) (hz : z < 16) : Rel (up1 (up1 (up1 c (22 + 10 * i) x) (22 + 10 * i + 1) y) (22 + 10 * i + 2) z) (up1 (up1 (up1 g (22 + 10 * i) x) (22 + 10 * i + 1) y) (22 + 10 * i + 2) z) N := by
  have hc : ∀ j, (j < 22 + 10 * i ∨ 22 + 10 * i + 3 ≤ j) → up1 (up1 (up1 c (22 + 10 * i) x) (22 + 10 * i + 1) y) (22 + 10 * i + 2) z j = c j := fun j h => by rw [up1_n (by omega), up1_n (by omega), up1_n (by omega)]
  have hg : ∀ j, (j < 22 + 10 * i ∨ 22 + 10 * i + 3 ≤ j) → up1 (up1 (up1 g (22 + 10 * i) x) (22 + 10 * i + 1) y) (22 + 10 * i + 2) z j = g j := fun j h => by rw [up1_n (by omega), up1_n (by omega), up1_n (by omega)]
  have g0 : up1 (up1 (up1 g (22 + 10 * i) x) (22 + 10 * i + 1) y) (22 + 10 * i + 2) z (22 + 10 * i) = x := by rw [up1_n (by omega), up1_n (by omega), up1_s]
  have g1 : up1 (up1 (up1 g (22 + 10 * i) x) (22 + 10 * i + 1) y) (22 + 10 * i + 2) z (22 + 10 * i + 1) = y := by rw [up1_n (by omega), up1_s]
  have g2 : up1 (up1 (up1 g (22 + 10 * i) x) (22 + 10 * i + 1) y) (22 + 10 * i + 2) z (22 + 10 * i + 2) = z := up1_s
  refine Rel.prod hr (Nat.le_refl N) hi (fun j hj => hc j (by omega)) (fun j hj => hg j (by omega)) ?_ (by rw [hg _ (by omega)]; exact hr.mem hi)
  have h := hr.p hi
  unfold HdP at h ⊢
  obtain ⟨h1, h2, h3, h4, h5, h6⟩ := h
  refine ⟨fun f hf => ?_, by rw [hc _ (by omega), hg _ (by omega)]; exact h2, by rw [hc _ (by omega), hg _ (by omega)]; exact h3, ?_, ?_, by rw [hg _ (by omega), hg _ (by omega)]; exact h6⟩
  · by_cases e : 3 ≤ f
    · rw [hc _ (by omega), hg _ (by omega)]; exact h1 f hf
    · obtain rfl | rfl | rfl : f = 0 ∨ f = 1 ∨ f = 2 := by omega
      · show up1 (up1 (up1 c (22 + 10 * i) x) (22 + 10 * i + 1) y) (22 + 10 * i + 2) z (22 + 10 * i) = up1 (up1 (up1 g (22 + 10 * i) x) (22 + 10 * i + 1) y) (22 + 10 * i + 2) z (22 + 10 * i)
        rw [g0, up1_n (by omega), up1_n (by omega), up1_s]
      · rw [g1, up1_n (by omega), up1_s]
      · rw [g2, up1_s]
  · rw [g0, g1, g2, hg _ (by omega), hg _ (by omega)]
    exact ⟨hx, hy, hz, h4.2.2.2.1, h4.2.2.2.2⟩
  · rw [hc _ (by omega), hg _ (by omega), hg _ (by omega), hg _ (by omega)]; exact h5
/-- a product that remembers nothing -/
def fgtC (c : Nat → Nat) (e s : Nat) : Nat → Nat := up1 (up1 (up1 (up1 c (e + 3) s) (e + 4) 0) (e + 5) 0) (e + 6) 0
theorem Rel.forgets {c g : Nat → Nat} {N p s : Nat} (hr : Rel c g N) (hp : p < 4) (hs : s ≤ 3) : Rel (fgtC c (22 + 10 * p) s) (fgtG g (22 + 10 * p) s) N := by
  have hc : ∀ j, (j < 22 + 10 * p + 3 ∨ 22 + 10 * p + 7 ≤ j) → fgtC c (22 + 10 * p) s j = c j := fun j h => by unfold fgtC; rw [up1_n (by omega), up1_n (by omega), up1_n (by omega), up1_n (by omega)]
  have hg : ∀ j, (j < 22 + 10 * p + 3 ∨ 22 + 10 * p + 7 < j) → fgtG g (22 + 10 * p) s j = g j := fun j h => fgtG_n h
  have c3 : fgtC c (22 + 10 * p) s (22 + 10 * p + 3) = s := by unfold fgtC; rw [up1_n (by omega), up1_n (by omega), up1_n (by omega), up1_s]
  have c4 : fgtC c (22 + 10 * p) s (22 + 10 * p + 4) = 0 := by unfold fgtC; rw [up1_n (by omega), up1_n (by omega), up1_s]
  have c5 : fgtC c (22 + 10 * p) s (22 + 10 * p + 5) = 0 := by unfold fgtC; rw [up1_n (by omega), up1_s]
  have c6 : fgtC c (22 + 10 * p) s (22 + 10 * p + 6) = 0 := by unfold fgtC; rw [up1_s]
  have g3 : fgtG g (22 + 10 * p) s (22 + 10 * p + 3) = s := by unfold fgtG; rw [up1_n (by omega), up1_n (by omega), up1_n (by omega), up1_n (by omega), up1_s]
  have g4 : fgtG g (22 + 10 * p) s (22 + 10 * p + 4) = 0 := by unfold fgtG; rw [up1_n (by omega), up1_n (by omega), up1_n (by omega), up1_s]
  have g5 : fgtG g (22 + 10 * p) s (22 + 10 * p + 5) = 0 := by unfold fgtG; rw [up1_n (by omega), up1_n (by omega), up1_s]
  have g6 : fgtG g (22 + 10 * p) s (22 + 10 * p + 6) = 0 := by unfold fgtG; rw [up1_n (by omega), up1_s]
  have g7 : fgtG g (22 + 10 * p) s (22 + 10 * p + 7) = 0 := by unfold fgtG; rw [up1_s]
  refine Rel.prod hr (Nat.le_refl N) hp (fun j hj => hc j (by omega)) (fun j hj => hg j (by omega)) ?_ (by rw [g5]; exact Nat.zero_le _)
  have h := hr.p hp
  unfold HdP at h ⊢
  obtain ⟨h1, h2, h3, h4, h5, h6⟩ := h
  refine ⟨fun f hf => ?_, by rw [hc _ (by omega), hg _ (by omega)]; exact h2, by rw [hc _ (by omega), hg _ (by omega)]; exact h3, ?_, ?_, by rw [hg _ (by omega), hg _ (by omega)]; exact h6⟩
  · by_cases e : f < 3
    · rw [hc _ (by omega), hg _ (by omega)]; exact h1 f hf
    · obtain rfl | rfl | rfl : f = 3 ∨ f = 4 ∨ f = 5 := by omega
      · rw [c3, g3]
      · rw [c4, g4]
      · rw [c5, g5]
  · rw [hg _ (by omega), hg _ (by omega), hg _ (by omega), g3, g4]
    exact ⟨h4.1, h4.2.1, h4.2.2.1, hs, by decide, by decide⟩
  · rw [c6, g5, g6, g7]; exact ⟨by decide, by decide, by decide, by decide⟩
/-- an office's method that changes: v is answered, g' is the reference's row then -/
def OCh (M : MI) (G : GI) (av : List Value) (S : Hp) (w : Nat → Nat) (k o : Nat) (A : Nat → Nat) (v : Option Value) (g' : Nat → Nat) (N' : Nat) : Prop := Cn M G av S (fun r T => r = .inl v ∧ ∃ w' A' c', OX S w A T w' k o A' c' ∧ Rel c' g' N' ∧ ∀ l, l < g' 0 → A' l ≠ 0)
set_option maxRecDepth 4000 in
set_option maxHeartbeats 400000 in
theorem ch_machine {G : GI} {S : Hp} {w : Nat → Nat} {k o : Nat} {A c g : Nat → Nat} {N : Nat} (h : OR S w k o A c) (hr : Rel c g N) (hal : ∀ l, l < g 0 → A l ≠ 0) {i y z : Nat} (hi : i < 6) (hy : y < 51) (hz : z < 4) : OCh m_X7_setMachine G [.ref (o), .int (nI (i)), .int (nI (y)), .int (nI (z))] S w k o A (some (.int (nI (10 * g (4 + 3 * i) + g (4 + 3 * i + 1))))) (up1 (up1 g (4 + 3 * i) y) (4 + 3 * i + 1) z) (N) := by
  refine Cn.of rfl (by decide) (Nat.le_of_ble_eq_true rfl) (fun hN hM => ?_)
  show Wx _ G _ 0 [(0, .ref (o)), (1, .int (nI (i))), (2, .int (nI (y))), (3, .int (nI (z)))] [] _
  have hx := OX.refl h
  have h24 := hr.n24
  refine r_aload_n dX7_setMachine_0 rfl 0 rfl ?_
  refine r_iload_n dX7_setMachine_1 rfl 1 rfl ?_
  refine r_fnV (M2 := m_X7_machineAt) (As := [.int (nI (i))]) (rest := []) (v := some (.ref (o + 6 + i))) dX7_setMachine_2 cc_X7_setMachine_82 rfl rfl rfl (Nat.le_of_ble_eq_true rfl) hx.1.1.1 rfl rfl (by decide) (k_machineAt hx.1.1 (by omega)) rfl ?_
  refine r_astore (lv' := [(4, .ref (o + 6 + i)), (0, .ref (o)), (1, .int (nI (i))), (2, .int (nI (y))), (3, .int (nI (z)))]) dX7_setMachine_5 (by decide) rfl ?_
  refine r_aload dX7_setMachine_7 0 rfl ?_
  refine r_ifnonnull (tgt := 14) dX7_setMachine_9 (by decide) ?_
  refine r_iload_n dX7_setMachine_14 rfl 3 rfl ?_
  refine r_if_ltN (tgt := 33) dX7_setMachine_15 (by decide) (by omega) ?_
  refine r_iload_n dX7_setMachine_18 rfl 3 rfl ?_
  refine r_bipush (v := nI 50) dX7_setMachine_19 (by decide) ?_
  refine r_icmp_gtN (tgt := 33) dX7_setMachine_21 (by decide) (by omega) (by omega) (fun h21 => ?_) (fun h21 => ?_)
  · exact absurd h21 (by omega)
  · refine r_iload_n dX7_setMachine_24 rfl 4 rfl ?_
    refine r_if_ltN (tgt := 33) dX7_setMachine_25 (by decide) (by omega) ?_
    refine r_iload_n dX7_setMachine_28 rfl 4 rfl ?_
    refine r_iconst (v := nI 4) dX7_setMachine_29 (by decide) ?_
    refine r_icmp_ltN (tgt := 36) dX7_setMachine_30 (by decide) (by omega) (by omega) (fun h30 => ?_) (fun h30 => ?_)
    · refine r_bipush (v := nI 10) dX7_setMachine_36 (by decide) ?_
      refine r_aload dX7_setMachine_38 0 rfl ?_
      refine r_getI (ci := 8) (k := 0) dX7_setMachine_40 fr_X7_86 (hx.1.1.2.2.2.2.2.2.2.1 i (by omega)).2 rfl ?_
      refine Wx.top (hx.1.m0 (i := i) (by omega)) ?_
      refine Wx.topN (hr.m0 (i := i) (by omega)) ?_
      refine r_imulN dX7_setMachine_43 ?_
      refine r_aload dX7_setMachine_44 0 rfl ?_
      refine r_getI (ci := 8) (k := 1) dX7_setMachine_46 fr_X7_89 (hx.1.1.2.2.2.2.2.2.2.1 i (by omega)).2 rfl ?_
      refine Wx.top (hx.1.m1 (i := i) (by omega)) ?_
      refine Wx.topN (hr.m1 (i := i) (by omega)) ?_
      refine r_iaddN dX7_setMachine_49 ?_
      refine r_istore (lv' := [(5, .int (nI (10 * (g (4 + 3 * i)) + (g (4 + 3 * i + 1))))), (4, .ref (o + 6 + i)), (0, .ref (o)), (1, .int (nI (i))), (2, .int (nI (y))), (3, .int (nI (z)))]) dX7_setMachine_50 (by decide) rfl ?_
      refine r_aload dX7_setMachine_52 1 rfl ?_
      refine r_iload_n dX7_setMachine_54 rfl 4 rfl ?_
      refine r_putI (ci := 8) (k := 0) dX7_setMachine_55 fw_X7_setMachine_86 (hx.1.1.2.2.2.2.2.2.2.1 i (by omega)).2 rfl rfl rfl ?_
      refine Wx.gx ((hx.M (i := i) (f := 0) (by omega) (by decide))) (fun T (hx : OX S w A T w k o A (up1 c (4 + 3 * i) (y))) => ?_)
      refine r_aload dX7_setMachine_58 1 rfl ?_
      refine r_iload_n dX7_setMachine_60 rfl 5 rfl ?_
      refine r_putI (ci := 8) (k := 1) dX7_setMachine_61 fw_X7_setMachine_89 (hx.1.1.2.2.2.2.2.2.2.1 i (by omega)).2 rfl rfl rfl ?_
      refine Wx.gx ((hx.M (i := i) (f := 1) (by omega) (by decide))) (fun T_1 (hx_1 : OX S w A T_1 w k o A (up1 (up1 c (4 + 3 * i) (y)) (4 + 3 * i + 1) (z))) => ?_)
      refine r_iload dX7_setMachine_64 0 rfl ?_
      exact r_iret (ty := .int) dX7_setMachine_66 rfl rfl ⟨rfl, w, A, _, hx_1, Rel.machine hr hi (by omega) hz, (fun l hl => hal l (by rw [up1_n (by omega), up1_n (by omega)] at hl; exact hl))⟩
    · exact absurd hz h30
set_option maxRecDepth 4000 in
set_option maxHeartbeats 400000 in
theorem ch_product {G : GI} {S : Hp} {w : Nat → Nat} {k o : Nat} {A c g : Nat → Nat} {N : Nat} (h : OR S w k o A c) (hr : Rel c g N) (hal : ∀ l, l < g 0 → A l ≠ 0) {i x y z : Nat} (hi : i < 4) (hx9 : x < 31) (hy : y < 16) (hz : z < 16) : OCh m_X7_setProduct G [.ref (o), .int (nI (i)), .int (nI (x)), .int (nI (y)), .int (nI (z))] S w k o A (some (.int (nI (g (22 + 10 * i))))) (up1 (up1 (up1 g (22 + 10 * i) x) (22 + 10 * i + 1) y) (22 + 10 * i + 2) z) (N) := by
  refine Cn.of rfl (by decide) (Nat.le_of_ble_eq_true rfl) (fun hN hM => ?_)
  show Wx _ G _ 0 [(0, .ref (o)), (1, .int (nI (i))), (2, .int (nI (x))), (3, .int (nI (y))), (4, .int (nI (z)))] [] _
  have hx := OX.refl h
  have h24 := hr.n24
  refine r_aload_n dX7_setProduct_0 rfl 0 rfl ?_
  refine r_iload_n dX7_setProduct_1 rfl 1 rfl ?_
  refine r_fnV (M2 := m_X7_productAt) (As := [.int (nI (i))]) (rest := []) (v := some (.ref (o + 12 + i))) dX7_setProduct_2 cc_X7_setProduct_75 rfl rfl rfl (Nat.le_of_ble_eq_true rfl) hx.1.1.1 rfl rfl (by decide) (k_productAt hx.1.1 (by omega)) rfl ?_
  refine r_astore (lv' := [(5, .ref (o + 12 + i)), (0, .ref (o)), (1, .int (nI (i))), (2, .int (nI (x))), (3, .int (nI (y))), (4, .int (nI (z)))]) dX7_setProduct_5 (by decide) rfl ?_
  refine r_aload dX7_setProduct_7 0 rfl ?_
  refine r_ifnonnull (tgt := 14) dX7_setProduct_9 (by decide) ?_
  refine r_iload_n dX7_setProduct_14 rfl 3 rfl ?_
  refine r_if_ltN (tgt := 46) dX7_setProduct_15 (by decide) (by omega) ?_
  refine r_iload_n dX7_setProduct_18 rfl 3 rfl ?_
  refine r_bipush (v := nI 30) dX7_setProduct_19 (by decide) ?_
  refine r_icmp_gtN (tgt := 46) dX7_setProduct_21 (by decide) (by omega) (by omega) (fun h21 => ?_) (fun h21 => ?_)
  · exact absurd h21 (by omega)
  · refine r_iload_n dX7_setProduct_24 rfl 4 rfl ?_
    refine r_if_ltN (tgt := 46) dX7_setProduct_25 (by decide) (by omega) ?_
    refine r_iload_n dX7_setProduct_28 rfl 4 rfl ?_
    refine r_bipush (v := nI 15) dX7_setProduct_29 (by decide) ?_
    refine r_icmp_gtN (tgt := 46) dX7_setProduct_31 (by decide) (by omega) (by omega) (fun h31 => ?_) (fun h31 => ?_)
    · exact absurd h31 (by omega)
    · refine r_iload dX7_setProduct_34 5 rfl ?_
      refine r_if_ltN (tgt := 46) dX7_setProduct_36 (by decide) (by omega) ?_
      refine r_iload dX7_setProduct_39 5 rfl ?_
      refine r_bipush (v := nI 15) dX7_setProduct_41 (by decide) ?_
      refine r_icmp_leN (tgt := 49) dX7_setProduct_43 (by decide) (by omega) (by omega) (fun h43 => ?_) (fun h43 => ?_)
      · refine r_aload dX7_setProduct_49 0 rfl ?_
        refine r_getI (ci := 10) (k := 0) dX7_setProduct_51 fr_X7_92 (hx.1.1.2.2.2.2.2.2.2.2 i (by omega)).2 rfl ?_
        refine Wx.top (hx.1.p0 (i := i) (by omega)) ?_
        refine Wx.topN (hr.p (p := i) (by omega)).c0 ?_
        refine r_istore (lv' := [(6, .int (nI (g (22 + 10 * i)))), (5, .ref (o + 12 + i)), (0, .ref (o)), (1, .int (nI (i))), (2, .int (nI (x))), (3, .int (nI (y))), (4, .int (nI (z)))]) dX7_setProduct_54 (by decide) rfl ?_
        refine r_aload dX7_setProduct_56 1 rfl ?_
        refine r_iload_n dX7_setProduct_58 rfl 4 rfl ?_
        refine r_putI (ci := 10) (k := 0) dX7_setProduct_59 fw_X7_setProduct_92 (hx.1.1.2.2.2.2.2.2.2.2 i (by omega)).2 rfl rfl rfl ?_
        refine Wx.gx ((hx.P (i := i) (f := 0) (by omega) (by decide))) (fun T (hx : OX S w A T w k o A (up1 c (22 + 10 * i) (x))) => ?_)
        refine r_aload dX7_setProduct_62 1 rfl ?_
        refine r_iload_n dX7_setProduct_64 rfl 5 rfl ?_
        refine r_putI (ci := 10) (k := 1) dX7_setProduct_65 fw_X7_setProduct_79 (hx.1.1.2.2.2.2.2.2.2.2 i (by omega)).2 rfl rfl rfl ?_
        refine Wx.gx ((hx.P (i := i) (f := 1) (by omega) (by decide))) (fun T_1 (hx_1 : OX S w A T_1 w k o A (up1 (up1 c (22 + 10 * i) (x)) (22 + 10 * i + 1) (y))) => ?_)
        refine r_aload dX7_setProduct_68 1 rfl ?_
        refine r_iload dX7_setProduct_70 6 rfl ?_
        refine r_putI (ci := 10) (k := 2) dX7_setProduct_72 fw_X7_setProduct_95 (hx_1.1.1.2.2.2.2.2.2.2.2 i (by omega)).2 rfl rfl rfl ?_
        refine Wx.gx ((hx_1.P (i := i) (f := 2) (by omega) (by decide))) (fun T_2 (hx_2 : OX S w A T_2 w k o A (up1 (up1 (up1 c (22 + 10 * i) (x)) (22 + 10 * i + 1) (y)) (22 + 10 * i + 2) (z))) => ?_)
        refine r_iload dX7_setProduct_75 0 rfl ?_
        exact r_iret (ty := .int) dX7_setProduct_77 rfl rfl ⟨rfl, w, A, _, hx_2, Rel.product hr hi (by omega) hy hz, (fun l hl => hal l (by rw [up1_n (by omega), up1_n (by omega), up1_n (by omega)] at hl; exact hl))⟩
      · exact absurd h43 (by omega)
set_option maxRecDepth 4000 in
set_option maxHeartbeats 400000 in
theorem ch_seed {G : GI} {S : Hp} {w : Nat → Nat} {k o : Nat} {A c g : Nat → Nat} {N : Nat} (h : OR S w k o A c) (hr : Rel c g N) (hal : ∀ l, l < g 0 → A l ≠ 0) {n : Nat} (hn : n < 2147483648) : OCh m_X7_setSeed G [.ref (o), .int (nI (n))] S w k o A (some (.int (nI (g 3)))) (up1 g 3 n) (N) := by
  refine Cn.of rfl (by decide) (Nat.le_of_ble_eq_true rfl) (fun hN hM => ?_)
  show Wx _ G _ 0 [(0, .ref (o)), (1, .int (nI (n)))] [] _
  have hx := OX.refl h
  have h24 := hr.n24
  refine r_iload_n dX7_setSeed_0 rfl 1 rfl ?_
  refine r_if_geN (tgt := 7) dX7_setSeed_1 (by decide) (by omega) ?_
  refine r_aload_n dX7_setSeed_7 rfl 0 rfl ?_
  refine r_getI (ci := 9) (k := 8) dX7_setSeed_8 fr_X7_36 hx.1.1.1 rfl ?_
  refine Wx.top hx.1.o3 ?_
  refine Wx.topN hr.c3 ?_
  refine r_istore_n (lv' := [(2, .int (nI (g 3))), (0, .ref (o)), (1, .int (nI (n)))]) dX7_setSeed_11 rfl (by decide) rfl ?_
  refine r_aload_n dX7_setSeed_12 rfl 1 rfl ?_
  refine r_iload_n dX7_setSeed_13 rfl 2 rfl ?_
  refine r_putI (ci := 9) (k := 8) dX7_setSeed_14 fw_X7_setSeed_36 hx.1.1.1 rfl rfl rfl ?_
  refine Wx.gx (hx.O3) (fun T (hx : OX S w A T w k o A (up1 c (3) (n))) => ?_)
  refine r_iload_n dX7_setSeed_17 rfl 0 rfl ?_
  exact r_iret (ty := .int) dX7_setSeed_18 rfl rfl ⟨rfl, w, A, _, hx, Rel.seed hr hn, (fun l hl => hal l (by rw [up1_n (by omega)] at hl; exact hl))⟩
set_option maxRecDepth 4000 in
set_option maxHeartbeats 400000 in
theorem ch_release {G : GI} {S : Hp} {w : Nat → Nat} {k o : Nat} {A c g : Nat → Nat} {N : Nat} (h : OR S w k o A c) (hr : Rel c g N) (hal : ∀ l, l < g 0 → A l ≠ 0) {p : Nat} (hp : p < 4) (h3 : g (22 + 10 * p + 3) = 3) : OCh m_X7_releaseProduct G [.ref (o), .int (nI (p))] S w k o A (some (.int (nI (relN g p)))) (fgtG g (22 + 10 * p) 1) (N) := by
  refine Cn.of rfl (by decide) (Nat.le_of_ble_eq_true rfl) (fun hN hM => ?_)
  show Wx _ G _ 0 [(0, .ref (o)), (1, .int (nI (p)))] [] _
  have hx := OX.refl h
  have h24 := hr.n24
  have hpb := (hr.p hp).b
  refine r_aload_n dX7_releaseProduct_0 rfl 0 rfl ?_
  refine r_iload_n dX7_releaseProduct_1 rfl 1 rfl ?_
  refine r_fnV (M2 := m_X7_productAt) (As := [.int (nI (p))]) (rest := []) (v := some (.ref (o + 12 + p))) dX7_releaseProduct_2 cc_X7_releaseProduct_75 rfl rfl rfl (Nat.le_of_ble_eq_true rfl) hx.1.1.1 rfl rfl (by decide) (k_productAt hx.1.1 (by omega)) rfl ?_
  refine r_astore_n (lv' := [(2, .ref (o + 12 + p)), (0, .ref (o)), (1, .int (nI (p)))]) dX7_releaseProduct_5 rfl (by decide) rfl ?_
  refine r_aload_n dX7_releaseProduct_6 rfl 0 rfl ?_
  refine r_ifnonnull (tgt := 12) dX7_releaseProduct_7 (by decide) ?_
  refine r_aload_n dX7_releaseProduct_12 rfl 0 rfl ?_
  refine r_getI (ci := 10) (k := 3) dX7_releaseProduct_13 fr_X7_98 (hx.1.1.2.2.2.2.2.2.2.2 p (by omega)).2 rfl ?_
  refine Wx.top (hx.1.p3 (i := p) (by omega)) ?_
  refine Wx.topN ((hr.p (p := p) (by omega)).cf (f := 3) (by decide)) ?_
  refine r_iconst (v := nI 3) dX7_releaseProduct_16 (by decide) ?_
  refine r_icmp_eqN (tgt := 23) dX7_releaseProduct_17 (by decide) (by omega) (by omega) (fun h17 => ?_) (fun h17 => ?_)
  · refine r_aload_n dX7_releaseProduct_23 rfl 0 rfl ?_
    refine r_iconst (v := nI 1) dX7_releaseProduct_24 (by decide) ?_
    refine r_fnV (M2 := m_X8_become) (As := [.int (nI (1))]) (rest := []) (v := none) dX7_releaseProduct_25 cc_X7_releaseProduct_101 rfl rfl rfl (Nat.le_of_ble_eq_true rfl) (hx.1.1.2.2.2.2.2.2.2.2 p (by omega)).2 rfl rfl (by decide) (k_become hx.1.1 (hx.1.1.2.2.2.2.2.2.2.2 p (by omega)).2) rfl ?_
    refine Wx.gx ((((hx.P (i := p) (f := 3) (by omega) (by decide)).P (i := p) (f := 4) (by omega) (by decide)).P (i := p) (f := 5) (by omega) (by decide)).P (i := p) (f := 6) (by omega) (by decide)) (fun T (hx : OX S w A T w k o A (fgtC c (22 + 10 * p) 1)) => ?_)
    refine r_iconst (v := nI 0) dX7_releaseProduct_28 (by decide) ?_
    refine r_istore_n (lv' := [(3, .int (nI (0))), (2, .ref (o + 12 + p)), (0, .ref (o)), (1, .int (nI (p)))]) dX7_releaseProduct_29 rfl (by decide) rfl ?_
    refine r_iconst (v := nI 0) dX7_releaseProduct_30 (by decide) ?_
    refine r_istore (lv' := [(4, .int (nI (0))), (3, .int (nI (0))), (2, .ref (o + 12 + p)), (0, .ref (o)), (1, .int (nI (p)))]) dX7_releaseProduct_31 (by decide) rfl ?_
    have hrf := Rel.forgets hr hp (show 1 ≤ 3 by decide)
    have hgl : ∀ i, 90 ≤ i → (fgtG g (22 + 10 * p) 1) i = g i := fun i hi => fgtG_n (by omega)
    have hg0 : (fgtG g (22 + 10 * p) 1) 0 = g 0 := fgtG_n (by omega)
    have half : ∀ z, z < (fgtG g (22 + 10 * p) 1) 0 → A z ≠ 0 := fun z hz9 => hal z (by rw [hg0] at hz9; exact hz9)
    refine Wx.sub [3, 4, 2, 1, 0] rfl ?_
    refine Wx.loop (fun i => T) (fun i => [(0, .ref (o)), (1, .int (nI (p))), (2, .ref (o + 12 + p)), (3, .int (nI (cnt (fun l => g (90 + 13 * l + 0) = p ∧ g (90 + 13 * l + 2) = 0) i))), (4, .int (nI (i)))]) (g 0) (0) (Nat.zero_le _) (fun i hge hle next => ?_)
    show Wx _ G (T) 33 [(0, .ref (o)), (1, .int (nI (p))), (2, .ref (o + 12 + p)), (3, .int (nI (cnt (fun l => g (90 + 13 * l + 0) = p ∧ g (90 + 13 * l + 2) = 0) i))), (4, .int (nI (i)))] [] _
    have hi24 : i < g 0 → i < 24 := fun q9 => by omega
    have hAi : i < g 0 → A i ≠ 0 := fun q9 => hal i q9
    have hLi : i < g 0 → LT c g N (g 0) i := fun q9 => hr.lot q9
    have hpi : i < g 0 → g (90 + 13 * i + 0) < 4 ∧ g (90 + 13 * i + 2) < 4 := fun q9 => ⟨(hr.lot q9).pr, (hr.lot q9).st⟩
    refine r_iload dX7_releaseProduct_33 4 rfl ?_
    refine r_aload_n dX7_releaseProduct_35 rfl 0 rfl ?_
    refine r_getI (ci := 9) (k := 5) dX7_releaseProduct_36 fr_X7_49 hx.1.1.1 rfl ?_
    refine Wx.top hx.1.o0 ?_
    refine Wx.topN (show fgtC c (22 + 10 * p) 1 0 = g 0 from hrf.c0.trans hg0) ?_
    refine r_icmp_geN (tgt := 81) dX7_releaseProduct_39 (by decide) (by omega) (by omega) (fun h39 => ?_) (fun h39 => ?_)
    · refine r_iload_n dX7_releaseProduct_81 rfl 3 rfl ?_
      obtain rfl : i = g 0 := by omega
      exact r_iret (ty := .int) dX7_releaseProduct_82 rfl rfl ⟨rfl, w, A, _, hx, hrf, half⟩
    · refine r_aload_n dX7_releaseProduct_42 rfl 0 rfl ?_
      refine r_iload dX7_releaseProduct_43 4 rfl ?_
      refine r_fnV (M2 := m_X7_lotAt) (As := [.int (nI (i))]) (rest := []) (v := some (.ref (A i))) dX7_releaseProduct_45 cc_X7_releaseProduct_105 rfl rfl rfl (Nat.le_of_ble_eq_true rfl) hx.1.1.1 rfl rfl (by decide) (o_lotAt hx.1 hrf half (l := i) (by rw [hg0]; omega)) rfl ?_
      refine r_astore (lv' := [(5, .ref (A i)), (0, .ref (o)), (1, .int (nI (p))), (2, .ref (o + 12 + p)), (3, .int (nI (cnt (fun l => g (90 + 13 * l + 0) = p ∧ g (90 + 13 * l + 2) = 0) i))), (4, .int (nI (i)))]) dX7_releaseProduct_48 (by decide) rfl ?_
      refine r_aload dX7_releaseProduct_50 0 rfl ?_
      refine r_ifnull dX7_releaseProduct_52 ?_
      refine r_aload dX7_releaseProduct_55 0 rfl ?_
      refine r_getI (ci := 7) (k := 0) dX7_releaseProduct_57 fr_X7_72 (hx.1.lo (hi24 (by omega)) (hAi (by omega))).2.1 rfl ?_
      refine Wx.top (hx.1.l0 (hi24 (by omega)) (hAi (by omega))) ?_
      refine Wx.topN (show fgtC c (22 + 10 * p) 1 (90 + 13 * i + 0) = g (90 + 13 * i + 0) from ((hrf.lot (l := i) (by rw [hg0]; omega)).h (f := 0) (by decide)).trans (hgl _ (by omega))) ?_
      refine r_iload_n dX7_releaseProduct_60 rfl 2 rfl ?_
      refine r_icmp_neN (tgt := 75) dX7_releaseProduct_61 (by decide) (by omega) (by omega) (fun h61 => ?_) (fun h61 => ?_)
      · refine r_iincN (k := 1) (lv' := [(4, .int (nI (i + 1))), (5, .ref (A i)), (0, .ref (o)), (1, .int (nI (p))), (2, .ref (o + 12 + p)), (3, .int (nI (cnt (fun l => g (90 + 13 * l + 0) = p ∧ g (90 + 13 * l + 2) = 0) i)))]) dX7_releaseProduct_75 (by decide) 5 rfl (by decide) rfl ?_
        refine r_goto (tgt := 33) dX7_releaseProduct_78 (by decide) ?_
        refine Wx.sub [2, 3, 4, 5, 0] rfl ?_
        have n2 := next (by omega)
        rw [cnt_f (p := fun l => g (90 + 13 * l + 0) = p ∧ g (90 + 13 * l + 2) = 0) (fun q9 => h61 q9.1)] at n2
        exact n2
      · refine r_aload dX7_releaseProduct_64 0 rfl ?_
        refine r_getI (ci := 7) (k := 3) dX7_releaseProduct_66 fr_X7_108 (hx.1.lo (hi24 (by omega)) (hAi (by omega))).2.1 rfl ?_
        refine Wx.top (hx.1.l3 (hi24 (by omega)) (hAi (by omega))) ?_
        refine Wx.topN (show fgtC c (22 + 10 * p) 1 (90 + 13 * i + 2) = g (90 + 13 * i + 2) from ((hrf.lot (l := i) (by rw [hg0]; omega)).h (f := 2) (by decide)).trans (hgl _ (by omega))) ?_
        refine r_if_neN (tgt := 75) dX7_releaseProduct_69 (by decide) (by omega) (fun h69 => ?_) (fun h69 => ?_)
        · refine r_iincN (k := 1) (lv' := [(4, .int (nI (i + 1))), (5, .ref (A i)), (0, .ref (o)), (1, .int (nI (p))), (2, .ref (o + 12 + p)), (3, .int (nI (cnt (fun l => g (90 + 13 * l + 0) = p ∧ g (90 + 13 * l + 2) = 0) i)))]) dX7_releaseProduct_75 (by decide) 5 rfl (by decide) rfl ?_
          refine r_goto (tgt := 33) dX7_releaseProduct_78 (by decide) ?_
          refine Wx.sub [2, 3, 4, 5, 0] rfl ?_
          have n2 := next (by omega)
          rw [cnt_f (p := fun l => g (90 + 13 * l + 0) = p ∧ g (90 + 13 * l + 2) = 0) (fun q9 => h69 q9.2)] at n2
          exact n2
        · refine r_iincN (k := 1) (lv' := [(3, .int (nI (cnt (fun l => g (90 + 13 * l + 0) = p ∧ g (90 + 13 * l + 2) = 0) i + 1))), (5, .ref (A i)), (0, .ref (o)), (1, .int (nI (p))), (2, .ref (o + 12 + p)), (4, .int (nI (i)))]) dX7_releaseProduct_72 (by decide) 4 rfl (by decide) rfl ?_
          refine r_iincN (k := 1) (lv' := [(4, .int (nI (i + 1))), (3, .int (nI (cnt (fun l => g (90 + 13 * l + 0) = p ∧ g (90 + 13 * l + 2) = 0) i + 1))), (5, .ref (A i)), (0, .ref (o)), (1, .int (nI (p))), (2, .ref (o + 12 + p))]) dX7_releaseProduct_75 (by decide) 5 rfl (by decide) rfl ?_
          refine r_goto (tgt := 33) dX7_releaseProduct_78 (by decide) ?_
          refine Wx.sub [3, 4, 5, 1, 0] rfl ?_
          have n2 := next (by omega)
          rw [cnt_t (p := fun l => g (90 + 13 * l + 0) = p ∧ g (90 + 13 * l + 2) = 0) ⟨h61, h69⟩] at n2
          exact n2
  · exact absurd h3 h17
set_option maxRecDepth 4000 in
set_option maxHeartbeats 400000 in
theorem o_release_2 {G : GI} {S : Hp} {w : Nat → Nat} {k o : Nat} {A c g : Nat → Nat} {N : Nat} (h : OR S w k o A c) (hr : Rel c g N) (hal : ∀ l, l < g 0 → A l ≠ 0) {p : Nat} (hp : p < 4) (h3 : ¬ g (22 + 10 * p + 3) = 3) : Fn m_X7_releaseProduct G [.ref (o), .int (nI (p))] S (some (.int (-3))) S := by
  refine Cn.of rfl (by decide) (Nat.le_of_ble_eq_true rfl) (fun hN hM => ?_)
  show Wx _ G _ 0 [(0, .ref (o)), (1, .int (nI (p)))] [] _
  have hx := OX.refl h
  have h24 := hr.n24
  have hpb := (hr.p hp).b
  refine r_aload_n dX7_releaseProduct_0 rfl 0 rfl ?_
  refine r_iload_n dX7_releaseProduct_1 rfl 1 rfl ?_
  refine r_fnV (M2 := m_X7_productAt) (As := [.int (nI (p))]) (rest := []) (v := some (.ref (o + 12 + p))) dX7_releaseProduct_2 cc_X7_releaseProduct_75 rfl rfl rfl (Nat.le_of_ble_eq_true rfl) hx.1.1.1 rfl rfl (by decide) (k_productAt hx.1.1 (by omega)) rfl ?_
  refine r_astore_n (lv' := [(2, .ref (o + 12 + p)), (0, .ref (o)), (1, .int (nI (p)))]) dX7_releaseProduct_5 rfl (by decide) rfl ?_
  refine r_aload_n dX7_releaseProduct_6 rfl 0 rfl ?_
  refine r_ifnonnull (tgt := 12) dX7_releaseProduct_7 (by decide) ?_
  refine r_aload_n dX7_releaseProduct_12 rfl 0 rfl ?_
  refine r_getI (ci := 10) (k := 3) dX7_releaseProduct_13 fr_X7_98 (hx.1.1.2.2.2.2.2.2.2.2 p (by omega)).2 rfl ?_
  refine Wx.top (hx.1.p3 (i := p) (by omega)) ?_
  refine Wx.topN ((hr.p (p := p) (by omega)).cf (f := 3) (by decide)) ?_
  refine r_iconst (v := nI 3) dX7_releaseProduct_16 (by decide) ?_
  refine r_icmp_eqN (tgt := 23) dX7_releaseProduct_17 (by decide) (by omega) (by omega) (fun h17 => ?_) (fun h17 => ?_)
  · exact absurd h17 h3
  · refine r_bipush (v := nI 4294967293) dX7_releaseProduct_20 (by decide) ?_
    exact r_iret (ty := .int) dX7_releaseProduct_22 rfl rfl ⟨congrArg (fun x => Sum.inl (some (Value.int x))) (by decide : nI 4294967293 = -3), rfl⟩
set_option maxRecDepth 4000 in
set_option maxHeartbeats 400000 in
theorem o_release_1 {G : GI} {S : Hp} {w : Nat → Nat} {k o : Nat} {A c g : Nat → Nat} {N : Nat} (h : OR S w k o A c) (hr : Rel c g N) (hal : ∀ l, l < g 0 → A l ≠ 0) {x : Int32} (hno : ¬ vp_in x 4) : Fn m_X7_releaseProduct G [.ref (o), .int (x)] S (some (.int (-1))) S := by
  refine Cn.of rfl (by decide) (Nat.le_of_ble_eq_true rfl) (fun hN hM => ?_)
  show Wx _ G _ 0 [(0, .ref (o)), (1, .int (x))] [] _
  have hx := OX.refl h
  have h24 := hr.n24
  refine r_aload_n dX7_releaseProduct_0 rfl 0 rfl ?_
  refine r_iload_n dX7_releaseProduct_1 rfl 1 rfl ?_
  refine r_fnV (M2 := m_X7_productAt) (As := [.int (x)]) (rest := []) (v := some (.null)) dX7_releaseProduct_2 cc_X7_releaseProduct_75 rfl rfl rfl (Nat.le_of_ble_eq_true rfl) hx.1.1.1 rfl rfl (by decide) (k_productAt_no hx.1.1 hno) rfl ?_
  refine r_astore_nN (lv' := [(2, .null), (0, .ref (o)), (1, .int (x))]) dX7_releaseProduct_5 rfl (by decide) rfl ?_
  refine r_aload_nN dX7_releaseProduct_6 rfl 0 rfl ?_
  refine r_ifnonnullN dX7_releaseProduct_7 ?_
  refine r_iconst (v := nI 4294967295) dX7_releaseProduct_10 (by decide) ?_
  exact r_iret (ty := .int) dX7_releaseProduct_11 rfl rfl ⟨congrArg (fun x => Sum.inl (some (Value.int x))) nI_m1, rfl⟩
