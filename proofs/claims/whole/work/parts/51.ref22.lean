/-- the character at the place read, -1 behind the text -/
def nwI (t : Nat → Nat) (L h : Nat) : Int32 := if h < L then nI (t h) else (-1)
theorem nwI_t {t : Nat → Nat} {L h : Nat} (c : h < L) : nwI t L h = nI (t h) := if_pos c
theorem nwI_f {t : Nat → Nat} {L h : Nat} (c : ¬ h < L) : nwI t L h = (-1) := if_neg c
/-- the text t of L characters, read at h -/
def TXT (V : RVal) (t : Nat → Nat) (L h : Nat) : Prop := V 0 18 = nI h ∧ V 0 14 = nI L ∧ L ≤ 60 ∧ h ≤ L ∧ ∀ i, i < L → V 9 i = nI (t i)
theorem TXT.at {V : RVal} {t : Nat → Nat} {L h h' : Nat} (x : TXT V t L h) (hh : h' ≤ L) : TXT (up2 V 0 18 (nI h')) t L h' := ⟨up2_s, (up2_n (by decide)).trans x.2.1, x.2.2.1, hh, fun i hi => (up2_n (Or.inl (by decide))).trans (x.2.2.2.2 i hi)⟩
theorem TXT.o {V : RVal} {t : Nat → Nat} {L h j i : Nat} {v : Int32} (x : TXT V t L h) (hj : (j ≠ 0 ∨ (i ≠ 18 ∧ i ≠ 14)) ∧ j ≠ 9) : TXT (up2 V j i v) t L h := ⟨(up2_n (by omega)).trans x.1, (up2_n (by omega)).trans x.2.1, x.2.2.1, x.2.2.2.1, fun k hk => (up2_n (by omega)).trans (x.2.2.2.2 k hk)⟩
set_option maxRecDepth 4000 in
theorem g_now {G : GI} {T : Hp} {m : Nat} {V : RVal} {g : Nat → Nat} {od : Nat → UInt64} (hs : RS T m)  {t : Nat → Nat} {L h : Nat} (hx : TXT V t L h) : Fn m_X13_now G [.ref (m)] (rput T m (sg V g) od) (some (.int (nwI t L h))) (rput T m (sg V g) od) := by
  refine Cn.of rfl (by decide) (Nat.le_of_ble_eq_true rfl) (fun hN hM => ?_)
  show Wx _ G _ 0 [(0, .ref (m))] [] _
  refine r_aload_n dX13_now_0 rfl 0 rfl ?_
  refine o_get (k := 18) hs dX13_now_1 fr_X13_331 rfl ?_
  refine Wx.top hx.1 ?_
  refine r_aload_n dX13_now_4 rfl 0 rfl ?_
  refine o_get (k := 14) hs dX13_now_5 fr_X13_307 rfl ?_
  refine Wx.top hx.2.1 ?_
  refine r_icmp_geN (tgt := 23) dX13_now_8 (by decide) (by (first | omega | (have := hx.2.2.1; have := hx.2.2.2.1; omega))) (by (first | omega | (have := hx.2.2.1; have := hx.2.2.2.1; omega))) (fun h8 => ?_) (fun h8 => ?_)
  · refine r_iconst (v := (-1)) dX13_now_23 (by decide) ?_
    exact r_iret (ty := .int) dX13_now_24 rfl rfl ⟨congrArg (fun x => Sum.inl (some (Value.int x))) (nwI_f (by omega)).symm, rfl⟩
  · refine r_aload_n dX13_now_11 rfl 0 rfl ?_
    refine m_ref (k := 13) (j := 9) hs hs.2.1.2.2.2.2.2.2.2.2.1 dX13_now_12 fr_X13_37 rfl ?_
    refine r_aload_n dX13_now_15 rfl 0 rfl ?_
    refine o_get (k := 18) hs dX13_now_16 fr_X13_331 rfl ?_
    refine Wx.top hx.1 ?_
    refine o_iald (j := 9) (n := 60) (i := h) (by decide) hs rw9 dX13_now_19 (by (first | omega | (have := hx.2.2.1; have := hx.2.2.2.1; omega))) (by decide) ?_
    refine Wx.top (hx.2.2.2.2 h (by omega)) ?_
    refine r_goto (tgt := 24) dX13_now_20 (by decide) ?_
    exact r_iret (ty := .int) dX13_now_24 rfl rfl ⟨congrArg (fun x => Sum.inl (some (Value.int x))) (nwI_t h8).symm, rfl⟩
set_option maxRecDepth 4000 in
theorem g_skips_t {G : GI} {T : Hp} {m : Nat} {V : RVal} {g : Nat → Nat} {od : Nat → UInt64} (hs : RS T m)  {t : Nat → Nat} {L h : Nat} (hx : TXT V t L h) {c : Int32} (hc : nwI t L h = c) : Fn m_X13_skips G [.ref (m), .int (c)] (rput T m (sg V g) od) (some (.int (nI (1)))) (rput T m (sg (up2 V 0 (18) (nI (h + 1))) (g)) od) := by
  refine Cn.of rfl (by decide) (Nat.le_of_ble_eq_true rfl) (fun hN hM => ?_)
  show Wx _ G _ 0 [(0, .ref (m)), (1, .int (c))] [] _
  refine r_aload_n dX13_skips_0 rfl 0 rfl ?_
  refine r_fnV (M2 := m_X13_now) (As := []) (rest := []) (v := some (.int (nwI t L h))) dX13_skips_1 cc_X13_skips_334 rfl rfl rfl (Nat.le_of_ble_eq_true rfl) hs.1 rfl rfl (by decide) (g_now hs hx) rfl ?_
  refine r_iload_n dX13_skips_4 rfl 1 rfl ?_
  refine r_icmp_ne (tgt := 12) dX13_skips_5 (by decide) (fun h5 => ?_) (fun h5 => ?_)
  · exact absurd hc h5
  · refine r_iconst (v := nI 1) dX13_skips_8 (by decide) ?_
    refine r_goto (tgt := 13) dX13_skips_9 (by decide) ?_
    refine r_istore_n (lv' := [(2, .int (nI (1))), (0, .ref (m)), (1, .int (c))]) dX13_skips_13 rfl (by decide) rfl ?_
    refine r_aload_n dX13_skips_14 rfl 1 rfl ?_
    refine r_dup dX13_skips_15 rfl ?_
    refine o_get (k := 18) hs dX13_skips_16 fr_X13_331 rfl ?_
    refine Wx.top hx.1 ?_
    refine r_iload_n dX13_skips_19 rfl 0 rfl ?_
    refine r_if_eqN (tgt := 27) dX13_skips_20 (by decide) (by omega) (fun zz20 => ?_) (fun zz20 => ?_)
    · exact absurd zz20 (by decide)
    · refine r_iconst (v := nI 1) dX13_skips_23 (by decide) ?_
      refine r_goto (tgt := 28) dX13_skips_24 (by decide) ?_
      refine r_iaddN dX13_skips_28 ?_
      refine o_put (k := 18) hs dX13_skips_29 fw_X13_skips_331 rfl rfl rfl ?_
      refine r_iload_n dX13_skips_32 rfl 0 rfl ?_
      exact r_iret (ty := .boolean) dX13_skips_33 rfl (by decide) ⟨rfl, rfl⟩
set_option maxRecDepth 4000 in
theorem g_skips_f {G : GI} {T : Hp} {m : Nat} {V : RVal} {g : Nat → Nat} {od : Nat → UInt64} (hs : RS T m)  {t : Nat → Nat} {L h : Nat} (hx : TXT V t L h) {c : Int32} (hc : ¬ nwI t L h = c) : Fn m_X13_skips G [.ref (m), .int (c)] (rput T m (sg V g) od) (some (.int (nI (0)))) (rput T m (sg (up2 V 0 (18) (nI (h + 0))) (g)) od) := by
  refine Cn.of rfl (by decide) (Nat.le_of_ble_eq_true rfl) (fun hN hM => ?_)
  show Wx _ G _ 0 [(0, .ref (m)), (1, .int (c))] [] _
  refine r_aload_n dX13_skips_0 rfl 0 rfl ?_
  refine r_fnV (M2 := m_X13_now) (As := []) (rest := []) (v := some (.int (nwI t L h))) dX13_skips_1 cc_X13_skips_334 rfl rfl rfl (Nat.le_of_ble_eq_true rfl) hs.1 rfl rfl (by decide) (g_now hs hx) rfl ?_
  refine r_iload_n dX13_skips_4 rfl 1 rfl ?_
  refine r_icmp_ne (tgt := 12) dX13_skips_5 (by decide) (fun h5 => ?_) (fun h5 => ?_)
  · refine r_iconst (v := nI 0) dX13_skips_12 (by decide) ?_
    refine r_istore_n (lv' := [(2, .int (nI (0))), (0, .ref (m)), (1, .int (c))]) dX13_skips_13 rfl (by decide) rfl ?_
    refine r_aload_n dX13_skips_14 rfl 1 rfl ?_
    refine r_dup dX13_skips_15 rfl ?_
    refine o_get (k := 18) hs dX13_skips_16 fr_X13_331 rfl ?_
    refine Wx.top hx.1 ?_
    refine r_iload_n dX13_skips_19 rfl 0 rfl ?_
    refine r_if_eqN (tgt := 27) dX13_skips_20 (by decide) (by omega) (fun zz20 => ?_) (fun zz20 => ?_)
    · refine r_iconst (v := nI 0) dX13_skips_27 (by decide) ?_
      refine r_iaddN dX13_skips_28 ?_
      refine o_put (k := 18) hs dX13_skips_29 fw_X13_skips_331 rfl rfl rfl ?_
      refine r_iload_n dX13_skips_32 rfl 0 rfl ?_
      exact r_iret (ty := .boolean) dX13_skips_33 rfl (by decide) ⟨rfl, rfl⟩
    · exact absurd zz20 (by decide)
  · exact absurd h5 hc
def fewN (w : Nat) : Nat := if w = 0 then 3 else if w = 2 then 3 else if w = 1 then 4 else if w = 3 then 4 else 1
def mosN (w : Nat) : Nat := if w = 3 then 6 else fewN w
set_option maxRecDepth 4000 in
theorem g_fewest {G : GI} {S : Hp} {w : Nat} (hw : w < 9) : Fn m_X13_fewest G [.int (nI w)] S (some (.int (nI (fewN w)))) S := by
  refine Cn.of rfl (by decide) (Nat.le_of_ble_eq_true rfl) (fun hN hM => ?_)
  show Wx _ G _ 0 [(0, .int (nI (w)))] [] _
  refine r_iload_n dX13_fewest_0 rfl 0 rfl ?_
  refine r_if_eqN (tgt := 9) dX13_fewest_1 (by decide) (by omega) (fun h1 => ?_) (fun h1 => ?_)
  · refine r_iconst (v := nI 3) dX13_fewest_9 (by decide) ?_
    refine r_goto (tgt := 28) dX13_fewest_10 (by decide) ?_
    exact r_iret (ty := .int) dX13_fewest_28 rfl rfl ⟨congrArg (fun x => Sum.inl (some (Value.int (nI x)))) (show 3 = fewN w from by unfold fewN; (repeat first | rw [if_pos (by first | assumption | omega)] | rw [if_neg (by first | assumption | omega)])), rfl⟩
  · refine r_iload_n dX13_fewest_4 rfl 0 rfl ?_
    refine r_iconst (v := nI 2) dX13_fewest_5 (by decide) ?_
    refine r_icmp_neN (tgt := 13) dX13_fewest_6 (by decide) (by omega) (by omega) (fun h6 => ?_) (fun h6 => ?_)
    · refine r_iload_n dX13_fewest_13 rfl 0 rfl ?_
      refine r_iconst (v := nI 1) dX13_fewest_14 (by decide) ?_
      refine r_icmp_eqN (tgt := 23) dX13_fewest_15 (by decide) (by omega) (by omega) (fun h15 => ?_) (fun h15 => ?_)
      · refine r_iconst (v := nI 4) dX13_fewest_23 (by decide) ?_
        refine r_goto (tgt := 28) dX13_fewest_24 (by decide) ?_
        exact r_iret (ty := .int) dX13_fewest_28 rfl rfl ⟨congrArg (fun x => Sum.inl (some (Value.int (nI x)))) (show 4 = fewN w from by unfold fewN; (repeat first | rw [if_pos (by first | assumption | omega)] | rw [if_neg (by first | assumption | omega)])), rfl⟩
      · refine r_iload_n dX13_fewest_18 rfl 0 rfl ?_
        refine r_iconst (v := nI 3) dX13_fewest_19 (by decide) ?_
        refine r_icmp_neN (tgt := 27) dX13_fewest_20 (by decide) (by omega) (by omega) (fun h20 => ?_) (fun h20 => ?_)
        · refine r_iconst (v := nI 1) dX13_fewest_27 (by decide) ?_
          exact r_iret (ty := .int) dX13_fewest_28 rfl rfl ⟨congrArg (fun x => Sum.inl (some (Value.int (nI x)))) (show 1 = fewN w from by unfold fewN; (repeat first | rw [if_pos (by first | assumption | omega)] | rw [if_neg (by first | assumption | omega)])), rfl⟩
        · refine r_iconst (v := nI 4) dX13_fewest_23 (by decide) ?_
          refine r_goto (tgt := 28) dX13_fewest_24 (by decide) ?_
          exact r_iret (ty := .int) dX13_fewest_28 rfl rfl ⟨congrArg (fun x => Sum.inl (some (Value.int (nI x)))) (show 4 = fewN w from by unfold fewN; (repeat first | rw [if_pos (by first | assumption | omega)] | rw [if_neg (by first | assumption | omega)])), rfl⟩
    · refine r_iconst (v := nI 3) dX13_fewest_9 (by decide) ?_
      refine r_goto (tgt := 28) dX13_fewest_10 (by decide) ?_
      exact r_iret (ty := .int) dX13_fewest_28 rfl rfl ⟨congrArg (fun x => Sum.inl (some (Value.int (nI x)))) (show 3 = fewN w from by unfold fewN; (repeat first | rw [if_pos (by first | assumption | omega)] | rw [if_neg (by first | assumption | omega)])), rfl⟩
set_option maxRecDepth 4000 in
theorem g_most {G : GI} {S : Hp} {w : Nat} (hw : w < 9) : Fn m_X13_most G [.int (nI w)] S (some (.int (nI (mosN w)))) S := by
  refine Cn.of rfl (by decide) (Nat.le_of_ble_eq_true rfl) (fun hN hM => ?_)
  show Wx _ G _ 0 [(0, .int (nI (w)))] [] _
  refine r_iload_n dX13_most_0 rfl 0 rfl ?_
  refine r_iconst (v := nI 3) dX13_most_1 (by decide) ?_
  refine r_icmp_neN (tgt := 10) dX13_most_2 (by decide) (by omega) (by omega) (fun h2 => ?_) (fun h2 => ?_)
  · refine r_iload_n dX13_most_10 rfl 0 rfl ?_
    refine r_fnS (M2 := m_X13_fewest) (As := [.int (nI (w))]) (rest := []) (v := some (.int (nI (fewN w)))) dX13_most_11 cc_X13_most_328 rfl rfl rfl (Nat.le_of_ble_eq_true rfl) (g_fewest (by omega)) rfl ?_
    exact r_iret (ty := .int) dX13_most_14 rfl rfl ⟨congrArg (fun x => Sum.inl (some (Value.int (nI x)))) (show fewN w = mosN w from by unfold mosN; (repeat first | rw [if_pos (by first | assumption | omega)] | rw [if_neg (by first | assumption | omega)])), rfl⟩
  · refine r_bipush (v := nI 6) dX13_most_5 (by decide) ?_
    refine r_goto (tgt := 14) dX13_most_7 (by decide) ?_
    exact r_iret (ty := .int) dX13_most_14 rfl rfl ⟨congrArg (fun x => Sum.inl (some (Value.int (nI x)))) (show 6 = mosN w from by unfold mosN; (repeat first | rw [if_pos (by first | assumption | omega)] | rw [if_neg (by first | assumption | omega)])), rfl⟩
