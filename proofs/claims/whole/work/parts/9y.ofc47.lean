set_option maxRecDepth 4000 in
set_option maxHeartbeats 400000 in
theorem q_character_0 {G : GI} {T : Hp} {m : Nat} {V : RVal} {g : Nat → Nat} {od : Nat → UInt64} (hs : RS T m)  {v0 cap0 : Nat} {pp : List (Nat × Nat)} (hpm : PM T m v0 cap0 pp) {i : Nat} (hi : i < tL pp) : Fn m_X13_character G [.ref m, .int (nI i)] (rput T m (sg V g) od) (some (.int (nI (tB pp i)))) (rput T m (sg (up2 V 0 (6) (nI 0)) g) od) := by
  refine Cn.of rfl (by decide) (Nat.le_of_ble_eq_true rfl) (fun hN hM => ?_)
  show Wx _ G _ 0 [(0, .ref (m)), (1, .int (nI (i)))] [] _
  refine r_aload_n dX13_character_0 rfl 0 rfl ?_
  refine r_iload_n dX13_character_1 rfl 1 rfl ?_
  refine r_iconst (v := nI 0) dX13_character_2 (by decide) ?_
  refine r_aload_n dX13_character_3 rfl 0 rfl ?_
  refine m_ref (k := 19) (j := 11) hs hs.2.1.2.2.2.2.2.2.2.2.2.2 dX13_character_4 fr_X13_50 rfl ?_
  obtain ⟨y, hj, hjb⟩ := hpm.at_ (V := sg V g) (od := od) hs
  have htx : TX (rput T m (sg V g) od) (m + 11) v0 cap0 pp (rput T m (sg V g) od) := ⟨_, _, _, hj, hjb⟩
  have hcc := hj.c142
  have hll := hj.le
  refine r_fnV (M2 := m_J4_length_8abf5) (As := []) (rest := [.int (nI (0)), .int (nI (i)), .ref (m)]) (v := some (.int (nI (tL pp)))) dX13_character_7 cc_X13_character_426 rfl rfl rfl (Nat.le_of_ble_eq_true rfl) hj.tb rfl rfl (by decide) (t_len htx) rfl ?_
  refine r_iconst (v := nI 1) dX13_character_10 (by decide) ?_
  refine r_isub dX13_character_11 ?_
  refine r_fnS (M2 := m_X13_in) (As := [.int (nI (i)), .int (nI (0)), .int (nI (tL pp) - nI 1)]) (rest := [.ref (m)]) (v := some (.int (nI (1)))) dX13_character_12 cc_X13_character_68 rfl rfl rfl (Nat.le_of_ble_eq_true rfl) (Fn.eq f_in (show some (Value.int (bI (nI 0 ≤ nI i ∧ nI i ≤ nI (tL pp) - nI 1))) = some (Value.int (nI 1)) from congrArg (fun x => some (Value.int x)) ((bI_iff (inR_iff0 (by omega))).trans (bI_t (vp_in_nI hi (by omega))))) rfl) rfl ?_
  refine r_if_eqN (tgt := 22) dX13_character_15 (by decide) (by omega) (fun zz15 => ?_) (fun zz15 => ?_)
  · exact absurd zz15 (by decide)
  · refine r_iconst (v := nI 0) dX13_character_18 (by decide) ?_
    refine r_goto (tgt := 23) dX13_character_19 (by decide) ?_
    refine o_put (k := 6) hs dX13_character_23 fw_X13_character_54 rfl rfl rfl ?_
    refine r_aload_n dX13_character_26 rfl 0 rfl ?_
    refine o_get (k := 6) hs dX13_character_27 fr_X13_54 rfl ?_
    refine Wx.top up2_s ?_
    refine r_if_leN (tgt := 38) dX13_character_30 (by decide) (by omega) (fun zz30 => ?_) (fun zz30 => ?_)
    · refine r_aload_n dX13_character_38 rfl 0 rfl ?_
      refine m_ref (k := 19) (j := 11) hs hs.2.1.2.2.2.2.2.2.2.2.2.2 dX13_character_39 fr_X13_50 rfl ?_
      refine r_iload_n dX13_character_42 rfl 1 rfl ?_
      obtain ⟨y2, hj2, hjb2⟩ := hpm.at_ (V := sg (up2 V 0 (6) (nI 0)) g) (od := od) hs
      refine r_fnV (M2 := m_J4_charAt_5068e) (As := [.int (nI (i))]) (rest := []) (v := some (.int (nI (tB pp i)))) dX13_character_43 cc_X13_character_427 rfl rfl rfl (Nat.le_of_ble_eq_true rfl) hj2.tb rfl rfl (by decide) (by have q9 := j_charAt (G := G) hj2 hi; rw [hjb2 i hi] at q9; exact q9) rfl ?_
      exact r_iret (ty := .char) dX13_character_46 rfl (show narrow .char (.int (nI (tB pp i))) = .int (nI (tB pp i)) from (pk_charN (by have := hj2.lt i; rw [hjb2 i hi] at this; omega)).1) ⟨rfl, rfl⟩
    · exact absurd zz30 (by decide)
set_option maxRecDepth 4000 in
set_option maxHeartbeats 400000 in
theorem q_character_1 {G : GI} {T : Hp} {m : Nat} {V : RVal} {g : Nat → Nat} {od : Nat → UInt64} (hs : RS T m)  {v0 cap0 : Nat} {pp : List (Nat × Nat)} (hpm : PM T m v0 cap0 pp) {x : Int32} (hx : ¬ vp_in x (tL pp)) : Fn m_X13_character G [.ref m, .int x] (rput T m (sg V g) od) (some (.int (nI (97)))) (rput T m (sg (up2 V 0 (6) (nI 1)) g) od) := by
  refine Cn.of rfl (by decide) (Nat.le_of_ble_eq_true rfl) (fun hN hM => ?_)
  show Wx _ G _ 0 [(0, .ref (m)), (1, .int (x))] [] _
  refine r_aload_n dX13_character_0 rfl 0 rfl ?_
  refine r_iload_n dX13_character_1 rfl 1 rfl ?_
  refine r_iconst (v := nI 0) dX13_character_2 (by decide) ?_
  refine r_aload_n dX13_character_3 rfl 0 rfl ?_
  refine m_ref (k := 19) (j := 11) hs hs.2.1.2.2.2.2.2.2.2.2.2.2 dX13_character_4 fr_X13_50 rfl ?_
  obtain ⟨y, hj, hjb⟩ := hpm.at_ (V := sg V g) (od := od) hs
  have htx : TX (rput T m (sg V g) od) (m + 11) v0 cap0 pp (rput T m (sg V g) od) := ⟨_, _, _, hj, hjb⟩
  have hcc := hj.c142
  have hll := hj.le
  refine r_fnV (M2 := m_J4_length_8abf5) (As := []) (rest := [.int (nI (0)), .int (x), .ref (m)]) (v := some (.int (nI (tL pp)))) dX13_character_7 cc_X13_character_426 rfl rfl rfl (Nat.le_of_ble_eq_true rfl) hj.tb rfl rfl (by decide) (t_len htx) rfl ?_
  refine r_iconst (v := nI 1) dX13_character_10 (by decide) ?_
  refine r_isub dX13_character_11 ?_
  refine r_fnS (M2 := m_X13_in) (As := [.int (x), .int (nI (0)), .int (nI (tL pp) - nI 1)]) (rest := [.ref (m)]) (v := some (.int (nI (0)))) dX13_character_12 cc_X13_character_68 rfl rfl rfl (Nat.le_of_ble_eq_true rfl) (Fn.eq f_in (show some (Value.int (bI (nI 0 ≤ x ∧ x ≤ nI (tL pp) - nI 1))) = some (Value.int (nI 0)) from congrArg (fun x => some (Value.int x)) ((bI_iff (inR_iff0 (by omega))).trans (bI_f hx))) rfl) rfl ?_
  refine r_if_eqN (tgt := 22) dX13_character_15 (by decide) (by omega) (fun zz15 => ?_) (fun zz15 => ?_)
  · refine r_iconst (v := nI 1) dX13_character_22 (by decide) ?_
    refine o_put (k := 6) hs dX13_character_23 fw_X13_character_54 rfl rfl rfl ?_
    refine r_aload_n dX13_character_26 rfl 0 rfl ?_
    refine o_get (k := 6) hs dX13_character_27 fr_X13_54 rfl ?_
    refine Wx.top up2_s ?_
    refine r_if_leN (tgt := 38) dX13_character_30 (by decide) (by omega) (fun zz30 => ?_) (fun zz30 => ?_)
    · exact absurd zz30 (by decide)
    · refine r_bipush (v := nI 97) dX13_character_33 (by decide) ?_
      refine r_goto (tgt := 46) dX13_character_35 (by decide) ?_
      exact r_iret (ty := .char) dX13_character_46 rfl (by decide) ⟨rfl, rfl⟩
  · exact absurd zz15 (by decide)
theorem JB.re {S0 S : Hp} {b v0 cap0 v cap n : Nat} {y : Nat → Nat} (h : JB S0 b v0 cap0 S v cap n y) : JB S b v cap S v cap n y := JB.start h.tb h.pv h.tv h.nv h.co h.cn h.ok h.le (funext h.yv) h.lt h.2.2.2.1.2
/-- the paper behind a report -/
theorem TX.pm {S0 T : Hp} {m v0 cap0 : Nat} {V : RVal} {od : Nat → UInt64} {ps : List (Nat × Nat)} (hs : RS T m) (h : TX S0 (m + 11) v0 cap0 ps (rput T m V od)) : ∃ v cap, PM T m v cap ps ∧ (v = v0 ∨ zX S0 ≤ v) ∧ zX T + fX cap = zX S0 + fX cap0 ∧ zU T + fU cap = zU S0 + fU cap0 := by
  obtain ⟨v, cap, y, hj, hy⟩ := h
  have hv : zT T v = 104 := hj.tv
  have e1 : ∀ f, zI (rput T m V od) f (m + 11) = zI T f (m + 11) := fun f => if_neg (by omega)
  have hn : ¬ (m + 1 ≤ v ∧ v ≤ m + 10) := fun q => hs.ne hv (j := v - m) (by omega) (by omega)
  exact ⟨v, cap, ⟨y, JB.start hj.tb hj.pv hj.tv hj.nv ((e1 33).symm.trans hj.co) ((e1 35).symm.trans hj.cn) hj.ok hj.le (funext fun i => ((if_neg hn).symm.trans (hj.yv i) : zA T v i = _)) hj.lt hj.2.2.2.1.2, hy⟩, hj.2.2.2.2.2.1.1, hj.2.2.2.2.2.2.1, hj.2.2.2.2.2.2.2⟩
