def numI (t : Nat → Nat) (h : Nat) : Nat → Nat
  | 0 => 0
  | k + 1 => 10 * numI t h k + (t (h + k) - 48)
def digP (x : Int32) : Prop := nI 48 ≤ x ∧ x ≤ nI 57
def nuV (V : RVal) (pl v h : Nat) : RVal := up2 (up2 V 10 pl (nI v)) 0 18 (nI h)
theorem nuV_s {V : RVal} {pl v h v' h' : Nat} : up2 (up2 (nuV V pl v h) 10 pl (nI v')) 0 18 (nI h') = nuV V pl v' h' := by
  funext a b
  unfold nuV up2
  by_cases h1 : a = 0 ∧ b = 18
  · rw [if_pos h1, if_pos h1]
  · rw [if_neg h1, if_neg h1]
    by_cases h2 : a = 10 ∧ b = pl
    · rw [if_pos h2, if_neg h1, if_pos h2]
    · rw [if_neg h2, if_neg h1, if_neg h2, if_neg h2]
theorem nuV_10 {V : RVal} {pl v h : Nat} : nuV V pl v h 10 pl = nI v := (up2_n (Or.inl (by decide))).trans up2_s
theorem numI_lt {t : Nat → Nat} {h : Nat} : ∀ {k : Nat}, (∀ i, i < k → t (h + i) ≤ 57) → numI t h k < 10 ^ k
  | 0, _ => (by decide : 0 < 10 ^ 0)
  | k + 1, hd => by
    have h1 := numI_lt (k := k) (fun i hi => hd i (by omega))
    have h2 := hd k (by omega)
    show 10 * numI t h k + (t (h + k) - 48) < 10 ^ (k + 1)
    rw [Nat.pow_succ]
    omega
/-- c digits are read at h, and no more -/
def NumP (t : Nat → Nat) (L h c : Nat) : Prop := 0 < c ∧ c ≤ 5 ∧ h + c ≤ L ∧ (∀ i, i < c → 48 ≤ t (h + i) ∧ t (h + i) ≤ 57) ∧ (∀ i, 0 < i → i < c → 0 < numI t h i) ∧ (c = 5 ∨ numI t h c = 0 ∨ ¬ digP (nwI t L (h + c)))
set_option maxRecDepth 4000 in
theorem g_number_f {G : GI} {T : Hp} {m : Nat} {V : RVal} {g : Nat → Nat} {od : Nat → UInt64} (hs : RS T m)  {t : Nat → Nat} {L h : Nat} (hx : TXT V t L h) {pl : Nat} (hpl : pl < 160) (hd : ¬ digP (nwI t L h)) : Fn m_X13_numberHere G [.ref (m), .int (nI (pl))] (rput T m (sg V g) od) (some (.int (nI (0)))) (rput T m (sg V (g)) od) := by
  refine Cn.of rfl (by decide) (Nat.le_of_ble_eq_true rfl) (fun hN hM => ?_)
  show Wx _ G _ 0 [(0, .ref (m)), (1, .int (nI (pl)))] [] _
  refine r_aload_n dX13_numberHere_0 rfl 0 rfl ?_
  refine r_fnV (M2 := m_X13_now) (As := []) (rest := []) (v := some (.int (nwI t L h))) dX13_numberHere_1 cc_X13_numberHere_334 rfl rfl rfl (Nat.le_of_ble_eq_true rfl) hs.1 rfl rfl (by decide) (g_now hs hx) rfl ?_
  refine r_bipush (v := nI 48) dX13_numberHere_4 (by decide) ?_
  refine r_bipush (v := nI 57) dX13_numberHere_6 (by decide) ?_
  refine r_fnS (M2 := m_X13_in) (As := [.int (nwI t L h), .int (nI (48)), .int (nI (57))]) (rest := []) (v := some (.int (bI (nI 48 ≤ nwI t L h ∧ nwI t L h ≤ nI 57)))) dX13_numberHere_8 cc_X13_numberHere_68 rfl rfl rfl (Nat.le_of_ble_eq_true rfl) f_in rfl ?_
  refine r_if_neB (tgt := 16) dX13_numberHere_11 (by decide) (fun h11 => ?_) (fun h11 => ?_)
  · exact absurd h11 hd
  · refine r_iconst (v := nI 0) dX13_numberHere_14 (by decide) ?_
    exact r_iret (ty := .boolean) dX13_numberHere_15 rfl (by decide) ⟨rfl, rfl⟩
set_option maxRecDepth 4000 in
theorem g_number_t {G : GI} {T : Hp} {m : Nat} {V : RVal} {g : Nat → Nat} {od : Nat → UInt64} (hs : RS T m)  {t : Nat → Nat} {L h : Nat} (hx : TXT V t L h) {pl : Nat} (hpl : pl < 160) {c : Nat} (hnp : NumP t L h c) : Fn m_X13_numberHere G [.ref (m), .int (nI (pl))] (rput T m (sg V g) od) (some (.int (nI (1)))) (rput T m (sg (nuV V pl (numI t h c) (h + c)) (g)) od) := by
  refine Cn.of rfl (by decide) (Nat.le_of_ble_eq_true rfl) (fun hN hM => ?_)
  show Wx _ G _ 0 [(0, .ref (m)), (1, .int (nI (pl)))] [] _
  obtain ⟨hc0, hc5, hcL, hdg, hps, hst⟩ := hnp
  have hd9 := hdg 0 hc0
  rw [Nat.add_zero] at hd9
  have hL60 := hx.2.2.1
  have hd0 : digP (nwI t L h) := by
    rw [nwI_t (by omega)]
    exact ⟨nI_le hd9.1 (by omega), nI_le hd9.2 (by decide)⟩
  refine r_aload_n dX13_numberHere_0 rfl 0 rfl ?_
  refine r_fnV (M2 := m_X13_now) (As := []) (rest := []) (v := some (.int (nwI t L h))) dX13_numberHere_1 cc_X13_numberHere_334 rfl rfl rfl (Nat.le_of_ble_eq_true rfl) hs.1 rfl rfl (by decide) (g_now hs hx) rfl ?_
  refine r_bipush (v := nI 48) dX13_numberHere_4 (by decide) ?_
  refine r_bipush (v := nI 57) dX13_numberHere_6 (by decide) ?_
  refine r_fnS (M2 := m_X13_in) (As := [.int (nwI t L h), .int (nI (48)), .int (nI (57))]) (rest := []) (v := some (.int (bI (nI 48 ≤ nwI t L h ∧ nwI t L h ≤ nI 57)))) dX13_numberHere_8 cc_X13_numberHere_68 rfl rfl rfl (Nat.le_of_ble_eq_true rfl) f_in rfl ?_
  refine r_if_neB (tgt := 16) dX13_numberHere_11 (by decide) (fun h11 => ?_) (fun h11 => ?_)
  · refine r_aload_n dX13_numberHere_16 rfl 0 rfl ?_
    refine m_ref (k := 16) (j := 10) hs hs.2.1.2.2.2.2.2.2.2.2.2.1 dX13_numberHere_17 fr_X13_44 rfl ?_
    refine r_iload_n dX13_numberHere_20 rfl 1 rfl ?_
    refine r_aload_n dX13_numberHere_21 rfl 0 rfl ?_
    refine r_fnV (M2 := m_X13_now) (As := []) (rest := [.int (nI (pl)), .ref (m + 10)]) (v := some (.int (nwI t L h))) dX13_numberHere_22 cc_X13_numberHere_334 rfl rfl rfl (Nat.le_of_ble_eq_true rfl) hs.1 rfl rfl (by decide) (g_now hs hx) rfl ?_
    refine Wx.top (nwI_t (by omega)) ?_
    refine r_bipush (v := nI 48) dX13_numberHere_25 (by decide) ?_
    refine r_isubN dX13_numberHere_27 (by (first | omega | (have := hx.2.2.1; omega))) ?_
    refine o_iast (j := 10) (n := 160) (i := pl) (by decide) hs rw10 dX13_numberHere_28 (by (first | omega | (have := hx.2.2.1; omega))) (by decide)  ?_
    refine r_aload_n dX13_numberHere_29 rfl 0 rfl ?_
    refine r_dup dX13_numberHere_30 rfl ?_
    refine o_get (k := 18) hs dX13_numberHere_31 fr_X13_331 rfl ?_
    refine Wx.top (up2_n (by omega)) ?_
    refine Wx.top hx.1 ?_
    refine r_iconst (v := nI 1) dX13_numberHere_34 (by decide) ?_
    refine r_iaddN dX13_numberHere_35 ?_
    refine o_put (k := 18) hs dX13_numberHere_36 fw_X13_numberHere_331 rfl rfl rfl ?_
    refine r_iconst (v := nI 1) dX13_numberHere_39 (by decide) ?_
    refine r_istore_n (lv' := [(2, .int (nI (1))), (0, .ref (m)), (1, .int (nI (pl)))]) dX13_numberHere_40 rfl (by decide) rfl ?_
    refine Wx.sub [1, 2, 0] rfl ?_
    refine Wx.st' (S' := rput T m (sg (nuV V pl (numI t h 1) (h + 1)) g) od) (by unfold nuV numI; rw [show 10 * numI t h 0 + (t (h + 0) - 48) = t h - 48 by show 10 * 0 + _ = _; rw [Nat.mul_zero, Nat.zero_add, Nat.add_zero]]) ?_
    refine Wx.loop (fun k => rput T m (sg (nuV V pl (numI t h k) (h + k)) g) od) (fun k => [(0, .ref (m)), (1, .int (nI (pl))), (2, .int (nI (k)))]) (c) (1) (by omega) (fun k hge hle next => ?_)
    show Wx _ G (rput T m (sg (nuV V pl (numI t h k) (h + k)) g) od) 41 [(0, .ref (m)), (1, .int (nI (pl))), (2, .int (nI (k)))] [] _
    have hxk : TXT (nuV V pl (numI t h k) (h + k)) t L (h + k) := (hx.o ⟨Or.inl (by decide), by decide⟩).at (by omega)
    have hlt := numI_lt (t := t) (h := h) (k := k) (fun i hi => (hdg i (by omega)).2)
    have hpw : 10 ^ k ≤ 10 ^ 5 := Nat.pow_le_pow_right (by decide) (by omega)
    refine r_iload_n dX13_numberHere_41 rfl 2 rfl ?_
    refine r_iconst (v := nI 5) dX13_numberHere_42 (by decide) ?_
    refine r_icmp_geN (tgt := 108) dX13_numberHere_43 (by decide) (by (first | omega | (have := hx.2.2.1; omega) | (have := hdg k (by omega); omega))) (by (first | omega | (have := hx.2.2.1; omega) | (have := hdg k (by omega); omega))) (fun h43 => ?_) (fun h43 => ?_)
    · obtain rfl : k = c := by
        refine Nat.le_antisymm hle (Nat.le_of_not_lt fun q => ?_)
        omega
      refine r_iconst (v := nI 1) dX13_numberHere_108 (by decide) ?_
      exact r_iret (ty := .boolean) dX13_numberHere_109 rfl (by decide) ⟨rfl, rfl⟩
    · refine r_aload_n dX13_numberHere_46 rfl 0 rfl ?_
      refine m_ref (k := 16) (j := 10) hs hs.2.1.2.2.2.2.2.2.2.2.2.1 dX13_numberHere_47 fr_X13_44 rfl ?_
      refine r_iload_n dX13_numberHere_50 rfl 1 rfl ?_
      refine o_iald (j := 10) (n := 160) (i := pl) (by decide) hs rw10 dX13_numberHere_51 (by (first | omega | (have := hx.2.2.1; omega) | (have := hdg k (by omega); omega))) (by decide) ?_
      refine Wx.top nuV_10 ?_
      refine r_if_leN (tgt := 108) dX13_numberHere_52 (by decide) (by (first | omega | (have := hx.2.2.1; omega) | (have := hdg k (by omega); omega))) (fun h52 => ?_) (fun h52 => ?_)
      · obtain rfl : k = c := by
          refine Nat.le_antisymm hle (Nat.le_of_not_lt fun q => ?_)
          have := hps k (by omega) q; omega
        refine r_iconst (v := nI 1) dX13_numberHere_108 (by decide) ?_
        exact r_iret (ty := .boolean) dX13_numberHere_109 rfl (by decide) ⟨rfl, rfl⟩
      · refine r_aload_n dX13_numberHere_55 rfl 0 rfl ?_
        refine r_fnV (M2 := m_X13_now) (As := []) (rest := []) (v := some (.int (nwI t L (h + k)))) dX13_numberHere_56 cc_X13_numberHere_334 rfl rfl rfl (Nat.le_of_ble_eq_true rfl) hs.1 rfl rfl (by decide) (Fn.eq (g_now hs hxk) rfl rfl) rfl ?_
        refine r_bipush (v := nI 48) dX13_numberHere_59 (by decide) ?_
        refine r_bipush (v := nI 57) dX13_numberHere_61 (by decide) ?_
        refine r_fnS (M2 := m_X13_in) (As := [.int (nwI t L (h + k)), .int (nI (48)), .int (nI (57))]) (rest := []) (v := some (.int (bI (nI 48 ≤ nwI t L (h + k) ∧ nwI t L (h + k) ≤ nI 57)))) dX13_numberHere_63 cc_X13_numberHere_68 rfl rfl rfl (Nat.le_of_ble_eq_true rfl) f_in rfl ?_
        refine r_if_eqB (tgt := 108) dX13_numberHere_66 (by decide) (fun h66 => ?_) (fun h66 => ?_)
        · obtain rfl : k = c := by
            refine Nat.le_antisymm hle (Nat.le_of_not_lt fun q => ?_)
            exact h66 (by rw [nwI_t (by omega)]; have := hdg k q; exact ⟨nI_le this.1 (by omega), nI_le this.2 (by decide)⟩)
          refine r_iconst (v := nI 1) dX13_numberHere_108 (by decide) ?_
          exact r_iret (ty := .boolean) dX13_numberHere_109 rfl (by decide) ⟨rfl, rfl⟩
        · have hkc : k < c := by
            refine Nat.lt_of_not_le fun q => ?_
            obtain rfl : k = c := by omega
            rcases hst with q1 | q1 | q1
            · omega
            · omega
            · exact q1 h66
          have hdk := hdg k hkc
          refine r_aload_n dX13_numberHere_69 rfl 0 rfl ?_
          refine m_ref (k := 16) (j := 10) hs hs.2.1.2.2.2.2.2.2.2.2.2.1 dX13_numberHere_70 fr_X13_44 rfl ?_
          refine r_iload_n dX13_numberHere_73 rfl 1 rfl ?_
          refine r_bipush (v := nI 10) dX13_numberHere_74 (by decide) ?_
          refine r_aload_n dX13_numberHere_76 rfl 0 rfl ?_
          refine m_ref (k := 16) (j := 10) hs hs.2.1.2.2.2.2.2.2.2.2.2.1 dX13_numberHere_77 fr_X13_44 rfl ?_
          refine r_iload_n dX13_numberHere_80 rfl 1 rfl ?_
          refine o_iald (j := 10) (n := 160) (i := pl) (by decide) hs rw10 dX13_numberHere_81 (by (first | omega | (have := hx.2.2.1; omega) | (have := hdg k (by omega); omega))) (by decide) ?_
          refine Wx.top nuV_10 ?_
          refine r_imulN dX13_numberHere_82 ?_
          refine r_aload_n dX13_numberHere_83 rfl 0 rfl ?_
          refine r_fnV (M2 := m_X13_now) (As := []) (rest := [.int (nI (10 * (numI t h k))), .int (nI (pl)), .ref (m + 10)]) (v := some (.int (nwI t L (h + k)))) dX13_numberHere_84 cc_X13_numberHere_334 rfl rfl rfl (Nat.le_of_ble_eq_true rfl) hs.1 rfl rfl (by decide) (Fn.eq (g_now hs hxk) rfl rfl) rfl ?_
          refine Wx.top (nwI_t (by omega)) ?_
          refine r_iaddN dX13_numberHere_87 ?_
          refine r_bipush (v := nI 48) dX13_numberHere_88 (by decide) ?_
          refine r_isubN dX13_numberHere_90 (by (first | omega | (have := hx.2.2.1; omega) | (have := hdg k (by omega); omega))) ?_
          refine Wx.topN (show 10 * numI t h k + t (h + k) - 48 = numI t h (k + 1) by show _ = 10 * numI t h k + (t (h + k) - 48); omega) ?_
          refine o_iast (j := 10) (n := 160) (i := pl) (by decide) hs rw10 dX13_numberHere_91 (by (first | omega | (have := hx.2.2.1; omega) | (have := hdg k (by omega); omega))) (by decide)  ?_
          refine r_aload_n dX13_numberHere_92 rfl 0 rfl ?_
          refine r_dup dX13_numberHere_93 rfl ?_
          refine o_get (k := 18) hs dX13_numberHere_94 fr_X13_331 rfl ?_
          refine Wx.top (up2_n (by omega)) ?_
          refine Wx.top hxk.1 ?_
          refine r_iconst (v := nI 1) dX13_numberHere_97 (by decide) ?_
          refine r_iaddN dX13_numberHere_98 ?_
          refine o_put (k := 18) hs dX13_numberHere_99 fw_X13_numberHere_331 rfl rfl rfl ?_
          refine r_iincN (k := 1) (lv' := [(2, .int (nI (k + 1))), (0, .ref (m)), (1, .int (nI (pl)))]) dX13_numberHere_102 (by decide) 2 rfl (by decide) rfl ?_
          refine r_goto (tgt := 41) dX13_numberHere_105 (by decide) ?_
          refine Wx.sub [1, 2, 0] rfl ?_
          have n2 := next hkc
          rw [← nuV_s] at n2
          exact n2
  · exact absurd hd0 h11
