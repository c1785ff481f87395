/-! THE REFERENCE's PAPER -/
def PM (T : Hp) (m v0 cap0 : Nat) (ps : List (Nat × Nat)) : Prop := ∃ y, JB T (m + 11) v0 cap0 T v0 cap0 (tL ps) y ∧ ∀ i, i < tL ps → y i = tB ps i
section PmRules
variable {T U : Hp} {m v0 cap0 : Nat} {V : RVal} {od : Nat → UInt64} {ps : List (Nat × Nat)}
theorem RS.ne (hs : RS T m) (hv : zT T v0 = 104) {j : Nat} (hj : j ≤ 10) : v0 ≠ m + j := by
  intro e
  subst e
  obtain ⟨t0, -, ⟨t1, t2, t3, t4, t5, t6, t7, t8, t9, t10⟩, -⟩ := hs
  obtain rfl | rfl | rfl | rfl | rfl | rfl | rfl | rfl | rfl | rfl | rfl : j = 0 ∨ j = 1 ∨ j = 2 ∨ j = 3 ∨ j = 4 ∨ j = 5 ∨ j = 6 ∨ j = 7 ∨ j = 8 ∨ j = 9 ∨ j = 10 := by omega
  · rw [Nat.add_zero, t0] at hv; exact absurd hv (by decide)
  · rw [t1] at hv; exact absurd hv (by decide)
  · rw [t2] at hv; exact absurd hv (by decide)
  · rw [t3] at hv; exact absurd hv (by decide)
  · rw [t4] at hv; exact absurd hv (by decide)
  · rw [t5] at hv; exact absurd hv (by decide)
  · rw [t6] at hv; exact absurd hv (by decide)
  · rw [t7] at hv; exact absurd hv (by decide)
  · rw [t8] at hv; exact absurd hv (by decide)
  · rw [t9] at hv; exact absurd hv (by decide)
  · rw [t10] at hv; exact absurd hv (by decide)
theorem RS.nz (hs : RS T m) {j : Nat} (hj : j ≤ 10) : zT T (m + j) ≠ 0 := by
  obtain ⟨t0, -, ⟨t1, t2, t3, t4, t5, t6, t7, t8, t9, t10⟩, -⟩ := hs
  obtain rfl | rfl | rfl | rfl | rfl | rfl | rfl | rfl | rfl | rfl | rfl : j = 0 ∨ j = 1 ∨ j = 2 ∨ j = 3 ∨ j = 4 ∨ j = 5 ∨ j = 6 ∨ j = 7 ∨ j = 8 ∨ j = 9 ∨ j = 10 := by omega
  · rw [Nat.add_zero, t0]; decide
  · rw [t1]; decide
  · rw [t2]; decide
  · rw [t3]; decide
  · rw [t4]; decide
  · rw [t5]; decide
  · rw [t6]; decide
  · rw [t7]; decide
  · rw [t8]; decide
  · rw [t9]; decide
  · rw [t10]; decide
theorem PM.tv (h : PM T m v0 cap0 ps) : zT T v0 = 104 := by
  obtain ⟨y, hj, -⟩ := h
  exact hj.tv
theorem PM.at_ (hs : RS T m) (h : PM T m v0 cap0 ps) : ∃ y, JB (rput T m V od) (m + 11) v0 cap0 (rput T m V od) v0 cap0 (tL ps) y ∧ ∀ i, i < tL ps → y i = tB ps i := by
  have hv := h.tv
  obtain ⟨y, hj, hy⟩ := h
  have e1 : ∀ f, zI (rput T m V od) f (m + 11) = zI T f (m + 11) := fun f => if_neg (by omega)
  have hn : ¬ (m + 1 ≤ v0 ∧ v0 ≤ m + 10) := fun q => hs.ne hv (j := v0 - m) (by omega) (by omega)
  exact ⟨y, JB.start hj.tb hj.pv hj.tv hj.nv ((e1 33).trans hj.co) ((e1 35).trans hj.cn) hj.ok hj.le (funext fun i => (if_neg hn).trans (hj.yv i)) hj.lt hj.2.2.2.1.1, hy⟩
theorem m_keep (hs : RS T m) (hv : zT T v0 = 104) (h : TX (rput T m V od) (m + 11) v0 cap0 ps U) : ∃ T2, U = rput T2 m V od ∧ RS T2 m ∧ TX (rput T m V od) (m + 11) v0 cap0 ps (rput T2 m V od) := by
  have hf : ∀ j, j ≤ 10 → (zT U (m + j) = zT T (m + j) ∧ zN U (m + j) = zN T (m + j)) ∧ Same (rput T m V od) U (m + j) := fun j hj => ⟨(h.fr (a := m + j) (hs.nz hj)).1, (h.fr (a := m + j) (hs.nz hj)).2 (by omega) (Ne.symm (hs.ne hv hj))⟩
  have h0 := hf 0 (by decide)
  rw [Nat.add_zero] at h0
  have hU : U = rput U m V od := by
    unfold rput
    refine Prod.ext rfl (Prod.ext rfl (Prod.ext ?_ (Prod.ext rfl (Prod.ext ?_ (Prod.ext rfl (Prod.ext ?_ rfl))))))
    · funext f a
      show zI U f a = if a = m ∧ 448 ≤ f then V 0 (f - 448) else zI U f a
      by_cases q : a = m ∧ 448 ≤ f
      · rw [if_pos q, q.1, h0.2.1 f]; exact if_pos ⟨rfl, q.2⟩
      · rw [if_neg q]
    · funext a i
      show zA U a i = if m + 1 ≤ a ∧ a ≤ m + 10 then V (a - m) i else zA U a i
      by_cases q : m + 1 ≤ a ∧ a ≤ m + 10
      · have h1 := (hf (a - m) (by omega)).2.2.2.1
        rw [show m + (a - m) = a by omega] at h1
        rw [if_pos q, h1]; exact if_pos q
      · rw [if_neg q]
    · funext a i
      show zD U a i = if a = m + 6 then od i else zD U a i
      by_cases q : a = m + 6
      · rw [if_pos q, q, (hf 6 (by decide)).2.2.2.2.2.1]; exact if_pos rfl
      · rw [if_neg q]
  refine ⟨U, hU, ?_, hU ▸ h⟩
  obtain ⟨t0, ⟨p1, p2, p3, p4, p5, p6, p7, p8, p9, p10, p11⟩, ⟨t1, t2, t3, t4, t5, t6, t7, t8, t9, t10⟩, n1, n2, n3, n4, n5, n6, n7, n8, n9, n10⟩ := hs
  have P := h0.2.2.1
  exact ⟨h0.1.1.trans t0, ⟨(P _).trans p1, (P _).trans p2, (P _).trans p3, (P _).trans p4, (P _).trans p5, (P _).trans p6, (P _).trans p7, (P _).trans p8, (P _).trans p9, (P _).trans p10, (P _).trans p11⟩,
    ⟨(hf 1 (by decide)).1.1.trans t1, (hf 2 (by decide)).1.1.trans t2, (hf 3 (by decide)).1.1.trans t3, (hf 4 (by decide)).1.1.trans t4, (hf 5 (by decide)).1.1.trans t5, (hf 6 (by decide)).1.1.trans t6, (hf 7 (by decide)).1.1.trans t7, (hf 8 (by decide)).1.1.trans t8, (hf 9 (by decide)).1.1.trans t9, (hf 10 (by decide)).1.1.trans t10⟩,
    (hf 1 (by decide)).1.2.trans n1, (hf 2 (by decide)).1.2.trans n2, (hf 3 (by decide)).1.2.trans n3, (hf 4 (by decide)).1.2.trans n4, (hf 5 (by decide)).1.2.trans n5, (hf 6 (by decide)).1.2.trans n6, (hf 7 (by decide)).1.2.trans n7, (hf 8 (by decide)).1.2.trans n8, (hf 9 (by decide)).1.2.trans n9, (hf 10 (by decide)).1.2.trans n10⟩
end PmRules
set_option maxRecDepth 4000 in
set_option maxHeartbeats 400000 in
theorem m_sev_0 {G : GI} {S : Hp} : Fn m_X13_severityName G [.int (nI 0)] S (some (.ref (gK G 2 (sevQ 0)))) S := by
  refine Cn.of rfl (by decide) (Nat.le_of_ble_eq_true rfl) (fun hN hM => ?_)
  show Wx _ G _ 0 [(0, .int (nI (0)))] [] _
  refine r_iload_n dX13_severityName_0 rfl 0 rfl ?_
  refine r_if_neN (tgt := 10) dX13_severityName_1 (by decide) (by omega) (fun zz1 => ?_) (fun zz1 => ?_)
  · exact absurd zz1 (by decide)
  · refine r_ldcwS (a := gK G 2 15) (tx := "normal") (fun U h => h.2.2.2.1.2 ("LotInspectorModel", 378, "normal", 15) (List.mem_of_getElem? (i := 29) rfl)) dX13_severityName_4 ?_
    refine r_goto (tgt := 24) dX13_severityName_7 (by decide) ?_
    exact r_aret (v := some (gK G 2 15)) dX13_severityName_24 rfl (Or.inl ⟨_, rfl⟩) ⟨rfl, rfl⟩
set_option maxRecDepth 4000 in
set_option maxHeartbeats 400000 in
theorem m_sev_1 {G : GI} {S : Hp} : Fn m_X13_severityName G [.int (nI 1)] S (some (.ref (gK G 2 (sevQ 1)))) S := by
  refine Cn.of rfl (by decide) (Nat.le_of_ble_eq_true rfl) (fun hN hM => ?_)
  show Wx _ G _ 0 [(0, .int (nI (1)))] [] _
  refine r_iload_n dX13_severityName_0 rfl 0 rfl ?_
  refine r_if_neN (tgt := 10) dX13_severityName_1 (by decide) (by omega) (fun zz1 => ?_) (fun zz1 => ?_)
  · refine r_iload_n dX13_severityName_10 rfl 0 rfl ?_
    refine r_iconst (v := nI 1) dX13_severityName_11 (by decide) ?_
    refine r_icmp_neN (tgt := 21) dX13_severityName_12 (by decide) (by omega) (by omega) (fun zz12 => ?_) (fun zz12 => ?_)
    · exact absurd zz12 (by decide)
    · refine r_ldcwS (a := gK G 2 16) (tx := "tightened") (fun U h => h.2.2.2.1.2 ("LotInspectorModel", 380, "tightened", 16) (List.mem_of_getElem? (i := 30) rfl)) dX13_severityName_15 ?_
      refine r_goto (tgt := 24) dX13_severityName_18 (by decide) ?_
      exact r_aret (v := some (gK G 2 16)) dX13_severityName_24 rfl (Or.inl ⟨_, rfl⟩) ⟨rfl, rfl⟩
  · exact absurd zz1 (by decide)
set_option maxRecDepth 4000 in
set_option maxHeartbeats 400000 in
theorem m_sev_2 {G : GI} {S : Hp} : Fn m_X13_severityName G [.int (nI 2)] S (some (.ref (gK G 2 (sevQ 2)))) S := by
  refine Cn.of rfl (by decide) (Nat.le_of_ble_eq_true rfl) (fun hN hM => ?_)
  show Wx _ G _ 0 [(0, .int (nI (2)))] [] _
  refine r_iload_n dX13_severityName_0 rfl 0 rfl ?_
  refine r_if_neN (tgt := 10) dX13_severityName_1 (by decide) (by omega) (fun zz1 => ?_) (fun zz1 => ?_)
  · refine r_iload_n dX13_severityName_10 rfl 0 rfl ?_
    refine r_iconst (v := nI 1) dX13_severityName_11 (by decide) ?_
    refine r_icmp_neN (tgt := 21) dX13_severityName_12 (by decide) (by omega) (by omega) (fun zz12 => ?_) (fun zz12 => ?_)
    · refine r_ldcwS (a := gK G 2 17) (tx := "reduced") (fun U h => h.2.2.2.1.2 ("LotInspectorModel", 382, "reduced", 17) (List.mem_of_getElem? (i := 31) rfl)) dX13_severityName_21 ?_
      exact r_aret (v := some (gK G 2 17)) dX13_severityName_24 rfl (Or.inl ⟨_, rfl⟩) ⟨rfl, rfl⟩
    · exact absurd zz12 (by decide)
  · exact absurd zz1 (by decide)
theorem m_sevName {G : GI} {S : Hp} {z : Nat} (hz : z < 3) : Fn m_X13_severityName G [.int (nI z)] S (some (.ref (gK G 2 (sevQ z)))) S := by
  obtain rfl | rfl | rfl : z = 0 ∨ z = 1 ∨ z = 2 := by omega
  · exact m_sev_0
  · exact m_sev_1
  · exact m_sev_2
set_option maxRecDepth 4000 in
set_option maxHeartbeats 400000 in
theorem m_sta_0 {G : GI} {S : Hp} : Fn m_X13_statusName G [.int (nI 0)] S (some (.ref (gK G 2 (staQ 0)))) S := by
  refine Cn.of rfl (by decide) (Nat.le_of_ble_eq_true rfl) (fun hN hM => ?_)
  show Wx _ G _ 0 [(0, .int (nI (0)))] [] _
  refine r_iload_n dX13_statusName_0 rfl 0 rfl ?_
  refine r_if_neN (tgt := 10) dX13_statusName_1 (by decide) (by omega) (fun zz1 => ?_) (fun zz1 => ?_)
  · exact absurd zz1 (by decide)
  · refine r_ldcwS (a := gK G 2 19) (tx := "waiting") (fun U h => h.2.2.2.1.2 ("LotInspectorModel", 384, "waiting", 19) (List.mem_of_getElem? (i := 33) rfl)) dX13_statusName_4 ?_
    refine r_goto (tgt := 35) dX13_statusName_7 (by decide) ?_
    exact r_aret (v := some (gK G 2 19)) dX13_statusName_35 rfl (Or.inl ⟨_, rfl⟩) ⟨rfl, rfl⟩
set_option maxRecDepth 4000 in
set_option maxHeartbeats 400000 in
theorem m_sta_1 {G : GI} {S : Hp} : Fn m_X13_statusName G [.int (nI 1)] S (some (.ref (gK G 2 (staQ 1)))) S := by
  refine Cn.of rfl (by decide) (Nat.le_of_ble_eq_true rfl) (fun hN hM => ?_)
  show Wx _ G _ 0 [(0, .int (nI (1)))] [] _
  refine r_iload_n dX13_statusName_0 rfl 0 rfl ?_
  refine r_if_neN (tgt := 10) dX13_statusName_1 (by decide) (by omega) (fun zz1 => ?_) (fun zz1 => ?_)
  · refine r_iload_n dX13_statusName_10 rfl 0 rfl ?_
    refine r_iconst (v := nI 1) dX13_statusName_11 (by decide) ?_
    refine r_icmp_neN (tgt := 21) dX13_statusName_12 (by decide) (by omega) (by omega) (fun zz12 => ?_) (fun zz12 => ?_)
    · exact absurd zz12 (by decide)
    · refine r_ldcwS (a := gK G 2 20) (tx := "accepted") (fun U h => h.2.2.2.1.2 ("LotInspectorModel", 386, "accepted", 20) (List.mem_of_getElem? (i := 34) rfl)) dX13_statusName_15 ?_
      refine r_goto (tgt := 35) dX13_statusName_18 (by decide) ?_
      exact r_aret (v := some (gK G 2 20)) dX13_statusName_35 rfl (Or.inl ⟨_, rfl⟩) ⟨rfl, rfl⟩
  · exact absurd zz1 (by decide)
set_option maxRecDepth 4000 in
set_option maxHeartbeats 400000 in
theorem m_sta_2 {G : GI} {S : Hp} : Fn m_X13_statusName G [.int (nI 2)] S (some (.ref (gK G 2 (staQ 2)))) S := by
  refine Cn.of rfl (by decide) (Nat.le_of_ble_eq_true rfl) (fun hN hM => ?_)
  show Wx _ G _ 0 [(0, .int (nI (2)))] [] _
  refine r_iload_n dX13_statusName_0 rfl 0 rfl ?_
  refine r_if_neN (tgt := 10) dX13_statusName_1 (by decide) (by omega) (fun zz1 => ?_) (fun zz1 => ?_)
  · refine r_iload_n dX13_statusName_10 rfl 0 rfl ?_
    refine r_iconst (v := nI 1) dX13_statusName_11 (by decide) ?_
    refine r_icmp_neN (tgt := 21) dX13_statusName_12 (by decide) (by omega) (by omega) (fun zz12 => ?_) (fun zz12 => ?_)
    · refine r_iload_n dX13_statusName_21 rfl 0 rfl ?_
      refine r_iconst (v := nI 2) dX13_statusName_22 (by decide) ?_
      refine r_icmp_neN (tgt := 32) dX13_statusName_23 (by decide) (by omega) (by omega) (fun zz23 => ?_) (fun zz23 => ?_)
      · exact absurd zz23 (by decide)
      · refine r_ldcwS (a := gK G 2 21) (tx := "rejected") (fun U h => h.2.2.2.1.2 ("LotInspectorModel", 388, "rejected", 21) (List.mem_of_getElem? (i := 35) rfl)) dX13_statusName_26 ?_
        refine r_goto (tgt := 35) dX13_statusName_29 (by decide) ?_
        exact r_aret (v := some (gK G 2 21)) dX13_statusName_35 rfl (Or.inl ⟨_, rfl⟩) ⟨rfl, rfl⟩
    · exact absurd zz12 (by decide)
  · exact absurd zz1 (by decide)
set_option maxRecDepth 4000 in
set_option maxHeartbeats 400000 in
theorem m_sta_3 {G : GI} {S : Hp} : Fn m_X13_statusName G [.int (nI 3)] S (some (.ref (gK G 2 (staQ 3)))) S := by
  refine Cn.of rfl (by decide) (Nat.le_of_ble_eq_true rfl) (fun hN hM => ?_)
  show Wx _ G _ 0 [(0, .int (nI (3)))] [] _
  refine r_iload_n dX13_statusName_0 rfl 0 rfl ?_
  refine r_if_neN (tgt := 10) dX13_statusName_1 (by decide) (by omega) (fun zz1 => ?_) (fun zz1 => ?_)
  · refine r_iload_n dX13_statusName_10 rfl 0 rfl ?_
    refine r_iconst (v := nI 1) dX13_statusName_11 (by decide) ?_
    refine r_icmp_neN (tgt := 21) dX13_statusName_12 (by decide) (by omega) (by omega) (fun zz12 => ?_) (fun zz12 => ?_)
    · refine r_iload_n dX13_statusName_21 rfl 0 rfl ?_
      refine r_iconst (v := nI 2) dX13_statusName_22 (by decide) ?_
      refine r_icmp_neN (tgt := 32) dX13_statusName_23 (by decide) (by omega) (by omega) (fun zz23 => ?_) (fun zz23 => ?_)
      · refine r_ldcwS (a := gK G 2 22) (tx := "shipped") (fun U h => h.2.2.2.1.2 ("LotInspectorModel", 390, "shipped", 22) (List.mem_of_getElem? (i := 36) rfl)) dX13_statusName_32 ?_
        exact r_aret (v := some (gK G 2 22)) dX13_statusName_35 rfl (Or.inl ⟨_, rfl⟩) ⟨rfl, rfl⟩
      · exact absurd zz23 (by decide)
    · exact absurd zz12 (by decide)
  · exact absurd zz1 (by decide)
theorem m_staName {G : GI} {S : Hp} {z : Nat} (hz : z < 4) : Fn m_X13_statusName G [.int (nI z)] S (some (.ref (gK G 2 (staQ z)))) S := by
  obtain rfl | rfl | rfl | rfl : z = 0 ∨ z = 1 ∨ z = 2 ∨ z = 3 := by omega
  · exact m_sta_0
  · exact m_sta_1
  · exact m_sta_2
  · exact m_sta_3
set_option maxRecDepth 4000 in
set_option maxHeartbeats 400000 in
theorem q_report_0 {G : GI} {T : Hp} {m : Nat} {V : RVal} {g : Nat → Nat} {od : Nat → UInt64} (hs : RS T m)  (h24 : g 0 ≤ 24) (hb : WB g) {a : Nat} (ha : a < g 0) (hz : g (90 + 13 * a + 1) ≤ 200) (hpr : g (90 + 13 * a + 0) < 4) (hst : g (90 + 13 * a + 2) < 4) (hi3 : g (90 + 13 * a + 3) < 2147483648) (hin : g (90 + 13 * a + 3) ≠ 0 → g (90 + 13 * a + 4) < 3 ∧ g (90 + 13 * a + 5) ≤ 32 ∧ g (90 + 13 * a + 6) ≤ 32 ∧ g (90 + 13 * a + 7) ≤ 200) {v0 cap0 : Nat} {pp : List (Nat × Nat)} (hpm : PM T m v0 cap0 pp) (g1 : zX T + fX cap0 ≤ gN G) (g2 : zU T + fU cap0 ≤ gM G) : Cn m_X13_report G [.ref m, .int (nI a)] (rput T m (sg V g) od) (fun r U => r = .inl (some (.int (nI (tL (rep g a))))) ∧ ∃ T2, U = rput T2 m (sg (up2 V 0 (6) (nI 0)) g) od ∧ RS T2 m ∧ TX (rput T m (sg (up2 V 0 (6) (nI 0)) g) od) (m + 11) v0 cap0 (rep g a) U) := by
  refine Cn.of rfl (by decide) (Nat.le_of_ble_eq_true rfl) (fun hN hM => ?_)
  show Wx _ G _ 0 [(0, .ref (m)), (1, .int (nI (a)))] [] _
  refine r_aload_n dX13_report_0 rfl 0 rfl ?_
  refine r_aload_n dX13_report_1 rfl 0 rfl ?_
  refine r_iload_n dX13_report_2 rfl 1 rfl ?_
  refine r_fnV (M2 := m_X13_isLot) (As := [.int (nI (a))]) (rest := [.ref (m)]) (v := some (.int (nI (1)))) dX13_report_3 cc_X13_report_76 rfl rfl rfl (Nat.le_of_ble_eq_true rfl) hs.1 rfl rfl (by decide) (Fn.eq (g_isLot hs h24) (congrArg (fun x => some (Value.int x)) (bI_t (vp_in_nI (by omega) (by first | decide | omega)))) rfl) rfl ?_
  refine r_if_eqN (tgt := 13) dX13_report_6 (by decide) (by omega) (fun zz6 => ?_) (fun zz6 => ?_)
  · exact absurd zz6 (by decide)
  · refine r_iconst (v := nI 0) dX13_report_9 (by decide) ?_
    refine r_goto (tgt := 14) dX13_report_10 (by decide) ?_
    refine o_put (k := 6) hs dX13_report_14 fw_X13_report_54 rfl rfl rfl ?_
    refine r_aload_n dX13_report_17 rfl 0 rfl ?_
    refine o_get (k := 6) hs dX13_report_18 fr_X13_54 rfl ?_
    refine Wx.top up2_s ?_
    refine r_if_leN (tgt := 26) dX13_report_21 (by decide) (by omega) (fun zz21 => ?_) (fun zz21 => ?_)
    · have hs0 := hs
      have hv0 := hpm.tv
      obtain ⟨y, hj, hjb⟩ := hpm.at_ (V := sg (up2 V 0 (6) (nI 0)) g) (od := od) hs
      have hi9 : inS g a 0 ≤ g (90 + 13 * a + 1) := cnt_le _ _
      refine r_aload_n dX13_report_26 rfl 0 rfl ?_
      refine m_ref (k := 19) (j := 11) hs hs.2.1.2.2.2.2.2.2.2.2.2.2 dX13_report_27 fr_X13_50 rfl ?_
      refine r_iconst (v := nI 0) dX13_report_30 (by decide) ?_
      refine r_callV (M2 := m_J4_setLength_d00df) (As := [.int (nI (0))]) (rest := []) dX13_report_31 cc_X13_report_392 rfl rfl rfl (Nat.le_of_ble_eq_true rfl) hj.tb rfl rfl (by decide) (t_set0 hj g1 g2) (fun v9 U9 hq => ?_) (fun E9 T9 hq => by cases hq.1)
      obtain ⟨hv9, ht⟩ := hq
      cases hv9
      obtain ⟨T, rfl, hs, ht⟩ := m_keep hs0 hv0 ht
      show Wx _ G (rput T m (sg (up2 V 0 (6) (nI 0)) g) od) 34 [(0, .ref (m)), (1, .int (nI (a)))] [] _
      refine r_aload_n dX13_report_34 rfl 0 rfl ?_
      refine m_ref (k := 19) (j := 11) hs hs.2.1.2.2.2.2.2.2.2.2.2.2 dX13_report_35 fr_X13_50 rfl ?_
      refine r_ldcwS (a := gK G 2 9) (tx := "lot ") (fun U h => h.2.2.2.1.2 ("LotInspectorModel", 396, "lot ", 9) (List.mem_of_getElem? (i := 23) rfl)) dX13_report_38 ?_
      refine r_callV (M2 := m_J4_append_15ec4) (As := [.ref (gK G 2 9)]) (rest := []) dX13_report_41 cc_X13_report_398 rfl rfl rfl (Nat.le_of_ble_eq_true rfl) ht.tb rfl rfl (by decide) (t_S ht g1 g2 (q := 9) (by decide) (by have := (show tL [] ≤ 0 from Nat.le_refl 0); have h9 : pL (0, 9) ≤ 4 := (by decide); have h8 : pL (0, 9) = strL.getD (9) 0 := rfl; omega)) (fun v9 U9 hq => ?_) (fun E9 T9 hq => by cases hq.1)
      obtain ⟨hv9, ht_1⟩ := hq
      cases hv9
      obtain ⟨T, rfl, hs, ht_1⟩ := m_keep hs0 hv0 ht_1
      show Wx _ G (rput T m (sg (up2 V 0 (6) (nI 0)) g) od) 44 [(0, .ref (m)), (1, .int (nI (a)))] [.ref (m + 11)] _
      have hbd : tL [(0, 9)] ≤ 4 := tL_c (n := 0) (k := 4) (show tL [] ≤ 0 from Nat.le_refl 0) ((by decide))
      refine r_iload_n dX13_report_44 rfl 1 rfl ?_
      refine r_callV (M2 := m_J4_append_bf812) (As := [.int (nI (a))]) (rest := []) dX13_report_45 cc_X13_report_402 rfl rfl rfl (Nat.le_of_ble_eq_true rfl) ht_1.tb rfl rfl (by decide) (t_I ht_1 g1 g2 (i := a) (by omega) (by have := hbd; omega)) (fun v9 U9 hq => ?_) (fun E9 T9 hq => by cases hq.1)
      obtain ⟨hv9, ht_2⟩ := hq
      cases hv9
      obtain ⟨T, rfl, hs, ht_2⟩ := m_keep hs0 hv0 ht_2
      show Wx _ G (rput T m (sg (up2 V 0 (6) (nI 0)) g) od) 48 [(0, .ref (m)), (1, .int (nI (a)))] [.ref (m + 11)] _
      have hbd_1 : tL [(2, a), (0, 9)] ≤ 7 := tL_c (n := 4) (k := 3) hbd (pL_i)
      refine r_ldcwS (a := gK G 2 10) (tx := ": product ") (fun U h => h.2.2.2.1.2 ("LotInspectorModel", 405, ": product ", 10) (List.mem_of_getElem? (i := 24) rfl)) dX13_report_48 ?_
      refine r_callV (M2 := m_J4_append_15ec4) (As := [.ref (gK G 2 10)]) (rest := []) dX13_report_51 cc_X13_report_398 rfl rfl rfl (Nat.le_of_ble_eq_true rfl) ht_2.tb rfl rfl (by decide) (t_S ht_2 g1 g2 (q := 10) (by decide) (by have := hbd_1; have h9 : pL (0, 10) ≤ 10 := (by decide); have h8 : pL (0, 10) = strL.getD (10) 0 := rfl; omega)) (fun v9 U9 hq => ?_) (fun E9 T9 hq => by cases hq.1)
      obtain ⟨hv9, ht_3⟩ := hq
      cases hv9
      obtain ⟨T, rfl, hs, ht_3⟩ := m_keep hs0 hv0 ht_3
      show Wx _ G (rput T m (sg (up2 V 0 (6) (nI 0)) g) od) 54 [(0, .ref (m)), (1, .int (nI (a)))] [.ref (m + 11)] _
      have hbd_2 : tL [(0, 10), (2, a), (0, 9)] ≤ 17 := tL_c (n := 7) (k := 10) hbd_1 ((by decide))
      refine r_aload_n dX13_report_54 rfl 0 rfl ?_
      refine m_ref (k := 0) (j := 1) hs hs.2.1.1 dX13_report_55 fr_X13_7 rfl ?_
      refine r_iload_n dX13_report_58 rfl 1 rfl ?_
      refine r_iconst (v := nI 0) dX13_report_59 (by decide) ?_
      refine r_fnS (M2 := m_X13_at) (As := [.int (nI (a)), .int (nI (0))]) (rest := [.ref (m + 1), .ref (m + 11)]) (v := some (.int (nI (90 + 13 * a + 0)))) dX13_report_60 cc_X13_report_72 rfl rfl rfl (Nat.le_of_ble_eq_true rfl) f_at rfl ?_
      refine g_iald (i := 90 + 13 * a + 0) hs dX13_report_63 (by omega) ?_
      refine r_callV (M2 := m_J4_append_bf812) (As := [.int (nI (g (90 + 13 * a + 0)))]) (rest := []) dX13_report_64 cc_X13_report_402 rfl rfl rfl (Nat.le_of_ble_eq_true rfl) ht_3.tb rfl rfl (by decide) (t_I ht_3 g1 g2 (i := g (90 + 13 * a + 0)) (by omega) (by have := hbd_2; omega)) (fun v9 U9 hq => ?_) (fun E9 T9 hq => by cases hq.1)
      obtain ⟨hv9, ht_4⟩ := hq
      cases hv9
      obtain ⟨T, rfl, hs, ht_4⟩ := m_keep hs0 hv0 ht_4
      show Wx _ G (rput T m (sg (up2 V 0 (6) (nI 0)) g) od) 67 [(0, .ref (m)), (1, .int (nI (a)))] [.ref (m + 11)] _
      have hbd_3 : tL [(2, g (90 + 13 * a + 0)), (0, 10), (2, a), (0, 9)] ≤ 20 := tL_c (n := 17) (k := 3) hbd_2 (pL_i)
      refine r_ldcwS (a := gK G 2 11) (tx := ", ") (fun U h => h.2.2.2.1.2 ("LotInspectorModel", 407, ", ", 11) (List.mem_of_getElem? (i := 25) rfl)) dX13_report_67 ?_
      refine r_callV (M2 := m_J4_append_15ec4) (As := [.ref (gK G 2 11)]) (rest := []) dX13_report_70 cc_X13_report_398 rfl rfl rfl (Nat.le_of_ble_eq_true rfl) ht_4.tb rfl rfl (by decide) (t_S ht_4 g1 g2 (q := 11) (by decide) (by have := hbd_3; have h9 : pL (0, 11) ≤ 2 := (by decide); have h8 : pL (0, 11) = strL.getD (11) 0 := rfl; omega)) (fun v9 U9 hq => ?_) (fun E9 T9 hq => by cases hq.1)
      obtain ⟨hv9, ht_5⟩ := hq
      cases hv9
      obtain ⟨T, rfl, hs, ht_5⟩ := m_keep hs0 hv0 ht_5
      show Wx _ G (rput T m (sg (up2 V 0 (6) (nI 0)) g) od) 73 [(0, .ref (m)), (1, .int (nI (a)))] [.ref (m + 11)] _
      have hbd_4 : tL [(0, 11), (2, g (90 + 13 * a + 0)), (0, 10), (2, a), (0, 9)] ≤ 22 := tL_c (n := 20) (k := 2) hbd_3 ((by decide))
      refine r_aload_n dX13_report_73 rfl 0 rfl ?_
      refine r_iload_n dX13_report_74 rfl 1 rfl ?_
      refine r_iconst (v := nI 0) dX13_report_75 (by decide) ?_
      refine r_fnV (M2 := m_X13_inState) (As := [.int (nI (a)), .int (nI (0))]) (rest := [.ref (m + 11)]) (v := some (.int (nI (inS g a 0)))) dX13_report_76 cc_X13_report_175 rfl rfl rfl (Nat.le_of_ble_eq_true rfl) hs.1 rfl rfl (by decide) (g_inState hs hb (by omega) (by omega) (by omega)) rfl ?_
      refine r_callV (M2 := m_J4_append_bf812) (As := [.int (nI (inS g a 0))]) (rest := []) dX13_report_79 cc_X13_report_402 rfl rfl rfl (Nat.le_of_ble_eq_true rfl) ht_5.tb rfl rfl (by decide) (t_I ht_5 g1 g2 (i := inS g a 0) (by omega) (by have := hbd_4; omega)) (fun v9 U9 hq => ?_) (fun E9 T9 hq => by cases hq.1)
      obtain ⟨hv9, ht_6⟩ := hq
      cases hv9
      obtain ⟨T, rfl, hs, ht_6⟩ := m_keep hs0 hv0 ht_6
      show Wx _ G (rput T m (sg (up2 V 0 (6) (nI 0)) g) od) 82 [(0, .ref (m)), (1, .int (nI (a)))] [.ref (m + 11)] _
      have hbd_5 : tL [(2, inS g a 0), (0, 11), (2, g (90 + 13 * a + 0)), (0, 10), (2, a), (0, 9)] ≤ 25 := tL_c (n := 22) (k := 3) hbd_4 (pL_i)
      refine r_ldcwS (a := gK G 2 12) (tx := " of ") (fun U h => h.2.2.2.1.2 ("LotInspectorModel", 409, " of ", 12) (List.mem_of_getElem? (i := 26) rfl)) dX13_report_82 ?_
      refine r_callV (M2 := m_J4_append_15ec4) (As := [.ref (gK G 2 12)]) (rest := []) dX13_report_85 cc_X13_report_398 rfl rfl rfl (Nat.le_of_ble_eq_true rfl) ht_6.tb rfl rfl (by decide) (t_S ht_6 g1 g2 (q := 12) (by decide) (by have := hbd_5; have h9 : pL (0, 12) ≤ 4 := (by decide); have h8 : pL (0, 12) = strL.getD (12) 0 := rfl; omega)) (fun v9 U9 hq => ?_) (fun E9 T9 hq => by cases hq.1)
      obtain ⟨hv9, ht_7⟩ := hq
      cases hv9
      obtain ⟨T, rfl, hs, ht_7⟩ := m_keep hs0 hv0 ht_7
      show Wx _ G (rput T m (sg (up2 V 0 (6) (nI 0)) g) od) 88 [(0, .ref (m)), (1, .int (nI (a)))] [.ref (m + 11)] _
      have hbd_6 : tL [(0, 12), (2, inS g a 0), (0, 11), (2, g (90 + 13 * a + 0)), (0, 10), (2, a), (0, 9)] ≤ 29 := tL_c (n := 25) (k := 4) hbd_5 ((by decide))
      refine r_aload_n dX13_report_88 rfl 0 rfl ?_
      refine r_iload_n dX13_report_89 rfl 1 rfl ?_
      refine r_fnV (M2 := m_X13_size) (As := [.int (nI (a))]) (rest := [.ref (m + 11)]) (v := some (.int (nI (g (90 + 13 * a + 1))))) dX13_report_90 cc_X13_report_80 rfl rfl rfl (Nat.le_of_ble_eq_true rfl) hs.1 rfl rfl (by decide) (g_size hs (by omega)) rfl ?_
      refine r_callV (M2 := m_J4_append_bf812) (As := [.int (nI (g (90 + 13 * a + 1)))]) (rest := []) dX13_report_93 cc_X13_report_402 rfl rfl rfl (Nat.le_of_ble_eq_true rfl) ht_7.tb rfl rfl (by decide) (t_I ht_7 g1 g2 (i := g (90 + 13 * a + 1)) (by omega) (by have := hbd_6; omega)) (fun v9 U9 hq => ?_) (fun E9 T9 hq => by cases hq.1)
      obtain ⟨hv9, ht_8⟩ := hq
      cases hv9
      obtain ⟨T, rfl, hs, ht_8⟩ := m_keep hs0 hv0 ht_8
      show Wx _ G (rput T m (sg (up2 V 0 (6) (nI 0)) g) od) 96 [(0, .ref (m)), (1, .int (nI (a)))] [.ref (m + 11)] _
      have hbd_7 : tL [(2, g (90 + 13 * a + 1)), (0, 12), (2, inS g a 0), (0, 11), (2, g (90 + 13 * a + 0)), (0, 10), (2, a), (0, 9)] ≤ 32 := tL_c (n := 29) (k := 3) hbd_6 (pL_i)
      refine r_ldcwS (a := gK G 2 13) (tx := " here, ") (fun U h => h.2.2.2.1.2 ("LotInspectorModel", 411, " here, ", 13) (List.mem_of_getElem? (i := 27) rfl)) dX13_report_96 ?_
      refine r_callV (M2 := m_J4_append_15ec4) (As := [.ref (gK G 2 13)]) (rest := []) dX13_report_99 cc_X13_report_398 rfl rfl rfl (Nat.le_of_ble_eq_true rfl) ht_8.tb rfl rfl (by decide) (t_S ht_8 g1 g2 (q := 13) (by decide) (by have := hbd_7; have h9 : pL (0, 13) ≤ 7 := (by decide); have h8 : pL (0, 13) = strL.getD (13) 0 := rfl; omega)) (fun v9 U9 hq => ?_) (fun E9 T9 hq => by cases hq.1)
      obtain ⟨hv9, ht_9⟩ := hq
      cases hv9
      obtain ⟨T, rfl, hs, ht_9⟩ := m_keep hs0 hv0 ht_9
      show Wx _ G (rput T m (sg (up2 V 0 (6) (nI 0)) g) od) 102 [(0, .ref (m)), (1, .int (nI (a)))] [.ref (m + 11)] _
      have hbd_8 : tL [(0, 13), (2, g (90 + 13 * a + 1)), (0, 12), (2, inS g a 0), (0, 11), (2, g (90 + 13 * a + 0)), (0, 10), (2, a), (0, 9)] ≤ 39 := tL_c (n := 32) (k := 7) hbd_7 ((by decide))
      refine r_pop dX13_report_102 rfl ?_
      refine r_aload_n dX13_report_103 rfl 0 rfl ?_
      refine m_ref (k := 0) (j := 1) hs hs.2.1.1 dX13_report_104 fr_X13_7 rfl ?_
      refine r_iload_n dX13_report_107 rfl 1 rfl ?_
      refine r_iconst (v := nI 3) dX13_report_108 (by decide) ?_
      refine r_fnS (M2 := m_X13_at) (As := [.int (nI (a)), .int (nI (3))]) (rest := [.ref (m + 1)]) (v := some (.int (nI (90 + 13 * a + 3)))) dX13_report_109 cc_X13_report_72 rfl rfl rfl (Nat.le_of_ble_eq_true rfl) f_at rfl ?_
      refine g_iald (i := 90 + 13 * a + 3) hs dX13_report_112 (by omega) ?_
      refine r_if_neN (tgt := 130) dX13_report_113 (by decide) (by omega) (fun h113 => ?_) (fun h113 => ?_)
      · have hin9 := hin h113
        refine r_aload_n dX13_report_130 rfl 0 rfl ?_
        refine m_ref (k := 19) (j := 11) hs hs.2.1.2.2.2.2.2.2.2.2.2.2 dX13_report_131 fr_X13_50 rfl ?_
        refine r_aload_n dX13_report_134 rfl 0 rfl ?_
        refine m_ref (k := 0) (j := 1) hs hs.2.1.1 dX13_report_135 fr_X13_7 rfl ?_
        refine r_iload_n dX13_report_138 rfl 1 rfl ?_
        refine r_iconst (v := nI 4) dX13_report_139 (by decide) ?_
        refine r_fnS (M2 := m_X13_at) (As := [.int (nI (a)), .int (nI (4))]) (rest := [.ref (m + 1), .ref (m + 11)]) (v := some (.int (nI (90 + 13 * a + 4)))) dX13_report_140 cc_X13_report_72 rfl rfl rfl (Nat.le_of_ble_eq_true rfl) f_at rfl ?_
        refine g_iald (i := 90 + 13 * a + 4) hs dX13_report_143 (by omega) ?_
        refine r_fnS (M2 := m_X13_severityName) (As := [.int (nI (g (90 + 13 * a + 4)))]) (rest := [.ref (m + 11)]) (v := some (.ref (gK G 2 (sevQ (g (90 + 13 * a + 4)))))) dX13_report_144 cc_X13_report_415 rfl rfl rfl (Nat.le_of_ble_eq_true rfl) (m_sevName (z := g (90 + 13 * a + 4)) (hin h113).1) rfl ?_
        refine r_callV (M2 := m_J4_append_15ec4) (As := [.ref (gK G 2 (sevQ (g (90 + 13 * a + 4))))]) (rest := []) dX13_report_147 cc_X13_report_398 rfl rfl rfl (Nat.le_of_ble_eq_true rfl) ht_9.tb rfl rfl (by decide) (t_S ht_9 g1 g2 (q := sevQ (g (90 + 13 * a + 4))) (by have := @sev_b (g (90 + 13 * a + 4)); omega) (by have := hbd_8; have h9 : pL (0, sevQ (g (90 + 13 * a + 4))) ≤ 14 := (pL_q (by have := @sev_b (g (90 + 13 * a + 4)); omega)); have h8 : pL (0, sevQ (g (90 + 13 * a + 4))) = strL.getD (sevQ (g (90 + 13 * a + 4))) 0 := rfl; omega)) (fun v9 U9 hq => ?_) (fun E9 T9 hq => by cases hq.1)
        obtain ⟨hv9, ht_10⟩ := hq
        cases hv9
        obtain ⟨T, rfl, hs, ht_10⟩ := m_keep hs0 hv0 ht_10
        show Wx _ G (rput T m (sg (up2 V 0 (6) (nI 0)) g) od) 150 [(0, .ref (m)), (1, .int (nI (a)))] [.ref (m + 11)] _
        have hbd_9 : tL [(0, sevQ (g (90 + 13 * a + 4))), (0, 13), (2, g (90 + 13 * a + 1)), (0, 12), (2, inS g a 0), (0, 11), (2, g (90 + 13 * a + 0)), (0, 10), (2, a), (0, 9)] ≤ 53 := tL_c (n := 39) (k := 14) hbd_8 ((pL_q (by have := @sev_b (g (90 + 13 * a + 4)); omega)))
        refine r_bipush (v := nI 32) dX13_report_150 (by decide) ?_
        refine r_callV (M2 := m_J4_append_cf468) (As := [.int (nI (32))]) (rest := []) dX13_report_152 cc_X13_report_418 rfl rfl rfl (Nat.le_of_ble_eq_true rfl) ht_10.tb rfl rfl (by decide) (t_C ht_10 g1 g2 (c := 32) (by decide) (by have := hbd_9; omega)) (fun v9 U9 hq => ?_) (fun E9 T9 hq => by cases hq.1)
        obtain ⟨hv9, ht_11⟩ := hq
        cases hv9
        obtain ⟨T, rfl, hs, ht_11⟩ := m_keep hs0 hv0 ht_11
        show Wx _ G (rput T m (sg (up2 V 0 (6) (nI 0)) g) od) 155 [(0, .ref (m)), (1, .int (nI (a)))] [.ref (m + 11)] _
        have hbd_10 : tL [(1, 32), (0, sevQ (g (90 + 13 * a + 4))), (0, 13), (2, g (90 + 13 * a + 1)), (0, 12), (2, inS g a 0), (0, 11), (2, g (90 + 13 * a + 0)), (0, 10), (2, a), (0, 9)] ≤ 54 := tL_c (n := 53) (k := 1) hbd_9 ((by decide))
        refine r_aload_n dX13_report_155 rfl 0 rfl ?_
        refine m_ref (k := 0) (j := 1) hs hs.2.1.1 dX13_report_156 fr_X13_7 rfl ?_
        refine r_iload_n dX13_report_159 rfl 1 rfl ?_
        refine r_iconst (v := nI 5) dX13_report_160 (by decide) ?_
        refine r_fnS (M2 := m_X13_at) (As := [.int (nI (a)), .int (nI (5))]) (rest := [.ref (m + 1), .ref (m + 11)]) (v := some (.int (nI (90 + 13 * a + 5)))) dX13_report_161 cc_X13_report_72 rfl rfl rfl (Nat.le_of_ble_eq_true rfl) f_at rfl ?_
        refine g_iald (i := 90 + 13 * a + 5) hs dX13_report_164 (by omega) ?_
        refine r_callV (M2 := m_J4_append_bf812) (As := [.int (nI (g (90 + 13 * a + 5)))]) (rest := []) dX13_report_165 cc_X13_report_402 rfl rfl rfl (Nat.le_of_ble_eq_true rfl) ht_11.tb rfl rfl (by decide) (t_I ht_11 g1 g2 (i := g (90 + 13 * a + 5)) (by omega) (by have := hbd_10; omega)) (fun v9 U9 hq => ?_) (fun E9 T9 hq => by cases hq.1)
        obtain ⟨hv9, ht_12⟩ := hq
        cases hv9
        obtain ⟨T, rfl, hs, ht_12⟩ := m_keep hs0 hv0 ht_12
        show Wx _ G (rput T m (sg (up2 V 0 (6) (nI 0)) g) od) 168 [(0, .ref (m)), (1, .int (nI (a)))] [.ref (m + 11)] _
        have hbd_11 : tL [(2, g (90 + 13 * a + 5)), (1, 32), (0, sevQ (g (90 + 13 * a + 4))), (0, 13), (2, g (90 + 13 * a + 1)), (0, 12), (2, inS g a 0), (0, 11), (2, g (90 + 13 * a + 0)), (0, 10), (2, a), (0, 9)] ≤ 57 := tL_c (n := 54) (k := 3) hbd_10 (pL_i)
        refine r_bipush (v := nI 47) dX13_report_168 (by decide) ?_
        refine r_callV (M2 := m_J4_append_cf468) (As := [.int (nI (47))]) (rest := []) dX13_report_170 cc_X13_report_418 rfl rfl rfl (Nat.le_of_ble_eq_true rfl) ht_12.tb rfl rfl (by decide) (t_C ht_12 g1 g2 (c := 47) (by decide) (by have := hbd_11; omega)) (fun v9 U9 hq => ?_) (fun E9 T9 hq => by cases hq.1)
        obtain ⟨hv9, ht_13⟩ := hq
        cases hv9
        obtain ⟨T, rfl, hs, ht_13⟩ := m_keep hs0 hv0 ht_13
        show Wx _ G (rput T m (sg (up2 V 0 (6) (nI 0)) g) od) 173 [(0, .ref (m)), (1, .int (nI (a)))] [.ref (m + 11)] _
        have hbd_12 : tL [(1, 47), (2, g (90 + 13 * a + 5)), (1, 32), (0, sevQ (g (90 + 13 * a + 4))), (0, 13), (2, g (90 + 13 * a + 1)), (0, 12), (2, inS g a 0), (0, 11), (2, g (90 + 13 * a + 0)), (0, 10), (2, a), (0, 9)] ≤ 58 := tL_c (n := 57) (k := 1) hbd_11 ((by decide))
        refine r_aload_n dX13_report_173 rfl 0 rfl ?_
        refine m_ref (k := 0) (j := 1) hs hs.2.1.1 dX13_report_174 fr_X13_7 rfl ?_
        refine r_iload_n dX13_report_177 rfl 1 rfl ?_
        refine r_bipush (v := nI 6) dX13_report_178 (by decide) ?_
        refine r_fnS (M2 := m_X13_at) (As := [.int (nI (a)), .int (nI (6))]) (rest := [.ref (m + 1), .ref (m + 11)]) (v := some (.int (nI (90 + 13 * a + 6)))) dX13_report_180 cc_X13_report_72 rfl rfl rfl (Nat.le_of_ble_eq_true rfl) f_at rfl ?_
        refine g_iald (i := 90 + 13 * a + 6) hs dX13_report_183 (by omega) ?_
        refine r_callV (M2 := m_J4_append_bf812) (As := [.int (nI (g (90 + 13 * a + 6)))]) (rest := []) dX13_report_184 cc_X13_report_402 rfl rfl rfl (Nat.le_of_ble_eq_true rfl) ht_13.tb rfl rfl (by decide) (t_I ht_13 g1 g2 (i := g (90 + 13 * a + 6)) (by omega) (by have := hbd_12; omega)) (fun v9 U9 hq => ?_) (fun E9 T9 hq => by cases hq.1)
        obtain ⟨hv9, ht_14⟩ := hq
        cases hv9
        obtain ⟨T, rfl, hs, ht_14⟩ := m_keep hs0 hv0 ht_14
        show Wx _ G (rput T m (sg (up2 V 0 (6) (nI 0)) g) od) 187 [(0, .ref (m)), (1, .int (nI (a)))] [.ref (m + 11)] _
        have hbd_13 : tL [(2, g (90 + 13 * a + 6)), (1, 47), (2, g (90 + 13 * a + 5)), (1, 32), (0, sevQ (g (90 + 13 * a + 4))), (0, 13), (2, g (90 + 13 * a + 1)), (0, 12), (2, inS g a 0), (0, 11), (2, g (90 + 13 * a + 0)), (0, 10), (2, a), (0, 9)] ≤ 61 := tL_c (n := 58) (k := 3) hbd_12 (pL_i)
        refine r_ldcwS (a := gK G 2 18) (tx := ", found ") (fun U h => h.2.2.2.1.2 ("LotInspectorModel", 421, ", found ", 18) (List.mem_of_getElem? (i := 32) rfl)) dX13_report_187 ?_
        refine r_callV (M2 := m_J4_append_15ec4) (As := [.ref (gK G 2 18)]) (rest := []) dX13_report_190 cc_X13_report_398 rfl rfl rfl (Nat.le_of_ble_eq_true rfl) ht_14.tb rfl rfl (by decide) (t_S ht_14 g1 g2 (q := 18) (by decide) (by have := hbd_13; have h9 : pL (0, 18) ≤ 8 := (by decide); have h8 : pL (0, 18) = strL.getD (18) 0 := rfl; omega)) (fun v9 U9 hq => ?_) (fun E9 T9 hq => by cases hq.1)
        obtain ⟨hv9, ht_15⟩ := hq
        cases hv9
        obtain ⟨T, rfl, hs, ht_15⟩ := m_keep hs0 hv0 ht_15
        show Wx _ G (rput T m (sg (up2 V 0 (6) (nI 0)) g) od) 193 [(0, .ref (m)), (1, .int (nI (a)))] [.ref (m + 11)] _
        have hbd_14 : tL [(0, 18), (2, g (90 + 13 * a + 6)), (1, 47), (2, g (90 + 13 * a + 5)), (1, 32), (0, sevQ (g (90 + 13 * a + 4))), (0, 13), (2, g (90 + 13 * a + 1)), (0, 12), (2, inS g a 0), (0, 11), (2, g (90 + 13 * a + 0)), (0, 10), (2, a), (0, 9)] ≤ 69 := tL_c (n := 61) (k := 8) hbd_13 ((by decide))
        refine r_aload_n dX13_report_193 rfl 0 rfl ?_
        refine m_ref (k := 0) (j := 1) hs hs.2.1.1 dX13_report_194 fr_X13_7 rfl ?_
        refine r_iload_n dX13_report_197 rfl 1 rfl ?_
        refine r_bipush (v := nI 7) dX13_report_198 (by decide) ?_
        refine r_fnS (M2 := m_X13_at) (As := [.int (nI (a)), .int (nI (7))]) (rest := [.ref (m + 1), .ref (m + 11)]) (v := some (.int (nI (90 + 13 * a + 7)))) dX13_report_200 cc_X13_report_72 rfl rfl rfl (Nat.le_of_ble_eq_true rfl) f_at rfl ?_
        refine g_iald (i := 90 + 13 * a + 7) hs dX13_report_203 (by omega) ?_
        refine r_callV (M2 := m_J4_append_bf812) (As := [.int (nI (g (90 + 13 * a + 7)))]) (rest := []) dX13_report_204 cc_X13_report_402 rfl rfl rfl (Nat.le_of_ble_eq_true rfl) ht_15.tb rfl rfl (by decide) (t_I ht_15 g1 g2 (i := g (90 + 13 * a + 7)) (by omega) (by have := hbd_14; omega)) (fun v9 U9 hq => ?_) (fun E9 T9 hq => by cases hq.1)
        obtain ⟨hv9, ht_16⟩ := hq
        cases hv9
        obtain ⟨T, rfl, hs, ht_16⟩ := m_keep hs0 hv0 ht_16
        show Wx _ G (rput T m (sg (up2 V 0 (6) (nI 0)) g) od) 207 [(0, .ref (m)), (1, .int (nI (a)))] [.ref (m + 11)] _
        have hbd_15 : tL [(2, g (90 + 13 * a + 7)), (0, 18), (2, g (90 + 13 * a + 6)), (1, 47), (2, g (90 + 13 * a + 5)), (1, 32), (0, sevQ (g (90 + 13 * a + 4))), (0, 13), (2, g (90 + 13 * a + 1)), (0, 12), (2, inS g a 0), (0, 11), (2, g (90 + 13 * a + 0)), (0, 10), (2, a), (0, 9)] ≤ 72 := tL_c (n := 69) (k := 3) hbd_14 (pL_i)
        refine r_pop dX13_report_207 rfl ?_
        refine r_aload_n dX13_report_208 rfl 0 rfl ?_
        refine m_ref (k := 19) (j := 11) hs hs.2.1.2.2.2.2.2.2.2.2.2.2 dX13_report_209 fr_X13_50 rfl ?_
        refine r_ldcwS (a := gK G 2 11) (tx := ", ") (fun U h => h.2.2.2.1.2 ("LotInspectorModel", 407, ", ", 11) (List.mem_of_getElem? (i := 25) rfl)) dX13_report_212 ?_
        refine r_callV (M2 := m_J4_append_15ec4) (As := [.ref (gK G 2 11)]) (rest := []) dX13_report_215 cc_X13_report_398 rfl rfl rfl (Nat.le_of_ble_eq_true rfl) ht_16.tb rfl rfl (by decide) (t_S ht_16 g1 g2 (q := 11) (by decide) (by have := hbd_15; have h9 : pL (0, 11) ≤ 2 := (by decide); have h8 : pL (0, 11) = strL.getD (11) 0 := rfl; omega)) (fun v9 U9 hq => ?_) (fun E9 T9 hq => by cases hq.1)
        obtain ⟨hv9, ht_17⟩ := hq
        cases hv9
        obtain ⟨T, rfl, hs, ht_17⟩ := m_keep hs0 hv0 ht_17
        show Wx _ G (rput T m (sg (up2 V 0 (6) (nI 0)) g) od) 218 [(0, .ref (m)), (1, .int (nI (a)))] [.ref (m + 11)] _
        have hbd_16 : tL [(0, 11), (2, g (90 + 13 * a + 7)), (0, 18), (2, g (90 + 13 * a + 6)), (1, 47), (2, g (90 + 13 * a + 5)), (1, 32), (0, sevQ (g (90 + 13 * a + 4))), (0, 13), (2, g (90 + 13 * a + 1)), (0, 12), (2, inS g a 0), (0, 11), (2, g (90 + 13 * a + 0)), (0, 10), (2, a), (0, 9)] ≤ 74 := tL_c (n := 72) (k := 2) hbd_15 ((by decide))
        refine r_aload_n dX13_report_218 rfl 0 rfl ?_
        refine m_ref (k := 0) (j := 1) hs hs.2.1.1 dX13_report_219 fr_X13_7 rfl ?_
        refine r_iload_n dX13_report_222 rfl 1 rfl ?_
        refine r_iconst (v := nI 2) dX13_report_223 (by decide) ?_
        refine r_fnS (M2 := m_X13_at) (As := [.int (nI (a)), .int (nI (2))]) (rest := [.ref (m + 1), .ref (m + 11)]) (v := some (.int (nI (90 + 13 * a + 2)))) dX13_report_224 cc_X13_report_72 rfl rfl rfl (Nat.le_of_ble_eq_true rfl) f_at rfl ?_
        refine g_iald (i := 90 + 13 * a + 2) hs dX13_report_227 (by omega) ?_
        refine r_fnS (M2 := m_X13_statusName) (As := [.int (nI (g (90 + 13 * a + 2)))]) (rest := [.ref (m + 11)]) (v := some (.ref (gK G 2 (staQ (g (90 + 13 * a + 2)))))) dX13_report_228 cc_X13_report_423 rfl rfl rfl (Nat.le_of_ble_eq_true rfl) (m_staName (z := g (90 + 13 * a + 2)) hst) rfl ?_
        refine r_callV (M2 := m_J4_append_15ec4) (As := [.ref (gK G 2 (staQ (g (90 + 13 * a + 2))))]) (rest := []) dX13_report_231 cc_X13_report_398 rfl rfl rfl (Nat.le_of_ble_eq_true rfl) ht_17.tb rfl rfl (by decide) (t_S ht_17 g1 g2 (q := staQ (g (90 + 13 * a + 2))) (by have := @sta_b (g (90 + 13 * a + 2)); omega) (by have := hbd_16; have h9 : pL (0, staQ (g (90 + 13 * a + 2))) ≤ 14 := (pL_q (by have := @sta_b (g (90 + 13 * a + 2)); omega)); have h8 : pL (0, staQ (g (90 + 13 * a + 2))) = strL.getD (staQ (g (90 + 13 * a + 2))) 0 := rfl; omega)) (fun v9 U9 hq => ?_) (fun E9 T9 hq => by cases hq.1)
        obtain ⟨hv9, ht_18⟩ := hq
        cases hv9
        obtain ⟨T, rfl, hs, ht_18⟩ := m_keep hs0 hv0 ht_18
        show Wx _ G (rput T m (sg (up2 V 0 (6) (nI 0)) g) od) 234 [(0, .ref (m)), (1, .int (nI (a)))] [.ref (m + 11)] _
        have hbd_17 : tL [(0, staQ (g (90 + 13 * a + 2))), (0, 11), (2, g (90 + 13 * a + 7)), (0, 18), (2, g (90 + 13 * a + 6)), (1, 47), (2, g (90 + 13 * a + 5)), (1, 32), (0, sevQ (g (90 + 13 * a + 4))), (0, 13), (2, g (90 + 13 * a + 1)), (0, 12), (2, inS g a 0), (0, 11), (2, g (90 + 13 * a + 0)), (0, 10), (2, a), (0, 9)] ≤ 88 := tL_c (n := 74) (k := 14) hbd_16 ((pL_q (by have := @sta_b (g (90 + 13 * a + 2)); omega)))
        refine r_pop dX13_report_234 rfl ?_
        refine r_aload_n dX13_report_235 rfl 0 rfl ?_
        refine m_ref (k := 19) (j := 11) hs hs.2.1.2.2.2.2.2.2.2.2.2.2 dX13_report_236 fr_X13_50 rfl ?_
        refine r_fnV (M2 := m_J4_length_8abf5) (As := []) (rest := []) (v := some (.int (nI (tL [(0, staQ (g (90 + 13 * a + 2))), (0, 11), (2, g (90 + 13 * a + 7)), (0, 18), (2, g (90 + 13 * a + 6)), (1, 47), (2, g (90 + 13 * a + 5)), (1, 32), (0, sevQ (g (90 + 13 * a + 4))), (0, 13), (2, g (90 + 13 * a + 1)), (0, 12), (2, inS g a 0), (0, 11), (2, g (90 + 13 * a + 0)), (0, 10), (2, a), (0, 9)])))) dX13_report_239 cc_X13_report_426 rfl rfl rfl (Nat.le_of_ble_eq_true rfl) ht_18.tb rfl rfl (by decide) (t_len ht_18) rfl ?_
        have er : rep g a = [(0, staQ (g (90 + 13 * a + 2))), (0, 11), (2, g (90 + 13 * a + 7)), (0, 18), (2, g (90 + 13 * a + 6)), (1, 47), (2, g (90 + 13 * a + 5)), (1, 32), (0, sevQ (g (90 + 13 * a + 4))), (0, 13), (2, g (90 + 13 * a + 1)), (0, 12), (2, inS g a 0), (0, 11), (2, g (90 + 13 * a + 0)), (0, 10), (2, a), (0, 9)] := by unfold rep rep1; rw [if_neg h113]; rfl
        exact r_iret (ty := .int) dX13_report_242 rfl rfl ⟨by rw [er], T, rfl, hs, by rw [er]; exact ht_18⟩
      · refine r_aload_n dX13_report_116 rfl 0 rfl ?_
        refine m_ref (k := 19) (j := 11) hs hs.2.1.2.2.2.2.2.2.2.2.2.2 dX13_report_117 fr_X13_50 rfl ?_
        refine r_ldcwS (a := gK G 2 14) (tx := "not inspected") (fun U h => h.2.2.2.1.2 ("LotInspectorModel", 413, "not inspected", 14) (List.mem_of_getElem? (i := 28) rfl)) dX13_report_120 ?_
        refine r_callV (M2 := m_J4_append_15ec4) (As := [.ref (gK G 2 14)]) (rest := []) dX13_report_123 cc_X13_report_398 rfl rfl rfl (Nat.le_of_ble_eq_true rfl) ht_9.tb rfl rfl (by decide) (t_S ht_9 g1 g2 (q := 14) (by decide) (by have := hbd_8; have h9 : pL (0, 14) ≤ 13 := (by decide); have h8 : pL (0, 14) = strL.getD (14) 0 := rfl; omega)) (fun v9 U9 hq => ?_) (fun E9 T9 hq => by cases hq.1)
        obtain ⟨hv9, ht_19⟩ := hq
        cases hv9
        obtain ⟨T, rfl, hs, ht_19⟩ := m_keep hs0 hv0 ht_19
        show Wx _ G (rput T m (sg (up2 V 0 (6) (nI 0)) g) od) 126 [(0, .ref (m)), (1, .int (nI (a)))] [.ref (m + 11)] _
        have hbd_18 : tL [(0, 14), (0, 13), (2, g (90 + 13 * a + 1)), (0, 12), (2, inS g a 0), (0, 11), (2, g (90 + 13 * a + 0)), (0, 10), (2, a), (0, 9)] ≤ 52 := tL_c (n := 39) (k := 13) hbd_8 ((by decide))
        refine r_pop dX13_report_126 rfl ?_
        refine r_goto (tgt := 208) dX13_report_127 (by decide) ?_
        refine r_aload_n dX13_report_208 rfl 0 rfl ?_
        refine m_ref (k := 19) (j := 11) hs hs.2.1.2.2.2.2.2.2.2.2.2.2 dX13_report_209 fr_X13_50 rfl ?_
        refine r_ldcwS (a := gK G 2 11) (tx := ", ") (fun U h => h.2.2.2.1.2 ("LotInspectorModel", 407, ", ", 11) (List.mem_of_getElem? (i := 25) rfl)) dX13_report_212 ?_
        refine r_callV (M2 := m_J4_append_15ec4) (As := [.ref (gK G 2 11)]) (rest := []) dX13_report_215 cc_X13_report_398 rfl rfl rfl (Nat.le_of_ble_eq_true rfl) ht_19.tb rfl rfl (by decide) (t_S ht_19 g1 g2 (q := 11) (by decide) (by have := hbd_18; have h9 : pL (0, 11) ≤ 2 := (by decide); have h8 : pL (0, 11) = strL.getD (11) 0 := rfl; omega)) (fun v9 U9 hq => ?_) (fun E9 T9 hq => by cases hq.1)
        obtain ⟨hv9, ht_20⟩ := hq
        cases hv9
        obtain ⟨T, rfl, hs, ht_20⟩ := m_keep hs0 hv0 ht_20
        show Wx _ G (rput T m (sg (up2 V 0 (6) (nI 0)) g) od) 218 [(0, .ref (m)), (1, .int (nI (a)))] [.ref (m + 11)] _
        have hbd_19 : tL [(0, 11), (0, 14), (0, 13), (2, g (90 + 13 * a + 1)), (0, 12), (2, inS g a 0), (0, 11), (2, g (90 + 13 * a + 0)), (0, 10), (2, a), (0, 9)] ≤ 54 := tL_c (n := 52) (k := 2) hbd_18 ((by decide))
        refine r_aload_n dX13_report_218 rfl 0 rfl ?_
        refine m_ref (k := 0) (j := 1) hs hs.2.1.1 dX13_report_219 fr_X13_7 rfl ?_
        refine r_iload_n dX13_report_222 rfl 1 rfl ?_
        refine r_iconst (v := nI 2) dX13_report_223 (by decide) ?_
        refine r_fnS (M2 := m_X13_at) (As := [.int (nI (a)), .int (nI (2))]) (rest := [.ref (m + 1), .ref (m + 11)]) (v := some (.int (nI (90 + 13 * a + 2)))) dX13_report_224 cc_X13_report_72 rfl rfl rfl (Nat.le_of_ble_eq_true rfl) f_at rfl ?_
        refine g_iald (i := 90 + 13 * a + 2) hs dX13_report_227 (by omega) ?_
        refine r_fnS (M2 := m_X13_statusName) (As := [.int (nI (g (90 + 13 * a + 2)))]) (rest := [.ref (m + 11)]) (v := some (.ref (gK G 2 (staQ (g (90 + 13 * a + 2)))))) dX13_report_228 cc_X13_report_423 rfl rfl rfl (Nat.le_of_ble_eq_true rfl) (m_staName (z := g (90 + 13 * a + 2)) hst) rfl ?_
        refine r_callV (M2 := m_J4_append_15ec4) (As := [.ref (gK G 2 (staQ (g (90 + 13 * a + 2))))]) (rest := []) dX13_report_231 cc_X13_report_398 rfl rfl rfl (Nat.le_of_ble_eq_true rfl) ht_20.tb rfl rfl (by decide) (t_S ht_20 g1 g2 (q := staQ (g (90 + 13 * a + 2))) (by have := @sta_b (g (90 + 13 * a + 2)); omega) (by have := hbd_19; have h9 : pL (0, staQ (g (90 + 13 * a + 2))) ≤ 14 := (pL_q (by have := @sta_b (g (90 + 13 * a + 2)); omega)); have h8 : pL (0, staQ (g (90 + 13 * a + 2))) = strL.getD (staQ (g (90 + 13 * a + 2))) 0 := rfl; omega)) (fun v9 U9 hq => ?_) (fun E9 T9 hq => by cases hq.1)
        obtain ⟨hv9, ht_21⟩ := hq
        cases hv9
        obtain ⟨T, rfl, hs, ht_21⟩ := m_keep hs0 hv0 ht_21
        show Wx _ G (rput T m (sg (up2 V 0 (6) (nI 0)) g) od) 234 [(0, .ref (m)), (1, .int (nI (a)))] [.ref (m + 11)] _
        have hbd_20 : tL [(0, staQ (g (90 + 13 * a + 2))), (0, 11), (0, 14), (0, 13), (2, g (90 + 13 * a + 1)), (0, 12), (2, inS g a 0), (0, 11), (2, g (90 + 13 * a + 0)), (0, 10), (2, a), (0, 9)] ≤ 68 := tL_c (n := 54) (k := 14) hbd_19 ((pL_q (by have := @sta_b (g (90 + 13 * a + 2)); omega)))
        refine r_pop dX13_report_234 rfl ?_
        refine r_aload_n dX13_report_235 rfl 0 rfl ?_
        refine m_ref (k := 19) (j := 11) hs hs.2.1.2.2.2.2.2.2.2.2.2.2 dX13_report_236 fr_X13_50 rfl ?_
        refine r_fnV (M2 := m_J4_length_8abf5) (As := []) (rest := []) (v := some (.int (nI (tL [(0, staQ (g (90 + 13 * a + 2))), (0, 11), (0, 14), (0, 13), (2, g (90 + 13 * a + 1)), (0, 12), (2, inS g a 0), (0, 11), (2, g (90 + 13 * a + 0)), (0, 10), (2, a), (0, 9)])))) dX13_report_239 cc_X13_report_426 rfl rfl rfl (Nat.le_of_ble_eq_true rfl) ht_21.tb rfl rfl (by decide) (t_len ht_21) rfl ?_
        have er : rep g a = [(0, staQ (g (90 + 13 * a + 2))), (0, 11), (0, 14), (0, 13), (2, g (90 + 13 * a + 1)), (0, 12), (2, inS g a 0), (0, 11), (2, g (90 + 13 * a + 0)), (0, 10), (2, a), (0, 9)] := by unfold rep rep1; rw [if_pos h113]; rfl
        exact r_iret (ty := .int) dX13_report_242 rfl rfl ⟨by rw [er], T, rfl, hs, by rw [er]; exact ht_21⟩
    · exact absurd zz21 (by decide)
set_option maxRecDepth 4000 in
theorem q_report_1 {G : GI} {T : Hp} {m : Nat} {V : RVal} {g : Nat → Nat} {od : Nat → UInt64} (hs : RS T m)  (h24 : g 0 ≤ 24) {x : Int32} (hx : ¬ vp_in x (g 0)) : Fn m_X13_report G [.ref (m), .int (x)] (rput T m (sg V g) od) (some (.int (nI (0)))) (rput T m (sg (up2 V 0 (6) (nI 1)) (g)) od) := by
  refine Cn.of rfl (by decide) (Nat.le_of_ble_eq_true rfl) (fun hN hM => ?_)
  show Wx _ G _ 0 [(0, .ref (m)), (1, .int (x))] [] _
  refine r_aload_n dX13_report_0 rfl 0 rfl ?_
  refine r_aload_n dX13_report_1 rfl 0 rfl ?_
  refine r_iload_n dX13_report_2 rfl 1 rfl ?_
  refine r_fnV (M2 := m_X13_isLot) (As := [.int (x)]) (rest := [.ref (m)]) (v := some (.int (nI (0)))) dX13_report_3 cc_X13_report_76 rfl rfl rfl (Nat.le_of_ble_eq_true rfl) hs.1 rfl rfl (by decide) (Fn.eq (g_isLot hs h24) (congrArg (fun x => some (Value.int x)) (bI_f hx)) rfl) rfl ?_
  refine r_if_eqN (tgt := 13) dX13_report_6 (by decide) (by omega) (fun zz6 => ?_) (fun zz6 => ?_)
  · refine r_iconst (v := nI 1) dX13_report_13 (by decide) ?_
    refine o_put (k := 6) hs dX13_report_14 fw_X13_report_54 rfl rfl rfl ?_
    refine r_aload_n dX13_report_17 rfl 0 rfl ?_
    refine o_get (k := 6) hs dX13_report_18 fr_X13_54 rfl ?_
    refine Wx.top up2_s ?_
    refine r_if_leN (tgt := 26) dX13_report_21 (by decide) (by omega) (fun zz21 => ?_) (fun zz21 => ?_)
    · exact absurd zz21 (by decide)
    · refine r_iconst (v := nI 0) dX13_report_24 (by decide) ?_
      exact r_iret (ty := .int) dX13_report_25 rfl rfl ⟨rfl, rfl⟩
  · exact absurd zz6 (by decide)
