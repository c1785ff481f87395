def cpR (V : RVal) (j q n : Nat) (f : Nat → Int32) : RVal := fun a b => if a = j ∧ q ≤ b ∧ b < q + n then f (b - q) else V a b
def cpG (g : Nat → Nat) (n : Nat) (f : Nat → Nat) : Nat → Nat := fun i => if i < n then f i else g i
theorem cpR_n {V : RVal} {j q n a b : Nat} {f : Nat → Int32} (h : a ≠ j ∨ b < q ∨ q + n ≤ b) : cpR V j q n f a b = V a b := by unfold cpR; rw [if_neg (by omega)]
theorem cpR_r {V : RVal} {j q n i : Nat} {f : Nat → Int32} (h : i < n) : cpR V j q n f j (q + i) = f i := by
  unfold cpR
  rw [if_pos ⟨rfl, by omega, by omega⟩, Nat.add_sub_cancel_left]
theorem sg_1 {V : RVal} {g : Nat → Nat} {i : Nat} : sg V g 1 i = nI (g i) := rfl
theorem sg_n {V : RVal} {g : Nat → Nat} {j i : Nat} (h : j ≠ 1) : sg V g j i = V j i := by unfold sg; rw [if_neg h]
theorem cpV_sg {V : RVal} {g : Nat → Nat} {j p j' q n : Nat} (h : j' ≠ 1) : cpV (sg V g) j p j' q n = sg (cpR V j' q n (fun i => sg V g j (p + i))) g := by
  funext a b
  unfold cpV
  by_cases h1 : a = j' ∧ q ≤ b ∧ b < q + n
  · have ha : a ≠ 1 := by rw [h1.1]; exact h
    rw [if_pos h1, sg_n (j := a) ha]
    unfold cpR
    rw [if_pos h1]
  · rw [if_neg h1]
    by_cases h2 : a = 1
    · subst h2; rfl
    · rw [sg_n h2, sg_n h2]
      unfold cpR
      rw [if_neg h1]
theorem cpV_g {V : RVal} {g f : Nat → Nat} {j p n : Nat} (hj : j ≠ 1) (hf : ∀ i, i < n → V j (p + i) = nI (f i)) : cpV (sg V g) j p 1 0 n = sg V (cpG g n f) := by
  funext a b
  unfold cpV
  by_cases h1 : a = 1 ∧ 0 ≤ b ∧ b < 0 + n
  · obtain ⟨rfl, -, h2⟩ := h1
    rw [if_pos ⟨rfl, Nat.zero_le _, h2⟩, sg_n hj, sg_1]
    unfold cpG
    rw [if_pos (by omega), Nat.sub_zero]
    exact hf b (by omega)
  · rw [if_neg h1]
    by_cases h2 : a = 1
    · subst h2
      rw [sg_1, sg_1]
      unfold cpG
      rw [if_neg (by omega)]
    · rw [sg_n h2, sg_n h2]
theorem g_push {G : GI} {T : Hp} {m : Nat} {V : RVal} {g : Nat → Nat} {od : Nat → UInt64} (hs : RS T m) {j n k : Nat} (hr : rowI j 10002) (hk : sg V g j 0 = nI k) (h24 : k ≤ 24) (hn : n < 8) (hj : j ≠ 4) : Fn m_X13_copies G [.ref (m + j), .int (nI 0), .ref (m + 4), .int (nI (10002 * n))] (rput T m (sg V g) od) none (rput T m (sg (cpR V 4 (10002 * n) (402 + 400 * k) (fun i => sg V g j (0 + i))) g) od) := Fn.eq (f_copies hs hr rw4 (by decide) (by decide) hk (by omega) (by omega) (Or.inl hj)) rfl (by rw [cpV_sg (by decide)])
theorem g_shift {G : GI} {T : Hp} {m : Nat} {V : RVal} {g : Nat → Nat} {od : Nat → UInt64} (hs : RS T m) {u k : Nat} (hk : V 4 (10002 * (u + 1)) = nI k) (h24 : k ≤ 24) (hu : u < 7) : Fn m_X13_copies G [.ref (m + 4), .int (nI (10002 * (u + 1))), .ref (m + 4), .int (nI (10002 * (u + 1 - 1)))] (rput T m (sg V g) od) none (rput T m (sg (cpR V 4 (10002 * u) (402 + 400 * k) (fun i => V 4 (10002 * (u + 1) + i))) g) od) := Fn.eq (f_copies hs rw4 rw4 (by decide) (by decide) hk (by omega) (by omega) (Or.inr (Or.inl (by omega)))) rfl (by rw [cpV_sg (by decide)]; rfl)
theorem g_kept {G : GI} {T : Hp} {m : Nat} {V : RVal} {g : Nat → Nat} {od : Nat → UInt64} (hs : RS T m) (h24 : g 0 ≤ 24) : Fn m_X13_copies G [.ref (m + 1), .int (nI 0), .ref (m + 2), .int (nI 0)] (rput T m (sg V g) od) none (rput T m (sg (cpR V 2 0 (402 + 400 * g 0) (fun i => sg V g 1 (0 + i))) g) od) := Fn.eq (f_copies hs rw1 rw2 (by decide) (by decide) rfl (by omega) (by omega) (Or.inl (by decide))) rfl (by rw [cpV_sg (by decide)])
theorem g_spare {G : GI} {T : Hp} {m : Nat} {V : RVal} {g : Nat → Nat} {od : Nat → UInt64} (hs : RS T m) (h24 : g 0 ≤ 24) : Fn m_X13_copies G [.ref (m + 1), .int (nI 0), .ref (m + 3), .int (nI 0)] (rput T m (sg V g) od) none (rput T m (sg (cpR V 3 0 (402 + 400 * g 0) (fun i => sg V g 1 (0 + i))) g) od) := Fn.eq (f_copies hs rw1 rw3 (by decide) (by decide) rfl (by omega) (by omega) (Or.inl (by decide))) rfl (by rw [cpV_sg (by decide)])
theorem g_back {G : GI} {T : Hp} {m : Nat} {V : RVal} {g : Nat → Nat} {od : Nat → UInt64} (hs : RS T m) {j p n : Nat} {f : Nat → Nat} (hr : rowI j n) (hn : n ≤ 80016) (hj : j ≠ 1) (h24 : f 0 ≤ 24) (hp : p + 402 + 400 * f 0 ≤ n) (hf : ∀ i, i < 402 + 400 * f 0 → V j (p + i) = nI (f i)) : Fn m_X13_copies G [.ref (m + j), .int (nI p), .ref (m + 1), .int (nI 0)] (rput T m (sg V g) od) none (rput T m (sg V (cpG g (402 + 400 * f 0) f)) od) := Fn.eq (f_copies hs hr rw1 hn (by decide) (k := f 0) (by rw [sg_n hj]; exact hf 0 (by omega)) hp (by omega) (Or.inl hj)) rfl (by rw [cpV_g hj hf])
/-- the pasts move down -/
def shI (V : RVal) (ns : Nat → Nat) : Nat → RVal
  | 0 => V
  | u + 1 => cpR (shI V ns u) 4 (10002 * u) (402 + 400 * ns (u + 1)) (fun i => shI V ns u 4 (10002 * (u + 1) + i))
theorem shI_n {V : RVal} {ns : Nat → Nat} (hn : ∀ k, ns k ≤ 24) {a b : Nat} : ∀ {u : Nat}, (a ≠ 4 ∨ 10002 * u ≤ b) → shI V ns u a b = V a b
  | 0, _ => rfl
  | u + 1, h => by
    have := hn (u + 1)
    show cpR _ _ _ _ _ a b = _
    rw [cpR_n (by omega)]
    exact shI_n hn (by omega)
theorem shI_r {V : RVal} {ns : Nat → Nat} (hn : ∀ k, ns k ≤ 24) {k i : Nat} (hi : i < 402 + 400 * ns (k + 1)) : ∀ {u : Nat}, k < u → shI V ns u 4 (10002 * k + i) = V 4 (10002 * (k + 1) + i)
  | 0, h => by omega
  | u + 1, h => by
    have := hn (u + 1)
    have h2 := hn (k + 1)
    by_cases e : k = u
    · subst e
      show cpR _ _ _ _ _ 4 (10002 * k + i) = _
      rw [cpR_r hi]
      exact shI_n hn (Or.inr (by omega))
    · show cpR _ _ _ _ _ 4 (10002 * k + i) = _
      rw [cpR_n (by omega)]
      exact shI_r hn hi (by omega)
set_option maxRecDepth 4000 in
theorem g_changes1 {G : GI} {T : Hp} {m : Nat} {V : RVal} {g : Nat → Nat} {od : Nat → UInt64} (hs : RS T m) {n : Nat} (hn : n < 8) (hpn : V 0 5 = nI n) (h24 : g 0 ≤ 24) : Fn m_X13_changes G [.ref (m), .ref (m + 1)] (rput T m (sg V g) od) none (rput T m (sg (up2 (cpR V 4 (10002 * n) (402 + 400 * (g 0)) (fun i => sg V g 1 (0 + i))) 0 (5) (nI (n + 1))) (g)) od) := by
  refine Cn.of rfl (by decide) (Nat.le_of_ble_eq_true rfl) (fun hN hM => ?_)
  show Wx _ G _ 0 [(0, .ref (m)), (1, .ref (m + 1))] [] _
  refine r_aload_n dX13_changes_0 rfl 0 rfl ?_
  refine o_get (k := 5) hs dX13_changes_1 fr_X13_57 rfl ?_
  refine Wx.top hpn ?_
  refine r_bipush (v := nI 8) dX13_changes_4 (by decide) ?_
  refine r_icmp_neN (tgt := 56) dX13_changes_6 (by decide) (by omega) (by omega) (fun h6 => ?_) (fun h6 => ?_)
  · refine r_aload_n dX13_changes_56 rfl 1 rfl ?_
    refine r_iconst (v := nI 0) dX13_changes_57 (by decide) ?_
    refine r_aload_n dX13_changes_58 rfl 0 rfl ?_
    refine m_ref (k := 4) (j := 4) hs hs.2.1.2.2.2.1 dX13_changes_59 fr_X13_20 rfl ?_
    refine r_sipush (v := nI 10002) dX13_changes_62 (by decide) ?_
    refine r_aload_n dX13_changes_65 rfl 0 rfl ?_
    refine o_get (k := 5) hs dX13_changes_66 fr_X13_57 rfl ?_
    refine Wx.top hpn ?_
    refine r_imulN dX13_changes_69 ?_
    refine r_fnS (M2 := m_X13_copies) (As := [.ref (m + 1), .int (nI (0)), .ref (m + 4), .int (nI (10002 * n))]) (rest := []) (v := none) dX13_changes_70 cc_X13_changes_60 rfl rfl rfl (Nat.le_of_ble_eq_true rfl) (g_push (n := n) hs (Or.inl ⟨rfl, rfl⟩) rfl h24 (by omega) (by decide)) rfl ?_
    refine r_aload_n dX13_changes_73 rfl 0 rfl ?_
    refine r_dup dX13_changes_74 rfl ?_
    refine o_get (k := 5) hs dX13_changes_75 fr_X13_57 rfl ?_
    refine Wx.top (show (cpR V 4 (10002 * n) (402 + 400 * (g 0)) (fun i => sg V g 1 (0 + i))) 0 5 = nI n from (cpR_n (Or.inl (by decide))).trans hpn) ?_
    refine r_iconst (v := nI 1) dX13_changes_78 (by decide) ?_
    refine r_iaddN dX13_changes_79 ?_
    refine o_put (k := 5) hs dX13_changes_80 fw_X13_changes_57 rfl rfl rfl ?_
    exact r_vret dX13_changes_83 rfl ⟨rfl, rfl⟩
  · exact absurd h6 (by omega)
set_option maxRecDepth 4000 in
theorem g_changes1f {G : GI} {T : Hp} {m : Nat} {V : RVal} {g : Nat → Nat} {od : Nat → UInt64} (hs : RS T m) {ns : Nat → Nat} (hns : ∀ k, ns k ≤ 24) (hpn : V 0 5 = nI 8) (hpk : ∀ k, k < 8 → V 4 (10002 * k) = nI (ns k)) (h24 : g 0 ≤ 24) : Fn m_X13_changes G [.ref (m), .ref (m + 1)] (rput T m (sg V g) od) none (rput T m (sg (up2 (cpR (up2 (shI V ns 7) 0 (5) (nI 7)) 4 (10002 * 7) (402 + 400 * (g 0)) (fun i => sg (up2 (shI V ns 7) 0 (5) (nI 7)) g 1 (0 + i))) 0 (5) (nI 8)) (g)) od) := by
  refine Cn.of rfl (by decide) (Nat.le_of_ble_eq_true rfl) (fun hN hM => ?_)
  show Wx _ G _ 0 [(0, .ref (m)), (1, .ref (m + 1))] [] _
  refine r_aload_n dX13_changes_0 rfl 0 rfl ?_
  refine o_get (k := 5) hs dX13_changes_1 fr_X13_57 rfl ?_
  refine Wx.top hpn ?_
  refine r_bipush (v := nI 8) dX13_changes_4 (by decide) ?_
  refine r_icmp_neN (tgt := 56) dX13_changes_6 (by decide) (by omega) (by omega) (fun zz6 => ?_) (fun zz6 => ?_)
  · exact absurd zz6 (by decide)
  · refine r_iconst (v := nI 1) dX13_changes_9 (by decide) ?_
    refine r_istore_n (lv' := [(2, .int (nI (1))), (0, .ref (m)), (1, .ref (m + 1))]) dX13_changes_10 rfl (by decide) rfl ?_
    refine Wx.st' (S' := rput T m (sg (shI V ns 0) g) od) rfl ?_
    refine Wx.sub [1, 2, 0] rfl ?_
    refine Wx.loop (fun u => rput T m (sg (shI V ns u) g) od) (fun u => [(0, .ref (m)), (1, .ref (m + 1)), (2, .int (nI (u + 1)))]) (7) (0) (Nat.zero_le _) (fun u hge hle next => ?_)
    show Wx _ G (rput T m (sg (shI V ns u) g) od) 11 [(0, .ref (m)), (1, .ref (m + 1)), (2, .int (nI (u + 1)))] [] _
    refine r_iload_n dX13_changes_11 rfl 2 rfl ?_
    refine r_bipush (v := nI 8) dX13_changes_12 (by decide) ?_
    refine r_icmp_geN (tgt := 46) dX13_changes_14 (by decide) (by omega) (by omega) (fun h14 => ?_) (fun h14 => ?_)
    · obtain rfl : u = 7 := by omega
      refine r_aload_n dX13_changes_46 rfl 0 rfl ?_
      refine r_dup dX13_changes_47 rfl ?_
      refine o_get (k := 5) hs dX13_changes_48 fr_X13_57 rfl ?_
      refine Wx.top (show shI V ns 7 0 5 = nI 8 from (shI_n hns (Or.inl (by decide))).trans hpn) ?_
      refine r_iconst (v := nI 1) dX13_changes_51 (by decide) ?_
      refine r_isubN dX13_changes_52 (by omega) ?_
      refine o_put (k := 5) hs dX13_changes_53 fw_X13_changes_57 rfl rfl rfl ?_
      refine r_aload_n dX13_changes_56 rfl 1 rfl ?_
      refine r_iconst (v := nI 0) dX13_changes_57 (by decide) ?_
      refine r_aload_n dX13_changes_58 rfl 0 rfl ?_
      refine m_ref (k := 4) (j := 4) hs hs.2.1.2.2.2.1 dX13_changes_59 fr_X13_20 rfl ?_
      refine r_sipush (v := nI 10002) dX13_changes_62 (by decide) ?_
      refine r_aload_n dX13_changes_65 rfl 0 rfl ?_
      refine o_get (k := 5) hs dX13_changes_66 fr_X13_57 rfl ?_
      refine Wx.top up2_s ?_
      refine r_imulN dX13_changes_69 ?_
      refine r_fnS (M2 := m_X13_copies) (As := [.ref (m + 1), .int (nI (0)), .ref (m + 4), .int (nI (70014))]) (rest := []) (v := none) dX13_changes_70 cc_X13_changes_60 rfl rfl rfl (Nat.le_of_ble_eq_true rfl) (g_push (n := 7) hs (Or.inl ⟨rfl, rfl⟩) rfl h24 (by omega) (by decide)) rfl ?_
      refine r_aload_n dX13_changes_73 rfl 0 rfl ?_
      refine r_dup dX13_changes_74 rfl ?_
      refine o_get (k := 5) hs dX13_changes_75 fr_X13_57 rfl ?_
      refine Wx.top (show (cpR (up2 (shI V ns 7) 0 (5) (nI 7)) 4 (10002 * 7) (402 + 400 * (g 0)) (fun i => sg (up2 (shI V ns 7) 0 (5) (nI 7)) g 1 (0 + i))) 0 5 = nI 7 from (cpR_n (Or.inl (by decide))).trans up2_s) ?_
      refine r_iconst (v := nI 1) dX13_changes_78 (by decide) ?_
      refine r_iaddN dX13_changes_79 ?_
      refine o_put (k := 5) hs dX13_changes_80 fw_X13_changes_57 rfl rfl rfl ?_
      exact r_vret dX13_changes_83 rfl ⟨rfl, rfl⟩
    · refine r_aload_n dX13_changes_17 rfl 0 rfl ?_
      refine m_ref (k := 4) (j := 4) hs hs.2.1.2.2.2.1 dX13_changes_18 fr_X13_20 rfl ?_
      refine r_sipush (v := nI 10002) dX13_changes_21 (by decide) ?_
      refine r_iload_n dX13_changes_24 rfl 2 rfl ?_
      refine r_imulN dX13_changes_25 ?_
      refine r_aload_n dX13_changes_26 rfl 0 rfl ?_
      refine m_ref (k := 4) (j := 4) hs hs.2.1.2.2.2.1 dX13_changes_27 fr_X13_20 rfl ?_
      refine r_sipush (v := nI 10002) dX13_changes_30 (by decide) ?_
      refine r_iload_n dX13_changes_33 rfl 2 rfl ?_
      refine r_iconst (v := nI 1) dX13_changes_34 (by decide) ?_
      refine r_isubN dX13_changes_35 (by omega) ?_
      refine r_imulN dX13_changes_36 ?_
      refine r_fnS (M2 := m_X13_copies) (As := [.ref (m + 4), .int (nI (10002 * (u + 1))), .ref (m + 4), .int (nI (10002 * ((u + 1) - 1)))]) (rest := []) (v := none) dX13_changes_37 cc_X13_changes_60 rfl rfl rfl (Nat.le_of_ble_eq_true rfl) (g_shift hs (k := ns (u + 1)) (by rw [shI_n hns (Or.inr (by omega))]; exact hpk _ (by omega)) (hns _) (by omega)) rfl ?_
      refine r_iincN (k := 1) (lv' := [(2, .int (nI (u + 1 + 1))), (0, .ref (m)), (1, .ref (m + 1))]) dX13_changes_40 (by decide) 2 rfl (by decide) rfl ?_
      refine r_goto (tgt := 11) dX13_changes_43 (by decide) ?_
      refine Wx.sub [1, 2, 0] rfl ?_
      exact next (by omega)
set_option maxRecDepth 4000 in
theorem g_changes3 {G : GI} {T : Hp} {m : Nat} {V : RVal} {g : Nat → Nat} {od : Nat → UInt64} (hs : RS T m) {n : Nat} (hn : n < 8) (hpn : V 0 5 = nI n) {k : Nat} (hk : V 3 0 = nI k) (h24 : k ≤ 24) : Fn m_X13_changes G [.ref (m), .ref (m + 3)] (rput T m (sg V g) od) none (rput T m (sg (up2 (cpR V 4 (10002 * n) (402 + 400 * (k)) (fun i => sg V g 3 (0 + i))) 0 (5) (nI (n + 1))) (g)) od) := by
  refine Cn.of rfl (by decide) (Nat.le_of_ble_eq_true rfl) (fun hN hM => ?_)
  show Wx _ G _ 0 [(0, .ref (m)), (1, .ref (m + 3))] [] _
  refine r_aload_n dX13_changes_0 rfl 0 rfl ?_
  refine o_get (k := 5) hs dX13_changes_1 fr_X13_57 rfl ?_
  refine Wx.top hpn ?_
  refine r_bipush (v := nI 8) dX13_changes_4 (by decide) ?_
  refine r_icmp_neN (tgt := 56) dX13_changes_6 (by decide) (by omega) (by omega) (fun h6 => ?_) (fun h6 => ?_)
  · refine r_aload_n dX13_changes_56 rfl 1 rfl ?_
    refine r_iconst (v := nI 0) dX13_changes_57 (by decide) ?_
    refine r_aload_n dX13_changes_58 rfl 0 rfl ?_
    refine m_ref (k := 4) (j := 4) hs hs.2.1.2.2.2.1 dX13_changes_59 fr_X13_20 rfl ?_
    refine r_sipush (v := nI 10002) dX13_changes_62 (by decide) ?_
    refine r_aload_n dX13_changes_65 rfl 0 rfl ?_
    refine o_get (k := 5) hs dX13_changes_66 fr_X13_57 rfl ?_
    refine Wx.top hpn ?_
    refine r_imulN dX13_changes_69 ?_
    refine r_fnS (M2 := m_X13_copies) (As := [.ref (m + 3), .int (nI (0)), .ref (m + 4), .int (nI (10002 * n))]) (rest := []) (v := none) dX13_changes_70 cc_X13_changes_60 rfl rfl rfl (Nat.le_of_ble_eq_true rfl) (g_push (n := n) hs rw3 hk h24 (by omega) (by decide)) rfl ?_
    refine r_aload_n dX13_changes_73 rfl 0 rfl ?_
    refine r_dup dX13_changes_74 rfl ?_
    refine o_get (k := 5) hs dX13_changes_75 fr_X13_57 rfl ?_
    refine Wx.top (show (cpR V 4 (10002 * n) (402 + 400 * (k)) (fun i => sg V g 3 (0 + i))) 0 5 = nI n from (cpR_n (Or.inl (by decide))).trans hpn) ?_
    refine r_iconst (v := nI 1) dX13_changes_78 (by decide) ?_
    refine r_iaddN dX13_changes_79 ?_
    refine o_put (k := 5) hs dX13_changes_80 fw_X13_changes_57 rfl rfl rfl ?_
    exact r_vret dX13_changes_83 rfl ⟨rfl, rfl⟩
  · exact absurd h6 (by omega)
set_option maxRecDepth 4000 in
theorem g_changes3f {G : GI} {T : Hp} {m : Nat} {V : RVal} {g : Nat → Nat} {od : Nat → UInt64} (hs : RS T m) {ns : Nat → Nat} (hns : ∀ k, ns k ≤ 24) (hpn : V 0 5 = nI 8) (hpk : ∀ k, k < 8 → V 4 (10002 * k) = nI (ns k)) {k : Nat} (hk : V 3 0 = nI k) (h24 : k ≤ 24) : Fn m_X13_changes G [.ref (m), .ref (m + 3)] (rput T m (sg V g) od) none (rput T m (sg (up2 (cpR (up2 (shI V ns 7) 0 (5) (nI 7)) 4 (10002 * 7) (402 + 400 * (k)) (fun i => sg (up2 (shI V ns 7) 0 (5) (nI 7)) g 3 (0 + i))) 0 (5) (nI 8)) (g)) od) := by
  refine Cn.of rfl (by decide) (Nat.le_of_ble_eq_true rfl) (fun hN hM => ?_)
  show Wx _ G _ 0 [(0, .ref (m)), (1, .ref (m + 3))] [] _
  refine r_aload_n dX13_changes_0 rfl 0 rfl ?_
  refine o_get (k := 5) hs dX13_changes_1 fr_X13_57 rfl ?_
  refine Wx.top hpn ?_
  refine r_bipush (v := nI 8) dX13_changes_4 (by decide) ?_
  refine r_icmp_neN (tgt := 56) dX13_changes_6 (by decide) (by omega) (by omega) (fun zz6 => ?_) (fun zz6 => ?_)
  · exact absurd zz6 (by decide)
  · refine r_iconst (v := nI 1) dX13_changes_9 (by decide) ?_
    refine r_istore_n (lv' := [(2, .int (nI (1))), (0, .ref (m)), (1, .ref (m + 3))]) dX13_changes_10 rfl (by decide) rfl ?_
    refine Wx.st' (S' := rput T m (sg (shI V ns 0) g) od) rfl ?_
    refine Wx.sub [1, 2, 0] rfl ?_
    refine Wx.loop (fun u => rput T m (sg (shI V ns u) g) od) (fun u => [(0, .ref (m)), (1, .ref (m + 3)), (2, .int (nI (u + 1)))]) (7) (0) (Nat.zero_le _) (fun u hge hle next => ?_)
    show Wx _ G (rput T m (sg (shI V ns u) g) od) 11 [(0, .ref (m)), (1, .ref (m + 3)), (2, .int (nI (u + 1)))] [] _
    refine r_iload_n dX13_changes_11 rfl 2 rfl ?_
    refine r_bipush (v := nI 8) dX13_changes_12 (by decide) ?_
    refine r_icmp_geN (tgt := 46) dX13_changes_14 (by decide) (by omega) (by omega) (fun h14 => ?_) (fun h14 => ?_)
    · obtain rfl : u = 7 := by omega
      refine r_aload_n dX13_changes_46 rfl 0 rfl ?_
      refine r_dup dX13_changes_47 rfl ?_
      refine o_get (k := 5) hs dX13_changes_48 fr_X13_57 rfl ?_
      refine Wx.top (show shI V ns 7 0 5 = nI 8 from (shI_n hns (Or.inl (by decide))).trans hpn) ?_
      refine r_iconst (v := nI 1) dX13_changes_51 (by decide) ?_
      refine r_isubN dX13_changes_52 (by omega) ?_
      refine o_put (k := 5) hs dX13_changes_53 fw_X13_changes_57 rfl rfl rfl ?_
      refine r_aload_n dX13_changes_56 rfl 1 rfl ?_
      refine r_iconst (v := nI 0) dX13_changes_57 (by decide) ?_
      refine r_aload_n dX13_changes_58 rfl 0 rfl ?_
      refine m_ref (k := 4) (j := 4) hs hs.2.1.2.2.2.1 dX13_changes_59 fr_X13_20 rfl ?_
      refine r_sipush (v := nI 10002) dX13_changes_62 (by decide) ?_
      refine r_aload_n dX13_changes_65 rfl 0 rfl ?_
      refine o_get (k := 5) hs dX13_changes_66 fr_X13_57 rfl ?_
      refine Wx.top up2_s ?_
      refine r_imulN dX13_changes_69 ?_
      refine r_fnS (M2 := m_X13_copies) (As := [.ref (m + 3), .int (nI (0)), .ref (m + 4), .int (nI (70014))]) (rest := []) (v := none) dX13_changes_70 cc_X13_changes_60 rfl rfl rfl (Nat.le_of_ble_eq_true rfl) (g_push (n := 7) hs rw3 (show sg (up2 (shI V ns 7) 0 5 (nI 7)) g 3 0 = nI k by rw [sg_n (by decide), up2_n (by decide), shI_n hns (Or.inl (by decide))]; exact hk) h24 (by omega) (by decide)) rfl ?_
      refine r_aload_n dX13_changes_73 rfl 0 rfl ?_
      refine r_dup dX13_changes_74 rfl ?_
      refine o_get (k := 5) hs dX13_changes_75 fr_X13_57 rfl ?_
      refine Wx.top (show (cpR (up2 (shI V ns 7) 0 (5) (nI 7)) 4 (10002 * 7) (402 + 400 * (k)) (fun i => sg (up2 (shI V ns 7) 0 (5) (nI 7)) g 3 (0 + i))) 0 5 = nI 7 from (cpR_n (Or.inl (by decide))).trans up2_s) ?_
      refine r_iconst (v := nI 1) dX13_changes_78 (by decide) ?_
      refine r_iaddN dX13_changes_79 ?_
      refine o_put (k := 5) hs dX13_changes_80 fw_X13_changes_57 rfl rfl rfl ?_
      exact r_vret dX13_changes_83 rfl ⟨rfl, rfl⟩
    · refine r_aload_n dX13_changes_17 rfl 0 rfl ?_
      refine m_ref (k := 4) (j := 4) hs hs.2.1.2.2.2.1 dX13_changes_18 fr_X13_20 rfl ?_
      refine r_sipush (v := nI 10002) dX13_changes_21 (by decide) ?_
      refine r_iload_n dX13_changes_24 rfl 2 rfl ?_
      refine r_imulN dX13_changes_25 ?_
      refine r_aload_n dX13_changes_26 rfl 0 rfl ?_
      refine m_ref (k := 4) (j := 4) hs hs.2.1.2.2.2.1 dX13_changes_27 fr_X13_20 rfl ?_
      refine r_sipush (v := nI 10002) dX13_changes_30 (by decide) ?_
      refine r_iload_n dX13_changes_33 rfl 2 rfl ?_
      refine r_iconst (v := nI 1) dX13_changes_34 (by decide) ?_
      refine r_isubN dX13_changes_35 (by omega) ?_
      refine r_imulN dX13_changes_36 ?_
      refine r_fnS (M2 := m_X13_copies) (As := [.ref (m + 4), .int (nI (10002 * (u + 1))), .ref (m + 4), .int (nI (10002 * ((u + 1) - 1)))]) (rest := []) (v := none) dX13_changes_37 cc_X13_changes_60 rfl rfl rfl (Nat.le_of_ble_eq_true rfl) (g_shift hs (k := ns (u + 1)) (by rw [shI_n hns (Or.inr (by omega))]; exact hpk _ (by omega)) (hns _) (by omega)) rfl ?_
      refine r_iincN (k := 1) (lv' := [(2, .int (nI (u + 1 + 1))), (0, .ref (m)), (1, .ref (m + 3))]) dX13_changes_40 (by decide) 2 rfl (by decide) rfl ?_
      refine r_goto (tgt := 11) dX13_changes_43 (by decide) ?_
      refine Wx.sub [1, 2, 0] rfl ?_
      exact next (by omega)
