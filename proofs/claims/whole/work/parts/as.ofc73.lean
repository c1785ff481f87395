/-! THE REFERENCE RUNS A TEXT -/
def EqT (V V' : RVal) : Prop := ∀ j i, j ≠ 3 → j ≠ 5 → j ≠ 10 → ¬ (j = 0 ∧ (i = 6 ∨ i = 7 ∨ i = 8 ∨ i = 14 ∨ i = 15 ∨ i = 17 ∨ i = 18)) → V' j i = V j i
def TolU (V : RVal) (W Kn P : Nat → Nat) (Vv : Nat → Nat → Nat) (n : Nat) : Prop := ∀ j, j < n → V 10 (9 * j) = nI (W j) ∧ V 10 (9 * j + 1) = nI (P j) ∧ ∀ k, k < 6 → V 10 (9 * j + (3 + k)) = nI (uv (Kn j) (Vv j) k)
def RnP (V V9 : RVal) (W Kn P : Nat → Nat) (Vv : Nat → Nat → Nat) (n : Nat) (g : Nat → Nat) : Prop := EqT V V9 ∧ TolU V9 W Kn P Vv n ∧ V9 0 17 = nI n ∧ V9 0 6 = nI 0 ∧ V9 0 14 = nI 0 ∧ V9 0 15 = -1 ∧ ∀ i, i < 402 + 400 * g 0 → V9 3 i = nI (g i)
theorem RnP.n {V V9 V' : RVal} {W Kn P : Nat → Nat} {Vv : Nat → Nat → Nat} {n : Nat} {g : Nat → Nat} (h : RnP V V9 W Kn P Vv n g) (e : EqN V9 V') : RnP V V' W Kn P Vv n g := by
  obtain ⟨h1, h2, h3, h4, h5, h6, h7⟩ := h
  exact ⟨fun j i a b c d => (e j i b (by omega)).trans (h1 j i a b c d), fun j hj => ⟨(e _ _ (by decide) (by omega)).trans (h2 j hj).1, (e _ _ (by decide) (by omega)).trans (h2 j hj).2.1, fun k hk => (e _ _ (by decide) (by omega)).trans ((h2 j hj).2.2 k hk)⟩, (e _ _ (by decide) (by omega)).trans h3, (e _ _ (by decide) (by omega)).trans h4, (e _ _ (by decide) (by omega)).trans h5, (e _ _ (by decide) (by omega)).trans h6, fun i hi => (e _ _ (by decide) (by omega)).trans (h7 i hi)⟩
theorem TolP.tu {V : RVal} {t : Nat → Nat} {L : Nat} {W Kn P W' Kn' P' : Nat → Nat} {Vv Vv' : Nat → Nat → Nat} {n : Nat} (h : TolP V W' Kn' P' Vv' n) (hP : ∀ j, j ≤ n → P j = P' j) (hW : ∀ j, j < n → W j = W' j ∧ Kn j = Kn' j ∧ ∀ k, k ≤ Kn j → Vv j k = Vv' j k) : TolU V W Kn P Vv n := fun j hj => by
  obtain ⟨a1, a2, a3, a4⟩ := h j hj
  obtain ⟨b1, b2, b3⟩ := hW j hj
  refine ⟨by rw [b1]; exact a1, by rw [hP j (by omega)]; exact a2, fun k hk => ?_⟩
  unfold uv
  split
  · rename_i z; rw [b3 k z]; exact a3 k (b2 ▸ z)
  · rename_i z; rw [nI_m1]; exact a4 k (by omega) hk
set_option maxRecDepth 4000 in
set_option maxHeartbeats 1000000 in
theorem g_run_1 {G : GI} {T : Hp} {m : Nat} {V : RVal} {g : Nat → Nat} {od : Nat → UInt64} (hs : RS T m) {t : Nat → Nat} {L : Nat} (hx0 : TxV V t L) (ht : ∀ k, k < L → t k < 128) {p : Nat} (hbt : BadT t L p) : Cn m_X13_run G [.ref m] (rput T m (sg V g) od) (fun r U => r = .inl (some (.int (nI 0))) ∧ ∃ V', U = rput T m (sg V' g) od ∧ EqT V V' ∧ V' 0 6 = nI 1 ∧ V' 0 14 = nI 0 ∧ V' 0 15 = nI p) := by
  refine Cn.of rfl (by decide) (Nat.le_of_ble_eq_true rfl) (fun hN hM => ?_)
  show Wx _ G _ 0 [(0, .ref (m))] [] _
  refine r_aload_n dX13_run_0 rfl 0 rfl ?_
  refine r_iconst (v := nI 0) dX13_run_1 (by decide) ?_
  refine o_put (k := 6) hs dX13_run_2 fw_X13_run_54 rfl rfl rfl ?_
  refine r_aload_n dX13_run_5 rfl 0 rfl ?_
  have hx1 : TxV (up2 V 0 (6) (nI 0)) t L := ⟨(up2_n (by omega)).trans hx0.1, hx0.2.1, fun i hi => (up2_n (by omega)).trans (hx0.2.2 i hi)⟩
  refine r_callV (M2 := m_X13_isText) (As := []) (rest := []) dX13_run_6 cc_X13_run_372 rfl rfl rfl (Nat.le_of_ble_eq_true rfl) hs.1 rfl rfl (by decide) (g_isText hs hx1 ht) (fun v9 U1 hq9 => ?_) (fun E9 T9 hq9 => by rcases hq9 with hq9 | hq9 <;> cases hq9.1)
  rcases hq9 with ⟨hv9, W', Kn', P', Vv', n', V1, rfl, htx', -⟩ | ⟨hv9, p', V1, rfl, hbt', h18, hE1⟩
  · exact absurd hbt (fun z => htx'.nb z)
  cases hv9
  obtain rfl : p = p' := hbt.u hbt'
  show Wx _ G (rput T m (sg V1 g) od) 9 [(0, .ref (m))] [.int (nI (0))] _
  refine r_istore_n (lv' := [(1, .int (nI (0))), (0, .ref (m))]) dX13_run_9 rfl (by decide) rfl ?_
  refine r_aload_n dX13_run_10 rfl 1 rfl ?_
  refine r_iconst (v := nI 0) dX13_run_11 (by decide) ?_
  refine o_put (k := 14) hs dX13_run_12 fw_X13_run_307 rfl rfl rfl ?_
  refine r_aload_n dX13_run_15 rfl 1 rfl ?_
  refine r_iload_n dX13_run_16 rfl 0 rfl ?_
  refine r_if_eqN (tgt := 24) dX13_run_17 (by decide) (by omega) (fun zz17 => ?_) (fun zz17 => ?_)
  · refine r_aload_n dX13_run_24 rfl 1 rfl ?_
    refine o_get (k := 18) hs dX13_run_25 fr_X13_331 rfl ?_
    refine Wx.top (up2_n (by omega)) ?_
    refine Wx.top h18 ?_
    refine o_put (k := 15) hs dX13_run_28 fw_X13_run_40 rfl rfl rfl ?_
    refine r_iload_n dX13_run_31 rfl 0 rfl ?_
    refine r_if_neN (tgt := 41) dX13_run_32 (by decide) (by omega) (fun zz32 => ?_) (fun zz32 => ?_)
    · exact absurd zz32 (by decide)
    · refine r_aload_n dX13_run_35 rfl 1 rfl ?_
      refine r_iconst (v := nI 1) dX13_run_36 (by decide) ?_
      refine r_fnV (M2 := m_X13_fails) (As := [.int (nI (1))]) (rest := []) (v := some (.int (nI (0)))) dX13_run_37 cc_X13_run_289 rfl rfl rfl (Nat.le_of_ble_eq_true rfl) hs.1 rfl rfl (by decide) (g_fails hs) rfl ?_
      exact r_iret (ty := .int) dX13_run_40 rfl rfl ⟨rfl, _, rfl, fun j i a b c d => (up2_n (by omega)).trans ((up2_n (by omega)).trans ((up2_n (by omega)).trans (((hE1 j i (by omega) c).trans (up2_n (by omega)))))), up2_s, (up2_n (by omega)).trans ((up2_n (by omega)).trans (up2_s)), (up2_n (by omega)).trans (up2_s)⟩
  · exact absurd zz17 (by decide)
set_option maxRecDepth 4000 in
set_option maxHeartbeats 1000000 in
theorem g_run_0 {G : GI} {T : Hp} {m : Nat} {V : RVal} {g : Nat → Nat} {od : Nat → UInt64} (hs : RS T m) {t : Nat → Nat} {L : Nat} (hx0 : TxV V t L) (ht : ∀ k, k < L → t k < 128) {W Kn P : Nat → Nat} {Vv : Nat → Nat → Nat} {n : Nat} (htx : TextP t L W Kn P Vv n) {gg : Nat → Nat → Nat} {NN vv : Nat → Nat} (hg0 : gg 0 = g) (h24 : g 0 ≤ 24) (hch : ChP W Kn Vv gg NN vv n) {ps : Nat} {gq : Nat → Nat → Nat} (hps : PsV V ps gq) : Cn m_X13_run G [.ref m] (rput T m (sg V g) od) (fun r U => r = .inl (some (.int (nI n))) ∧ ∃ V', U = rput T m (sg V' (gg n)) od ∧ PsV V' (if ps < 8 then ps + 1 else ps) (psh g gq) ∧ (∀ k i, k ≠ 3 → k ≠ 5 → k ≠ 10 → k ≠ 4 → ¬ (k = 0 ∧ (i = 5 ∨ i = 6 ∨ i = 7 ∨ i = 8 ∨ i = 14 ∨ i = 15 ∨ i = 17 ∨ i = 18)) → V' k i = V k i) ∧ V' 0 6 = nI 0 ∧ V' 0 14 = nI 0 ∧ V' 0 15 = -1) := by
  refine Cn.of rfl (by decide) (Nat.le_of_ble_eq_true rfl) (fun hN hM => ?_)
  show Wx _ G _ 0 [(0, .ref (m))] [] _
  refine r_aload_n dX13_run_0 rfl 0 rfl ?_
  refine r_iconst (v := nI 0) dX13_run_1 (by decide) ?_
  refine o_put (k := 6) hs dX13_run_2 fw_X13_run_54 rfl rfl rfl ?_
  refine r_aload_n dX13_run_5 rfl 0 rfl ?_
  have hx1 : TxV (up2 V 0 (6) (nI 0)) t L := ⟨(up2_n (by omega)).trans hx0.1, hx0.2.1, fun i hi => (up2_n (by omega)).trans (hx0.2.2 i hi)⟩
  refine r_callV (M2 := m_X13_isText) (As := []) (rest := []) dX13_run_6 cc_X13_run_372 rfl rfl rfl (Nat.le_of_ble_eq_true rfl) hs.1 rfl rfl (by decide) (g_isText hs hx1 ht) (fun v9 U1 hq9 => ?_) (fun E9 T9 hq9 => by rcases hq9 with hq9 | hq9 <;> cases hq9.1)
  rcases hq9 with ⟨hv9, W', Kn', P', Vv', n', V1, rfl, htx', hTo, h17, hE1⟩ | ⟨hv9, p', V1, rfl, hbt', -⟩
  rotate_left
  · exact absurd hbt' (fun z => htx.nb z)
  cases hv9
  obtain ⟨rfl, hP, hWK⟩ := htx.u htx'
  have hTu : TolU V1 W Kn P Vv n := TolP.tu (t := t) (L := L) hTo hP hWK
  clear hTo htx' hWK hP
  show Wx _ G (rput T m (sg V1 g) od) 9 [(0, .ref (m))] [.int (nI (1))] _
  refine r_istore_n (lv' := [(1, .int (nI (1))), (0, .ref (m))]) dX13_run_9 rfl (by decide) rfl ?_
  refine r_aload_n dX13_run_10 rfl 1 rfl ?_
  refine r_iconst (v := nI 0) dX13_run_11 (by decide) ?_
  refine o_put (k := 14) hs dX13_run_12 fw_X13_run_307 rfl rfl rfl ?_
  refine r_aload_n dX13_run_15 rfl 1 rfl ?_
  refine r_iload_n dX13_run_16 rfl 0 rfl ?_
  refine r_if_eqN (tgt := 24) dX13_run_17 (by decide) (by omega) (fun zz17 => ?_) (fun zz17 => ?_)
  · exact absurd zz17 (by decide)
  · refine r_iconst (v := (-1)) dX13_run_20 (by decide) ?_
    refine r_goto (tgt := 28) dX13_run_21 (by decide) ?_
    refine o_put (k := 15) hs dX13_run_28 fw_X13_run_40 rfl rfl rfl ?_
    refine r_iload_n dX13_run_31 rfl 0 rfl ?_
    refine r_if_neN (tgt := 41) dX13_run_32 (by decide) (by omega) (fun zz32 => ?_) (fun zz32 => ?_)
    · refine r_aload_n dX13_run_41 rfl 1 rfl ?_
      refine m_ref (k := 0) (j := 1) hs hs.2.1.1 dX13_run_42 fr_X13_7 rfl ?_
      refine r_iconst (v := nI 0) dX13_run_45 (by decide) ?_
      refine r_aload_n dX13_run_46 rfl 1 rfl ?_
      refine m_ref (k := 2) (j := 3) hs hs.2.1.2.2.1 dX13_run_47 fr_X13_16 rfl ?_
      refine r_iconst (v := nI 0) dX13_run_50 (by decide) ?_
      refine r_fnS (M2 := m_X13_copies) (As := [.ref (m + 1), .int (nI (0)), .ref (m + 3), .int (nI (0))]) (rest := []) (v := none) dX13_run_51 cc_X13_run_60 rfl rfl rfl (Nat.le_of_ble_eq_true rfl) (g_spare hs h24) rfl ?_
      refine r_iconst (v := nI 0) dX13_run_54 (by decide) ?_
      refine r_istore_n (lv' := [(2, .int (nI (0))), (1, .int (nI (1))), (0, .ref (m))]) dX13_run_55 rfl (by decide) rfl ?_
      have hcn : 6 * n ≤ L := by have := htx.2.1.le (Nat.le_refl n); omega
      have hL60 := hx0.2.1
      refine Wx.gv (fun V3 => RnP V V3 W Kn P Vv n g) ⟨fun j i a b c d => (cpR_n (by omega)).trans ((up2_n (by omega)).trans ((up2_n (by omega)).trans ((hE1 j i (by omega) c).trans (up2_n (by omega))))), fun j hj => ⟨(cpR_n (by omega)).trans ((up2_n (by omega)).trans ((up2_n (by omega)).trans ((hTu j hj).1))), (cpR_n (by omega)).trans ((up2_n (by omega)).trans ((up2_n (by omega)).trans ((hTu j hj).2.1))), fun k hk => (cpR_n (by omega)).trans ((up2_n (by omega)).trans ((up2_n (by omega)).trans ((hTu j hj).2.2 k hk)))⟩, (cpR_n (by omega)).trans ((up2_n (by omega)).trans ((up2_n (by omega)).trans (h17))), (cpR_n (by omega)).trans ((up2_n (by omega)).trans ((up2_n (by omega)).trans ((hE1 0 6 (by omega) (by decide)).trans up2_s))), (cpR_n (by omega)).trans ((up2_n (by omega)).trans (up2_s)), (cpR_n (by omega)).trans (up2_s), fun i hi => by
        have z := cpR_r (V := (up2 (up2 V1 0 (14) (nI 0)) 0 (15) ((-1)))) (j := 3) (q := 0) (f := fun i => sg (up2 (up2 V1 0 (14) (nI 0)) 0 (15) ((-1))) g 1 (0 + i)) hi
        rw [Nat.zero_add] at z
        exact z⟩ (fun V3 hR => ?_)
      have hgs : rput T m (sg V3 g) od = rput T m (sg V3 (gg 0)) od := by rw [hg0]
      rw [hgs]
      refine Wx.loopR (fun j S lv => (∃ V9, S = rput T m (sg V9 (gg j)) od ∧ RnP V V9 W Kn P Vv n g ∧ lv = [(2, .int (nI (j))), (1, .int (nI (1))), (0, .ref (m))])) n 0 (Nat.zero_le _) ⟨V3, rfl, hR, rfl⟩ (fun j S lv hu0 hu hI nx => ?_)
      clear hR hgs hTu h17 hE1
      obtain ⟨V9, rfl, hR, rfl⟩ := hI
      refine r_iload_n dX13_run_56 rfl 0 rfl ?_
      refine r_aload_n dX13_run_57 rfl 2 rfl ?_
      refine o_get (k := 17) hs dX13_run_58 fr_X13_353 rfl ?_
      refine Wx.top hR.2.2.1 ?_
      refine r_icmp_geN (tgt := 112) dX13_run_61 (by decide) (by omega) (by omega) (fun h61 => ?_) (fun h61 => ?_)
      · refine r_aload_n dX13_run_112 rfl 2 rfl ?_
        refine r_aload_n dX13_run_113 rfl 2 rfl ?_
        refine m_ref (k := 2) (j := 3) hs hs.2.1.2.2.1 dX13_run_114 fr_X13_16 rfl ?_
        obtain rfl : j = n := by omega
        obtain ⟨V2, hfn, hps2, hEP⟩ := push3 (V := V9) (g := gg j) (od := od) (f := g) (G := G) hs (hps.cg (hR.1 0 5 (by decide) (by decide) (by decide) (by omega)) (fun i => hR.1 4 i (by decide) (by decide) (by decide) (by omega))) hR.2.2.2.2.2.2 h24
        refine r_fnV (M2 := m_X13_changes) (As := [.ref (m + 3)]) (rest := []) (v := none) dX13_run_117 cc_X13_run_111 rfl rfl rfl (Nat.le_of_ble_eq_true rfl) hs.1 rfl rfl (by decide) hfn rfl ?_
        refine r_aload_n dX13_run_120 rfl 2 rfl ?_
        refine o_get (k := 17) hs dX13_run_121 fr_X13_353 rfl ?_
        refine Wx.top ((hEP 0 17 (by decide) (by omega)).trans hR.2.2.1) ?_
        exact r_iret (ty := .int) dX13_run_124 rfl rfl ⟨rfl, V2, rfl, hps2, (fun k i a b c d e => (hEP k i d (by omega)).trans (hR.1 k i a b c (by omega))), (hEP 0 6 (by decide) (by omega)).trans hR.2.2.2.1, (hEP 0 14 (by decide) (by omega)).trans hR.2.2.2.2.1, (hEP 0 15 (by decide) (by omega)).trans hR.2.2.2.2.2.1⟩
      · refine r_aload_n dX13_run_64 rfl 2 rfl ?_
        refine r_iload_n dX13_run_65 rfl 0 rfl ?_
        refine r_callV (M2 := m_X13_does) (As := [.int (nI (j))]) (rest := []) dX13_run_66 cc_X13_run_375 rfl rfl rfl (Nat.le_of_ble_eq_true rfl) hs.1 rfl rfl (by decide) (g_cmdO hs (by omega) (hR.2.1 j (by omega)).1 (hR.2.1 j (by omega)).2.2 (hch j (by omega))) (fun v9 U1 hq9 => ?_) (fun E9 T9 hq9 => by obtain ⟨hq9, -⟩ := hq9; cases hq9)
        obtain ⟨hv9, V', hEq, rfl⟩ := hq9
        cases hv9
        show Wx _ G (rput T m (sg V' (gg (j + 1))) od) 69 [(2, .int (nI (j))), (1, .int (nI (1))), (0, .ref (m))] [.int (nI (1))] _
        refine r_if_neN (tgt := 106) dX13_run_69 (by decide) (by omega) (fun zz69 => ?_) (fun zz69 => ?_)
        · refine r_iincN (k := 1) (lv' := [(2, .int (nI (j + 1))), (1, .int (nI (1))), (0, .ref (m))]) dX13_run_106 (by decide) 0 rfl (by decide) rfl ?_
          refine r_goto (tgt := 56) dX13_run_109 (by decide) ?_
          exact nx _ _ (by omega) ⟨V', rfl, hR.n hEq, rfl⟩
        · exact absurd zz69 (by decide)
    · exact absurd zz32 (by decide)
set_option maxRecDepth 4000 in
set_option maxHeartbeats 1000000 in
theorem g_run_2 {G : GI} {T : Hp} {m : Nat} {V : RVal} {g : Nat → Nat} {od : Nat → UInt64} (hs : RS T m) {t : Nat → Nat} {L : Nat} (hx0 : TxV V t L) (ht : ∀ k, k < L → t k < 128) {W Kn P : Nat → Nat} {Vv : Nat → Nat → Nat} {n : Nat} (htx : TextP t L W Kn P Vv n) {gg : Nat → Nat → Nat} {NN vv : Nat → Nat} (hg0 : gg 0 = g) (h24 : g 0 ≤ 24) {f : Nat} (hfn : f < n) (hch : ChP W Kn Vv gg NN vv f) {kv : Int32} (hcx : CmdX (W f) (uv (Kn f) (Vv f)) (gg f) (NN f) kv) : Cn m_X13_run G [.ref m] (rput T m (sg V g) od) (fun r U => r = .inl (some (.int (nI 0))) ∧ ∃ V', U = rput T m (sg V' (cpG (gg f) (402 + 400 * g 0) g)) od ∧ EqT V V' ∧ V' 0 6 = nI 2 ∧ V' 0 14 = nI 0 ∧ V' 0 15 = nI (P f)) := by
  refine Cn.of rfl (by decide) (Nat.le_of_ble_eq_true rfl) (fun hN hM => ?_)
  show Wx _ G _ 0 [(0, .ref (m))] [] _
  refine r_aload_n dX13_run_0 rfl 0 rfl ?_
  refine r_iconst (v := nI 0) dX13_run_1 (by decide) ?_
  refine o_put (k := 6) hs dX13_run_2 fw_X13_run_54 rfl rfl rfl ?_
  refine r_aload_n dX13_run_5 rfl 0 rfl ?_
  have hx1 : TxV (up2 V 0 (6) (nI 0)) t L := ⟨(up2_n (by omega)).trans hx0.1, hx0.2.1, fun i hi => (up2_n (by omega)).trans (hx0.2.2 i hi)⟩
  refine r_callV (M2 := m_X13_isText) (As := []) (rest := []) dX13_run_6 cc_X13_run_372 rfl rfl rfl (Nat.le_of_ble_eq_true rfl) hs.1 rfl rfl (by decide) (g_isText hs hx1 ht) (fun v9 U1 hq9 => ?_) (fun E9 T9 hq9 => by rcases hq9 with hq9 | hq9 <;> cases hq9.1)
  rcases hq9 with ⟨hv9, W', Kn', P', Vv', n', V1, rfl, htx', hTo, h17, hE1⟩ | ⟨hv9, p', V1, rfl, hbt', -⟩
  rotate_left
  · exact absurd hbt' (fun z => htx.nb z)
  cases hv9
  obtain ⟨rfl, hP, hWK⟩ := htx.u htx'
  have hTu : TolU V1 W Kn P Vv n := TolP.tu (t := t) (L := L) hTo hP hWK
  clear hTo htx' hWK hP
  show Wx _ G (rput T m (sg V1 g) od) 9 [(0, .ref (m))] [.int (nI (1))] _
  refine r_istore_n (lv' := [(1, .int (nI (1))), (0, .ref (m))]) dX13_run_9 rfl (by decide) rfl ?_
  refine r_aload_n dX13_run_10 rfl 1 rfl ?_
  refine r_iconst (v := nI 0) dX13_run_11 (by decide) ?_
  refine o_put (k := 14) hs dX13_run_12 fw_X13_run_307 rfl rfl rfl ?_
  refine r_aload_n dX13_run_15 rfl 1 rfl ?_
  refine r_iload_n dX13_run_16 rfl 0 rfl ?_
  refine r_if_eqN (tgt := 24) dX13_run_17 (by decide) (by omega) (fun zz17 => ?_) (fun zz17 => ?_)
  · exact absurd zz17 (by decide)
  · refine r_iconst (v := (-1)) dX13_run_20 (by decide) ?_
    refine r_goto (tgt := 28) dX13_run_21 (by decide) ?_
    refine o_put (k := 15) hs dX13_run_28 fw_X13_run_40 rfl rfl rfl ?_
    refine r_iload_n dX13_run_31 rfl 0 rfl ?_
    refine r_if_neN (tgt := 41) dX13_run_32 (by decide) (by omega) (fun zz32 => ?_) (fun zz32 => ?_)
    · refine r_aload_n dX13_run_41 rfl 1 rfl ?_
      refine m_ref (k := 0) (j := 1) hs hs.2.1.1 dX13_run_42 fr_X13_7 rfl ?_
      refine r_iconst (v := nI 0) dX13_run_45 (by decide) ?_
      refine r_aload_n dX13_run_46 rfl 1 rfl ?_
      refine m_ref (k := 2) (j := 3) hs hs.2.1.2.2.1 dX13_run_47 fr_X13_16 rfl ?_
      refine r_iconst (v := nI 0) dX13_run_50 (by decide) ?_
      refine r_fnS (M2 := m_X13_copies) (As := [.ref (m + 1), .int (nI (0)), .ref (m + 3), .int (nI (0))]) (rest := []) (v := none) dX13_run_51 cc_X13_run_60 rfl rfl rfl (Nat.le_of_ble_eq_true rfl) (g_spare hs h24) rfl ?_
      refine r_iconst (v := nI 0) dX13_run_54 (by decide) ?_
      refine r_istore_n (lv' := [(2, .int (nI (0))), (1, .int (nI (1))), (0, .ref (m))]) dX13_run_55 rfl (by decide) rfl ?_
      have hcn : 6 * n ≤ L := by have := htx.2.1.le (Nat.le_refl n); omega
      have hL60 := hx0.2.1
      refine Wx.gv (fun V3 => RnP V V3 W Kn P Vv n g) ⟨fun j i a b c d => (cpR_n (by omega)).trans ((up2_n (by omega)).trans ((up2_n (by omega)).trans ((hE1 j i (by omega) c).trans (up2_n (by omega))))), fun j hj => ⟨(cpR_n (by omega)).trans ((up2_n (by omega)).trans ((up2_n (by omega)).trans ((hTu j hj).1))), (cpR_n (by omega)).trans ((up2_n (by omega)).trans ((up2_n (by omega)).trans ((hTu j hj).2.1))), fun k hk => (cpR_n (by omega)).trans ((up2_n (by omega)).trans ((up2_n (by omega)).trans ((hTu j hj).2.2 k hk)))⟩, (cpR_n (by omega)).trans ((up2_n (by omega)).trans ((up2_n (by omega)).trans (h17))), (cpR_n (by omega)).trans ((up2_n (by omega)).trans ((up2_n (by omega)).trans ((hE1 0 6 (by omega) (by decide)).trans up2_s))), (cpR_n (by omega)).trans ((up2_n (by omega)).trans (up2_s)), (cpR_n (by omega)).trans (up2_s), fun i hi => by
        have z := cpR_r (V := (up2 (up2 V1 0 (14) (nI 0)) 0 (15) ((-1)))) (j := 3) (q := 0) (f := fun i => sg (up2 (up2 V1 0 (14) (nI 0)) 0 (15) ((-1))) g 1 (0 + i)) hi
        rw [Nat.zero_add] at z
        exact z⟩ (fun V3 hR => ?_)
      have hgs : rput T m (sg V3 g) od = rput T m (sg V3 (gg 0)) od := by rw [hg0]
      rw [hgs]
      refine Wx.loopR (fun j S lv => (∃ V9, S = rput T m (sg V9 (gg j)) od ∧ RnP V V9 W Kn P Vv n g ∧ lv = [(2, .int (nI (j))), (1, .int (nI (1))), (0, .ref (m))])) f 0 (Nat.zero_le _) ⟨V3, rfl, hR, rfl⟩ (fun j S lv hu0 hu hI nx => ?_)
      clear hR hgs hTu h17 hE1
      obtain ⟨V9, rfl, hR, rfl⟩ := hI
      refine r_iload_n dX13_run_56 rfl 0 rfl ?_
      refine r_aload_n dX13_run_57 rfl 2 rfl ?_
      refine o_get (k := 17) hs dX13_run_58 fr_X13_353 rfl ?_
      refine Wx.top hR.2.2.1 ?_
      refine r_icmp_geN (tgt := 112) dX13_run_61 (by decide) (by omega) (by omega) (fun h61 => ?_) (fun h61 => ?_)
      · exact absurd h61 (by omega)
      · refine r_aload_n dX13_run_64 rfl 2 rfl ?_
        refine r_iload_n dX13_run_65 rfl 0 rfl ?_
        by_cases hjf : j = f
        · obtain rfl : f = j := hjf.symm
          refine r_fnV (M2 := m_X13_does) (As := [.int (nI (f))]) (rest := []) (v := some (.int (nI 0))) dX13_run_66 cc_X13_run_375 rfl rfl rfl (Nat.le_of_ble_eq_true rfl) hs.1 rfl rfl (by decide) (g_cmdX hs (by omega) (hR.2.1 f (by omega)).1 (hR.2.1 f (by omega)).2.2 hcx) rfl ?_
          refine r_if_neN (tgt := 106) dX13_run_69 (by decide) (by omega) (fun zz69 => ?_) (fun zz69 => ?_)
          · exact absurd zz69 (by decide)
          · refine r_aload_n dX13_run_72 rfl 2 rfl ?_
            refine m_ref (k := 2) (j := 3) hs hs.2.1.2.2.1 dX13_run_73 fr_X13_16 rfl ?_
            refine r_iconst (v := nI 0) dX13_run_76 (by decide) ?_
            refine r_aload_n dX13_run_77 rfl 2 rfl ?_
            refine m_ref (k := 0) (j := 1) hs hs.2.1.1 dX13_run_78 fr_X13_7 rfl ?_
            refine r_iconst (v := nI 0) dX13_run_81 (by decide) ?_
            refine r_fnS (M2 := m_X13_copies) (As := [.ref (m + 3), .int (nI (0)), .ref (m + 1), .int (nI (0))]) (rest := []) (v := none) dX13_run_82 cc_X13_run_60 rfl rfl rfl (Nat.le_of_ble_eq_true rfl) (g_back (j := 3) (p := 0) (f := g) hs (Or.inr (Or.inr (Or.inl ⟨rfl, rfl⟩))) (by decide) (by decide) h24 (by omega) (fun i hi => by rw [Nat.zero_add]; exact hR.2.2.2.2.2.2 i hi)) rfl ?_
            refine r_aload_n dX13_run_85 rfl 2 rfl ?_
            refine r_aload_n dX13_run_86 rfl 2 rfl ?_
            refine m_ref (k := 16) (j := 10) hs hs.2.1.2.2.2.2.2.2.2.2.2.1 dX13_run_87 fr_X13_44 rfl ?_
            refine r_bipush (v := nI 9) dX13_run_90 (by decide) ?_
            refine r_iload_n dX13_run_92 rfl 0 rfl ?_
            refine r_imulN dX13_run_93 ?_
            refine r_iconst (v := nI 1) dX13_run_94 (by decide) ?_
            refine r_iaddN dX13_run_95 ?_
            refine o_iald (j := 10) (n := 160) (i := 9 * f + 1) (by decide) hs rw10 dX13_run_96 (by omega) (by decide) ?_
            refine Wx.top (hR.2.1 f (by omega)).2.1 ?_
            refine o_put (k := 15) hs dX13_run_97 fw_X13_run_40 rfl rfl rfl ?_
            refine r_aload_n dX13_run_100 rfl 2 rfl ?_
            refine r_iconst (v := nI 2) dX13_run_101 (by decide) ?_
            refine r_fnV (M2 := m_X13_fails) (As := [.int (nI (2))]) (rest := []) (v := some (.int (nI (0)))) dX13_run_102 cc_X13_run_289 rfl rfl rfl (Nat.le_of_ble_eq_true rfl) hs.1 rfl rfl (by decide) (g_fails hs) rfl ?_
            exact r_iret (ty := .int) dX13_run_105 rfl rfl ⟨rfl, _, rfl, fun k i a b c d => (up2_n (by omega)).trans ((up2_n (by omega)).trans (hR.1 k i a b c d)), up2_s, (up2_n (by omega)).trans ((up2_n (by omega)).trans (hR.2.2.2.2.1)), (up2_n (by omega)).trans (up2_s)⟩
        · refine r_callV (M2 := m_X13_does) (As := [.int (nI (j))]) (rest := []) dX13_run_66 cc_X13_run_375 rfl rfl rfl (Nat.le_of_ble_eq_true rfl) hs.1 rfl rfl (by decide) (g_cmdO hs (by omega) (hR.2.1 j (by omega)).1 (hR.2.1 j (by omega)).2.2 (hch j (by omega))) (fun v9 U1 hq9 => ?_) (fun E9 T9 hq9 => by obtain ⟨hq9, -⟩ := hq9; cases hq9)
          obtain ⟨hv9, V', hEq, rfl⟩ := hq9
          cases hv9
          show Wx _ G (rput T m (sg V' (gg (j + 1))) od) 69 [(2, .int (nI (j))), (1, .int (nI (1))), (0, .ref (m))] [.int (nI (1))] _
          refine r_if_neN (tgt := 106) dX13_run_69 (by decide) (by omega) (fun zz69_1 => ?_) (fun zz69_1 => ?_)
          · refine r_iincN (k := 1) (lv' := [(2, .int (nI (j + 1))), (1, .int (nI (1))), (0, .ref (m))]) dX13_run_106 (by decide) 0 rfl (by decide) rfl ?_
            refine r_goto (tgt := 56) dX13_run_109 (by decide) ?_
            exact nx _ _ (by omega) ⟨V', rfl, hR.n hEq, rfl⟩
          · exact absurd zz69_1 (by decide)
    · exact absurd zz32 (by decide)
