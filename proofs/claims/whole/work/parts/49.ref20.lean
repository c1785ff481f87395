noncomputable def shpN (g : Nat → Nat) (p l : Nat) : Nat := cnt (fun u => g (90 + 13 * l + 0) = p ∧ sW (g (402 + 2 * (200 * l + u))) = 4) (g (90 + 13 * l + 1))
noncomputable def bdsN (g : Nat → Nat) (p l : Nat) : Nat := cnt (fun u => g (90 + 13 * l + 0) = p ∧ sW (g (402 + 2 * (200 * l + u))) = 4 ∧ badG g l u) (g (90 + 13 * l + 1))
theorem cnt_none {P : Nat → Prop} : ∀ {n : Nat}, (∀ u, ¬ P u) → cnt P n = 0
  | 0, _ => rfl
  | n + 1, h => by rw [cnt_f (h n)]; exact cnt_none h
theorem sumN_le {f : Nat → Nat} {c : Nat} : ∀ {n : Nat}, (∀ i, i < n → f i ≤ c) → sumN f n ≤ c * n
  | 0, _ => Nat.zero_le _
  | n + 1, h => by
    have h1 := sumN_le (n := n) (fun i hi => h i (by omega))
    have h2 := h n (by omega)
    show sumN f n + f n ≤ c * (n + 1)
    rw [Nat.mul_add, Nat.mul_one]
    omega
set_option maxRecDepth 4000 in
theorem q_outgoing_1 {G : GI} {T : Hp} {m : Nat} {V : RVal} {g : Nat → Nat} {od : Nat → UInt64} (hs : RS T m)  {x : Int32} (hx : ¬ vp_in x 4) : Fn m_X13_outgoing G [.ref (m), .int (x)] (rput T m (sg V g) od) (some (.int (nI (0)))) (rput T m (sg (up2 V 0 (6) (nI 1)) (g)) od) := by
  refine Cn.of rfl (by decide) (Nat.le_of_ble_eq_true rfl) (fun hN hM => ?_)
  show Wx _ G _ 0 [(0, .ref (m)), (1, .int (x))] [] _
  refine r_aload_n dX13_outgoing_0 rfl 0 rfl ?_
  refine r_iload_n dX13_outgoing_1 rfl 1 rfl ?_
  refine r_fnS (M2 := m_X13_isProduct) (As := [.int (x)]) (rest := [.ref (m)]) (v := some (.int (nI (0)))) dX13_outgoing_2 cc_X13_outgoing_118 rfl rfl rfl (Nat.le_of_ble_eq_true rfl) (Fn.eq f_isProduct (congrArg (fun x => some (Value.int x)) (bI_f hx)) rfl) rfl ?_
  refine r_if_eqN (tgt := 12) dX13_outgoing_5 (by decide) (by omega) (fun zz5 => ?_) (fun zz5 => ?_)
  · refine r_iconst (v := nI 1) dX13_outgoing_12 (by decide) ?_
    refine o_put (k := 6) hs dX13_outgoing_13 fw_X13_outgoing_54 rfl rfl rfl ?_
    refine r_aload_n dX13_outgoing_16 rfl 0 rfl ?_
    refine o_get (k := 6) hs dX13_outgoing_17 fr_X13_54 rfl ?_
    refine Wx.top up2_s ?_
    refine r_if_leN (tgt := 25) dX13_outgoing_20 (by decide) (by omega) (fun zz20 => ?_) (fun zz20 => ?_)
    · exact absurd zz20 (by decide)
    · refine r_iconst (v := nI 0) dX13_outgoing_23 (by decide) ?_
      exact r_iret (ty := .int) dX13_outgoing_24 rfl rfl ⟨rfl, rfl⟩
  · exact absurd zz5 (by decide)
set_option maxRecDepth 4000 in
theorem q_outgoing_2 {G : GI} {T : Hp} {m : Nat} {V : RVal} {g : Nat → Nat} {od : Nat → UInt64} (hs : RS T m)  (h24 : g 0 ≤ 24) (hb : WB g) {p : Nat} (hp4 : p < 4) (hzz : ∀ l, l < g 0 → g (90 + 13 * l + 1) ≤ 200 ∧ g (90 + 13 * l + 0) < 4) (hk : g (22 + 10 * p + 1) < 16) (hn : sumN (shpN g p) (g 0) = 0) : Fn m_X13_outgoing G [.ref (m), .int (nI (p))] (rput T m (sg V g) od) (some (.int (nI (0)))) (rput T m (sg (up2 (up2 V 0 (6) (nI 0)) 0 (6) (nI 2)) (g)) od) := by
  refine Cn.of rfl (by decide) (Nat.le_of_ble_eq_true rfl) (fun hN hM => ?_)
  show Wx _ G _ 0 [(0, .ref (m)), (1, .int (nI (p)))] [] _
  refine r_aload_n dX13_outgoing_0 rfl 0 rfl ?_
  refine r_iload_n dX13_outgoing_1 rfl 1 rfl ?_
  refine r_fnS (M2 := m_X13_isProduct) (As := [.int (nI (p))]) (rest := [.ref (m)]) (v := some (.int (nI (1)))) dX13_outgoing_2 cc_X13_outgoing_118 rfl rfl rfl (Nat.le_of_ble_eq_true rfl) (Fn.eq f_isProduct (congrArg (fun x => some (Value.int x)) (bI_t (vp_in_nI (by (first | omega | (have := hzz l (by omega); omega) | (have := sW_lt (g (402 + 2 * (200 * l + u))); omega))) (by first | decide | omega)))) rfl) rfl ?_
  refine r_if_eqN (tgt := 12) dX13_outgoing_5 (by decide) (by (first | omega | (have := hzz l (by omega); omega) | (have := sW_lt (g (402 + 2 * (200 * l + u))); omega))) (fun zz5 => ?_) (fun zz5 => ?_)
  · exact absurd zz5 (by decide)
  · refine r_iconst (v := nI 0) dX13_outgoing_8 (by decide) ?_
    refine r_goto (tgt := 13) dX13_outgoing_9 (by decide) ?_
    refine o_put (k := 6) hs dX13_outgoing_13 fw_X13_outgoing_54 rfl rfl rfl ?_
    refine r_aload_n dX13_outgoing_16 rfl 0 rfl ?_
    refine o_get (k := 6) hs dX13_outgoing_17 fr_X13_54 rfl ?_
    refine Wx.top up2_s ?_
    refine r_if_leN (tgt := 25) dX13_outgoing_20 (by decide) (by (first | omega | (have := hzz l (by omega); omega) | (have := sW_lt (g (402 + 2 * (200 * l + u))); omega))) (fun zz20 => ?_) (fun zz20 => ?_)
    · refine r_iconst (v := nI 0) dX13_outgoing_25 (by decide) ?_
      refine r_istore_n (lv' := [(2, .int (nI (0))), (0, .ref (m)), (1, .int (nI (p)))]) dX13_outgoing_26 rfl (by decide) rfl ?_
      refine r_iconst (v := nI 0) dX13_outgoing_27 (by decide) ?_
      refine r_istore_n (lv' := [(3, .int (nI (0))), (2, .int (nI (0))), (0, .ref (m)), (1, .int (nI (p)))]) dX13_outgoing_28 rfl (by decide) rfl ?_
      refine r_iconst (v := nI 0) dX13_outgoing_29 (by decide) ?_
      refine r_istore (lv' := [(4, .int (nI (0))), (3, .int (nI (0))), (2, .int (nI (0))), (0, .ref (m)), (1, .int (nI (p)))]) dX13_outgoing_30 (by decide) rfl ?_
      refine Wx.sub [3, 4, 2, 1, 0] rfl ?_
      refine Wx.loop (fun l => rput T m (sg (up2 V 0 (6) (nI 0)) g) od) (fun l => [(0, .ref (m)), (1, .int (nI (p))), (2, .int (nI (sumN (shpN g p) l))), (3, .int (nI (sumN (bdsN g p) l))), (4, .int (nI (l)))]) (g 0) (0) (Nat.zero_le _) (fun l hge hle next => ?_)
      show Wx _ G (rput T m (sg (up2 V 0 (6) (nI 0)) g) od) 32 [(0, .ref (m)), (1, .int (nI (p))), (2, .int (nI (sumN (shpN g p) l))), (3, .int (nI (sumN (bdsN g p) l))), (4, .int (nI (l)))] [] _
      refine r_iload dX13_outgoing_32 4 rfl ?_
      refine r_aload_n dX13_outgoing_34 rfl 0 rfl ?_
      refine m_ref (k := 0) (j := 1) hs hs.2.1.1 dX13_outgoing_35 fr_X13_7 rfl ?_
      refine r_iconst (v := nI 0) dX13_outgoing_38 (by decide) ?_
      refine g_iald (i := 0) hs dX13_outgoing_39 (by (first | omega | (have := hzz l (by omega); omega) | (have := sW_lt (g (402 + 2 * (200 * l + u))); omega))) ?_
      refine r_icmp_geN (tgt := 135) dX13_outgoing_40 (by decide) (by (first | omega | (have := hzz l (by omega); omega) | (have := sW_lt (g (402 + 2 * (200 * l + u))); omega))) (by (first | omega | (have := hzz l (by omega); omega) | (have := sW_lt (g (402 + 2 * (200 * l + u))); omega))) (fun h40 => ?_) (fun h40 => ?_)
      · obtain rfl : l = g 0 := by omega
        have hsb : sumN (shpN g p) (g 0) ≤ 200 * g 0 := sumN_le (fun i hi => Nat.le_trans (cnt_le _ _) (hzz i hi).1)
        refine r_aload_n dX13_outgoing_135 rfl 0 rfl ?_
        refine r_iload_n dX13_outgoing_136 rfl 2 rfl ?_
        refine r_if_neN (tgt := 144) dX13_outgoing_137 (by decide) (by omega) (fun h137 => ?_) (fun h137 => ?_)
        · exact absurd hn h137
        · refine r_iconst (v := nI 2) dX13_outgoing_140 (by decide) ?_
          refine r_goto (tgt := 145) dX13_outgoing_141 (by decide) ?_
          refine o_put (k := 6) hs dX13_outgoing_145 fw_X13_outgoing_54 rfl rfl rfl ?_
          refine r_iload_n dX13_outgoing_148 rfl 2 rfl ?_
          refine r_if_neN (tgt := 156) dX13_outgoing_149 (by decide) (by omega) (fun h149 => ?_) (fun h149 => ?_)
          · exact absurd h137 h149
          · refine r_iconst (v := nI 0) dX13_outgoing_152 (by decide) ?_
            refine r_goto (tgt := 164) dX13_outgoing_153 (by decide) ?_
            exact r_iret (ty := .int) dX13_outgoing_164 rfl rfl ⟨rfl, rfl⟩
      · refine r_iconst (v := nI 0) dX13_outgoing_43 (by decide) ?_
        refine r_istore (lv' := [(5, .int (nI (0))), (0, .ref (m)), (1, .int (nI (p))), (2, .int (nI (sumN (shpN g p) l))), (3, .int (nI (sumN (bdsN g p) l))), (4, .int (nI (l)))]) dX13_outgoing_44 (by decide) rfl ?_
        refine Wx.sub [1, 2, 3, 4, 5, 0] rfl ?_
        refine Wx.loop (fun u => rput T m (sg (up2 V 0 (6) (nI 0)) g) od) (fun u => [(0, .ref (m)), (1, .int (nI (p))), (2, .int (nI (sumN (shpN g p) l + cnt (fun u => g (90 + 13 * l + 0) = p ∧ sW (g (402 + 2 * (200 * l + u))) = 4) u))), (3, .int (nI (sumN (bdsN g p) l + cnt (fun u => g (90 + 13 * l + 0) = p ∧ sW (g (402 + 2 * (200 * l + u))) = 4 ∧ badG g l u) u))), (4, .int (nI (l))), (5, .int (nI (u)))]) (g (90 + 13 * l + 1)) (0) (Nat.zero_le _) (fun u hge_1 hle_1 next_1 => ?_)
        show Wx _ G (rput T m (sg (up2 V 0 (6) (nI 0)) g) od) 46 [(0, .ref (m)), (1, .int (nI (p))), (2, .int (nI (sumN (shpN g p) l + cnt (fun u => g (90 + 13 * l + 0) = p ∧ sW (g (402 + 2 * (200 * l + u))) = 4) u))), (3, .int (nI (sumN (bdsN g p) l + cnt (fun u => g (90 + 13 * l + 0) = p ∧ sW (g (402 + 2 * (200 * l + u))) = 4 ∧ badG g l u) u))), (4, .int (nI (l))), (5, .int (nI (u)))] [] _
        refine r_aload_n dX13_outgoing_46 rfl 0 rfl ?_
        refine m_ref (k := 0) (j := 1) hs hs.2.1.1 dX13_outgoing_47 fr_X13_7 rfl ?_
        refine r_iload dX13_outgoing_50 4 rfl ?_
        refine r_iconst (v := nI 0) dX13_outgoing_52 (by decide) ?_
        refine r_fnS (M2 := m_X13_at) (As := [.int (nI (l)), .int (nI (0))]) (rest := [.ref (m + 1)]) (v := some (.int (nI (90 + 13 * l + 0)))) dX13_outgoing_53 cc_X13_outgoing_72 rfl rfl rfl (Nat.le_of_ble_eq_true rfl) f_at rfl ?_
        refine g_iald (i := 90 + 13 * l + 0) hs dX13_outgoing_56 (by (first | omega | (have := hzz l (by omega); omega) | (have := sW_lt (g (402 + 2 * (200 * l + u))); omega))) ?_
        refine r_iload_n dX13_outgoing_57 rfl 1 rfl ?_
        refine r_icmp_neN (tgt := 129) dX13_outgoing_58 (by decide) (by (first | omega | (have := hzz l (by omega); omega) | (have := sW_lt (g (402 + 2 * (200 * l + u))); omega))) (by (first | omega | (have := hzz l (by omega); omega) | (have := sW_lt (g (402 + 2 * (200 * l + u))); omega))) (fun h58 => ?_) (fun h58 => ?_)
        · refine r_iincN (k := 1) (lv' := [(4, .int (nI (l + 1))), (0, .ref (m)), (1, .int (nI (p))), (2, .int (nI (sumN (shpN g p) l + cnt (fun u => g (90 + 13 * l + 0) = p ∧ sW (g (402 + 2 * (200 * l + u))) = 4) u))), (3, .int (nI (sumN (bdsN g p) l + cnt (fun u => g (90 + 13 * l + 0) = p ∧ sW (g (402 + 2 * (200 * l + u))) = 4 ∧ badG g l u) u))), (5, .int (nI (u)))]) dX13_outgoing_129 (by decide) 4 rfl (by decide) rfl ?_
          refine r_goto (tgt := 32) dX13_outgoing_132 (by decide) ?_
          refine Wx.sub [1, 2, 3, 4, 0] rfl ?_
          have n2 := next (by omega)
          have e1 : cnt (fun u => g (90 + 13 * l + 0) = p ∧ sW (g (402 + 2 * (200 * l + u))) = 4) u = shpN g p l := (cnt_none (fun u q => h58 q.1)).trans (cnt_none (fun u q => h58 q.1)).symm
          have e2 : cnt (fun u => g (90 + 13 * l + 0) = p ∧ sW (g (402 + 2 * (200 * l + u))) = 4 ∧ badG g l u) u = bdsN g p l := (cnt_none (fun u q => h58 q.1)).trans (cnt_none (fun u q => h58 q.1)).symm
          rw [e1, e2]
          exact n2
        · have hpe : g (90 + 13 * l + 0) = p := h58
          refine r_iload dX13_outgoing_61 5 rfl ?_
          refine r_aload_n dX13_outgoing_63 rfl 0 rfl ?_
          refine r_iload dX13_outgoing_64 4 rfl ?_
          refine r_fnV (M2 := m_X13_size) (As := [.int (nI (l))]) (rest := [.int (nI (u))]) (v := some (.int (nI (g (90 + 13 * l + 1))))) dX13_outgoing_66 cc_X13_outgoing_80 rfl rfl rfl (Nat.le_of_ble_eq_true rfl) hs.1 rfl rfl (by decide) (g_size hs (by (first | omega | (have := hzz l (by omega); omega) | (have := sW_lt (g (402 + 2 * (200 * l + u))); omega)))) rfl ?_
          refine r_icmp_geN (tgt := 129) dX13_outgoing_69 (by decide) (by (first | omega | (have := hzz l (by omega); omega) | (have := sW_lt (g (402 + 2 * (200 * l + u))); omega))) (by (first | omega | (have := hzz l (by omega); omega) | (have := sW_lt (g (402 + 2 * (200 * l + u))); omega))) (fun h69 => ?_) (fun h69 => ?_)
          · refine r_iincN (k := 1) (lv' := [(4, .int (nI (l + 1))), (0, .ref (m)), (1, .int (nI (p))), (2, .int (nI (sumN (shpN g p) l + cnt (fun u => g (90 + 13 * l + 0) = p ∧ sW (g (402 + 2 * (200 * l + u))) = 4) u))), (3, .int (nI (sumN (bdsN g p) l + cnt (fun u => g (90 + 13 * l + 0) = p ∧ sW (g (402 + 2 * (200 * l + u))) = 4 ∧ badG g l u) u))), (5, .int (nI (u)))]) dX13_outgoing_129 (by decide) 4 rfl (by decide) rfl ?_
            refine r_goto (tgt := 32) dX13_outgoing_132 (by decide) ?_
            refine Wx.sub [1, 2, 3, 4, 0] rfl ?_
            obtain rfl : u = g (90 + 13 * l + 1) := by omega
            exact next (by omega)
          · refine r_iload_n dX13_outgoing_72 rfl 2 rfl ?_
            refine r_aload_n dX13_outgoing_73 rfl 0 rfl ?_
            refine r_iload dX13_outgoing_74 4 rfl ?_
            refine r_iload dX13_outgoing_76 5 rfl ?_
            refine r_fnV (M2 := m_X13_state) (As := [.int (nI (l)), .int (nI (u))]) (rest := [.int (nI (sumN (shpN g p) l + cnt (fun u => g (90 + 13 * l + 0) = p ∧ sW (g (402 + 2 * (200 * l + u))) = 4) u))]) (v := some (.int (nI (sW (g (402 + 2 * (200 * l + u))))))) dX13_outgoing_78 cc_X13_outgoing_93 rfl rfl rfl (Nat.le_of_ble_eq_true rfl) hs.1 rfl rfl (by decide) (g_state hs hb (by (first | omega | (have := hzz l (by omega); omega) | (have := sW_lt (g (402 + 2 * (200 * l + u))); omega))) (by (first | omega | (have := hzz l (by omega); omega) | (have := sW_lt (g (402 + 2 * (200 * l + u))); omega)))) rfl ?_
            refine r_iconst (v := nI 4) dX13_outgoing_81 (by decide) ?_
            refine r_icmp_neN (tgt := 89) dX13_outgoing_82 (by decide) (by (first | omega | (have := hzz l (by omega); omega) | (have := sW_lt (g (402 + 2 * (200 * l + u))); omega))) (by (first | omega | (have := hzz l (by omega); omega) | (have := sW_lt (g (402 + 2 * (200 * l + u))); omega))) (fun h82 => ?_) (fun h82 => ?_)
            · refine r_iconst (v := nI 0) dX13_outgoing_89 (by decide) ?_
              refine r_iaddN dX13_outgoing_90 ?_
              refine r_istore_n (lv' := [(2, .int (nI (sumN (shpN g p) l + cnt (fun u => g (90 + 13 * l + 0) = p ∧ sW (g (402 + 2 * (200 * l + u))) = 4) u + 0))), (0, .ref (m)), (1, .int (nI (p))), (3, .int (nI (sumN (bdsN g p) l + cnt (fun u => g (90 + 13 * l + 0) = p ∧ sW (g (402 + 2 * (200 * l + u))) = 4 ∧ badG g l u) u))), (4, .int (nI (l))), (5, .int (nI (u)))]) dX13_outgoing_91 rfl (by decide) rfl ?_
              refine r_iload_n dX13_outgoing_92 rfl 3 rfl ?_
              refine r_aload_n dX13_outgoing_93 rfl 1 rfl ?_
              refine r_iload dX13_outgoing_94 4 rfl ?_
              refine r_iload dX13_outgoing_96 5 rfl ?_
              refine r_fnV (M2 := m_X13_state) (As := [.int (nI (l)), .int (nI (u))]) (rest := [.int (nI (sumN (bdsN g p) l + cnt (fun u => g (90 + 13 * l + 0) = p ∧ sW (g (402 + 2 * (200 * l + u))) = 4 ∧ badG g l u) u))]) (v := some (.int (nI (sW (g (402 + 2 * (200 * l + u))))))) dX13_outgoing_98 cc_X13_outgoing_93 rfl rfl rfl (Nat.le_of_ble_eq_true rfl) hs.1 rfl rfl (by decide) (g_state hs hb (by (first | omega | (have := hzz l (by omega); omega) | (have := sW_lt (g (402 + 2 * (200 * l + u))); omega))) (by (first | omega | (have := hzz l (by omega); omega) | (have := sW_lt (g (402 + 2 * (200 * l + u))); omega)))) rfl ?_
              refine r_iconst (v := nI 4) dX13_outgoing_101 (by decide) ?_
              refine r_icmp_neN (tgt := 120) dX13_outgoing_102 (by decide) (by (first | omega | (have := hzz l (by omega); omega) | (have := sW_lt (g (402 + 2 * (200 * l + u))); omega))) (by (first | omega | (have := hzz l (by omega); omega) | (have := sW_lt (g (402 + 2 * (200 * l + u))); omega))) (fun h102 => ?_) (fun h102 => ?_)
              · refine r_iconst (v := nI 0) dX13_outgoing_120 (by decide) ?_
                refine r_iaddN dX13_outgoing_121 ?_
                refine r_istore_n (lv' := [(3, .int (nI (sumN (bdsN g p) l + cnt (fun u => g (90 + 13 * l + 0) = p ∧ sW (g (402 + 2 * (200 * l + u))) = 4 ∧ badG g l u) u + 0))), (2, .int (nI (sumN (shpN g p) l + cnt (fun u => g (90 + 13 * l + 0) = p ∧ sW (g (402 + 2 * (200 * l + u))) = 4) u + 0))), (0, .ref (m)), (1, .int (nI (p))), (4, .int (nI (l))), (5, .int (nI (u)))]) dX13_outgoing_122 rfl (by decide) rfl ?_
                refine r_iincN (k := 1) (lv' := [(5, .int (nI (u + 1))), (3, .int (nI (sumN (bdsN g p) l + cnt (fun u => g (90 + 13 * l + 0) = p ∧ sW (g (402 + 2 * (200 * l + u))) = 4 ∧ badG g l u) u + 0))), (2, .int (nI (sumN (shpN g p) l + cnt (fun u => g (90 + 13 * l + 0) = p ∧ sW (g (402 + 2 * (200 * l + u))) = 4) u + 0))), (0, .ref (m)), (1, .int (nI (p))), (4, .int (nI (l)))]) dX13_outgoing_123 (by decide) 5 rfl (by decide) rfl ?_
                refine r_goto (tgt := 46) dX13_outgoing_126 (by decide) ?_
                refine Wx.sub [3, 4, 2, 1, 5, 0] rfl ?_
                have n2 := next_1 (by omega)
                rw [cnt_f (p := fun u => g (90 + 13 * l + 0) = p ∧ sW (g (402 + 2 * (200 * l + u))) = 4) (fun q => h82 q.2), cnt_f (p := fun u => g (90 + 13 * l + 0) = p ∧ sW (g (402 + 2 * (200 * l + u))) = 4 ∧ badG g l u) (fun q => h82 q.2.1)] at n2
                exact n2
              · exact absurd h102 h82
            · refine r_iconst (v := nI 1) dX13_outgoing_85 (by decide) ?_
              refine r_goto (tgt := 90) dX13_outgoing_86 (by decide) ?_
              refine r_iaddN dX13_outgoing_90 ?_
              refine r_istore_n (lv' := [(2, .int (nI (sumN (shpN g p) l + cnt (fun u => g (90 + 13 * l + 0) = p ∧ sW (g (402 + 2 * (200 * l + u))) = 4) u + 1))), (0, .ref (m)), (1, .int (nI (p))), (3, .int (nI (sumN (bdsN g p) l + cnt (fun u => g (90 + 13 * l + 0) = p ∧ sW (g (402 + 2 * (200 * l + u))) = 4 ∧ badG g l u) u))), (4, .int (nI (l))), (5, .int (nI (u)))]) dX13_outgoing_91 rfl (by decide) rfl ?_
              refine r_iload_n dX13_outgoing_92 rfl 3 rfl ?_
              refine r_aload_n dX13_outgoing_93 rfl 1 rfl ?_
              refine r_iload dX13_outgoing_94 4 rfl ?_
              refine r_iload dX13_outgoing_96 5 rfl ?_
              refine r_fnV (M2 := m_X13_state) (As := [.int (nI (l)), .int (nI (u))]) (rest := [.int (nI (sumN (bdsN g p) l + cnt (fun u => g (90 + 13 * l + 0) = p ∧ sW (g (402 + 2 * (200 * l + u))) = 4 ∧ badG g l u) u))]) (v := some (.int (nI (sW (g (402 + 2 * (200 * l + u))))))) dX13_outgoing_98 cc_X13_outgoing_93 rfl rfl rfl (Nat.le_of_ble_eq_true rfl) hs.1 rfl rfl (by decide) (g_state hs hb (by (first | omega | (have := hzz l (by omega); omega) | (have := sW_lt (g (402 + 2 * (200 * l + u))); omega))) (by (first | omega | (have := hzz l (by omega); omega) | (have := sW_lt (g (402 + 2 * (200 * l + u))); omega)))) rfl ?_
              refine r_iconst (v := nI 4) dX13_outgoing_101 (by decide) ?_
              refine r_icmp_neN (tgt := 120) dX13_outgoing_102 (by decide) (by (first | omega | (have := hzz l (by omega); omega) | (have := sW_lt (g (402 + 2 * (200 * l + u))); omega))) (by (first | omega | (have := hzz l (by omega); omega) | (have := sW_lt (g (402 + 2 * (200 * l + u))); omega))) (fun h102_1 => ?_) (fun h102_1 => ?_)
              · exact absurd h82 h102_1
              · refine r_aload_n dX13_outgoing_105 rfl 1 rfl ?_
                refine r_iload dX13_outgoing_106 4 rfl ?_
                refine r_iload dX13_outgoing_108 5 rfl ?_
                refine r_fnV (M2 := m_X13_isBad) (As := [.int (nI (l)), .int (nI (u))]) (rest := [.int (nI (sumN (bdsN g p) l + cnt (fun u => g (90 + 13 * l + 0) = p ∧ sW (g (402 + 2 * (200 * l + u))) = 4 ∧ badG g l u) u))]) (v := some (.int (bI (badG g l u)))) dX13_outgoing_110 cc_X13_outgoing_96 rfl rfl rfl (Nat.le_of_ble_eq_true rfl) hs.1 rfl rfl (by decide) (g_isBad hs hb (by omega) (by have := hzz l (by omega); omega) (by omega) (by rw [hpe]; exact hk)) rfl ?_
                refine r_if_eqB (tgt := 120) dX13_outgoing_113 (by decide) (fun h113 => ?_) (fun h113 => ?_)
                · refine r_iconst (v := nI 0) dX13_outgoing_120 (by decide) ?_
                  refine r_iaddN dX13_outgoing_121 ?_
                  refine r_istore_n (lv' := [(3, .int (nI (sumN (bdsN g p) l + cnt (fun u => g (90 + 13 * l + 0) = p ∧ sW (g (402 + 2 * (200 * l + u))) = 4 ∧ badG g l u) u + 0))), (2, .int (nI (sumN (shpN g p) l + cnt (fun u => g (90 + 13 * l + 0) = p ∧ sW (g (402 + 2 * (200 * l + u))) = 4) u + 1))), (0, .ref (m)), (1, .int (nI (p))), (4, .int (nI (l))), (5, .int (nI (u)))]) dX13_outgoing_122 rfl (by decide) rfl ?_
                  refine r_iincN (k := 1) (lv' := [(5, .int (nI (u + 1))), (3, .int (nI (sumN (bdsN g p) l + cnt (fun u => g (90 + 13 * l + 0) = p ∧ sW (g (402 + 2 * (200 * l + u))) = 4 ∧ badG g l u) u + 0))), (2, .int (nI (sumN (shpN g p) l + cnt (fun u => g (90 + 13 * l + 0) = p ∧ sW (g (402 + 2 * (200 * l + u))) = 4) u + 1))), (0, .ref (m)), (1, .int (nI (p))), (4, .int (nI (l)))]) dX13_outgoing_123 (by decide) 5 rfl (by decide) rfl ?_
                  refine r_goto (tgt := 46) dX13_outgoing_126 (by decide) ?_
                  refine Wx.sub [3, 4, 2, 1, 5, 0] rfl ?_
                  have n2 := next_1 (by omega)
                  rw [cnt_t (p := fun u => g (90 + 13 * l + 0) = p ∧ sW (g (402 + 2 * (200 * l + u))) = 4) ⟨hpe, h82⟩, cnt_f (p := fun u => g (90 + 13 * l + 0) = p ∧ sW (g (402 + 2 * (200 * l + u))) = 4 ∧ badG g l u) (fun q => h113 q.2.2)] at n2
                  exact n2
                · refine r_iconst (v := nI 1) dX13_outgoing_116 (by decide) ?_
                  refine r_goto (tgt := 121) dX13_outgoing_117 (by decide) ?_
                  refine r_iaddN dX13_outgoing_121 ?_
                  refine r_istore_n (lv' := [(3, .int (nI (sumN (bdsN g p) l + cnt (fun u => g (90 + 13 * l + 0) = p ∧ sW (g (402 + 2 * (200 * l + u))) = 4 ∧ badG g l u) u + 1))), (2, .int (nI (sumN (shpN g p) l + cnt (fun u => g (90 + 13 * l + 0) = p ∧ sW (g (402 + 2 * (200 * l + u))) = 4) u + 1))), (0, .ref (m)), (1, .int (nI (p))), (4, .int (nI (l))), (5, .int (nI (u)))]) dX13_outgoing_122 rfl (by decide) rfl ?_
                  refine r_iincN (k := 1) (lv' := [(5, .int (nI (u + 1))), (3, .int (nI (sumN (bdsN g p) l + cnt (fun u => g (90 + 13 * l + 0) = p ∧ sW (g (402 + 2 * (200 * l + u))) = 4 ∧ badG g l u) u + 1))), (2, .int (nI (sumN (shpN g p) l + cnt (fun u => g (90 + 13 * l + 0) = p ∧ sW (g (402 + 2 * (200 * l + u))) = 4) u + 1))), (0, .ref (m)), (1, .int (nI (p))), (4, .int (nI (l)))]) dX13_outgoing_123 (by decide) 5 rfl (by decide) rfl ?_
                  refine r_goto (tgt := 46) dX13_outgoing_126 (by decide) ?_
                  refine Wx.sub [3, 4, 2, 1, 5, 0] rfl ?_
                  have n2 := next_1 (by omega)
                  rw [cnt_t (p := fun u => g (90 + 13 * l + 0) = p ∧ sW (g (402 + 2 * (200 * l + u))) = 4) ⟨hpe, h82⟩, cnt_t (p := fun u => g (90 + 13 * l + 0) = p ∧ sW (g (402 + 2 * (200 * l + u))) = 4 ∧ badG g l u) ⟨hpe, h82, h113⟩] at n2
                  exact n2
    · exact absurd zz20 (by decide)
set_option maxRecDepth 4000 in
theorem q_outgoing_0 {G : GI} {T : Hp} {m : Nat} {V : RVal} {g : Nat → Nat} {od : Nat → UInt64} (hs : RS T m)  (h24 : g 0 ≤ 24) (hb : WB g) {p : Nat} (hp4 : p < 4) (hzz : ∀ l, l < g 0 → g (90 + 13 * l + 1) ≤ 200 ∧ g (90 + 13 * l + 0) < 4) (hk : g (22 + 10 * p + 1) < 16) (hn : ¬ sumN (shpN g p) (g 0) = 0) (hnan : vf_n32 (FP.fdiv (FP.i2f (nI (sumN (bdsN g p) (g 0)))) (FP.i2f (nI (sumN (shpN g p) (g 0)))))) (hnn : FP.fcmp (FP.fdiv (FP.i2f (nI (sumN (bdsN g p) (g 0)))) (FP.i2f (nI (sumN (shpN g p) (g 0))))) (FP.fdiv (FP.i2f (nI (sumN (bdsN g p) (g 0)))) (FP.i2f (nI (sumN (shpN g p) (g 0))))) = some .eq) : Fn m_X13_outgoing G [.ref (m), .int (nI (p))] (rput T m (sg V g) od) (some (.int ((FP.fdiv (FP.i2f (nI (sumN (bdsN g p) (g 0)))) (FP.i2f (nI (sumN (shpN g p) (g 0))))).toInt32))) (rput T m (sg (up2 (up2 V 0 (6) (nI 0)) 0 (6) (nI 0)) (g)) od) := by
  refine Cn.of rfl (by decide) (Nat.le_of_ble_eq_true rfl) (fun hN hM => ?_)
  show Wx _ G _ 0 [(0, .ref (m)), (1, .int (nI (p)))] [] _
  refine r_aload_n dX13_outgoing_0 rfl 0 rfl ?_
  refine r_iload_n dX13_outgoing_1 rfl 1 rfl ?_
  refine r_fnS (M2 := m_X13_isProduct) (As := [.int (nI (p))]) (rest := [.ref (m)]) (v := some (.int (nI (1)))) dX13_outgoing_2 cc_X13_outgoing_118 rfl rfl rfl (Nat.le_of_ble_eq_true rfl) (Fn.eq f_isProduct (congrArg (fun x => some (Value.int x)) (bI_t (vp_in_nI (by (first | omega | (have := hzz l (by omega); omega) | (have := sW_lt (g (402 + 2 * (200 * l + u))); omega))) (by first | decide | omega)))) rfl) rfl ?_
  refine r_if_eqN (tgt := 12) dX13_outgoing_5 (by decide) (by (first | omega | (have := hzz l (by omega); omega) | (have := sW_lt (g (402 + 2 * (200 * l + u))); omega))) (fun zz5 => ?_) (fun zz5 => ?_)
  · exact absurd zz5 (by decide)
  · refine r_iconst (v := nI 0) dX13_outgoing_8 (by decide) ?_
    refine r_goto (tgt := 13) dX13_outgoing_9 (by decide) ?_
    refine o_put (k := 6) hs dX13_outgoing_13 fw_X13_outgoing_54 rfl rfl rfl ?_
    refine r_aload_n dX13_outgoing_16 rfl 0 rfl ?_
    refine o_get (k := 6) hs dX13_outgoing_17 fr_X13_54 rfl ?_
    refine Wx.top up2_s ?_
    refine r_if_leN (tgt := 25) dX13_outgoing_20 (by decide) (by (first | omega | (have := hzz l (by omega); omega) | (have := sW_lt (g (402 + 2 * (200 * l + u))); omega))) (fun zz20 => ?_) (fun zz20 => ?_)
    · refine r_iconst (v := nI 0) dX13_outgoing_25 (by decide) ?_
      refine r_istore_n (lv' := [(2, .int (nI (0))), (0, .ref (m)), (1, .int (nI (p)))]) dX13_outgoing_26 rfl (by decide) rfl ?_
      refine r_iconst (v := nI 0) dX13_outgoing_27 (by decide) ?_
      refine r_istore_n (lv' := [(3, .int (nI (0))), (2, .int (nI (0))), (0, .ref (m)), (1, .int (nI (p)))]) dX13_outgoing_28 rfl (by decide) rfl ?_
      refine r_iconst (v := nI 0) dX13_outgoing_29 (by decide) ?_
      refine r_istore (lv' := [(4, .int (nI (0))), (3, .int (nI (0))), (2, .int (nI (0))), (0, .ref (m)), (1, .int (nI (p)))]) dX13_outgoing_30 (by decide) rfl ?_
      refine Wx.sub [3, 4, 2, 1, 0] rfl ?_
      refine Wx.loop (fun l => rput T m (sg (up2 V 0 (6) (nI 0)) g) od) (fun l => [(0, .ref (m)), (1, .int (nI (p))), (2, .int (nI (sumN (shpN g p) l))), (3, .int (nI (sumN (bdsN g p) l))), (4, .int (nI (l)))]) (g 0) (0) (Nat.zero_le _) (fun l hge hle next => ?_)
      show Wx _ G (rput T m (sg (up2 V 0 (6) (nI 0)) g) od) 32 [(0, .ref (m)), (1, .int (nI (p))), (2, .int (nI (sumN (shpN g p) l))), (3, .int (nI (sumN (bdsN g p) l))), (4, .int (nI (l)))] [] _
      refine r_iload dX13_outgoing_32 4 rfl ?_
      refine r_aload_n dX13_outgoing_34 rfl 0 rfl ?_
      refine m_ref (k := 0) (j := 1) hs hs.2.1.1 dX13_outgoing_35 fr_X13_7 rfl ?_
      refine r_iconst (v := nI 0) dX13_outgoing_38 (by decide) ?_
      refine g_iald (i := 0) hs dX13_outgoing_39 (by (first | omega | (have := hzz l (by omega); omega) | (have := sW_lt (g (402 + 2 * (200 * l + u))); omega))) ?_
      refine r_icmp_geN (tgt := 135) dX13_outgoing_40 (by decide) (by (first | omega | (have := hzz l (by omega); omega) | (have := sW_lt (g (402 + 2 * (200 * l + u))); omega))) (by (first | omega | (have := hzz l (by omega); omega) | (have := sW_lt (g (402 + 2 * (200 * l + u))); omega))) (fun h40 => ?_) (fun h40 => ?_)
      · obtain rfl : l = g 0 := by omega
        have hsb : sumN (shpN g p) (g 0) ≤ 200 * g 0 := sumN_le (fun i hi => Nat.le_trans (cnt_le _ _) (hzz i hi).1)
        refine r_aload_n dX13_outgoing_135 rfl 0 rfl ?_
        refine r_iload_n dX13_outgoing_136 rfl 2 rfl ?_
        refine r_if_neN (tgt := 144) dX13_outgoing_137 (by decide) (by omega) (fun h137 => ?_) (fun h137 => ?_)
        · refine r_iconst (v := nI 0) dX13_outgoing_144 (by decide) ?_
          refine o_put (k := 6) hs dX13_outgoing_145 fw_X13_outgoing_54 rfl rfl rfl ?_
          refine r_iload_n dX13_outgoing_148 rfl 2 rfl ?_
          refine r_if_neN (tgt := 156) dX13_outgoing_149 (by decide) (by omega) (fun h149 => ?_) (fun h149 => ?_)
          · refine r_iload_n dX13_outgoing_156 rfl 3 rfl ?_
            refine r_i2f dX13_outgoing_157 ?_
            refine r_iload_n dX13_outgoing_158 rfl 2 rfl ?_
            refine r_i2f dX13_outgoing_159 ?_
            refine r_fdiv dX13_outgoing_160 hnan ?_
            refine r_fnS (M2 := m_Jxf58ca_floatToIntBits_5c35a) (As := [.float (FP.fdiv (FP.i2f (nI (sumN (bdsN g p) (g 0)))) (FP.i2f (nI (sumN (shpN g p) (g 0)))))]) (rest := []) (v := some (.int ((FP.fdiv (FP.i2f (nI (sumN (bdsN g p) (g 0)))) (FP.i2f (nI (sumN (shpN g p) (g 0))))).toInt32))) dX13_outgoing_161 cc_X13_outgoing_292 rfl rfl rfl (Nat.le_of_ble_eq_true rfl) (j_bitsF hnn) rfl ?_
            exact r_iret (ty := .int) dX13_outgoing_164 rfl rfl ⟨rfl, rfl⟩
          · exact absurd h149 h137
        · exact absurd h137 hn
      · refine r_iconst (v := nI 0) dX13_outgoing_43 (by decide) ?_
        refine r_istore (lv' := [(5, .int (nI (0))), (0, .ref (m)), (1, .int (nI (p))), (2, .int (nI (sumN (shpN g p) l))), (3, .int (nI (sumN (bdsN g p) l))), (4, .int (nI (l)))]) dX13_outgoing_44 (by decide) rfl ?_
        refine Wx.sub [1, 2, 3, 4, 5, 0] rfl ?_
        refine Wx.loop (fun u => rput T m (sg (up2 V 0 (6) (nI 0)) g) od) (fun u => [(0, .ref (m)), (1, .int (nI (p))), (2, .int (nI (sumN (shpN g p) l + cnt (fun u => g (90 + 13 * l + 0) = p ∧ sW (g (402 + 2 * (200 * l + u))) = 4) u))), (3, .int (nI (sumN (bdsN g p) l + cnt (fun u => g (90 + 13 * l + 0) = p ∧ sW (g (402 + 2 * (200 * l + u))) = 4 ∧ badG g l u) u))), (4, .int (nI (l))), (5, .int (nI (u)))]) (g (90 + 13 * l + 1)) (0) (Nat.zero_le _) (fun u hge_1 hle_1 next_1 => ?_)
        show Wx _ G (rput T m (sg (up2 V 0 (6) (nI 0)) g) od) 46 [(0, .ref (m)), (1, .int (nI (p))), (2, .int (nI (sumN (shpN g p) l + cnt (fun u => g (90 + 13 * l + 0) = p ∧ sW (g (402 + 2 * (200 * l + u))) = 4) u))), (3, .int (nI (sumN (bdsN g p) l + cnt (fun u => g (90 + 13 * l + 0) = p ∧ sW (g (402 + 2 * (200 * l + u))) = 4 ∧ badG g l u) u))), (4, .int (nI (l))), (5, .int (nI (u)))] [] _
        refine r_aload_n dX13_outgoing_46 rfl 0 rfl ?_
        refine m_ref (k := 0) (j := 1) hs hs.2.1.1 dX13_outgoing_47 fr_X13_7 rfl ?_
        refine r_iload dX13_outgoing_50 4 rfl ?_
        refine r_iconst (v := nI 0) dX13_outgoing_52 (by decide) ?_
        refine r_fnS (M2 := m_X13_at) (As := [.int (nI (l)), .int (nI (0))]) (rest := [.ref (m + 1)]) (v := some (.int (nI (90 + 13 * l + 0)))) dX13_outgoing_53 cc_X13_outgoing_72 rfl rfl rfl (Nat.le_of_ble_eq_true rfl) f_at rfl ?_
        refine g_iald (i := 90 + 13 * l + 0) hs dX13_outgoing_56 (by (first | omega | (have := hzz l (by omega); omega) | (have := sW_lt (g (402 + 2 * (200 * l + u))); omega))) ?_
        refine r_iload_n dX13_outgoing_57 rfl 1 rfl ?_
        refine r_icmp_neN (tgt := 129) dX13_outgoing_58 (by decide) (by (first | omega | (have := hzz l (by omega); omega) | (have := sW_lt (g (402 + 2 * (200 * l + u))); omega))) (by (first | omega | (have := hzz l (by omega); omega) | (have := sW_lt (g (402 + 2 * (200 * l + u))); omega))) (fun h58 => ?_) (fun h58 => ?_)
        · refine r_iincN (k := 1) (lv' := [(4, .int (nI (l + 1))), (0, .ref (m)), (1, .int (nI (p))), (2, .int (nI (sumN (shpN g p) l + cnt (fun u => g (90 + 13 * l + 0) = p ∧ sW (g (402 + 2 * (200 * l + u))) = 4) u))), (3, .int (nI (sumN (bdsN g p) l + cnt (fun u => g (90 + 13 * l + 0) = p ∧ sW (g (402 + 2 * (200 * l + u))) = 4 ∧ badG g l u) u))), (5, .int (nI (u)))]) dX13_outgoing_129 (by decide) 4 rfl (by decide) rfl ?_
          refine r_goto (tgt := 32) dX13_outgoing_132 (by decide) ?_
          refine Wx.sub [1, 2, 3, 4, 0] rfl ?_
          have n2 := next (by omega)
          have e1 : cnt (fun u => g (90 + 13 * l + 0) = p ∧ sW (g (402 + 2 * (200 * l + u))) = 4) u = shpN g p l := (cnt_none (fun u q => h58 q.1)).trans (cnt_none (fun u q => h58 q.1)).symm
          have e2 : cnt (fun u => g (90 + 13 * l + 0) = p ∧ sW (g (402 + 2 * (200 * l + u))) = 4 ∧ badG g l u) u = bdsN g p l := (cnt_none (fun u q => h58 q.1)).trans (cnt_none (fun u q => h58 q.1)).symm
          rw [e1, e2]
          exact n2
        · have hpe : g (90 + 13 * l + 0) = p := h58
          refine r_iload dX13_outgoing_61 5 rfl ?_
          refine r_aload_n dX13_outgoing_63 rfl 0 rfl ?_
          refine r_iload dX13_outgoing_64 4 rfl ?_
          refine r_fnV (M2 := m_X13_size) (As := [.int (nI (l))]) (rest := [.int (nI (u))]) (v := some (.int (nI (g (90 + 13 * l + 1))))) dX13_outgoing_66 cc_X13_outgoing_80 rfl rfl rfl (Nat.le_of_ble_eq_true rfl) hs.1 rfl rfl (by decide) (g_size hs (by (first | omega | (have := hzz l (by omega); omega) | (have := sW_lt (g (402 + 2 * (200 * l + u))); omega)))) rfl ?_
          refine r_icmp_geN (tgt := 129) dX13_outgoing_69 (by decide) (by (first | omega | (have := hzz l (by omega); omega) | (have := sW_lt (g (402 + 2 * (200 * l + u))); omega))) (by (first | omega | (have := hzz l (by omega); omega) | (have := sW_lt (g (402 + 2 * (200 * l + u))); omega))) (fun h69 => ?_) (fun h69 => ?_)
          · refine r_iincN (k := 1) (lv' := [(4, .int (nI (l + 1))), (0, .ref (m)), (1, .int (nI (p))), (2, .int (nI (sumN (shpN g p) l + cnt (fun u => g (90 + 13 * l + 0) = p ∧ sW (g (402 + 2 * (200 * l + u))) = 4) u))), (3, .int (nI (sumN (bdsN g p) l + cnt (fun u => g (90 + 13 * l + 0) = p ∧ sW (g (402 + 2 * (200 * l + u))) = 4 ∧ badG g l u) u))), (5, .int (nI (u)))]) dX13_outgoing_129 (by decide) 4 rfl (by decide) rfl ?_
            refine r_goto (tgt := 32) dX13_outgoing_132 (by decide) ?_
            refine Wx.sub [1, 2, 3, 4, 0] rfl ?_
            obtain rfl : u = g (90 + 13 * l + 1) := by omega
            exact next (by omega)
          · refine r_iload_n dX13_outgoing_72 rfl 2 rfl ?_
            refine r_aload_n dX13_outgoing_73 rfl 0 rfl ?_
            refine r_iload dX13_outgoing_74 4 rfl ?_
            refine r_iload dX13_outgoing_76 5 rfl ?_
            refine r_fnV (M2 := m_X13_state) (As := [.int (nI (l)), .int (nI (u))]) (rest := [.int (nI (sumN (shpN g p) l + cnt (fun u => g (90 + 13 * l + 0) = p ∧ sW (g (402 + 2 * (200 * l + u))) = 4) u))]) (v := some (.int (nI (sW (g (402 + 2 * (200 * l + u))))))) dX13_outgoing_78 cc_X13_outgoing_93 rfl rfl rfl (Nat.le_of_ble_eq_true rfl) hs.1 rfl rfl (by decide) (g_state hs hb (by (first | omega | (have := hzz l (by omega); omega) | (have := sW_lt (g (402 + 2 * (200 * l + u))); omega))) (by (first | omega | (have := hzz l (by omega); omega) | (have := sW_lt (g (402 + 2 * (200 * l + u))); omega)))) rfl ?_
            refine r_iconst (v := nI 4) dX13_outgoing_81 (by decide) ?_
            refine r_icmp_neN (tgt := 89) dX13_outgoing_82 (by decide) (by (first | omega | (have := hzz l (by omega); omega) | (have := sW_lt (g (402 + 2 * (200 * l + u))); omega))) (by (first | omega | (have := hzz l (by omega); omega) | (have := sW_lt (g (402 + 2 * (200 * l + u))); omega))) (fun h82 => ?_) (fun h82 => ?_)
            · refine r_iconst (v := nI 0) dX13_outgoing_89 (by decide) ?_
              refine r_iaddN dX13_outgoing_90 ?_
              refine r_istore_n (lv' := [(2, .int (nI (sumN (shpN g p) l + cnt (fun u => g (90 + 13 * l + 0) = p ∧ sW (g (402 + 2 * (200 * l + u))) = 4) u + 0))), (0, .ref (m)), (1, .int (nI (p))), (3, .int (nI (sumN (bdsN g p) l + cnt (fun u => g (90 + 13 * l + 0) = p ∧ sW (g (402 + 2 * (200 * l + u))) = 4 ∧ badG g l u) u))), (4, .int (nI (l))), (5, .int (nI (u)))]) dX13_outgoing_91 rfl (by decide) rfl ?_
              refine r_iload_n dX13_outgoing_92 rfl 3 rfl ?_
              refine r_aload_n dX13_outgoing_93 rfl 1 rfl ?_
              refine r_iload dX13_outgoing_94 4 rfl ?_
              refine r_iload dX13_outgoing_96 5 rfl ?_
              refine r_fnV (M2 := m_X13_state) (As := [.int (nI (l)), .int (nI (u))]) (rest := [.int (nI (sumN (bdsN g p) l + cnt (fun u => g (90 + 13 * l + 0) = p ∧ sW (g (402 + 2 * (200 * l + u))) = 4 ∧ badG g l u) u))]) (v := some (.int (nI (sW (g (402 + 2 * (200 * l + u))))))) dX13_outgoing_98 cc_X13_outgoing_93 rfl rfl rfl (Nat.le_of_ble_eq_true rfl) hs.1 rfl rfl (by decide) (g_state hs hb (by (first | omega | (have := hzz l (by omega); omega) | (have := sW_lt (g (402 + 2 * (200 * l + u))); omega))) (by (first | omega | (have := hzz l (by omega); omega) | (have := sW_lt (g (402 + 2 * (200 * l + u))); omega)))) rfl ?_
              refine r_iconst (v := nI 4) dX13_outgoing_101 (by decide) ?_
              refine r_icmp_neN (tgt := 120) dX13_outgoing_102 (by decide) (by (first | omega | (have := hzz l (by omega); omega) | (have := sW_lt (g (402 + 2 * (200 * l + u))); omega))) (by (first | omega | (have := hzz l (by omega); omega) | (have := sW_lt (g (402 + 2 * (200 * l + u))); omega))) (fun h102 => ?_) (fun h102 => ?_)
              · refine r_iconst (v := nI 0) dX13_outgoing_120 (by decide) ?_
                refine r_iaddN dX13_outgoing_121 ?_
                refine r_istore_n (lv' := [(3, .int (nI (sumN (bdsN g p) l + cnt (fun u => g (90 + 13 * l + 0) = p ∧ sW (g (402 + 2 * (200 * l + u))) = 4 ∧ badG g l u) u + 0))), (2, .int (nI (sumN (shpN g p) l + cnt (fun u => g (90 + 13 * l + 0) = p ∧ sW (g (402 + 2 * (200 * l + u))) = 4) u + 0))), (0, .ref (m)), (1, .int (nI (p))), (4, .int (nI (l))), (5, .int (nI (u)))]) dX13_outgoing_122 rfl (by decide) rfl ?_
                refine r_iincN (k := 1) (lv' := [(5, .int (nI (u + 1))), (3, .int (nI (sumN (bdsN g p) l + cnt (fun u => g (90 + 13 * l + 0) = p ∧ sW (g (402 + 2 * (200 * l + u))) = 4 ∧ badG g l u) u + 0))), (2, .int (nI (sumN (shpN g p) l + cnt (fun u => g (90 + 13 * l + 0) = p ∧ sW (g (402 + 2 * (200 * l + u))) = 4) u + 0))), (0, .ref (m)), (1, .int (nI (p))), (4, .int (nI (l)))]) dX13_outgoing_123 (by decide) 5 rfl (by decide) rfl ?_
                refine r_goto (tgt := 46) dX13_outgoing_126 (by decide) ?_
                refine Wx.sub [3, 4, 2, 1, 5, 0] rfl ?_
                have n2 := next_1 (by omega)
                rw [cnt_f (p := fun u => g (90 + 13 * l + 0) = p ∧ sW (g (402 + 2 * (200 * l + u))) = 4) (fun q => h82 q.2), cnt_f (p := fun u => g (90 + 13 * l + 0) = p ∧ sW (g (402 + 2 * (200 * l + u))) = 4 ∧ badG g l u) (fun q => h82 q.2.1)] at n2
                exact n2
              · exact absurd h102 h82
            · refine r_iconst (v := nI 1) dX13_outgoing_85 (by decide) ?_
              refine r_goto (tgt := 90) dX13_outgoing_86 (by decide) ?_
              refine r_iaddN dX13_outgoing_90 ?_
              refine r_istore_n (lv' := [(2, .int (nI (sumN (shpN g p) l + cnt (fun u => g (90 + 13 * l + 0) = p ∧ sW (g (402 + 2 * (200 * l + u))) = 4) u + 1))), (0, .ref (m)), (1, .int (nI (p))), (3, .int (nI (sumN (bdsN g p) l + cnt (fun u => g (90 + 13 * l + 0) = p ∧ sW (g (402 + 2 * (200 * l + u))) = 4 ∧ badG g l u) u))), (4, .int (nI (l))), (5, .int (nI (u)))]) dX13_outgoing_91 rfl (by decide) rfl ?_
              refine r_iload_n dX13_outgoing_92 rfl 3 rfl ?_
              refine r_aload_n dX13_outgoing_93 rfl 1 rfl ?_
              refine r_iload dX13_outgoing_94 4 rfl ?_
              refine r_iload dX13_outgoing_96 5 rfl ?_
              refine r_fnV (M2 := m_X13_state) (As := [.int (nI (l)), .int (nI (u))]) (rest := [.int (nI (sumN (bdsN g p) l + cnt (fun u => g (90 + 13 * l + 0) = p ∧ sW (g (402 + 2 * (200 * l + u))) = 4 ∧ badG g l u) u))]) (v := some (.int (nI (sW (g (402 + 2 * (200 * l + u))))))) dX13_outgoing_98 cc_X13_outgoing_93 rfl rfl rfl (Nat.le_of_ble_eq_true rfl) hs.1 rfl rfl (by decide) (g_state hs hb (by (first | omega | (have := hzz l (by omega); omega) | (have := sW_lt (g (402 + 2 * (200 * l + u))); omega))) (by (first | omega | (have := hzz l (by omega); omega) | (have := sW_lt (g (402 + 2 * (200 * l + u))); omega)))) rfl ?_
              refine r_iconst (v := nI 4) dX13_outgoing_101 (by decide) ?_
              refine r_icmp_neN (tgt := 120) dX13_outgoing_102 (by decide) (by (first | omega | (have := hzz l (by omega); omega) | (have := sW_lt (g (402 + 2 * (200 * l + u))); omega))) (by (first | omega | (have := hzz l (by omega); omega) | (have := sW_lt (g (402 + 2 * (200 * l + u))); omega))) (fun h102_1 => ?_) (fun h102_1 => ?_)
              · exact absurd h82 h102_1
              · refine r_aload_n dX13_outgoing_105 rfl 1 rfl ?_
                refine r_iload dX13_outgoing_106 4 rfl ?_
                refine r_iload dX13_outgoing_108 5 rfl ?_
                refine r_fnV (M2 := m_X13_isBad) (As := [.int (nI (l)), .int (nI (u))]) (rest := [.int (nI (sumN (bdsN g p) l + cnt (fun u => g (90 + 13 * l + 0) = p ∧ sW (g (402 + 2 * (200 * l + u))) = 4 ∧ badG g l u) u))]) (v := some (.int (bI (badG g l u)))) dX13_outgoing_110 cc_X13_outgoing_96 rfl rfl rfl (Nat.le_of_ble_eq_true rfl) hs.1 rfl rfl (by decide) (g_isBad hs hb (by omega) (by have := hzz l (by omega); omega) (by omega) (by rw [hpe]; exact hk)) rfl ?_
                refine r_if_eqB (tgt := 120) dX13_outgoing_113 (by decide) (fun h113 => ?_) (fun h113 => ?_)
                · refine r_iconst (v := nI 0) dX13_outgoing_120 (by decide) ?_
                  refine r_iaddN dX13_outgoing_121 ?_
                  refine r_istore_n (lv' := [(3, .int (nI (sumN (bdsN g p) l + cnt (fun u => g (90 + 13 * l + 0) = p ∧ sW (g (402 + 2 * (200 * l + u))) = 4 ∧ badG g l u) u + 0))), (2, .int (nI (sumN (shpN g p) l + cnt (fun u => g (90 + 13 * l + 0) = p ∧ sW (g (402 + 2 * (200 * l + u))) = 4) u + 1))), (0, .ref (m)), (1, .int (nI (p))), (4, .int (nI (l))), (5, .int (nI (u)))]) dX13_outgoing_122 rfl (by decide) rfl ?_
                  refine r_iincN (k := 1) (lv' := [(5, .int (nI (u + 1))), (3, .int (nI (sumN (bdsN g p) l + cnt (fun u => g (90 + 13 * l + 0) = p ∧ sW (g (402 + 2 * (200 * l + u))) = 4 ∧ badG g l u) u + 0))), (2, .int (nI (sumN (shpN g p) l + cnt (fun u => g (90 + 13 * l + 0) = p ∧ sW (g (402 + 2 * (200 * l + u))) = 4) u + 1))), (0, .ref (m)), (1, .int (nI (p))), (4, .int (nI (l)))]) dX13_outgoing_123 (by decide) 5 rfl (by decide) rfl ?_
                  refine r_goto (tgt := 46) dX13_outgoing_126 (by decide) ?_
                  refine Wx.sub [3, 4, 2, 1, 5, 0] rfl ?_
                  have n2 := next_1 (by omega)
                  rw [cnt_t (p := fun u => g (90 + 13 * l + 0) = p ∧ sW (g (402 + 2 * (200 * l + u))) = 4) ⟨hpe, h82⟩, cnt_f (p := fun u => g (90 + 13 * l + 0) = p ∧ sW (g (402 + 2 * (200 * l + u))) = 4 ∧ badG g l u) (fun q => h113 q.2.2)] at n2
                  exact n2
                · refine r_iconst (v := nI 1) dX13_outgoing_116 (by decide) ?_
                  refine r_goto (tgt := 121) dX13_outgoing_117 (by decide) ?_
                  refine r_iaddN dX13_outgoing_121 ?_
                  refine r_istore_n (lv' := [(3, .int (nI (sumN (bdsN g p) l + cnt (fun u => g (90 + 13 * l + 0) = p ∧ sW (g (402 + 2 * (200 * l + u))) = 4 ∧ badG g l u) u + 1))), (2, .int (nI (sumN (shpN g p) l + cnt (fun u => g (90 + 13 * l + 0) = p ∧ sW (g (402 + 2 * (200 * l + u))) = 4) u + 1))), (0, .ref (m)), (1, .int (nI (p))), (4, .int (nI (l))), (5, .int (nI (u)))]) dX13_outgoing_122 rfl (by decide) rfl ?_
                  refine r_iincN (k := 1) (lv' := [(5, .int (nI (u + 1))), (3, .int (nI (sumN (bdsN g p) l + cnt (fun u => g (90 + 13 * l + 0) = p ∧ sW (g (402 + 2 * (200 * l + u))) = 4 ∧ badG g l u) u + 1))), (2, .int (nI (sumN (shpN g p) l + cnt (fun u => g (90 + 13 * l + 0) = p ∧ sW (g (402 + 2 * (200 * l + u))) = 4) u + 1))), (0, .ref (m)), (1, .int (nI (p))), (4, .int (nI (l)))]) dX13_outgoing_123 (by decide) 5 rfl (by decide) rfl ?_
                  refine r_goto (tgt := 46) dX13_outgoing_126 (by decide) ?_
                  refine Wx.sub [3, 4, 2, 1, 5, 0] rfl ?_
                  have n2 := next_1 (by omega)
                  rw [cnt_t (p := fun u => g (90 + 13 * l + 0) = p ∧ sW (g (402 + 2 * (200 * l + u))) = 4) ⟨hpe, h82⟩, cnt_t (p := fun u => g (90 + 13 * l + 0) = p ∧ sW (g (402 + 2 * (200 * l + u))) = 4 ∧ badG g l u) ⟨hpe, h82, h113⟩] at n2
                  exact n2
    · exact absurd zz20 (by decide)
