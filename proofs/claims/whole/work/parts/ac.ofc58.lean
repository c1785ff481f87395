/-! THE CHANCE: the reference -/
set_option maxRecDepth 4000 in
set_option maxHeartbeats 400000 in
theorem f_least0 {G : GI} {S : Hp} {y : Int32} : Fn m_X13_least0 G [.int y] S (some (.int (if nI 0 < y then y else nI 0))) S := by
  refine Cn.of rfl (by decide) (Nat.le_of_ble_eq_true rfl) (fun hN hM => ?_)
  show Wx _ G _ 0 [(0, .int (y))] [] _
  refine r_iload_n dX13_least0_0 rfl 0 rfl ?_
  refine r_if_le (tgt := 8) dX13_least0_1 (by decide) (fun h1 => ?_) (fun h1 => ?_)
  · refine r_iconst (v := nI 0) dX13_least0_8 (by decide) ?_
    exact r_iret (ty := .int) dX13_least0_9 rfl rfl ⟨congrArg (fun z => Sum.inl (some (Value.int z))) ((if_neg (Int32.not_lt.mpr h1))).symm, rfl⟩
  · refine r_iload_n dX13_least0_4 rfl 0 rfl ?_
    refine r_goto (tgt := 9) dX13_least0_5 (by decide) ?_
    exact r_iret (ty := .int) dX13_least0_9 rfl rfl ⟨congrArg (fun z => Sum.inl (some (Value.int z))) ((if_pos (Int32.not_le.mp h1))).symm, rfl⟩
set_option maxRecDepth 4000 in
set_option maxHeartbeats 400000 in
theorem g_chanceOf {G : GI} {T : Hp} {m : Nat} {V : RVal} {od : Nat → UInt64} (hs : RS T m) {n b : Nat} (hb : b ≤ n) (hn : n ≤ 200) {s a : Nat} (hsn : s ≤ n) (hs32 : s ≤ 32) (ha : a < 1000) : Fn m_X13_chanceOf G [.ref m, .int (nI n), .int (nI b), .int (nI s), .int (nI a)] (rput T m V od) (some (.double (smC n b s (Nat.min a s + 1)))) (rput T m V (rwC (s + 1) n b s od)) := by
  refine Cn.of rfl (by decide) (Nat.le_of_ble_eq_true rfl) (fun hN hM => ?_)
  show Wx _ G _ 0 [(0, .ref (m)), (1, .int (nI (n))), (2, .int (nI (b))), (3, .int (nI (s))), (4, .int (nI (a)))] [] _
  have h2 : zT T (m + 6) = 103 := hs.2.2.1.2.2.2.2.2.1
  have h3 : zN T (m + 6) = 34 := hs.2.2.2.2.2.2.2.2.1
  have hm1 : Nat.min a s ≤ a := Nat.min_le_left _ _
  have hm2 : Nat.min a s ≤ s := Nat.min_le_right _ _
  have hm3 : Nat.min a s = a ∨ Nat.min a s = s := by
    rcases Nat.le_total a s with q | q
    · exact Or.inl (Nat.min_eq_left q)
    · exact Or.inr (Nat.min_eq_right q)
  refine r_iconst (v := nI 0) dX13_chanceOf_0 (by decide) ?_
  refine r_istore (lv' := [(5, .int (nI (0))), (0, .ref (m)), (1, .int (nI (n))), (2, .int (nI (b))), (3, .int (nI (s))), (4, .int (nI (a)))]) dX13_chanceOf_1 (by decide) rfl ?_
  rw [show rput T m V od = rput T m V (rwC 0 n b 0 od) from congrArg (fun z => rput T m V z) rwC_0.symm]
  refine Wx.loop (fun u => rput T m V (rwC u n b 0 od)) (fun u => [(5, .int (nI (u))), (0, .ref (m)), (1, .int (nI (n))), (2, .int (nI (b))), (3, .int (nI (s))), (4, .int (nI (a)))]) (s + 1) (0) (Nat.zero_le _) (fun u hge hle next => ?_)
  show Wx _ G (rput T m V (rwC u n b 0 od)) 3 [(5, .int (nI (u))), (0, .ref (m)), (1, .int (nI (n))), (2, .int (nI (b))), (3, .int (nI (s))), (4, .int (nI (a)))] [] _
  refine r_iload dX13_chanceOf_3 0 rfl ?_
  refine r_iload_n dX13_chanceOf_5 rfl 4 rfl ?_
  refine r_icmp_gtN (tgt := 32) dX13_chanceOf_6 (by decide) (by omega) (by omega) (fun h6 => ?_) (fun h6 => ?_)
  · obtain rfl : u = s + 1 := by omega
    refine Wx.sub [1, 2, 3, 4, 5] rfl ?_
    refine r_iconst (v := nI 0) dX13_chanceOf_32 (by decide) ?_
    refine r_istore (lv' := [(5, .int (nI (0))), (0, .ref (m)), (1, .int (nI (n))), (2, .int (nI (b))), (3, .int (nI (s))), (4, .int (nI (a)))]) dX13_chanceOf_33 (by decide) rfl ?_
    refine Wx.loop (fun j => rput T m V (rwC (s + 1) n b j od)) (fun j => [(5, .int (nI (j))), (0, .ref (m)), (1, .int (nI (n))), (2, .int (nI (b))), (3, .int (nI (s))), (4, .int (nI (a)))]) (s) (0) (Nat.zero_le _) (fun j hge_1 hle_1 next_1 => ?_)
    show Wx _ G (rput T m V (rwC (s + 1) n b j od)) 35 [(5, .int (nI (j))), (0, .ref (m)), (1, .int (nI (n))), (2, .int (nI (b))), (3, .int (nI (s))), (4, .int (nI (a)))] [] _
    refine r_iload dX13_chanceOf_35 0 rfl ?_
    refine r_iload_n dX13_chanceOf_37 rfl 4 rfl ?_
    refine r_icmp_geN (tgt := 143) dX13_chanceOf_38 (by decide) (by omega) (by omega) (fun h38 => ?_) (fun h38 => ?_)
    · obtain rfl : j = s := by omega
      refine Wx.sub [1, 2, 3, 4, 5] rfl ?_
      refine r_dconst0 dX13_chanceOf_143 ?_
      refine r_dstore (lv' := [(5, .double (FP.dconst0)), (0, .ref (m)), (1, .int (nI (n))), (2, .int (nI (b))), (3, .int (nI (j))), (4, .int (nI (a)))]) dX13_chanceOf_144 (by decide) rfl ?_
      refine r_iconst (v := nI 0) dX13_chanceOf_146 (by decide) ?_
      refine r_istore (lv' := [(7, .int (nI (0))), (5, .double (FP.dconst0)), (0, .ref (m)), (1, .int (nI (n))), (2, .int (nI (b))), (3, .int (nI (j))), (4, .int (nI (a)))]) dX13_chanceOf_147 (by decide) rfl ?_
      refine Wx.loop (fun t => rput T m V (rwC (j + 1) n b j od)) (fun t => [(7, .int (nI (t))), (5, .double (smC n b j t)), (0, .ref (m)), (1, .int (nI (n))), (2, .int (nI (b))), (3, .int (nI (j))), (4, .int (nI (a)))]) (Nat.min a j + 1) (0) (Nat.zero_le _) (fun t hge_2 hle_2 next_2 => ?_)
      show Wx _ G (rput T m V (rwC (j + 1) n b j od)) 149 [(7, .int (nI (t))), (5, .double (smC n b j t)), (0, .ref (m)), (1, .int (nI (n))), (2, .int (nI (b))), (3, .int (nI (j))), (4, .int (nI (a)))] [] _
      refine r_iload dX13_chanceOf_149 0 rfl ?_
      refine r_iload dX13_chanceOf_151 6 rfl ?_
      refine r_icmp_gtN (tgt := 180) dX13_chanceOf_153 (by decide) (by omega) (by omega) (fun h153 => ?_) (fun h153 => ?_)
      · refine r_dload dX13_chanceOf_180 1 rfl ?_
        exact r_dret dX13_chanceOf_182 rfl ⟨by rw [show t = Nat.min a j + 1 by omega], rfl⟩
      · refine r_iload dX13_chanceOf_156 0 rfl ?_
        refine r_iload_n dX13_chanceOf_158 rfl 5 rfl ?_
        refine r_icmp_gtN (tgt := 180) dX13_chanceOf_159 (by decide) (by omega) (by omega) (fun h159 => ?_) (fun h159 => ?_)
        · refine r_dload dX13_chanceOf_180 1 rfl ?_
          exact r_dret dX13_chanceOf_182 rfl ⟨by rw [show t = Nat.min a j + 1 by omega], rfl⟩
        · refine r_dload dX13_chanceOf_162 1 rfl ?_
          refine r_aload_n dX13_chanceOf_164 rfl 2 rfl ?_
          refine m_ref (k := 10) (j := 6) hs hs.2.1.2.2.2.2.2.1 dX13_chanceOf_165 fr_X13_27 rfl ?_
          refine r_iload dX13_chanceOf_168 0 rfl ?_
          refine r_dald dX13_chanceOf_170 h2 (show vp_in _ (zN _ _) from by rw [show zN (rput T m V (rwC (j + 1) n b j od)) (m + 6) = 34 from h3]; exact vp_in_nI (by omega) (by decide)) ?_
          refine Wx.topD ((congrArg (zD _ _) (nI_clamp (by omega))).trans ((if_pos rfl).trans (rwC_r (by omega)))) ?_
          refine r_dadd dX13_chanceOf_171 (smC_ok (ivC hb hn hsn hs32) hs32 (t := t + 1) (by omega)).1.nn ?_
          refine r_dstore (lv' := [(5, .double (FP.dadd (smC n b j t) (odC n b j t))), (7, .int (nI (t))), (0, .ref (m)), (1, .int (nI (n))), (2, .int (nI (b))), (3, .int (nI (j))), (4, .int (nI (a)))]) dX13_chanceOf_172 (by decide) rfl ?_
          refine r_iincN (k := 1) (lv' := [(7, .int (nI (t + 1))), (5, .double (FP.dadd (smC n b j t) (odC n b j t))), (0, .ref (m)), (1, .int (nI (n))), (2, .int (nI (b))), (3, .int (nI (j))), (4, .int (nI (a)))]) dX13_chanceOf_174 (by decide) 1 rfl (by decide) rfl ?_
          refine r_goto (tgt := 149) dX13_chanceOf_177 (by decide) ?_
          exact next_2 (by omega)
    · refine r_iload_n dX13_chanceOf_41 rfl 2 rfl ?_
      refine r_iload dX13_chanceOf_42 0 rfl ?_
      refine r_isubN dX13_chanceOf_44 (by omega) ?_
      refine r_i2d dX13_chanceOf_45 ?_
      refine r_dstore (lv' := [(6, .double (FP.i2d (nI (n - j)))), (5, .int (nI (j))), (0, .ref (m)), (1, .int (nI (n))), (2, .int (nI (b))), (3, .int (nI (s))), (4, .int (nI (a)))]) dX13_chanceOf_46 (by decide) rfl ?_
      refine r_iload dX13_chanceOf_48 1 rfl ?_
      refine r_iconst (v := nI 1) dX13_chanceOf_50 (by decide) ?_
      refine r_iaddN dX13_chanceOf_51 ?_
      refine r_istore (lv' := [(8, .int (nI (j + 1))), (6, .double (FP.i2d (nI (n - j)))), (5, .int (nI (j))), (0, .ref (m)), (1, .int (nI (n))), (2, .int (nI (b))), (3, .int (nI (s))), (4, .int (nI (a)))]) dX13_chanceOf_52 (by decide) rfl ?_
      refine Wx.loopR (fun u U lv => ∃ q, q + u = j + 2 ∧ U = rput T m V (rkC (s + 1) n b j od q) ∧ lv = [(8, .int (nI q + (-1))), (6, .double (FP.i2d (nI (n - j)))), (5, .int (nI (j))), (0, .ref (m)), (1, .int (nI (n))), (2, .int (nI (b))), (3, .int (nI (s))), (4, .int (nI (a)))]) (j + 2) 0 (Nat.zero_le _) ⟨j + 2, rfl, by rw [rkC_top], by rw [i_less1 (j + 1) (by omega)]⟩ (fun u U lv hu0 hu hI nx => ?_)
      obtain ⟨q, hq, rfl, rfl⟩ := hI
      rcases q with _ | k
      · rw [rkC_0]
        refine r_iload dX13_chanceOf_54 0 rfl ?_
        refine Wx.top (y := -1) (by decide) ?_
        refine r_if_lt (tgt := 137) dX13_chanceOf_56 (by decide) (fun _ => ?_) (fun hh => absurd (by decide) hh)
        refine Wx.sub [2, 3, 4, 5, 6, 7] rfl ?_
        refine r_iincN (k := 1) (lv' := [(5, .int (nI (j + 1))), (0, .ref (m)), (1, .int (nI (n))), (2, .int (nI (b))), (3, .int (nI (s))), (4, .int (nI (a)))]) dX13_chanceOf_137 (by decide) 0 rfl (by decide) rfl ?_
        refine r_goto (tgt := 35) dX13_chanceOf_140 (by decide) ?_
        refine Wx.sub [0, 1, 2, 3, 4, 5] rfl ?_
        exact next_1 (by omega)
      · rw [i_less1 k (by omega)]
        have hst := (ivC hb hn (show j ≤ n by omega) (show j ≤ 32 by omega)).step (k := k) hb hn (by omega) (by omega) (by omega)
        refine r_iload dX13_chanceOf_54 0 rfl ?_
        refine r_if_ltN (tgt := 137) dX13_chanceOf_56 (by decide) (by omega) ?_
        refine r_iload_n dX13_chanceOf_59 rfl 4 rfl ?_
        refine r_iload_n dX13_chanceOf_60 rfl 5 rfl ?_
        refine r_isubN dX13_chanceOf_61 (by omega) ?_
        refine r_iload dX13_chanceOf_62 2 rfl ?_
        refine r_iload dX13_chanceOf_64 0 rfl ?_
        refine r_isub dX13_chanceOf_66 ?_
        refine r_isub dX13_chanceOf_67 ?_
        refine r_fnS (M2 := m_X13_least0) (As := [.int (nI (n - b) - (nI j - nI k))]) (rest := []) (v := some (.int (nI (n - b + k - j)))) dX13_chanceOf_68 cc_X13_chanceOf_266 rfl rfl rfl (Nat.le_of_ble_eq_true rfl) (Fn.eq f_least0 (congrArg (fun z => some (Value.int z)) (i_least3 (a := n - b) (j := j) (k := k) (by omega) (by omega))) rfl) rfl ?_
        refine r_i2d dX13_chanceOf_71 ?_
        refine r_dstore (lv' := [(9, .double (FP.i2d (nI (n - b + k - j)))), (8, .int (nI (k))), (6, .double (FP.i2d (nI (n - j)))), (5, .int (nI (j))), (0, .ref (m)), (1, .int (nI (n))), (2, .int (nI (b))), (3, .int (nI (s))), (4, .int (nI (a)))]) dX13_chanceOf_72 (by decide) rfl ?_
        refine r_iload_n dX13_chanceOf_74 rfl 6 rfl ?_
        refine r_iload dX13_chanceOf_75 1 rfl ?_
        refine r_iconst (v := nI 1) dX13_chanceOf_77 (by decide) ?_
        refine r_isub dX13_chanceOf_78 ?_
        refine r_isub dX13_chanceOf_79 ?_
        refine r_fnS (M2 := m_X13_least0) (As := [.int (nI b - (nI k - nI 1))]) (rest := []) (v := some (.int (nI (b + 1 - k)))) dX13_chanceOf_80 cc_X13_chanceOf_266 rfl rfl rfl (Nat.le_of_ble_eq_true rfl) (Fn.eq f_least0 (congrArg (fun z => some (Value.int z)) (i_least3 (a := b) (j := k) (k := 1) (by omega) (by omega))) rfl) rfl ?_
        refine r_i2d dX13_chanceOf_83 ?_
        refine r_dstore (lv' := [(11, .double (FP.i2d (nI (b + 1 - k)))), (9, .double (FP.i2d (nI (n - b + k - j)))), (8, .int (nI (k))), (6, .double (FP.i2d (nI (n - j)))), (5, .int (nI (j))), (0, .ref (m)), (1, .int (nI (n))), (2, .int (nI (b))), (3, .int (nI (s))), (4, .int (nI (a)))]) dX13_chanceOf_84 (by decide) rfl ?_
        refine r_aload_n dX13_chanceOf_86 rfl 5 rfl ?_
        refine m_ref (k := 10) (j := 6) hs hs.2.1.2.2.2.2.2.1 dX13_chanceOf_87 fr_X13_27 rfl ?_
        refine r_iload dX13_chanceOf_90 2 rfl ?_
        refine r_aload_n dX13_chanceOf_92 rfl 5 rfl ?_
        refine m_ref (k := 10) (j := 6) hs hs.2.1.2.2.2.2.2.1 dX13_chanceOf_93 fr_X13_27 rfl ?_
        refine r_iload dX13_chanceOf_96 2 rfl ?_
        refine r_dald dX13_chanceOf_98 h2 (show vp_in _ (zN _ _) from by rw [show zN (rput T m V (rkC (s + 1) n b j od (k + 1))) (m + 6) = 34 from h3]; exact vp_in_nI (by omega) (by decide)) ?_
        refine Wx.topD ((congrArg (zD _ _) (nI_clamp (by omega))).trans ((if_pos rfl).trans (rkC_r (by omega) (by omega)))) ?_
        refine r_dload dX13_chanceOf_99 1 rfl ?_
        refine r_dmul dX13_chanceOf_101 hst.1.1.nn ?_
        refine r_dload dX13_chanceOf_102 3 rfl ?_
        refine r_ddiv dX13_chanceOf_104 hst.1.2.nn ?_
        refine r_iload dX13_chanceOf_105 2 rfl ?_
        refine r_if_leN (tgt := 122) dX13_chanceOf_107 (by decide) (by omega) (fun h107 => ?_) (fun h107 => ?_)
        · refine r_dconst0 dX13_chanceOf_122 ?_
          have hpr : prC n b j k = FP.dconst0 := if_pos (by omega)
          rw [hpr] at hst
          have hz : stC n b j (odC n b j) k = FP.dadd (FP.ddiv (FP.dmul (odC n b j k) (FP.i2d (nI (n - b + k - j)))) (FP.i2d (nI (n - j)))) (FP.ddiv (FP.dmul (FP.dconst0) (FP.i2d (nI (b + 1 - k)))) (FP.i2d (nI (n - j)))) := by unfold stC; rw [if_pos (by omega)]
          refine r_dload dX13_chanceOf_123 0 rfl ?_
          refine r_dmul dX13_chanceOf_125 hst.2.1.1.nn ?_
          refine r_dload dX13_chanceOf_126 3 rfl ?_
          refine r_ddiv dX13_chanceOf_128 hst.2.1.2.nn ?_
          refine r_dadd dX13_chanceOf_129 (hz ▸ hst.2.2.1.nn) ?_
          refine r_dast dX13_chanceOf_130 h2 (show vp_in _ (zN _ _) from by rw [show zN (rput T m V (rkC (s + 1) n b j od (k + 1))) (m + 6) = 34 from h3]; exact vp_in_nI (by omega) (by decide)) ?_
          refine Wx.st' (S' := rput T m V (rkC (s + 1) n b j od k)) (by rw [nI_clamp (by omega), rput_uD]; exact congrArg (fun z => rput T m V z) (rkC_s hz.symm (by omega) (by omega))) ?_
          refine r_iinc (v := nI k + (-1)) (lv' := [(8, .int (nI k + (-1))), (11, .double (FP.i2d (nI (b + 1 - k)))), (9, .double (FP.i2d (nI (n - b + k - j)))), (6, .double (FP.i2d (nI (n - j)))), (5, .int (nI (j))), (0, .ref (m)), (1, .int (nI (n))), (2, .int (nI (b))), (3, .int (nI (s))), (4, .int (nI (a)))]) dX13_chanceOf_131 2 rfl (by rfl) (by decide) rfl ?_
          refine r_goto (tgt := 54) dX13_chanceOf_134 (by decide) ?_
          refine Wx.sub [0, 3, 4, 5, 6, 7, 8, 9] rfl ?_
          exact nx _ _ (by omega) ⟨k, by omega, rfl, rfl⟩
        · refine r_aload_n dX13_chanceOf_110 rfl 5 rfl ?_
          refine m_ref (k := 10) (j := 6) hs hs.2.1.2.2.2.2.2.1 dX13_chanceOf_111 fr_X13_27 rfl ?_
          refine r_iload dX13_chanceOf_114 2 rfl ?_
          refine r_iconst (v := nI 1) dX13_chanceOf_116 (by decide) ?_
          refine r_isubN dX13_chanceOf_117 (by omega) ?_
          refine r_dald dX13_chanceOf_118 h2 (show vp_in _ (zN _ _) from by rw [show zN (rput T m V (rkC (s + 1) n b j od (k + 1))) (m + 6) = 34 from h3]; exact vp_in_nI (by omega) (by decide)) ?_
          refine Wx.topD ((congrArg (zD _ _) (nI_clamp (by omega))).trans ((if_pos rfl).trans (rkC_r (by omega) (by omega)))) ?_
          refine r_goto (tgt := 123) dX13_chanceOf_119 (by decide) ?_
          have hpr : prC n b j k = odC n b j (k - 1) := if_neg (by omega)
          rw [hpr] at hst
          have hz : stC n b j (odC n b j) k = FP.dadd (FP.ddiv (FP.dmul (odC n b j k) (FP.i2d (nI (n - b + k - j)))) (FP.i2d (nI (n - j)))) (FP.ddiv (FP.dmul (odC n b j (k - 1)) (FP.i2d (nI (b + 1 - k)))) (FP.i2d (nI (n - j)))) := by unfold stC; rw [if_neg (by omega)]
          refine r_dload dX13_chanceOf_123 0 rfl ?_
          refine r_dmul dX13_chanceOf_125 hst.2.1.1.nn ?_
          refine r_dload dX13_chanceOf_126 3 rfl ?_
          refine r_ddiv dX13_chanceOf_128 hst.2.1.2.nn ?_
          refine r_dadd dX13_chanceOf_129 (hz ▸ hst.2.2.1.nn) ?_
          refine r_dast dX13_chanceOf_130 h2 (show vp_in _ (zN _ _) from by rw [show zN (rput T m V (rkC (s + 1) n b j od (k + 1))) (m + 6) = 34 from h3]; exact vp_in_nI (by omega) (by decide)) ?_
          refine Wx.st' (S' := rput T m V (rkC (s + 1) n b j od k)) (by rw [nI_clamp (by omega), rput_uD]; exact congrArg (fun z => rput T m V z) (rkC_s hz.symm (by omega) (by omega))) ?_
          refine r_iinc (v := nI k + (-1)) (lv' := [(8, .int (nI k + (-1))), (11, .double (FP.i2d (nI (b + 1 - k)))), (9, .double (FP.i2d (nI (n - b + k - j)))), (6, .double (FP.i2d (nI (n - j)))), (5, .int (nI (j))), (0, .ref (m)), (1, .int (nI (n))), (2, .int (nI (b))), (3, .int (nI (s))), (4, .int (nI (a)))]) dX13_chanceOf_131 2 rfl (by rfl) (by decide) rfl ?_
          refine r_goto (tgt := 54) dX13_chanceOf_134 (by decide) ?_
          refine Wx.sub [0, 3, 4, 5, 6, 7, 8, 9] rfl ?_
          exact nx _ _ (by omega) ⟨k, by omega, rfl, rfl⟩
  · refine r_aload_n dX13_chanceOf_9 rfl 1 rfl ?_
    refine m_ref (k := 10) (j := 6) hs hs.2.1.2.2.2.2.2.1 dX13_chanceOf_10 fr_X13_27 rfl ?_
    refine r_iload dX13_chanceOf_13 0 rfl ?_
    refine r_iload dX13_chanceOf_15 0 rfl ?_
    refine r_if_neN (tgt := 24) dX13_chanceOf_17 (by decide) (by omega) (fun h17 => ?_) (fun h17 => ?_)
    · refine r_dconst0 dX13_chanceOf_24 ?_
      refine r_dast dX13_chanceOf_25 h2 (show vp_in _ (zN _ _) from by rw [show zN (rput T m V (rwC u n b 0 od)) (m + 6) = 34 from h3]; exact vp_in_nI (by omega) (by decide)) ?_
      refine Wx.st' (S' := rput T m V (rwC (u + 1) n b 0 od)) (by rw [nI_clamp (by omega), rput_uD]; exact congrArg (fun z => rput T m V z) (rwC_s (show FP.dconst0 = odC n b 0 u from (if_neg h17).symm))) ?_
      refine r_iincN (k := 1) (lv' := [(5, .int (nI (u + 1))), (0, .ref (m)), (1, .int (nI (n))), (2, .int (nI (b))), (3, .int (nI (s))), (4, .int (nI (a)))]) dX13_chanceOf_26 (by decide) 0 rfl (by decide) rfl ?_
      refine r_goto (tgt := 3) dX13_chanceOf_29 (by decide) ?_
      exact next (by omega)
    · refine r_dconst1 dX13_chanceOf_20 ?_
      refine r_goto (tgt := 25) dX13_chanceOf_21 (by decide) ?_
      refine r_dast dX13_chanceOf_25 h2 (show vp_in _ (zN _ _) from by rw [show zN (rput T m V (rwC u n b 0 od)) (m + 6) = 34 from h3]; exact vp_in_nI (by omega) (by decide)) ?_
      refine Wx.st' (S' := rput T m V (rwC (u + 1) n b 0 od)) (by rw [nI_clamp (by omega), rput_uD]; exact congrArg (fun z => rput T m V z) (rwC_s (show FP.dconst1 = odC n b 0 u from (if_pos h17).symm))) ?_
      refine r_iincN (k := 1) (lv' := [(5, .int (nI (u + 1))), (0, .ref (m)), (1, .int (nI (n))), (2, .int (nI (b))), (3, .int (nI (s))), (4, .int (nI (a)))]) dX13_chanceOf_26 (by decide) 0 rfl (by decide) rfl ?_
      refine r_goto (tgt := 3) dX13_chanceOf_29 (by decide) ?_
      exact next (by omega)
