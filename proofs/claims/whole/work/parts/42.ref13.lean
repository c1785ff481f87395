theorem nI_nm1 {n : Nat} (h : n < 2 ^ 31) : ¬ nI n = (-1) := fun q => absurd (nI_pos' h) (by rw [q]; decide)
set_option maxRecDepth 4000 in
theorem p_aMk_0_1 {G : GI} {T : Hp} {m : Nat} {V : RVal} {g : Nat → Nat} {od : Nat → UInt64} (hs : RS T m)  (h24 : g 0 ≤ 24) (hb : WB g) {a : Nat} (ha : a < 6) {p : Nat} (hp : p < 4) {n : Nat} (hn0 : 0 < n) (hn : n ≤ 200) {t0 : Nat} (q0 : t0 < g 0) (z0 : g (90 + 13 * t0 + 1) ≤ 200) (s0 : g (90 + 13 * t0 + 2) < 4) (h0 : g 0 < 24) (f0 : ¬ fewP g t0 n) : Fn m_X13_againstMake G [.ref (m), .int (nI (a)), .int (nI (p)), .int (nI (n)), .int (nI (t0)), .int ((-1)), .int ((-1))] (rput T m (sg V g) od) (some (.int (nI (0)))) (rput T m (sg V (g)) od) := by
  refine Cn.of rfl (by decide) (Nat.le_of_ble_eq_true rfl) (fun hN hM => ?_)
  show Wx _ G _ 0 [(0, .ref (m)), (1, .int (nI (a))), (2, .int (nI (p))), (3, .int (nI (n))), (4, .int (nI (t0))), (5, .int ((-1))), (6, .int ((-1)))] [] _
  refine r_iload_n dX13_againstMake_0 rfl 1 rfl ?_
  refine r_fnS (M2 := m_X13_isMachine) (As := [.int (nI (a))]) (rest := []) (v := some (.int (nI (1)))) dX13_againstMake_1 cc_X13_againstMake_104 rfl rfl rfl (Nat.le_of_ble_eq_true rfl) (Fn.eq f_isMachine (congrArg (fun x => some (Value.int x)) (bI_t (vp_in_nI (by omega) (by first | decide | omega)))) rfl) rfl ?_
  refine r_if_eqN (tgt := 41) dX13_againstMake_4 (by decide) (by omega) (fun zz4 => ?_) (fun zz4 => ?_)
  · exact absurd zz4 (by decide)
  · refine r_iload_n dX13_againstMake_7 rfl 2 rfl ?_
    refine r_fnS (M2 := m_X13_isProduct) (As := [.int (nI (p))]) (rest := []) (v := some (.int (nI (1)))) dX13_againstMake_8 cc_X13_againstMake_118 rfl rfl rfl (Nat.le_of_ble_eq_true rfl) (Fn.eq f_isProduct (congrArg (fun x => some (Value.int x)) (bI_t (vp_in_nI (by omega) (by first | decide | omega)))) rfl) rfl ?_
    refine r_if_eqN (tgt := 41) dX13_againstMake_11 (by decide) (by omega) (fun zz11 => ?_) (fun zz11 => ?_)
    · exact absurd zz11 (by decide)
    · refine r_aload_n dX13_againstMake_14 rfl 0 rfl ?_
      refine r_iload dX13_againstMake_15 4 rfl ?_
      refine r_fnV (M2 := m_X13_isLot) (As := [.int (nI (t0))]) (rest := []) (v := some (.int (nI (1)))) dX13_againstMake_17 cc_X13_againstMake_76 rfl rfl rfl (Nat.le_of_ble_eq_true rfl) hs.1 rfl rfl (by decide) (Fn.eq (g_isLot hs h24) (congrArg (fun x => some (Value.int x)) (bI_t (vp_in_nI (by omega) (by first | decide | omega)))) rfl) rfl ?_
      refine r_if_eqN (tgt := 41) dX13_againstMake_20 (by decide) (by omega) (fun zz20 => ?_) (fun zz20 => ?_)
      · exact absurd zz20 (by decide)
      · refine r_aload_n dX13_againstMake_23 rfl 0 rfl ?_
        refine r_iload dX13_againstMake_24 5 rfl ?_
        refine r_fnV (M2 := m_X13_maybePart) (As := [.int ((-1))]) (rest := []) (v := some (.int (nI (1)))) dX13_againstMake_26 cc_X13_againstMake_178 rfl rfl rfl (Nat.le_of_ble_eq_true rfl) hs.1 rfl rfl (by decide) (Fn.eq (p_maybe hs h24) (congrArg (fun x => some (Value.int x)) (bI_t (Or.inl rfl))) rfl) rfl ?_
        refine r_if_eqN (tgt := 41) dX13_againstMake_29 (by decide) (by omega) (fun zz29 => ?_) (fun zz29 => ?_)
        · exact absurd zz29 (by decide)
        · refine r_aload_n dX13_againstMake_32 rfl 0 rfl ?_
          refine r_iload dX13_againstMake_33 6 rfl ?_
          refine r_fnV (M2 := m_X13_maybePart) (As := [.int ((-1))]) (rest := []) (v := some (.int (nI (1)))) dX13_againstMake_35 cc_X13_againstMake_178 rfl rfl rfl (Nat.le_of_ble_eq_true rfl) hs.1 rfl rfl (by decide) (Fn.eq (p_maybe hs h24) (congrArg (fun x => some (Value.int x)) (bI_t (Or.inl rfl))) rfl) rfl ?_
          refine r_if_neN (tgt := 43) dX13_againstMake_38 (by decide) (by omega) (fun zz38 => ?_) (fun zz38 => ?_)
          · refine r_iload_n dX13_againstMake_43 rfl 3 rfl ?_
            refine r_iconst (v := nI 1) dX13_againstMake_44 (by decide) ?_
            refine r_sipush (v := nI 200) dX13_againstMake_45 (by decide) ?_
            refine r_fnS (M2 := m_X13_in) (As := [.int (nI (n)), .int (nI (1)), .int (nI (200))]) (rest := []) (v := some (.int (nI (1)))) dX13_againstMake_48 cc_X13_againstMake_68 rfl rfl rfl (Nat.le_of_ble_eq_true rfl) (Fn.eq f_in (congrArg (fun x => some (Value.int x)) (bI_t ⟨(nI_le (by omega) (by omega)), nI_le (by omega) (by omega)⟩)) rfl) rfl ?_
            refine r_if_eqN (tgt := 90) dX13_againstMake_51 (by decide) (by omega) (fun zz51 => ?_) (fun zz51 => ?_)
            · exact absurd zz51 (by decide)
            · refine r_iload dX13_againstMake_54 4 rfl ?_
              refine r_iload dX13_againstMake_56 5 rfl ?_
              refine r_icmp_eq (tgt := 90) dX13_againstMake_58 (by decide) (fun h58 => ?_) (fun h58 => ?_)
              · exact absurd h58 (nI_nm1 (by omega))
              · refine r_iload dX13_againstMake_61 4 rfl ?_
                refine r_iload dX13_againstMake_63 6 rfl ?_
                refine r_icmp_eq (tgt := 90) dX13_againstMake_65 (by decide) (fun h65 => ?_) (fun h65 => ?_)
                · exact absurd h65 (nI_nm1 (by omega))
                · refine r_iload dX13_againstMake_68 5 rfl ?_
                  refine r_iload dX13_againstMake_70 6 rfl ?_
                  refine r_icmp_ne (tgt := 80) dX13_againstMake_72 (by decide) (fun h72 => ?_) (fun h72 => ?_)
                  · exact absurd rfl h72
                  · refine r_iload dX13_againstMake_75 5 rfl ?_
                    refine r_if_ge (tgt := 90) dX13_againstMake_77 (by decide) (fun h77 => ?_) (fun h77 => ?_)
                    · exact absurd h77 (by decide : ¬ (0 : Int32) ≤ -1)
                    · refine r_iload dX13_againstMake_80 5 rfl ?_
                      refine r_if_ge (tgt := 92) dX13_againstMake_82 (by decide) (fun h82 => ?_) (fun h82 => ?_)
                      · exact absurd h82 (by decide : ¬ (0 : Int32) ≤ -1)
                      · refine r_iload dX13_againstMake_85 6 rfl ?_
                        refine r_if_lt (tgt := 92) dX13_againstMake_87 (by decide) (fun h87 => ?_) (fun h87 => ?_)
                        · refine r_aload_n dX13_againstMake_92 rfl 0 rfl ?_
                          refine m_ref (k := 0) (j := 1) hs hs.2.1.1 dX13_againstMake_93 fr_X13_7 rfl ?_
                          refine r_iconst (v := nI 0) dX13_againstMake_96 (by decide) ?_
                          refine g_iald (i := 0) hs dX13_againstMake_97 (by omega) ?_
                          refine r_bipush (v := nI 24) dX13_againstMake_98 (by decide) ?_
                          refine r_icmp_eqN (tgt := 133) dX13_againstMake_100 (by decide) (by omega) (by omega) (fun h100 => ?_) (fun h100 => ?_)
                          · exact absurd h100 (by omega)
                          · refine r_aload_n dX13_againstMake_103 rfl 0 rfl ?_
                            refine r_iload dX13_againstMake_104 4 rfl ?_
                            refine r_iload_n dX13_againstMake_106 rfl 3 rfl ?_
                            refine r_fnV (M2 := m_X13_hasFew) (As := [.int (nI (t0)), .int (nI (n))]) (rest := []) (v := some (.int (bI (fewP g t0 n)))) dX13_againstMake_107 cc_X13_againstMake_181 rfl rfl rfl (Nat.le_of_ble_eq_true rfl) hs.1 rfl rfl (by decide) (p_few hs h24 hb q0 z0 s0 hn) rfl ?_
                            refine r_if_neB (tgt := 133) dX13_againstMake_110 (by decide) (fun h110 => ?_) (fun h110 => ?_)
                            · exact absurd h110 f0
                            · refine r_aload_n dX13_againstMake_113 rfl 0 rfl ?_
                              refine r_iload dX13_againstMake_114 5 rfl ?_
                              refine r_iload_n dX13_againstMake_116 rfl 3 rfl ?_
                              refine r_fnV (M2 := m_X13_hasFew) (As := [.int ((-1)), .int (nI (n))]) (rest := []) (v := some (.int (nI (0)))) dX13_againstMake_117 cc_X13_againstMake_181 rfl rfl rfl (Nat.le_of_ble_eq_true rfl) hs.1 rfl rfl (by decide) (p_few_no hs) rfl ?_
                              refine r_if_neN (tgt := 133) dX13_againstMake_120 (by decide) (by omega) (fun zz120 => ?_) (fun zz120 => ?_)
                              · exact absurd zz120 (by decide)
                              · refine r_aload_n dX13_againstMake_123 rfl 0 rfl ?_
                                refine r_iload dX13_againstMake_124 6 rfl ?_
                                refine r_iload_n dX13_againstMake_126 rfl 3 rfl ?_
                                refine r_fnV (M2 := m_X13_hasFew) (As := [.int ((-1)), .int (nI (n))]) (rest := []) (v := some (.int (nI (0)))) dX13_againstMake_127 cc_X13_againstMake_181 rfl rfl rfl (Nat.le_of_ble_eq_true rfl) hs.1 rfl rfl (by decide) (p_few_no hs) rfl ?_
                                refine r_if_eqN (tgt := 137) dX13_againstMake_130 (by decide) (by omega) (fun zz130 => ?_) (fun zz130 => ?_)
                                · refine r_iconst (v := nI 0) dX13_againstMake_137 (by decide) ?_
                                  exact r_iret (ty := .int) dX13_againstMake_138 rfl rfl ⟨rfl, rfl⟩
                                · exact absurd zz130 (by decide)
                        · exact absurd (by decide : (-1 : Int32) < 0) h87
          · exact absurd zz38 (by decide)
set_option maxRecDepth 4000 in
theorem p_aMk_3_1 {G : GI} {T : Hp} {m : Nat} {V : RVal} {g : Nat → Nat} {od : Nat → UInt64} (hs : RS T m)  (h24 : g 0 ≤ 24) (hb : WB g) {a : Nat} (ha : a < 6) {p : Nat} (hp : p < 4) {n : Nat} (hn0 : 0 < n) (hn : n ≤ 200) {t0 : Nat} (q0 : t0 < g 0) (z0 : g (90 + 13 * t0 + 1) ≤ 200) (s0 : g (90 + 13 * t0 + 2) < 4) (h3 : g 0 = 24 ∨ fewP g t0 n) : Fn m_X13_againstMake G [.ref (m), .int (nI (a)), .int (nI (p)), .int (nI (n)), .int (nI (t0)), .int ((-1)), .int ((-1))] (rput T m (sg V g) od) (some (.int (nI (3)))) (rput T m (sg V (g)) od) := by
  refine Cn.of rfl (by decide) (Nat.le_of_ble_eq_true rfl) (fun hN hM => ?_)
  show Wx _ G _ 0 [(0, .ref (m)), (1, .int (nI (a))), (2, .int (nI (p))), (3, .int (nI (n))), (4, .int (nI (t0))), (5, .int ((-1))), (6, .int ((-1)))] [] _
  refine r_iload_n dX13_againstMake_0 rfl 1 rfl ?_
  refine r_fnS (M2 := m_X13_isMachine) (As := [.int (nI (a))]) (rest := []) (v := some (.int (nI (1)))) dX13_againstMake_1 cc_X13_againstMake_104 rfl rfl rfl (Nat.le_of_ble_eq_true rfl) (Fn.eq f_isMachine (congrArg (fun x => some (Value.int x)) (bI_t (vp_in_nI (by omega) (by first | decide | omega)))) rfl) rfl ?_
  refine r_if_eqN (tgt := 41) dX13_againstMake_4 (by decide) (by omega) (fun zz4 => ?_) (fun zz4 => ?_)
  · exact absurd zz4 (by decide)
  · refine r_iload_n dX13_againstMake_7 rfl 2 rfl ?_
    refine r_fnS (M2 := m_X13_isProduct) (As := [.int (nI (p))]) (rest := []) (v := some (.int (nI (1)))) dX13_againstMake_8 cc_X13_againstMake_118 rfl rfl rfl (Nat.le_of_ble_eq_true rfl) (Fn.eq f_isProduct (congrArg (fun x => some (Value.int x)) (bI_t (vp_in_nI (by omega) (by first | decide | omega)))) rfl) rfl ?_
    refine r_if_eqN (tgt := 41) dX13_againstMake_11 (by decide) (by omega) (fun zz11 => ?_) (fun zz11 => ?_)
    · exact absurd zz11 (by decide)
    · refine r_aload_n dX13_againstMake_14 rfl 0 rfl ?_
      refine r_iload dX13_againstMake_15 4 rfl ?_
      refine r_fnV (M2 := m_X13_isLot) (As := [.int (nI (t0))]) (rest := []) (v := some (.int (nI (1)))) dX13_againstMake_17 cc_X13_againstMake_76 rfl rfl rfl (Nat.le_of_ble_eq_true rfl) hs.1 rfl rfl (by decide) (Fn.eq (g_isLot hs h24) (congrArg (fun x => some (Value.int x)) (bI_t (vp_in_nI (by omega) (by first | decide | omega)))) rfl) rfl ?_
      refine r_if_eqN (tgt := 41) dX13_againstMake_20 (by decide) (by omega) (fun zz20 => ?_) (fun zz20 => ?_)
      · exact absurd zz20 (by decide)
      · refine r_aload_n dX13_againstMake_23 rfl 0 rfl ?_
        refine r_iload dX13_againstMake_24 5 rfl ?_
        refine r_fnV (M2 := m_X13_maybePart) (As := [.int ((-1))]) (rest := []) (v := some (.int (nI (1)))) dX13_againstMake_26 cc_X13_againstMake_178 rfl rfl rfl (Nat.le_of_ble_eq_true rfl) hs.1 rfl rfl (by decide) (Fn.eq (p_maybe hs h24) (congrArg (fun x => some (Value.int x)) (bI_t (Or.inl rfl))) rfl) rfl ?_
        refine r_if_eqN (tgt := 41) dX13_againstMake_29 (by decide) (by omega) (fun zz29 => ?_) (fun zz29 => ?_)
        · exact absurd zz29 (by decide)
        · refine r_aload_n dX13_againstMake_32 rfl 0 rfl ?_
          refine r_iload dX13_againstMake_33 6 rfl ?_
          refine r_fnV (M2 := m_X13_maybePart) (As := [.int ((-1))]) (rest := []) (v := some (.int (nI (1)))) dX13_againstMake_35 cc_X13_againstMake_178 rfl rfl rfl (Nat.le_of_ble_eq_true rfl) hs.1 rfl rfl (by decide) (Fn.eq (p_maybe hs h24) (congrArg (fun x => some (Value.int x)) (bI_t (Or.inl rfl))) rfl) rfl ?_
          refine r_if_neN (tgt := 43) dX13_againstMake_38 (by decide) (by omega) (fun zz38 => ?_) (fun zz38 => ?_)
          · refine r_iload_n dX13_againstMake_43 rfl 3 rfl ?_
            refine r_iconst (v := nI 1) dX13_againstMake_44 (by decide) ?_
            refine r_sipush (v := nI 200) dX13_againstMake_45 (by decide) ?_
            refine r_fnS (M2 := m_X13_in) (As := [.int (nI (n)), .int (nI (1)), .int (nI (200))]) (rest := []) (v := some (.int (nI (1)))) dX13_againstMake_48 cc_X13_againstMake_68 rfl rfl rfl (Nat.le_of_ble_eq_true rfl) (Fn.eq f_in (congrArg (fun x => some (Value.int x)) (bI_t ⟨(nI_le (by omega) (by omega)), nI_le (by omega) (by omega)⟩)) rfl) rfl ?_
            refine r_if_eqN (tgt := 90) dX13_againstMake_51 (by decide) (by omega) (fun zz51 => ?_) (fun zz51 => ?_)
            · exact absurd zz51 (by decide)
            · refine r_iload dX13_againstMake_54 4 rfl ?_
              refine r_iload dX13_againstMake_56 5 rfl ?_
              refine r_icmp_eq (tgt := 90) dX13_againstMake_58 (by decide) (fun h58 => ?_) (fun h58 => ?_)
              · exact absurd h58 (nI_nm1 (by omega))
              · refine r_iload dX13_againstMake_61 4 rfl ?_
                refine r_iload dX13_againstMake_63 6 rfl ?_
                refine r_icmp_eq (tgt := 90) dX13_againstMake_65 (by decide) (fun h65 => ?_) (fun h65 => ?_)
                · exact absurd h65 (nI_nm1 (by omega))
                · refine r_iload dX13_againstMake_68 5 rfl ?_
                  refine r_iload dX13_againstMake_70 6 rfl ?_
                  refine r_icmp_ne (tgt := 80) dX13_againstMake_72 (by decide) (fun h72 => ?_) (fun h72 => ?_)
                  · exact absurd rfl h72
                  · refine r_iload dX13_againstMake_75 5 rfl ?_
                    refine r_if_ge (tgt := 90) dX13_againstMake_77 (by decide) (fun h77 => ?_) (fun h77 => ?_)
                    · exact absurd h77 (by decide : ¬ (0 : Int32) ≤ -1)
                    · refine r_iload dX13_againstMake_80 5 rfl ?_
                      refine r_if_ge (tgt := 92) dX13_againstMake_82 (by decide) (fun h82 => ?_) (fun h82 => ?_)
                      · exact absurd h82 (by decide : ¬ (0 : Int32) ≤ -1)
                      · refine r_iload dX13_againstMake_85 6 rfl ?_
                        refine r_if_lt (tgt := 92) dX13_againstMake_87 (by decide) (fun h87 => ?_) (fun h87 => ?_)
                        · refine r_aload_n dX13_againstMake_92 rfl 0 rfl ?_
                          refine m_ref (k := 0) (j := 1) hs hs.2.1.1 dX13_againstMake_93 fr_X13_7 rfl ?_
                          refine r_iconst (v := nI 0) dX13_againstMake_96 (by decide) ?_
                          refine g_iald (i := 0) hs dX13_againstMake_97 (by omega) ?_
                          refine r_bipush (v := nI 24) dX13_againstMake_98 (by decide) ?_
                          refine r_icmp_eqN (tgt := 133) dX13_againstMake_100 (by decide) (by omega) (by omega) (fun h100 => ?_) (fun h100 => ?_)
                          · refine r_iconst (v := nI 3) dX13_againstMake_133 (by decide) ?_
                            refine r_goto (tgt := 138) dX13_againstMake_134 (by decide) ?_
                            exact r_iret (ty := .int) dX13_againstMake_138 rfl rfl ⟨rfl, rfl⟩
                          · refine r_aload_n dX13_againstMake_103 rfl 0 rfl ?_
                            refine r_iload dX13_againstMake_104 4 rfl ?_
                            refine r_iload_n dX13_againstMake_106 rfl 3 rfl ?_
                            refine r_fnV (M2 := m_X13_hasFew) (As := [.int (nI (t0)), .int (nI (n))]) (rest := []) (v := some (.int (bI (fewP g t0 n)))) dX13_againstMake_107 cc_X13_againstMake_181 rfl rfl rfl (Nat.le_of_ble_eq_true rfl) hs.1 rfl rfl (by decide) (p_few hs h24 hb q0 z0 s0 hn) rfl ?_
                            refine r_if_neB (tgt := 133) dX13_againstMake_110 (by decide) (fun h110 => ?_) (fun h110 => ?_)
                            · refine r_iconst (v := nI 3) dX13_againstMake_133 (by decide) ?_
                              refine r_goto (tgt := 138) dX13_againstMake_134 (by decide) ?_
                              exact r_iret (ty := .int) dX13_againstMake_138 rfl rfl ⟨rfl, rfl⟩
                            · refine r_aload_n dX13_againstMake_113 rfl 0 rfl ?_
                              refine r_iload dX13_againstMake_114 5 rfl ?_
                              refine r_iload_n dX13_againstMake_116 rfl 3 rfl ?_
                              refine r_fnV (M2 := m_X13_hasFew) (As := [.int ((-1)), .int (nI (n))]) (rest := []) (v := some (.int (nI (0)))) dX13_againstMake_117 cc_X13_againstMake_181 rfl rfl rfl (Nat.le_of_ble_eq_true rfl) hs.1 rfl rfl (by decide) (p_few_no hs) rfl ?_
                              refine r_if_neN (tgt := 133) dX13_againstMake_120 (by decide) (by omega) (fun zz120 => ?_) (fun zz120 => ?_)
                              · exact absurd zz120 (by decide)
                              · refine r_aload_n dX13_againstMake_123 rfl 0 rfl ?_
                                refine r_iload dX13_againstMake_124 6 rfl ?_
                                refine r_iload_n dX13_againstMake_126 rfl 3 rfl ?_
                                refine r_fnV (M2 := m_X13_hasFew) (As := [.int ((-1)), .int (nI (n))]) (rest := []) (v := some (.int (nI (0)))) dX13_againstMake_127 cc_X13_againstMake_181 rfl rfl rfl (Nat.le_of_ble_eq_true rfl) hs.1 rfl rfl (by decide) (p_few_no hs) rfl ?_
                                refine r_if_eqN (tgt := 137) dX13_againstMake_130 (by decide) (by omega) (fun zz130 => ?_) (fun zz130 => ?_)
                                · exact absurd h3 (fun q => by rcases q with q | q <;> first | exact h100 q | exact h110 q | omega)
                                · exact absurd zz130 (by decide)
                        · exact absurd (by decide : (-1 : Int32) < 0) h87
          · exact absurd zz38 (by decide)
set_option maxRecDepth 4000 in
theorem p_aMk_0_2 {G : GI} {T : Hp} {m : Nat} {V : RVal} {g : Nat → Nat} {od : Nat → UInt64} (hs : RS T m)  (h24 : g 0 ≤ 24) (hb : WB g) {a : Nat} (ha : a < 6) {p : Nat} (hp : p < 4) {n : Nat} (hn0 : 0 < n) (hn : n ≤ 200) {t0 : Nat} (q0 : t0 < g 0) {t1 : Nat} (q1 : t1 < g 0) (n01 : t0 ≠ t1) (z0 : g (90 + 13 * t0 + 1) ≤ 200) (s0 : g (90 + 13 * t0 + 2) < 4) (z1 : g (90 + 13 * t1 + 1) ≤ 200) (s1 : g (90 + 13 * t1 + 2) < 4) (h0 : g 0 < 24) (f0 : ¬ fewP g t0 n) (f1 : ¬ fewP g t1 n) : Fn m_X13_againstMake G [.ref (m), .int (nI (a)), .int (nI (p)), .int (nI (n)), .int (nI (t0)), .int (nI (t1)), .int ((-1))] (rput T m (sg V g) od) (some (.int (nI (0)))) (rput T m (sg V (g)) od) := by
  refine Cn.of rfl (by decide) (Nat.le_of_ble_eq_true rfl) (fun hN hM => ?_)
  show Wx _ G _ 0 [(0, .ref (m)), (1, .int (nI (a))), (2, .int (nI (p))), (3, .int (nI (n))), (4, .int (nI (t0))), (5, .int (nI (t1))), (6, .int ((-1)))] [] _
  refine r_iload_n dX13_againstMake_0 rfl 1 rfl ?_
  refine r_fnS (M2 := m_X13_isMachine) (As := [.int (nI (a))]) (rest := []) (v := some (.int (nI (1)))) dX13_againstMake_1 cc_X13_againstMake_104 rfl rfl rfl (Nat.le_of_ble_eq_true rfl) (Fn.eq f_isMachine (congrArg (fun x => some (Value.int x)) (bI_t (vp_in_nI (by omega) (by first | decide | omega)))) rfl) rfl ?_
  refine r_if_eqN (tgt := 41) dX13_againstMake_4 (by decide) (by omega) (fun zz4 => ?_) (fun zz4 => ?_)
  · exact absurd zz4 (by decide)
  · refine r_iload_n dX13_againstMake_7 rfl 2 rfl ?_
    refine r_fnS (M2 := m_X13_isProduct) (As := [.int (nI (p))]) (rest := []) (v := some (.int (nI (1)))) dX13_againstMake_8 cc_X13_againstMake_118 rfl rfl rfl (Nat.le_of_ble_eq_true rfl) (Fn.eq f_isProduct (congrArg (fun x => some (Value.int x)) (bI_t (vp_in_nI (by omega) (by first | decide | omega)))) rfl) rfl ?_
    refine r_if_eqN (tgt := 41) dX13_againstMake_11 (by decide) (by omega) (fun zz11 => ?_) (fun zz11 => ?_)
    · exact absurd zz11 (by decide)
    · refine r_aload_n dX13_againstMake_14 rfl 0 rfl ?_
      refine r_iload dX13_againstMake_15 4 rfl ?_
      refine r_fnV (M2 := m_X13_isLot) (As := [.int (nI (t0))]) (rest := []) (v := some (.int (nI (1)))) dX13_againstMake_17 cc_X13_againstMake_76 rfl rfl rfl (Nat.le_of_ble_eq_true rfl) hs.1 rfl rfl (by decide) (Fn.eq (g_isLot hs h24) (congrArg (fun x => some (Value.int x)) (bI_t (vp_in_nI (by omega) (by first | decide | omega)))) rfl) rfl ?_
      refine r_if_eqN (tgt := 41) dX13_againstMake_20 (by decide) (by omega) (fun zz20 => ?_) (fun zz20 => ?_)
      · exact absurd zz20 (by decide)
      · refine r_aload_n dX13_againstMake_23 rfl 0 rfl ?_
        refine r_iload dX13_againstMake_24 5 rfl ?_
        refine r_fnV (M2 := m_X13_maybePart) (As := [.int (nI (t1))]) (rest := []) (v := some (.int (nI (1)))) dX13_againstMake_26 cc_X13_againstMake_178 rfl rfl rfl (Nat.le_of_ble_eq_true rfl) hs.1 rfl rfl (by decide) (Fn.eq (p_maybe hs h24) (congrArg (fun x => some (Value.int x)) (bI_t (Or.inr (vp_in_nI (by omega) (by omega))))) rfl) rfl ?_
        refine r_if_eqN (tgt := 41) dX13_againstMake_29 (by decide) (by omega) (fun zz29 => ?_) (fun zz29 => ?_)
        · exact absurd zz29 (by decide)
        · refine r_aload_n dX13_againstMake_32 rfl 0 rfl ?_
          refine r_iload dX13_againstMake_33 6 rfl ?_
          refine r_fnV (M2 := m_X13_maybePart) (As := [.int ((-1))]) (rest := []) (v := some (.int (nI (1)))) dX13_againstMake_35 cc_X13_againstMake_178 rfl rfl rfl (Nat.le_of_ble_eq_true rfl) hs.1 rfl rfl (by decide) (Fn.eq (p_maybe hs h24) (congrArg (fun x => some (Value.int x)) (bI_t (Or.inl rfl))) rfl) rfl ?_
          refine r_if_neN (tgt := 43) dX13_againstMake_38 (by decide) (by omega) (fun zz38 => ?_) (fun zz38 => ?_)
          · refine r_iload_n dX13_againstMake_43 rfl 3 rfl ?_
            refine r_iconst (v := nI 1) dX13_againstMake_44 (by decide) ?_
            refine r_sipush (v := nI 200) dX13_againstMake_45 (by decide) ?_
            refine r_fnS (M2 := m_X13_in) (As := [.int (nI (n)), .int (nI (1)), .int (nI (200))]) (rest := []) (v := some (.int (nI (1)))) dX13_againstMake_48 cc_X13_againstMake_68 rfl rfl rfl (Nat.le_of_ble_eq_true rfl) (Fn.eq f_in (congrArg (fun x => some (Value.int x)) (bI_t ⟨(nI_le (by omega) (by omega)), nI_le (by omega) (by omega)⟩)) rfl) rfl ?_
            refine r_if_eqN (tgt := 90) dX13_againstMake_51 (by decide) (by omega) (fun zz51 => ?_) (fun zz51 => ?_)
            · exact absurd zz51 (by decide)
            · refine r_iload dX13_againstMake_54 4 rfl ?_
              refine r_iload dX13_againstMake_56 5 rfl ?_
              refine r_icmp_eqN (tgt := 90) dX13_againstMake_58 (by decide) (by omega) (by omega) (fun h58 => ?_) (fun h58 => ?_)
              · exact absurd h58 n01
              · refine r_iload dX13_againstMake_61 4 rfl ?_
                refine r_iload dX13_againstMake_63 6 rfl ?_
                refine r_icmp_eq (tgt := 90) dX13_againstMake_65 (by decide) (fun h65 => ?_) (fun h65 => ?_)
                · exact absurd h65 (nI_nm1 (by omega))
                · refine r_iload dX13_againstMake_68 5 rfl ?_
                  refine r_iload dX13_againstMake_70 6 rfl ?_
                  refine r_icmp_ne (tgt := 80) dX13_againstMake_72 (by decide) (fun h72 => ?_) (fun h72 => ?_)
                  · refine r_iload dX13_againstMake_80 5 rfl ?_
                    refine r_if_geN (tgt := 92) dX13_againstMake_82 (by decide) (by omega) ?_
                    refine r_aload_n dX13_againstMake_92 rfl 0 rfl ?_
                    refine m_ref (k := 0) (j := 1) hs hs.2.1.1 dX13_againstMake_93 fr_X13_7 rfl ?_
                    refine r_iconst (v := nI 0) dX13_againstMake_96 (by decide) ?_
                    refine g_iald (i := 0) hs dX13_againstMake_97 (by omega) ?_
                    refine r_bipush (v := nI 24) dX13_againstMake_98 (by decide) ?_
                    refine r_icmp_eqN (tgt := 133) dX13_againstMake_100 (by decide) (by omega) (by omega) (fun h100 => ?_) (fun h100 => ?_)
                    · exact absurd h100 (by omega)
                    · refine r_aload_n dX13_againstMake_103 rfl 0 rfl ?_
                      refine r_iload dX13_againstMake_104 4 rfl ?_
                      refine r_iload_n dX13_againstMake_106 rfl 3 rfl ?_
                      refine r_fnV (M2 := m_X13_hasFew) (As := [.int (nI (t0)), .int (nI (n))]) (rest := []) (v := some (.int (bI (fewP g t0 n)))) dX13_againstMake_107 cc_X13_againstMake_181 rfl rfl rfl (Nat.le_of_ble_eq_true rfl) hs.1 rfl rfl (by decide) (p_few hs h24 hb q0 z0 s0 hn) rfl ?_
                      refine r_if_neB (tgt := 133) dX13_againstMake_110 (by decide) (fun h110 => ?_) (fun h110 => ?_)
                      · exact absurd h110 f0
                      · refine r_aload_n dX13_againstMake_113 rfl 0 rfl ?_
                        refine r_iload dX13_againstMake_114 5 rfl ?_
                        refine r_iload_n dX13_againstMake_116 rfl 3 rfl ?_
                        refine r_fnV (M2 := m_X13_hasFew) (As := [.int (nI (t1)), .int (nI (n))]) (rest := []) (v := some (.int (bI (fewP g t1 n)))) dX13_againstMake_117 cc_X13_againstMake_181 rfl rfl rfl (Nat.le_of_ble_eq_true rfl) hs.1 rfl rfl (by decide) (p_few hs h24 hb q1 z1 s1 hn) rfl ?_
                        refine r_if_neB (tgt := 133) dX13_againstMake_120 (by decide) (fun h120 => ?_) (fun h120 => ?_)
                        · exact absurd h120 f1
                        · refine r_aload_n dX13_againstMake_123 rfl 0 rfl ?_
                          refine r_iload dX13_againstMake_124 6 rfl ?_
                          refine r_iload_n dX13_againstMake_126 rfl 3 rfl ?_
                          refine r_fnV (M2 := m_X13_hasFew) (As := [.int ((-1)), .int (nI (n))]) (rest := []) (v := some (.int (nI (0)))) dX13_againstMake_127 cc_X13_againstMake_181 rfl rfl rfl (Nat.le_of_ble_eq_true rfl) hs.1 rfl rfl (by decide) (p_few_no hs) rfl ?_
                          refine r_if_eqN (tgt := 137) dX13_againstMake_130 (by decide) (by omega) (fun zz130 => ?_) (fun zz130 => ?_)
                          · refine r_iconst (v := nI 0) dX13_againstMake_137 (by decide) ?_
                            exact r_iret (ty := .int) dX13_againstMake_138 rfl rfl ⟨rfl, rfl⟩
                          · exact absurd zz130 (by decide)
                  · exact absurd h72 (nI_nm1 (by omega))
          · exact absurd zz38 (by decide)
set_option maxRecDepth 4000 in
theorem p_aMk_3_2 {G : GI} {T : Hp} {m : Nat} {V : RVal} {g : Nat → Nat} {od : Nat → UInt64} (hs : RS T m)  (h24 : g 0 ≤ 24) (hb : WB g) {a : Nat} (ha : a < 6) {p : Nat} (hp : p < 4) {n : Nat} (hn0 : 0 < n) (hn : n ≤ 200) {t0 : Nat} (q0 : t0 < g 0) {t1 : Nat} (q1 : t1 < g 0) (n01 : t0 ≠ t1) (z0 : g (90 + 13 * t0 + 1) ≤ 200) (s0 : g (90 + 13 * t0 + 2) < 4) (z1 : g (90 + 13 * t1 + 1) ≤ 200) (s1 : g (90 + 13 * t1 + 2) < 4) (h3 : g 0 = 24 ∨ fewP g t0 n ∨ fewP g t1 n) : Fn m_X13_againstMake G [.ref (m), .int (nI (a)), .int (nI (p)), .int (nI (n)), .int (nI (t0)), .int (nI (t1)), .int ((-1))] (rput T m (sg V g) od) (some (.int (nI (3)))) (rput T m (sg V (g)) od) := by
  refine Cn.of rfl (by decide) (Nat.le_of_ble_eq_true rfl) (fun hN hM => ?_)
  show Wx _ G _ 0 [(0, .ref (m)), (1, .int (nI (a))), (2, .int (nI (p))), (3, .int (nI (n))), (4, .int (nI (t0))), (5, .int (nI (t1))), (6, .int ((-1)))] [] _
  refine r_iload_n dX13_againstMake_0 rfl 1 rfl ?_
  refine r_fnS (M2 := m_X13_isMachine) (As := [.int (nI (a))]) (rest := []) (v := some (.int (nI (1)))) dX13_againstMake_1 cc_X13_againstMake_104 rfl rfl rfl (Nat.le_of_ble_eq_true rfl) (Fn.eq f_isMachine (congrArg (fun x => some (Value.int x)) (bI_t (vp_in_nI (by omega) (by first | decide | omega)))) rfl) rfl ?_
  refine r_if_eqN (tgt := 41) dX13_againstMake_4 (by decide) (by omega) (fun zz4 => ?_) (fun zz4 => ?_)
  · exact absurd zz4 (by decide)
  · refine r_iload_n dX13_againstMake_7 rfl 2 rfl ?_
    refine r_fnS (M2 := m_X13_isProduct) (As := [.int (nI (p))]) (rest := []) (v := some (.int (nI (1)))) dX13_againstMake_8 cc_X13_againstMake_118 rfl rfl rfl (Nat.le_of_ble_eq_true rfl) (Fn.eq f_isProduct (congrArg (fun x => some (Value.int x)) (bI_t (vp_in_nI (by omega) (by first | decide | omega)))) rfl) rfl ?_
    refine r_if_eqN (tgt := 41) dX13_againstMake_11 (by decide) (by omega) (fun zz11 => ?_) (fun zz11 => ?_)
    · exact absurd zz11 (by decide)
    · refine r_aload_n dX13_againstMake_14 rfl 0 rfl ?_
      refine r_iload dX13_againstMake_15 4 rfl ?_
      refine r_fnV (M2 := m_X13_isLot) (As := [.int (nI (t0))]) (rest := []) (v := some (.int (nI (1)))) dX13_againstMake_17 cc_X13_againstMake_76 rfl rfl rfl (Nat.le_of_ble_eq_true rfl) hs.1 rfl rfl (by decide) (Fn.eq (g_isLot hs h24) (congrArg (fun x => some (Value.int x)) (bI_t (vp_in_nI (by omega) (by first | decide | omega)))) rfl) rfl ?_
      refine r_if_eqN (tgt := 41) dX13_againstMake_20 (by decide) (by omega) (fun zz20 => ?_) (fun zz20 => ?_)
      · exact absurd zz20 (by decide)
      · refine r_aload_n dX13_againstMake_23 rfl 0 rfl ?_
        refine r_iload dX13_againstMake_24 5 rfl ?_
        refine r_fnV (M2 := m_X13_maybePart) (As := [.int (nI (t1))]) (rest := []) (v := some (.int (nI (1)))) dX13_againstMake_26 cc_X13_againstMake_178 rfl rfl rfl (Nat.le_of_ble_eq_true rfl) hs.1 rfl rfl (by decide) (Fn.eq (p_maybe hs h24) (congrArg (fun x => some (Value.int x)) (bI_t (Or.inr (vp_in_nI (by omega) (by omega))))) rfl) rfl ?_
        refine r_if_eqN (tgt := 41) dX13_againstMake_29 (by decide) (by omega) (fun zz29 => ?_) (fun zz29 => ?_)
        · exact absurd zz29 (by decide)
        · refine r_aload_n dX13_againstMake_32 rfl 0 rfl ?_
          refine r_iload dX13_againstMake_33 6 rfl ?_
          refine r_fnV (M2 := m_X13_maybePart) (As := [.int ((-1))]) (rest := []) (v := some (.int (nI (1)))) dX13_againstMake_35 cc_X13_againstMake_178 rfl rfl rfl (Nat.le_of_ble_eq_true rfl) hs.1 rfl rfl (by decide) (Fn.eq (p_maybe hs h24) (congrArg (fun x => some (Value.int x)) (bI_t (Or.inl rfl))) rfl) rfl ?_
          refine r_if_neN (tgt := 43) dX13_againstMake_38 (by decide) (by omega) (fun zz38 => ?_) (fun zz38 => ?_)
          · refine r_iload_n dX13_againstMake_43 rfl 3 rfl ?_
            refine r_iconst (v := nI 1) dX13_againstMake_44 (by decide) ?_
            refine r_sipush (v := nI 200) dX13_againstMake_45 (by decide) ?_
            refine r_fnS (M2 := m_X13_in) (As := [.int (nI (n)), .int (nI (1)), .int (nI (200))]) (rest := []) (v := some (.int (nI (1)))) dX13_againstMake_48 cc_X13_againstMake_68 rfl rfl rfl (Nat.le_of_ble_eq_true rfl) (Fn.eq f_in (congrArg (fun x => some (Value.int x)) (bI_t ⟨(nI_le (by omega) (by omega)), nI_le (by omega) (by omega)⟩)) rfl) rfl ?_
            refine r_if_eqN (tgt := 90) dX13_againstMake_51 (by decide) (by omega) (fun zz51 => ?_) (fun zz51 => ?_)
            · exact absurd zz51 (by decide)
            · refine r_iload dX13_againstMake_54 4 rfl ?_
              refine r_iload dX13_againstMake_56 5 rfl ?_
              refine r_icmp_eqN (tgt := 90) dX13_againstMake_58 (by decide) (by omega) (by omega) (fun h58 => ?_) (fun h58 => ?_)
              · exact absurd h58 n01
              · refine r_iload dX13_againstMake_61 4 rfl ?_
                refine r_iload dX13_againstMake_63 6 rfl ?_
                refine r_icmp_eq (tgt := 90) dX13_againstMake_65 (by decide) (fun h65 => ?_) (fun h65 => ?_)
                · exact absurd h65 (nI_nm1 (by omega))
                · refine r_iload dX13_againstMake_68 5 rfl ?_
                  refine r_iload dX13_againstMake_70 6 rfl ?_
                  refine r_icmp_ne (tgt := 80) dX13_againstMake_72 (by decide) (fun h72 => ?_) (fun h72 => ?_)
                  · refine r_iload dX13_againstMake_80 5 rfl ?_
                    refine r_if_geN (tgt := 92) dX13_againstMake_82 (by decide) (by omega) ?_
                    refine r_aload_n dX13_againstMake_92 rfl 0 rfl ?_
                    refine m_ref (k := 0) (j := 1) hs hs.2.1.1 dX13_againstMake_93 fr_X13_7 rfl ?_
                    refine r_iconst (v := nI 0) dX13_againstMake_96 (by decide) ?_
                    refine g_iald (i := 0) hs dX13_againstMake_97 (by omega) ?_
                    refine r_bipush (v := nI 24) dX13_againstMake_98 (by decide) ?_
                    refine r_icmp_eqN (tgt := 133) dX13_againstMake_100 (by decide) (by omega) (by omega) (fun h100 => ?_) (fun h100 => ?_)
                    · refine r_iconst (v := nI 3) dX13_againstMake_133 (by decide) ?_
                      refine r_goto (tgt := 138) dX13_againstMake_134 (by decide) ?_
                      exact r_iret (ty := .int) dX13_againstMake_138 rfl rfl ⟨rfl, rfl⟩
                    · refine r_aload_n dX13_againstMake_103 rfl 0 rfl ?_
                      refine r_iload dX13_againstMake_104 4 rfl ?_
                      refine r_iload_n dX13_againstMake_106 rfl 3 rfl ?_
                      refine r_fnV (M2 := m_X13_hasFew) (As := [.int (nI (t0)), .int (nI (n))]) (rest := []) (v := some (.int (bI (fewP g t0 n)))) dX13_againstMake_107 cc_X13_againstMake_181 rfl rfl rfl (Nat.le_of_ble_eq_true rfl) hs.1 rfl rfl (by decide) (p_few hs h24 hb q0 z0 s0 hn) rfl ?_
                      refine r_if_neB (tgt := 133) dX13_againstMake_110 (by decide) (fun h110 => ?_) (fun h110 => ?_)
                      · refine r_iconst (v := nI 3) dX13_againstMake_133 (by decide) ?_
                        refine r_goto (tgt := 138) dX13_againstMake_134 (by decide) ?_
                        exact r_iret (ty := .int) dX13_againstMake_138 rfl rfl ⟨rfl, rfl⟩
                      · refine r_aload_n dX13_againstMake_113 rfl 0 rfl ?_
                        refine r_iload dX13_againstMake_114 5 rfl ?_
                        refine r_iload_n dX13_againstMake_116 rfl 3 rfl ?_
                        refine r_fnV (M2 := m_X13_hasFew) (As := [.int (nI (t1)), .int (nI (n))]) (rest := []) (v := some (.int (bI (fewP g t1 n)))) dX13_againstMake_117 cc_X13_againstMake_181 rfl rfl rfl (Nat.le_of_ble_eq_true rfl) hs.1 rfl rfl (by decide) (p_few hs h24 hb q1 z1 s1 hn) rfl ?_
                        refine r_if_neB (tgt := 133) dX13_againstMake_120 (by decide) (fun h120 => ?_) (fun h120 => ?_)
                        · refine r_iconst (v := nI 3) dX13_againstMake_133 (by decide) ?_
                          refine r_goto (tgt := 138) dX13_againstMake_134 (by decide) ?_
                          exact r_iret (ty := .int) dX13_againstMake_138 rfl rfl ⟨rfl, rfl⟩
                        · refine r_aload_n dX13_againstMake_123 rfl 0 rfl ?_
                          refine r_iload dX13_againstMake_124 6 rfl ?_
                          refine r_iload_n dX13_againstMake_126 rfl 3 rfl ?_
                          refine r_fnV (M2 := m_X13_hasFew) (As := [.int ((-1)), .int (nI (n))]) (rest := []) (v := some (.int (nI (0)))) dX13_againstMake_127 cc_X13_againstMake_181 rfl rfl rfl (Nat.le_of_ble_eq_true rfl) hs.1 rfl rfl (by decide) (p_few_no hs) rfl ?_
                          refine r_if_eqN (tgt := 137) dX13_againstMake_130 (by decide) (by omega) (fun zz130 => ?_) (fun zz130 => ?_)
                          · exact absurd h3 (fun q => by rcases q with q | q | q <;> first | exact h100 q | exact h110 q | exact h120 q | omega)
                          · exact absurd zz130 (by decide)
                  · exact absurd h72 (nI_nm1 (by omega))
          · exact absurd zz38 (by decide)
set_option maxRecDepth 4000 in
theorem p_aMk_0_3 {G : GI} {T : Hp} {m : Nat} {V : RVal} {g : Nat → Nat} {od : Nat → UInt64} (hs : RS T m)  (h24 : g 0 ≤ 24) (hb : WB g) {a : Nat} (ha : a < 6) {p : Nat} (hp : p < 4) {n : Nat} (hn0 : 0 < n) (hn : n ≤ 200) {t0 : Nat} (q0 : t0 < g 0) {t1 : Nat} (q1 : t1 < g 0) {t2 : Nat} (q2 : t2 < g 0) (n01 : t0 ≠ t1) (n02 : t0 ≠ t2) (n12 : t1 ≠ t2) (z0 : g (90 + 13 * t0 + 1) ≤ 200) (s0 : g (90 + 13 * t0 + 2) < 4) (z1 : g (90 + 13 * t1 + 1) ≤ 200) (s1 : g (90 + 13 * t1 + 2) < 4) (z2 : g (90 + 13 * t2 + 1) ≤ 200) (s2 : g (90 + 13 * t2 + 2) < 4) (h0 : g 0 < 24) (f0 : ¬ fewP g t0 n) (f1 : ¬ fewP g t1 n) (f2 : ¬ fewP g t2 n) : Fn m_X13_againstMake G [.ref (m), .int (nI (a)), .int (nI (p)), .int (nI (n)), .int (nI (t0)), .int (nI (t1)), .int (nI (t2))] (rput T m (sg V g) od) (some (.int (nI (0)))) (rput T m (sg V (g)) od) := by
  refine Cn.of rfl (by decide) (Nat.le_of_ble_eq_true rfl) (fun hN hM => ?_)
  show Wx _ G _ 0 [(0, .ref (m)), (1, .int (nI (a))), (2, .int (nI (p))), (3, .int (nI (n))), (4, .int (nI (t0))), (5, .int (nI (t1))), (6, .int (nI (t2)))] [] _
  refine r_iload_n dX13_againstMake_0 rfl 1 rfl ?_
  refine r_fnS (M2 := m_X13_isMachine) (As := [.int (nI (a))]) (rest := []) (v := some (.int (nI (1)))) dX13_againstMake_1 cc_X13_againstMake_104 rfl rfl rfl (Nat.le_of_ble_eq_true rfl) (Fn.eq f_isMachine (congrArg (fun x => some (Value.int x)) (bI_t (vp_in_nI (by omega) (by first | decide | omega)))) rfl) rfl ?_
  refine r_if_eqN (tgt := 41) dX13_againstMake_4 (by decide) (by omega) (fun zz4 => ?_) (fun zz4 => ?_)
  · exact absurd zz4 (by decide)
  · refine r_iload_n dX13_againstMake_7 rfl 2 rfl ?_
    refine r_fnS (M2 := m_X13_isProduct) (As := [.int (nI (p))]) (rest := []) (v := some (.int (nI (1)))) dX13_againstMake_8 cc_X13_againstMake_118 rfl rfl rfl (Nat.le_of_ble_eq_true rfl) (Fn.eq f_isProduct (congrArg (fun x => some (Value.int x)) (bI_t (vp_in_nI (by omega) (by first | decide | omega)))) rfl) rfl ?_
    refine r_if_eqN (tgt := 41) dX13_againstMake_11 (by decide) (by omega) (fun zz11 => ?_) (fun zz11 => ?_)
    · exact absurd zz11 (by decide)
    · refine r_aload_n dX13_againstMake_14 rfl 0 rfl ?_
      refine r_iload dX13_againstMake_15 4 rfl ?_
      refine r_fnV (M2 := m_X13_isLot) (As := [.int (nI (t0))]) (rest := []) (v := some (.int (nI (1)))) dX13_againstMake_17 cc_X13_againstMake_76 rfl rfl rfl (Nat.le_of_ble_eq_true rfl) hs.1 rfl rfl (by decide) (Fn.eq (g_isLot hs h24) (congrArg (fun x => some (Value.int x)) (bI_t (vp_in_nI (by omega) (by first | decide | omega)))) rfl) rfl ?_
      refine r_if_eqN (tgt := 41) dX13_againstMake_20 (by decide) (by omega) (fun zz20 => ?_) (fun zz20 => ?_)
      · exact absurd zz20 (by decide)
      · refine r_aload_n dX13_againstMake_23 rfl 0 rfl ?_
        refine r_iload dX13_againstMake_24 5 rfl ?_
        refine r_fnV (M2 := m_X13_maybePart) (As := [.int (nI (t1))]) (rest := []) (v := some (.int (nI (1)))) dX13_againstMake_26 cc_X13_againstMake_178 rfl rfl rfl (Nat.le_of_ble_eq_true rfl) hs.1 rfl rfl (by decide) (Fn.eq (p_maybe hs h24) (congrArg (fun x => some (Value.int x)) (bI_t (Or.inr (vp_in_nI (by omega) (by omega))))) rfl) rfl ?_
        refine r_if_eqN (tgt := 41) dX13_againstMake_29 (by decide) (by omega) (fun zz29 => ?_) (fun zz29 => ?_)
        · exact absurd zz29 (by decide)
        · refine r_aload_n dX13_againstMake_32 rfl 0 rfl ?_
          refine r_iload dX13_againstMake_33 6 rfl ?_
          refine r_fnV (M2 := m_X13_maybePart) (As := [.int (nI (t2))]) (rest := []) (v := some (.int (nI (1)))) dX13_againstMake_35 cc_X13_againstMake_178 rfl rfl rfl (Nat.le_of_ble_eq_true rfl) hs.1 rfl rfl (by decide) (Fn.eq (p_maybe hs h24) (congrArg (fun x => some (Value.int x)) (bI_t (Or.inr (vp_in_nI (by omega) (by omega))))) rfl) rfl ?_
          refine r_if_neN (tgt := 43) dX13_againstMake_38 (by decide) (by omega) (fun zz38 => ?_) (fun zz38 => ?_)
          · refine r_iload_n dX13_againstMake_43 rfl 3 rfl ?_
            refine r_iconst (v := nI 1) dX13_againstMake_44 (by decide) ?_
            refine r_sipush (v := nI 200) dX13_againstMake_45 (by decide) ?_
            refine r_fnS (M2 := m_X13_in) (As := [.int (nI (n)), .int (nI (1)), .int (nI (200))]) (rest := []) (v := some (.int (nI (1)))) dX13_againstMake_48 cc_X13_againstMake_68 rfl rfl rfl (Nat.le_of_ble_eq_true rfl) (Fn.eq f_in (congrArg (fun x => some (Value.int x)) (bI_t ⟨(nI_le (by omega) (by omega)), nI_le (by omega) (by omega)⟩)) rfl) rfl ?_
            refine r_if_eqN (tgt := 90) dX13_againstMake_51 (by decide) (by omega) (fun zz51 => ?_) (fun zz51 => ?_)
            · exact absurd zz51 (by decide)
            · refine r_iload dX13_againstMake_54 4 rfl ?_
              refine r_iload dX13_againstMake_56 5 rfl ?_
              refine r_icmp_eqN (tgt := 90) dX13_againstMake_58 (by decide) (by omega) (by omega) (fun h58 => ?_) (fun h58 => ?_)
              · exact absurd h58 n01
              · refine r_iload dX13_againstMake_61 4 rfl ?_
                refine r_iload dX13_againstMake_63 6 rfl ?_
                refine r_icmp_eqN (tgt := 90) dX13_againstMake_65 (by decide) (by omega) (by omega) (fun h65 => ?_) (fun h65 => ?_)
                · exact absurd h65 n02
                · refine r_iload dX13_againstMake_68 5 rfl ?_
                  refine r_iload dX13_againstMake_70 6 rfl ?_
                  refine r_icmp_neN (tgt := 80) dX13_againstMake_72 (by decide) (by omega) (by omega) (fun h72 => ?_) (fun h72 => ?_)
                  · refine r_iload dX13_againstMake_80 5 rfl ?_
                    refine r_if_geN (tgt := 92) dX13_againstMake_82 (by decide) (by omega) ?_
                    refine r_aload_n dX13_againstMake_92 rfl 0 rfl ?_
                    refine m_ref (k := 0) (j := 1) hs hs.2.1.1 dX13_againstMake_93 fr_X13_7 rfl ?_
                    refine r_iconst (v := nI 0) dX13_againstMake_96 (by decide) ?_
                    refine g_iald (i := 0) hs dX13_againstMake_97 (by omega) ?_
                    refine r_bipush (v := nI 24) dX13_againstMake_98 (by decide) ?_
                    refine r_icmp_eqN (tgt := 133) dX13_againstMake_100 (by decide) (by omega) (by omega) (fun h100 => ?_) (fun h100 => ?_)
                    · exact absurd h100 (by omega)
                    · refine r_aload_n dX13_againstMake_103 rfl 0 rfl ?_
                      refine r_iload dX13_againstMake_104 4 rfl ?_
                      refine r_iload_n dX13_againstMake_106 rfl 3 rfl ?_
                      refine r_fnV (M2 := m_X13_hasFew) (As := [.int (nI (t0)), .int (nI (n))]) (rest := []) (v := some (.int (bI (fewP g t0 n)))) dX13_againstMake_107 cc_X13_againstMake_181 rfl rfl rfl (Nat.le_of_ble_eq_true rfl) hs.1 rfl rfl (by decide) (p_few hs h24 hb q0 z0 s0 hn) rfl ?_
                      refine r_if_neB (tgt := 133) dX13_againstMake_110 (by decide) (fun h110 => ?_) (fun h110 => ?_)
                      · exact absurd h110 f0
                      · refine r_aload_n dX13_againstMake_113 rfl 0 rfl ?_
                        refine r_iload dX13_againstMake_114 5 rfl ?_
                        refine r_iload_n dX13_againstMake_116 rfl 3 rfl ?_
                        refine r_fnV (M2 := m_X13_hasFew) (As := [.int (nI (t1)), .int (nI (n))]) (rest := []) (v := some (.int (bI (fewP g t1 n)))) dX13_againstMake_117 cc_X13_againstMake_181 rfl rfl rfl (Nat.le_of_ble_eq_true rfl) hs.1 rfl rfl (by decide) (p_few hs h24 hb q1 z1 s1 hn) rfl ?_
                        refine r_if_neB (tgt := 133) dX13_againstMake_120 (by decide) (fun h120 => ?_) (fun h120 => ?_)
                        · exact absurd h120 f1
                        · refine r_aload_n dX13_againstMake_123 rfl 0 rfl ?_
                          refine r_iload dX13_againstMake_124 6 rfl ?_
                          refine r_iload_n dX13_againstMake_126 rfl 3 rfl ?_
                          refine r_fnV (M2 := m_X13_hasFew) (As := [.int (nI (t2)), .int (nI (n))]) (rest := []) (v := some (.int (bI (fewP g t2 n)))) dX13_againstMake_127 cc_X13_againstMake_181 rfl rfl rfl (Nat.le_of_ble_eq_true rfl) hs.1 rfl rfl (by decide) (p_few hs h24 hb q2 z2 s2 hn) rfl ?_
                          refine r_if_eqB (tgt := 137) dX13_againstMake_130 (by decide) (fun h130 => ?_) (fun h130 => ?_)
                          · refine r_iconst (v := nI 0) dX13_againstMake_137 (by decide) ?_
                            exact r_iret (ty := .int) dX13_againstMake_138 rfl rfl ⟨rfl, rfl⟩
                          · exact absurd h130 f2
                  · exact absurd h72 n12
          · exact absurd zz38 (by decide)
set_option maxRecDepth 4000 in
theorem p_aMk_3_3 {G : GI} {T : Hp} {m : Nat} {V : RVal} {g : Nat → Nat} {od : Nat → UInt64} (hs : RS T m)  (h24 : g 0 ≤ 24) (hb : WB g) {a : Nat} (ha : a < 6) {p : Nat} (hp : p < 4) {n : Nat} (hn0 : 0 < n) (hn : n ≤ 200) {t0 : Nat} (q0 : t0 < g 0) {t1 : Nat} (q1 : t1 < g 0) {t2 : Nat} (q2 : t2 < g 0) (n01 : t0 ≠ t1) (n02 : t0 ≠ t2) (n12 : t1 ≠ t2) (z0 : g (90 + 13 * t0 + 1) ≤ 200) (s0 : g (90 + 13 * t0 + 2) < 4) (z1 : g (90 + 13 * t1 + 1) ≤ 200) (s1 : g (90 + 13 * t1 + 2) < 4) (z2 : g (90 + 13 * t2 + 1) ≤ 200) (s2 : g (90 + 13 * t2 + 2) < 4) (h3 : g 0 = 24 ∨ fewP g t0 n ∨ fewP g t1 n ∨ fewP g t2 n) : Fn m_X13_againstMake G [.ref (m), .int (nI (a)), .int (nI (p)), .int (nI (n)), .int (nI (t0)), .int (nI (t1)), .int (nI (t2))] (rput T m (sg V g) od) (some (.int (nI (3)))) (rput T m (sg V (g)) od) := by
  refine Cn.of rfl (by decide) (Nat.le_of_ble_eq_true rfl) (fun hN hM => ?_)
  show Wx _ G _ 0 [(0, .ref (m)), (1, .int (nI (a))), (2, .int (nI (p))), (3, .int (nI (n))), (4, .int (nI (t0))), (5, .int (nI (t1))), (6, .int (nI (t2)))] [] _
  refine r_iload_n dX13_againstMake_0 rfl 1 rfl ?_
  refine r_fnS (M2 := m_X13_isMachine) (As := [.int (nI (a))]) (rest := []) (v := some (.int (nI (1)))) dX13_againstMake_1 cc_X13_againstMake_104 rfl rfl rfl (Nat.le_of_ble_eq_true rfl) (Fn.eq f_isMachine (congrArg (fun x => some (Value.int x)) (bI_t (vp_in_nI (by omega) (by first | decide | omega)))) rfl) rfl ?_
  refine r_if_eqN (tgt := 41) dX13_againstMake_4 (by decide) (by omega) (fun zz4 => ?_) (fun zz4 => ?_)
  · exact absurd zz4 (by decide)
  · refine r_iload_n dX13_againstMake_7 rfl 2 rfl ?_
    refine r_fnS (M2 := m_X13_isProduct) (As := [.int (nI (p))]) (rest := []) (v := some (.int (nI (1)))) dX13_againstMake_8 cc_X13_againstMake_118 rfl rfl rfl (Nat.le_of_ble_eq_true rfl) (Fn.eq f_isProduct (congrArg (fun x => some (Value.int x)) (bI_t (vp_in_nI (by omega) (by first | decide | omega)))) rfl) rfl ?_
    refine r_if_eqN (tgt := 41) dX13_againstMake_11 (by decide) (by omega) (fun zz11 => ?_) (fun zz11 => ?_)
    · exact absurd zz11 (by decide)
    · refine r_aload_n dX13_againstMake_14 rfl 0 rfl ?_
      refine r_iload dX13_againstMake_15 4 rfl ?_
      refine r_fnV (M2 := m_X13_isLot) (As := [.int (nI (t0))]) (rest := []) (v := some (.int (nI (1)))) dX13_againstMake_17 cc_X13_againstMake_76 rfl rfl rfl (Nat.le_of_ble_eq_true rfl) hs.1 rfl rfl (by decide) (Fn.eq (g_isLot hs h24) (congrArg (fun x => some (Value.int x)) (bI_t (vp_in_nI (by omega) (by first | decide | omega)))) rfl) rfl ?_
      refine r_if_eqN (tgt := 41) dX13_againstMake_20 (by decide) (by omega) (fun zz20 => ?_) (fun zz20 => ?_)
      · exact absurd zz20 (by decide)
      · refine r_aload_n dX13_againstMake_23 rfl 0 rfl ?_
        refine r_iload dX13_againstMake_24 5 rfl ?_
        refine r_fnV (M2 := m_X13_maybePart) (As := [.int (nI (t1))]) (rest := []) (v := some (.int (nI (1)))) dX13_againstMake_26 cc_X13_againstMake_178 rfl rfl rfl (Nat.le_of_ble_eq_true rfl) hs.1 rfl rfl (by decide) (Fn.eq (p_maybe hs h24) (congrArg (fun x => some (Value.int x)) (bI_t (Or.inr (vp_in_nI (by omega) (by omega))))) rfl) rfl ?_
        refine r_if_eqN (tgt := 41) dX13_againstMake_29 (by decide) (by omega) (fun zz29 => ?_) (fun zz29 => ?_)
        · exact absurd zz29 (by decide)
        · refine r_aload_n dX13_againstMake_32 rfl 0 rfl ?_
          refine r_iload dX13_againstMake_33 6 rfl ?_
          refine r_fnV (M2 := m_X13_maybePart) (As := [.int (nI (t2))]) (rest := []) (v := some (.int (nI (1)))) dX13_againstMake_35 cc_X13_againstMake_178 rfl rfl rfl (Nat.le_of_ble_eq_true rfl) hs.1 rfl rfl (by decide) (Fn.eq (p_maybe hs h24) (congrArg (fun x => some (Value.int x)) (bI_t (Or.inr (vp_in_nI (by omega) (by omega))))) rfl) rfl ?_
          refine r_if_neN (tgt := 43) dX13_againstMake_38 (by decide) (by omega) (fun zz38 => ?_) (fun zz38 => ?_)
          · refine r_iload_n dX13_againstMake_43 rfl 3 rfl ?_
            refine r_iconst (v := nI 1) dX13_againstMake_44 (by decide) ?_
            refine r_sipush (v := nI 200) dX13_againstMake_45 (by decide) ?_
            refine r_fnS (M2 := m_X13_in) (As := [.int (nI (n)), .int (nI (1)), .int (nI (200))]) (rest := []) (v := some (.int (nI (1)))) dX13_againstMake_48 cc_X13_againstMake_68 rfl rfl rfl (Nat.le_of_ble_eq_true rfl) (Fn.eq f_in (congrArg (fun x => some (Value.int x)) (bI_t ⟨(nI_le (by omega) (by omega)), nI_le (by omega) (by omega)⟩)) rfl) rfl ?_
            refine r_if_eqN (tgt := 90) dX13_againstMake_51 (by decide) (by omega) (fun zz51 => ?_) (fun zz51 => ?_)
            · exact absurd zz51 (by decide)
            · refine r_iload dX13_againstMake_54 4 rfl ?_
              refine r_iload dX13_againstMake_56 5 rfl ?_
              refine r_icmp_eqN (tgt := 90) dX13_againstMake_58 (by decide) (by omega) (by omega) (fun h58 => ?_) (fun h58 => ?_)
              · exact absurd h58 n01
              · refine r_iload dX13_againstMake_61 4 rfl ?_
                refine r_iload dX13_againstMake_63 6 rfl ?_
                refine r_icmp_eqN (tgt := 90) dX13_againstMake_65 (by decide) (by omega) (by omega) (fun h65 => ?_) (fun h65 => ?_)
                · exact absurd h65 n02
                · refine r_iload dX13_againstMake_68 5 rfl ?_
                  refine r_iload dX13_againstMake_70 6 rfl ?_
                  refine r_icmp_neN (tgt := 80) dX13_againstMake_72 (by decide) (by omega) (by omega) (fun h72 => ?_) (fun h72 => ?_)
                  · refine r_iload dX13_againstMake_80 5 rfl ?_
                    refine r_if_geN (tgt := 92) dX13_againstMake_82 (by decide) (by omega) ?_
                    refine r_aload_n dX13_againstMake_92 rfl 0 rfl ?_
                    refine m_ref (k := 0) (j := 1) hs hs.2.1.1 dX13_againstMake_93 fr_X13_7 rfl ?_
                    refine r_iconst (v := nI 0) dX13_againstMake_96 (by decide) ?_
                    refine g_iald (i := 0) hs dX13_againstMake_97 (by omega) ?_
                    refine r_bipush (v := nI 24) dX13_againstMake_98 (by decide) ?_
                    refine r_icmp_eqN (tgt := 133) dX13_againstMake_100 (by decide) (by omega) (by omega) (fun h100 => ?_) (fun h100 => ?_)
                    · refine r_iconst (v := nI 3) dX13_againstMake_133 (by decide) ?_
                      refine r_goto (tgt := 138) dX13_againstMake_134 (by decide) ?_
                      exact r_iret (ty := .int) dX13_againstMake_138 rfl rfl ⟨rfl, rfl⟩
                    · refine r_aload_n dX13_againstMake_103 rfl 0 rfl ?_
                      refine r_iload dX13_againstMake_104 4 rfl ?_
                      refine r_iload_n dX13_againstMake_106 rfl 3 rfl ?_
                      refine r_fnV (M2 := m_X13_hasFew) (As := [.int (nI (t0)), .int (nI (n))]) (rest := []) (v := some (.int (bI (fewP g t0 n)))) dX13_againstMake_107 cc_X13_againstMake_181 rfl rfl rfl (Nat.le_of_ble_eq_true rfl) hs.1 rfl rfl (by decide) (p_few hs h24 hb q0 z0 s0 hn) rfl ?_
                      refine r_if_neB (tgt := 133) dX13_againstMake_110 (by decide) (fun h110 => ?_) (fun h110 => ?_)
                      · refine r_iconst (v := nI 3) dX13_againstMake_133 (by decide) ?_
                        refine r_goto (tgt := 138) dX13_againstMake_134 (by decide) ?_
                        exact r_iret (ty := .int) dX13_againstMake_138 rfl rfl ⟨rfl, rfl⟩
                      · refine r_aload_n dX13_againstMake_113 rfl 0 rfl ?_
                        refine r_iload dX13_againstMake_114 5 rfl ?_
                        refine r_iload_n dX13_againstMake_116 rfl 3 rfl ?_
                        refine r_fnV (M2 := m_X13_hasFew) (As := [.int (nI (t1)), .int (nI (n))]) (rest := []) (v := some (.int (bI (fewP g t1 n)))) dX13_againstMake_117 cc_X13_againstMake_181 rfl rfl rfl (Nat.le_of_ble_eq_true rfl) hs.1 rfl rfl (by decide) (p_few hs h24 hb q1 z1 s1 hn) rfl ?_
                        refine r_if_neB (tgt := 133) dX13_againstMake_120 (by decide) (fun h120 => ?_) (fun h120 => ?_)
                        · refine r_iconst (v := nI 3) dX13_againstMake_133 (by decide) ?_
                          refine r_goto (tgt := 138) dX13_againstMake_134 (by decide) ?_
                          exact r_iret (ty := .int) dX13_againstMake_138 rfl rfl ⟨rfl, rfl⟩
                        · refine r_aload_n dX13_againstMake_123 rfl 0 rfl ?_
                          refine r_iload dX13_againstMake_124 6 rfl ?_
                          refine r_iload_n dX13_againstMake_126 rfl 3 rfl ?_
                          refine r_fnV (M2 := m_X13_hasFew) (As := [.int (nI (t2)), .int (nI (n))]) (rest := []) (v := some (.int (bI (fewP g t2 n)))) dX13_againstMake_127 cc_X13_againstMake_181 rfl rfl rfl (Nat.le_of_ble_eq_true rfl) hs.1 rfl rfl (by decide) (p_few hs h24 hb q2 z2 s2 hn) rfl ?_
                          refine r_if_eqB (tgt := 137) dX13_againstMake_130 (by decide) (fun h130 => ?_) (fun h130 => ?_)
                          · exact absurd h3 (fun q => by rcases q with q | q | q | q <;> first | exact h100 q | exact h110 q | exact h120 q | exact h130 q | omega)
                          · refine r_iconst (v := nI 3) dX13_againstMake_133 (by decide) ?_
                            refine r_goto (tgt := 138) dX13_againstMake_134 (by decide) ?_
                            exact r_iret (ty := .int) dX13_againstMake_138 rfl rfl ⟨rfl, rfl⟩
                  · exact absurd h72 n12
          · exact absurd zz38 (by decide)
set_option maxRecDepth 4000 in
theorem c_make_1 {G : GI} {T : Hp} {m : Nat} {V : RVal} {g : Nat → Nat} {od : Nat → UInt64} (hs : RS T m)  (h24 : g 0 ≤ 24) {x0 x1 x2 x3 x4 x5 : Int32} (h : ¬ (vp_in x0 6 ∧ vp_in x1 4 ∧ vp_in x3 (g 0) ∧ (x4 = (-1) ∨ vp_in x4 (g 0)) ∧ (x5 = (-1) ∨ vp_in x5 (g 0)))) : Fn m_X13_make G [.ref (m), .int (x0), .int (x1), .int (x2), .int (x3), .int (x4), .int (x5)] (rput T m (sg V g) od) (some (.int (nI (0)))) (rput T m (sg (up2 V 0 (6) (nI 1)) (g)) od) := by
  refine Cn.of rfl (by decide) (Nat.le_of_ble_eq_true rfl) (fun hN hM => ?_)
  show Wx _ G _ 0 [(0, .ref (m)), (1, .int (x0)), (2, .int (x1)), (3, .int (x2)), (4, .int (x3)), (5, .int (x4)), (6, .int (x5))] [] _
  refine r_aload_n dX13_make_0 rfl 0 rfl ?_
  refine r_aload_n dX13_make_1 rfl 0 rfl ?_
  refine r_iload_n dX13_make_2 rfl 1 rfl ?_
  refine r_iload_n dX13_make_3 rfl 2 rfl ?_
  refine r_iload_n dX13_make_4 rfl 3 rfl ?_
  refine r_iload dX13_make_5 4 rfl ?_
  refine r_iload dX13_make_7 5 rfl ?_
  refine r_iload dX13_make_9 6 rfl ?_
  refine r_fnV (M2 := m_X13_againstMake) (As := [.int (x0), .int (x1), .int (x2), .int (x3), .int (x4), .int (x5)]) (rest := [.ref (m)]) (v := some (.int (nI (1)))) dX13_make_11 cc_X13_make_193 rfl rfl rfl (Nat.le_of_ble_eq_true rfl) hs.1 rfl rfl (by decide) (p_aMk_1 hs h24 h) rfl ?_
  refine o_put (k := 6) hs dX13_make_14 fw_X13_make_54 rfl rfl rfl ?_
  refine r_aload_n dX13_make_17 rfl 0 rfl ?_
  refine o_get (k := 6) hs dX13_make_18 fr_X13_54 rfl ?_
  refine Wx.top up2_s ?_
  refine r_if_leN (tgt := 26) dX13_make_21 (by decide) (by omega) (fun zz21 => ?_) (fun zz21 => ?_)
  · exact absurd zz21 (by decide)
  · refine r_iconst (v := nI 0) dX13_make_24 (by decide) ?_
    exact r_iret (ty := .int) dX13_make_25 rfl rfl ⟨rfl, rfl⟩
set_option maxRecDepth 4000 in
theorem c_make_2 {G : GI} {T : Hp} {m : Nat} {V : RVal} {g : Nat → Nat} {od : Nat → UInt64} (hs : RS T m)  (h24 : g 0 ≤ 24) {x0 x1 x2 x3 x4 x5 : Int32} (h1 : (vp_in x0 6 ∧ vp_in x1 4 ∧ vp_in x3 (g 0) ∧ (x4 = (-1) ∨ vp_in x4 (g 0)) ∧ (x5 = (-1) ∨ vp_in x5 (g 0)))) (h2 : ¬ ((nI 1 ≤ x2 ∧ x2 ≤ nI 200) ∧ (¬ x3 = x4) ∧ (¬ x3 = x5) ∧ (¬ (x4 = x5 ∧ 0 ≤ x4)) ∧ ¬ (x4 < 0 ∧ 0 ≤ x5))) : Fn m_X13_make G [.ref (m), .int (x0), .int (x1), .int (x2), .int (x3), .int (x4), .int (x5)] (rput T m (sg V g) od) (some (.int (nI (0)))) (rput T m (sg (up2 V 0 (6) (nI 2)) (g)) od) := by
  refine Cn.of rfl (by decide) (Nat.le_of_ble_eq_true rfl) (fun hN hM => ?_)
  show Wx _ G _ 0 [(0, .ref (m)), (1, .int (x0)), (2, .int (x1)), (3, .int (x2)), (4, .int (x3)), (5, .int (x4)), (6, .int (x5))] [] _
  refine r_aload_n dX13_make_0 rfl 0 rfl ?_
  refine r_aload_n dX13_make_1 rfl 0 rfl ?_
  refine r_iload_n dX13_make_2 rfl 1 rfl ?_
  refine r_iload_n dX13_make_3 rfl 2 rfl ?_
  refine r_iload_n dX13_make_4 rfl 3 rfl ?_
  refine r_iload dX13_make_5 4 rfl ?_
  refine r_iload dX13_make_7 5 rfl ?_
  refine r_iload dX13_make_9 6 rfl ?_
  refine r_fnV (M2 := m_X13_againstMake) (As := [.int (x0), .int (x1), .int (x2), .int (x3), .int (x4), .int (x5)]) (rest := [.ref (m)]) (v := some (.int (nI (2)))) dX13_make_11 cc_X13_make_193 rfl rfl rfl (Nat.le_of_ble_eq_true rfl) hs.1 rfl rfl (by decide) (p_aMk_2 hs h24 h1 h2) rfl ?_
  refine o_put (k := 6) hs dX13_make_14 fw_X13_make_54 rfl rfl rfl ?_
  refine r_aload_n dX13_make_17 rfl 0 rfl ?_
  refine o_get (k := 6) hs dX13_make_18 fr_X13_54 rfl ?_
  refine Wx.top up2_s ?_
  refine r_if_leN (tgt := 26) dX13_make_21 (by decide) (by omega) (fun zz21 => ?_) (fun zz21 => ?_)
  · exact absurd zz21 (by decide)
  · refine r_iconst (v := nI 0) dX13_make_24 (by decide) ?_
    exact r_iret (ty := .int) dX13_make_25 rfl rfl ⟨rfl, rfl⟩
set_option maxRecDepth 4000 in
theorem c_make_3_1 {G : GI} {T : Hp} {m : Nat} {V : RVal} {g : Nat → Nat} {od : Nat → UInt64} (hs : RS T m)  (h24 : g 0 ≤ 24) (hb : WB g) {a : Nat} (ha : a < 6) {p : Nat} (hp : p < 4) {n : Nat} (hn0 : 0 < n) (hn : n ≤ 200) {t0 : Nat} (q0 : t0 < g 0) (z0 : g (90 + 13 * t0 + 1) ≤ 200) (s0 : g (90 + 13 * t0 + 2) < 4) (h3 : g 0 = 24 ∨ fewP g t0 n) : Fn m_X13_make G [.ref (m), .int (nI (a)), .int (nI (p)), .int (nI (n)), .int (nI (t0)), .int ((-1)), .int ((-1))] (rput T m (sg V g) od) (some (.int (nI (0)))) (rput T m (sg (up2 V 0 (6) (nI 3)) (g)) od) := by
  refine Cn.of rfl (by decide) (Nat.le_of_ble_eq_true rfl) (fun hN hM => ?_)
  show Wx _ G _ 0 [(0, .ref (m)), (1, .int (nI (a))), (2, .int (nI (p))), (3, .int (nI (n))), (4, .int (nI (t0))), (5, .int ((-1))), (6, .int ((-1)))] [] _
  refine r_aload_n dX13_make_0 rfl 0 rfl ?_
  refine r_aload_n dX13_make_1 rfl 0 rfl ?_
  refine r_iload_n dX13_make_2 rfl 1 rfl ?_
  refine r_iload_n dX13_make_3 rfl 2 rfl ?_
  refine r_iload_n dX13_make_4 rfl 3 rfl ?_
  refine r_iload dX13_make_5 4 rfl ?_
  refine r_iload dX13_make_7 5 rfl ?_
  refine r_iload dX13_make_9 6 rfl ?_
  refine r_fnV (M2 := m_X13_againstMake) (As := [.int (nI (a)), .int (nI (p)), .int (nI (n)), .int (nI (t0)), .int ((-1)), .int ((-1))]) (rest := [.ref (m)]) (v := some (.int (nI (3)))) dX13_make_11 cc_X13_make_193 rfl rfl rfl (Nat.le_of_ble_eq_true rfl) hs.1 rfl rfl (by decide) (p_aMk_3_1 hs h24 hb ha hp hn0 hn q0 z0 s0 h3) rfl ?_
  refine o_put (k := 6) hs dX13_make_14 fw_X13_make_54 rfl rfl rfl ?_
  refine r_aload_n dX13_make_17 rfl 0 rfl ?_
  refine o_get (k := 6) hs dX13_make_18 fr_X13_54 rfl ?_
  refine Wx.top up2_s ?_
  refine r_if_leN (tgt := 26) dX13_make_21 (by decide) (by omega) (fun zz21 => ?_) (fun zz21 => ?_)
  · exact absurd zz21 (by decide)
  · refine r_iconst (v := nI 0) dX13_make_24 (by decide) ?_
    exact r_iret (ty := .int) dX13_make_25 rfl rfl ⟨rfl, rfl⟩
set_option maxRecDepth 4000 in
theorem c_make_0_1 {G : GI} {T : Hp} {m : Nat} {V : RVal} {g : Nat → Nat} {od : Nat → UInt64} (hs : RS T m)  (h24 : g 0 ≤ 24) (hb : WB g) {a : Nat} (ha : a < 6) {p : Nat} (hp : p < 4) {n : Nat} (hn0 : 0 < n) (hn : n ≤ 200) {t0 : Nat} (q0 : t0 < g 0) (z0 : g (90 + 13 * t0 + 1) ≤ 200) (s0 : g (90 + 13 * t0 + 2) < 4) (h0 : g 0 < 24) (f0 : ¬ fewP g t0 n) (h1 : g (4 + 3 * a) ≤ 50) (h2 : g (4 + 3 * a + 1) < 4) (h3 : g (4 + 3 * a + 2) < 2147470000) {e0 : Nat → Nat} (he0 : HereE g t0 n e0) {V2 : RVal} (hch : Fn m_X13_changes G [.ref (m), .ref (m + 1)] (rput T m (sg (up2 V 0 (6) (nI 0)) g) od) none (rput T m (sg V2 g) od)) : Fn m_X13_make G [.ref (m), .int (nI (a)), .int (nI (p)), .int (nI (n)), .int (nI (t0)), .int ((-1)), .int ((-1))] (rput T m (sg V g) od) (some (.int (nI (g 0)))) (rput T m (sg V2 ((wrkI (takI (begG g a p n 1) (g 0) 0 t0 e0 n) a (g 0) n))) od) := by
  refine Cn.of rfl (by decide) (Nat.le_of_ble_eq_true rfl) (fun hN hM => ?_)
  show Wx _ G _ 0 [(0, .ref (m)), (1, .int (nI (a))), (2, .int (nI (p))), (3, .int (nI (n))), (4, .int (nI (t0))), (5, .int ((-1))), (6, .int ((-1)))] [] _
  refine r_aload_n dX13_make_0 rfl 0 rfl ?_
  refine r_aload_n dX13_make_1 rfl 0 rfl ?_
  refine r_iload_n dX13_make_2 rfl 1 rfl ?_
  refine r_iload_n dX13_make_3 rfl 2 rfl ?_
  refine r_iload_n dX13_make_4 rfl 3 rfl ?_
  refine r_iload dX13_make_5 4 rfl ?_
  refine r_iload dX13_make_7 5 rfl ?_
  refine r_iload dX13_make_9 6 rfl ?_
  refine r_fnV (M2 := m_X13_againstMake) (As := [.int (nI (a)), .int (nI (p)), .int (nI (n)), .int (nI (t0)), .int ((-1)), .int ((-1))]) (rest := [.ref (m)]) (v := some (.int (nI (0)))) dX13_make_11 cc_X13_make_193 rfl rfl rfl (Nat.le_of_ble_eq_true rfl) hs.1 rfl rfl (by decide) (p_aMk_0_1 hs h24 hb ha hp hn0 hn q0 z0 s0 h0 f0) rfl ?_
  refine o_put (k := 6) hs dX13_make_14 fw_X13_make_54 rfl rfl rfl ?_
  refine r_aload_n dX13_make_17 rfl 0 rfl ?_
  refine o_get (k := 6) hs dX13_make_18 fr_X13_54 rfl ?_
  refine Wx.top up2_s ?_
  refine r_if_leN (tgt := 26) dX13_make_21 (by decide) (by omega) (fun zz21 => ?_) (fun zz21 => ?_)
  · refine r_aload_n dX13_make_26 rfl 0 rfl ?_
    refine r_aload_n dX13_make_27 rfl 0 rfl ?_
    refine m_ref (k := 0) (j := 1) hs hs.2.1.1 dX13_make_28 fr_X13_7 rfl ?_
    refine r_fnV (M2 := m_X13_changes) (As := [.ref (m + 1)]) (rest := []) (v := none) dX13_make_31 cc_X13_make_111 rfl rfl rfl (Nat.le_of_ble_eq_true rfl) hs.1 rfl rfl (by decide) hch rfl ?_
    refine r_aload_n dX13_make_34 rfl 0 rfl ?_
    refine r_iload_n dX13_make_35 rfl 1 rfl ?_
    refine r_iload_n dX13_make_36 rfl 2 rfl ?_
    refine r_iload_n dX13_make_37 rfl 3 rfl ?_
    refine r_iload dX13_make_38 4 rfl ?_
    refine r_iload dX13_make_40 5 rfl ?_
    refine r_iload dX13_make_42 6 rfl ?_
    refine r_fnV (M2 := m_X13_makeNow) (As := [.int (nI (a)), .int (nI (p)), .int (nI (n)), .int (nI (t0)), .int ((-1)), .int ((-1))]) (rest := []) (v := some (.int (nI (g 0)))) dX13_make_44 cc_X13_make_197 rfl rfl rfl (Nat.le_of_ble_eq_true rfl) hs.1 rfl rfl (by decide) (g_makeNow1 hs hb h0 hn ha h1 h2 h3 q0 he0) rfl ?_
    exact r_iret (ty := .int) dX13_make_47 rfl rfl ⟨rfl, rfl⟩
  · exact absurd zz21 (by decide)
set_option maxRecDepth 4000 in
theorem c_make_3_2 {G : GI} {T : Hp} {m : Nat} {V : RVal} {g : Nat → Nat} {od : Nat → UInt64} (hs : RS T m)  (h24 : g 0 ≤ 24) (hb : WB g) {a : Nat} (ha : a < 6) {p : Nat} (hp : p < 4) {n : Nat} (hn0 : 0 < n) (hn : n ≤ 200) {t0 : Nat} (q0 : t0 < g 0) {t1 : Nat} (q1 : t1 < g 0) (n01 : t0 ≠ t1) (z0 : g (90 + 13 * t0 + 1) ≤ 200) (s0 : g (90 + 13 * t0 + 2) < 4) (z1 : g (90 + 13 * t1 + 1) ≤ 200) (s1 : g (90 + 13 * t1 + 2) < 4) (h3 : g 0 = 24 ∨ fewP g t0 n ∨ fewP g t1 n) : Fn m_X13_make G [.ref (m), .int (nI (a)), .int (nI (p)), .int (nI (n)), .int (nI (t0)), .int (nI (t1)), .int ((-1))] (rput T m (sg V g) od) (some (.int (nI (0)))) (rput T m (sg (up2 V 0 (6) (nI 3)) (g)) od) := by
  refine Cn.of rfl (by decide) (Nat.le_of_ble_eq_true rfl) (fun hN hM => ?_)
  show Wx _ G _ 0 [(0, .ref (m)), (1, .int (nI (a))), (2, .int (nI (p))), (3, .int (nI (n))), (4, .int (nI (t0))), (5, .int (nI (t1))), (6, .int ((-1)))] [] _
  refine r_aload_n dX13_make_0 rfl 0 rfl ?_
  refine r_aload_n dX13_make_1 rfl 0 rfl ?_
  refine r_iload_n dX13_make_2 rfl 1 rfl ?_
  refine r_iload_n dX13_make_3 rfl 2 rfl ?_
  refine r_iload_n dX13_make_4 rfl 3 rfl ?_
  refine r_iload dX13_make_5 4 rfl ?_
  refine r_iload dX13_make_7 5 rfl ?_
  refine r_iload dX13_make_9 6 rfl ?_
  refine r_fnV (M2 := m_X13_againstMake) (As := [.int (nI (a)), .int (nI (p)), .int (nI (n)), .int (nI (t0)), .int (nI (t1)), .int ((-1))]) (rest := [.ref (m)]) (v := some (.int (nI (3)))) dX13_make_11 cc_X13_make_193 rfl rfl rfl (Nat.le_of_ble_eq_true rfl) hs.1 rfl rfl (by decide) (p_aMk_3_2 hs h24 hb ha hp hn0 hn q0 q1 n01 z0 s0 z1 s1 h3) rfl ?_
  refine o_put (k := 6) hs dX13_make_14 fw_X13_make_54 rfl rfl rfl ?_
  refine r_aload_n dX13_make_17 rfl 0 rfl ?_
  refine o_get (k := 6) hs dX13_make_18 fr_X13_54 rfl ?_
  refine Wx.top up2_s ?_
  refine r_if_leN (tgt := 26) dX13_make_21 (by decide) (by omega) (fun zz21 => ?_) (fun zz21 => ?_)
  · exact absurd zz21 (by decide)
  · refine r_iconst (v := nI 0) dX13_make_24 (by decide) ?_
    exact r_iret (ty := .int) dX13_make_25 rfl rfl ⟨rfl, rfl⟩
set_option maxRecDepth 4000 in
theorem c_make_0_2 {G : GI} {T : Hp} {m : Nat} {V : RVal} {g : Nat → Nat} {od : Nat → UInt64} (hs : RS T m)  (h24 : g 0 ≤ 24) (hb : WB g) {a : Nat} (ha : a < 6) {p : Nat} (hp : p < 4) {n : Nat} (hn0 : 0 < n) (hn : n ≤ 200) {t0 : Nat} (q0 : t0 < g 0) {t1 : Nat} (q1 : t1 < g 0) (n01 : t0 ≠ t1) (z0 : g (90 + 13 * t0 + 1) ≤ 200) (s0 : g (90 + 13 * t0 + 2) < 4) (z1 : g (90 + 13 * t1 + 1) ≤ 200) (s1 : g (90 + 13 * t1 + 2) < 4) (h0 : g 0 < 24) (f0 : ¬ fewP g t0 n) (f1 : ¬ fewP g t1 n) (h1 : g (4 + 3 * a) ≤ 50) (h2 : g (4 + 3 * a + 1) < 4) (h3 : g (4 + 3 * a + 2) < 2147470000) {e0 : Nat → Nat} (he0 : HereE g t0 n e0) {e1 : Nat → Nat} (he1 : HereE g t1 n e1) {V2 : RVal} (hch : Fn m_X13_changes G [.ref (m), .ref (m + 1)] (rput T m (sg (up2 V 0 (6) (nI 0)) g) od) none (rput T m (sg V2 g) od)) : Fn m_X13_make G [.ref (m), .int (nI (a)), .int (nI (p)), .int (nI (n)), .int (nI (t0)), .int (nI (t1)), .int ((-1))] (rput T m (sg V g) od) (some (.int (nI (g 0)))) (rput T m (sg V2 ((wrkI (takI (takI (begG g a p n 2) (g 0) 0 t0 e0 n) (g 0) 1 t1 e1 n) a (g 0) n))) od) := by
  refine Cn.of rfl (by decide) (Nat.le_of_ble_eq_true rfl) (fun hN hM => ?_)
  show Wx _ G _ 0 [(0, .ref (m)), (1, .int (nI (a))), (2, .int (nI (p))), (3, .int (nI (n))), (4, .int (nI (t0))), (5, .int (nI (t1))), (6, .int ((-1)))] [] _
  refine r_aload_n dX13_make_0 rfl 0 rfl ?_
  refine r_aload_n dX13_make_1 rfl 0 rfl ?_
  refine r_iload_n dX13_make_2 rfl 1 rfl ?_
  refine r_iload_n dX13_make_3 rfl 2 rfl ?_
  refine r_iload_n dX13_make_4 rfl 3 rfl ?_
  refine r_iload dX13_make_5 4 rfl ?_
  refine r_iload dX13_make_7 5 rfl ?_
  refine r_iload dX13_make_9 6 rfl ?_
  refine r_fnV (M2 := m_X13_againstMake) (As := [.int (nI (a)), .int (nI (p)), .int (nI (n)), .int (nI (t0)), .int (nI (t1)), .int ((-1))]) (rest := [.ref (m)]) (v := some (.int (nI (0)))) dX13_make_11 cc_X13_make_193 rfl rfl rfl (Nat.le_of_ble_eq_true rfl) hs.1 rfl rfl (by decide) (p_aMk_0_2 hs h24 hb ha hp hn0 hn q0 q1 n01 z0 s0 z1 s1 h0 f0 f1) rfl ?_
  refine o_put (k := 6) hs dX13_make_14 fw_X13_make_54 rfl rfl rfl ?_
  refine r_aload_n dX13_make_17 rfl 0 rfl ?_
  refine o_get (k := 6) hs dX13_make_18 fr_X13_54 rfl ?_
  refine Wx.top up2_s ?_
  refine r_if_leN (tgt := 26) dX13_make_21 (by decide) (by omega) (fun zz21 => ?_) (fun zz21 => ?_)
  · refine r_aload_n dX13_make_26 rfl 0 rfl ?_
    refine r_aload_n dX13_make_27 rfl 0 rfl ?_
    refine m_ref (k := 0) (j := 1) hs hs.2.1.1 dX13_make_28 fr_X13_7 rfl ?_
    refine r_fnV (M2 := m_X13_changes) (As := [.ref (m + 1)]) (rest := []) (v := none) dX13_make_31 cc_X13_make_111 rfl rfl rfl (Nat.le_of_ble_eq_true rfl) hs.1 rfl rfl (by decide) hch rfl ?_
    refine r_aload_n dX13_make_34 rfl 0 rfl ?_
    refine r_iload_n dX13_make_35 rfl 1 rfl ?_
    refine r_iload_n dX13_make_36 rfl 2 rfl ?_
    refine r_iload_n dX13_make_37 rfl 3 rfl ?_
    refine r_iload dX13_make_38 4 rfl ?_
    refine r_iload dX13_make_40 5 rfl ?_
    refine r_iload dX13_make_42 6 rfl ?_
    refine r_fnV (M2 := m_X13_makeNow) (As := [.int (nI (a)), .int (nI (p)), .int (nI (n)), .int (nI (t0)), .int (nI (t1)), .int ((-1))]) (rest := []) (v := some (.int (nI (g 0)))) dX13_make_44 cc_X13_make_197 rfl rfl rfl (Nat.le_of_ble_eq_true rfl) hs.1 rfl rfl (by decide) (g_makeNow2 hs hb h0 hn ha h1 h2 h3 q0 he0 q1 he1 n01) rfl ?_
    exact r_iret (ty := .int) dX13_make_47 rfl rfl ⟨rfl, rfl⟩
  · exact absurd zz21 (by decide)
set_option maxRecDepth 4000 in
theorem c_make_3_3 {G : GI} {T : Hp} {m : Nat} {V : RVal} {g : Nat → Nat} {od : Nat → UInt64} (hs : RS T m)  (h24 : g 0 ≤ 24) (hb : WB g) {a : Nat} (ha : a < 6) {p : Nat} (hp : p < 4) {n : Nat} (hn0 : 0 < n) (hn : n ≤ 200) {t0 : Nat} (q0 : t0 < g 0) {t1 : Nat} (q1 : t1 < g 0) {t2 : Nat} (q2 : t2 < g 0) (n01 : t0 ≠ t1) (n02 : t0 ≠ t2) (n12 : t1 ≠ t2) (z0 : g (90 + 13 * t0 + 1) ≤ 200) (s0 : g (90 + 13 * t0 + 2) < 4) (z1 : g (90 + 13 * t1 + 1) ≤ 200) (s1 : g (90 + 13 * t1 + 2) < 4) (z2 : g (90 + 13 * t2 + 1) ≤ 200) (s2 : g (90 + 13 * t2 + 2) < 4) (h3 : g 0 = 24 ∨ fewP g t0 n ∨ fewP g t1 n ∨ fewP g t2 n) : Fn m_X13_make G [.ref (m), .int (nI (a)), .int (nI (p)), .int (nI (n)), .int (nI (t0)), .int (nI (t1)), .int (nI (t2))] (rput T m (sg V g) od) (some (.int (nI (0)))) (rput T m (sg (up2 V 0 (6) (nI 3)) (g)) od) := by
  refine Cn.of rfl (by decide) (Nat.le_of_ble_eq_true rfl) (fun hN hM => ?_)
  show Wx _ G _ 0 [(0, .ref (m)), (1, .int (nI (a))), (2, .int (nI (p))), (3, .int (nI (n))), (4, .int (nI (t0))), (5, .int (nI (t1))), (6, .int (nI (t2)))] [] _
  refine r_aload_n dX13_make_0 rfl 0 rfl ?_
  refine r_aload_n dX13_make_1 rfl 0 rfl ?_
  refine r_iload_n dX13_make_2 rfl 1 rfl ?_
  refine r_iload_n dX13_make_3 rfl 2 rfl ?_
  refine r_iload_n dX13_make_4 rfl 3 rfl ?_
  refine r_iload dX13_make_5 4 rfl ?_
  refine r_iload dX13_make_7 5 rfl ?_
  refine r_iload dX13_make_9 6 rfl ?_
  refine r_fnV (M2 := m_X13_againstMake) (As := [.int (nI (a)), .int (nI (p)), .int (nI (n)), .int (nI (t0)), .int (nI (t1)), .int (nI (t2))]) (rest := [.ref (m)]) (v := some (.int (nI (3)))) dX13_make_11 cc_X13_make_193 rfl rfl rfl (Nat.le_of_ble_eq_true rfl) hs.1 rfl rfl (by decide) (p_aMk_3_3 hs h24 hb ha hp hn0 hn q0 q1 q2 n01 n02 n12 z0 s0 z1 s1 z2 s2 h3) rfl ?_
  refine o_put (k := 6) hs dX13_make_14 fw_X13_make_54 rfl rfl rfl ?_
  refine r_aload_n dX13_make_17 rfl 0 rfl ?_
  refine o_get (k := 6) hs dX13_make_18 fr_X13_54 rfl ?_
  refine Wx.top up2_s ?_
  refine r_if_leN (tgt := 26) dX13_make_21 (by decide) (by omega) (fun zz21 => ?_) (fun zz21 => ?_)
  · exact absurd zz21 (by decide)
  · refine r_iconst (v := nI 0) dX13_make_24 (by decide) ?_
    exact r_iret (ty := .int) dX13_make_25 rfl rfl ⟨rfl, rfl⟩
set_option maxRecDepth 4000 in
theorem c_make_0_3 {G : GI} {T : Hp} {m : Nat} {V : RVal} {g : Nat → Nat} {od : Nat → UInt64} (hs : RS T m)  (h24 : g 0 ≤ 24) (hb : WB g) {a : Nat} (ha : a < 6) {p : Nat} (hp : p < 4) {n : Nat} (hn0 : 0 < n) (hn : n ≤ 200) {t0 : Nat} (q0 : t0 < g 0) {t1 : Nat} (q1 : t1 < g 0) {t2 : Nat} (q2 : t2 < g 0) (n01 : t0 ≠ t1) (n02 : t0 ≠ t2) (n12 : t1 ≠ t2) (z0 : g (90 + 13 * t0 + 1) ≤ 200) (s0 : g (90 + 13 * t0 + 2) < 4) (z1 : g (90 + 13 * t1 + 1) ≤ 200) (s1 : g (90 + 13 * t1 + 2) < 4) (z2 : g (90 + 13 * t2 + 1) ≤ 200) (s2 : g (90 + 13 * t2 + 2) < 4) (h0 : g 0 < 24) (f0 : ¬ fewP g t0 n) (f1 : ¬ fewP g t1 n) (f2 : ¬ fewP g t2 n) (h1 : g (4 + 3 * a) ≤ 50) (h2 : g (4 + 3 * a + 1) < 4) (h3 : g (4 + 3 * a + 2) < 2147470000) {e0 : Nat → Nat} (he0 : HereE g t0 n e0) {e1 : Nat → Nat} (he1 : HereE g t1 n e1) {e2 : Nat → Nat} (he2 : HereE g t2 n e2) {V2 : RVal} (hch : Fn m_X13_changes G [.ref (m), .ref (m + 1)] (rput T m (sg (up2 V 0 (6) (nI 0)) g) od) none (rput T m (sg V2 g) od)) : Fn m_X13_make G [.ref (m), .int (nI (a)), .int (nI (p)), .int (nI (n)), .int (nI (t0)), .int (nI (t1)), .int (nI (t2))] (rput T m (sg V g) od) (some (.int (nI (g 0)))) (rput T m (sg V2 ((wrkI (takI (takI (takI (begG g a p n 3) (g 0) 0 t0 e0 n) (g 0) 1 t1 e1 n) (g 0) 2 t2 e2 n) a (g 0) n))) od) := by
  refine Cn.of rfl (by decide) (Nat.le_of_ble_eq_true rfl) (fun hN hM => ?_)
  show Wx _ G _ 0 [(0, .ref (m)), (1, .int (nI (a))), (2, .int (nI (p))), (3, .int (nI (n))), (4, .int (nI (t0))), (5, .int (nI (t1))), (6, .int (nI (t2)))] [] _
  refine r_aload_n dX13_make_0 rfl 0 rfl ?_
  refine r_aload_n dX13_make_1 rfl 0 rfl ?_
  refine r_iload_n dX13_make_2 rfl 1 rfl ?_
  refine r_iload_n dX13_make_3 rfl 2 rfl ?_
  refine r_iload_n dX13_make_4 rfl 3 rfl ?_
  refine r_iload dX13_make_5 4 rfl ?_
  refine r_iload dX13_make_7 5 rfl ?_
  refine r_iload dX13_make_9 6 rfl ?_
  refine r_fnV (M2 := m_X13_againstMake) (As := [.int (nI (a)), .int (nI (p)), .int (nI (n)), .int (nI (t0)), .int (nI (t1)), .int (nI (t2))]) (rest := [.ref (m)]) (v := some (.int (nI (0)))) dX13_make_11 cc_X13_make_193 rfl rfl rfl (Nat.le_of_ble_eq_true rfl) hs.1 rfl rfl (by decide) (p_aMk_0_3 hs h24 hb ha hp hn0 hn q0 q1 q2 n01 n02 n12 z0 s0 z1 s1 z2 s2 h0 f0 f1 f2) rfl ?_
  refine o_put (k := 6) hs dX13_make_14 fw_X13_make_54 rfl rfl rfl ?_
  refine r_aload_n dX13_make_17 rfl 0 rfl ?_
  refine o_get (k := 6) hs dX13_make_18 fr_X13_54 rfl ?_
  refine Wx.top up2_s ?_
  refine r_if_leN (tgt := 26) dX13_make_21 (by decide) (by omega) (fun zz21 => ?_) (fun zz21 => ?_)
  · refine r_aload_n dX13_make_26 rfl 0 rfl ?_
    refine r_aload_n dX13_make_27 rfl 0 rfl ?_
    refine m_ref (k := 0) (j := 1) hs hs.2.1.1 dX13_make_28 fr_X13_7 rfl ?_
    refine r_fnV (M2 := m_X13_changes) (As := [.ref (m + 1)]) (rest := []) (v := none) dX13_make_31 cc_X13_make_111 rfl rfl rfl (Nat.le_of_ble_eq_true rfl) hs.1 rfl rfl (by decide) hch rfl ?_
    refine r_aload_n dX13_make_34 rfl 0 rfl ?_
    refine r_iload_n dX13_make_35 rfl 1 rfl ?_
    refine r_iload_n dX13_make_36 rfl 2 rfl ?_
    refine r_iload_n dX13_make_37 rfl 3 rfl ?_
    refine r_iload dX13_make_38 4 rfl ?_
    refine r_iload dX13_make_40 5 rfl ?_
    refine r_iload dX13_make_42 6 rfl ?_
    refine r_fnV (M2 := m_X13_makeNow) (As := [.int (nI (a)), .int (nI (p)), .int (nI (n)), .int (nI (t0)), .int (nI (t1)), .int (nI (t2))]) (rest := []) (v := some (.int (nI (g 0)))) dX13_make_44 cc_X13_make_197 rfl rfl rfl (Nat.le_of_ble_eq_true rfl) hs.1 rfl rfl (by decide) (g_makeNow3 hs hb h0 hn ha h1 h2 h3 q0 he0 q1 he1 q2 he2 n01 n02 n12) rfl ?_
    exact r_iret (ty := .int) dX13_make_47 rfl rfl ⟨rfl, rfl⟩
  · exact absurd zz21 (by decide)
set_option maxRecDepth 4000 in
theorem p_aIns_1 {G : GI} {T : Hp} {m : Nat} {V : RVal} {g : Nat → Nat} {od : Nat → UInt64} (hs : RS T m)  (h24 : g 0 ≤ 24) {x : Int32} (hx : ¬ vp_in x (g 0)) : Fn m_X13_againstInspect G [.ref (m), .int (x)] (rput T m (sg V g) od) (some (.int (nI (1)))) (rput T m (sg V (g)) od) := by
  refine Cn.of rfl (by decide) (Nat.le_of_ble_eq_true rfl) (fun hN hM => ?_)
  show Wx _ G _ 0 [(0, .ref (m)), (1, .int (x))] [] _
  refine r_aload_n dX13_againstInspect_0 rfl 0 rfl ?_
  refine r_iload_n dX13_againstInspect_1 rfl 1 rfl ?_
  refine r_fnV (M2 := m_X13_isLot) (As := [.int (x)]) (rest := []) (v := some (.int (nI (0)))) dX13_againstInspect_2 cc_X13_againstInspect_76 rfl rfl rfl (Nat.le_of_ble_eq_true rfl) hs.1 rfl rfl (by decide) (Fn.eq (g_isLot hs h24) (congrArg (fun x => some (Value.int x)) (bI_f hx)) rfl) rfl ?_
  refine r_if_eqN (tgt := 54) dX13_againstInspect_5 (by decide) (by omega) (fun zz5 => ?_) (fun zz5 => ?_)
  · refine r_iconst (v := nI 1) dX13_againstInspect_54 (by decide) ?_
    exact r_iret (ty := .int) dX13_againstInspect_55 rfl rfl ⟨rfl, rfl⟩
  · exact absurd zz5 (by decide)
set_option maxRecDepth 4000 in
theorem p_aSor_1 {G : GI} {T : Hp} {m : Nat} {V : RVal} {g : Nat → Nat} {od : Nat → UInt64} (hs : RS T m)  (h24 : g 0 ≤ 24) {x : Int32} (hx : ¬ vp_in x (g 0)) : Fn m_X13_againstSort G [.ref (m), .int (x)] (rput T m (sg V g) od) (some (.int (nI (1)))) (rput T m (sg V (g)) od) := by
  refine Cn.of rfl (by decide) (Nat.le_of_ble_eq_true rfl) (fun hN hM => ?_)
  show Wx _ G _ 0 [(0, .ref (m)), (1, .int (x))] [] _
  refine r_aload_n dX13_againstSort_0 rfl 0 rfl ?_
  refine r_iload_n dX13_againstSort_1 rfl 1 rfl ?_
  refine r_fnV (M2 := m_X13_isLot) (As := [.int (x)]) (rest := []) (v := some (.int (nI (0)))) dX13_againstSort_2 cc_X13_againstSort_76 rfl rfl rfl (Nat.le_of_ble_eq_true rfl) hs.1 rfl rfl (by decide) (Fn.eq (g_isLot hs h24) (congrArg (fun x => some (Value.int x)) (bI_f hx)) rfl) rfl ?_
  refine r_if_eqN (tgt := 30) dX13_againstSort_5 (by decide) (by omega) (fun zz5 => ?_) (fun zz5 => ?_)
  · refine r_iconst (v := nI 1) dX13_againstSort_30 (by decide) ?_
    exact r_iret (ty := .int) dX13_againstSort_31 rfl rfl ⟨rfl, rfl⟩
  · exact absurd zz5 (by decide)
set_option maxRecDepth 4000 in
theorem p_aShp_1 {G : GI} {T : Hp} {m : Nat} {V : RVal} {g : Nat → Nat} {od : Nat → UInt64} (hs : RS T m)  (h24 : g 0 ≤ 24) {x : Int32} (hx : ¬ vp_in x (g 0)) : Fn m_X13_againstShip G [.ref (m), .int (x)] (rput T m (sg V g) od) (some (.int (nI (1)))) (rput T m (sg V (g)) od) := by
  refine Cn.of rfl (by decide) (Nat.le_of_ble_eq_true rfl) (fun hN hM => ?_)
  show Wx _ G _ 0 [(0, .ref (m)), (1, .int (x))] [] _
  refine r_aload_n dX13_againstShip_0 rfl 0 rfl ?_
  refine r_iload_n dX13_againstShip_1 rfl 1 rfl ?_
  refine r_fnV (M2 := m_X13_isLot) (As := [.int (x)]) (rest := []) (v := some (.int (nI (0)))) dX13_againstShip_2 cc_X13_againstShip_76 rfl rfl rfl (Nat.le_of_ble_eq_true rfl) hs.1 rfl rfl (by decide) (Fn.eq (g_isLot hs h24) (congrArg (fun x => some (Value.int x)) (bI_f hx)) rfl) rfl ?_
  refine r_if_eqN (tgt := 39) dX13_againstShip_5 (by decide) (by omega) (fun zz5 => ?_) (fun zz5 => ?_)
  · refine r_iconst (v := nI 1) dX13_againstShip_39 (by decide) ?_
    exact r_iret (ty := .int) dX13_againstShip_40 rfl rfl ⟨rfl, rfl⟩
  · exact absurd zz5 (by decide)
set_option maxRecDepth 4000 in
theorem p_aIns_2 {G : GI} {T : Hp} {m : Nat} {V : RVal} {g : Nat → Nat} {od : Nat → UInt64} (hs : RS T m)  (h24 : g 0 ≤ 24) (hb : WB g) {l : Nat} (hl : l < g 0) (hz : g (90 + 13 * l + 1) ≤ 200) (hst : g (90 + 13 * l + 2) < 4) (hp : g (90 + 13 * l + 0) < 4) (hsv : g (22 + 10 * g (90 + 13 * l + 0) + 3) ≤ 3) (h : ¬ g (90 + 13 * l + 2) = 0 ∨ inS g l 0 = 0 ∨ g (22 + 10 * g (90 + 13 * l + 0) + 3) = 3) : Fn m_X13_againstInspect G [.ref (m), .int (nI (l))] (rput T m (sg V g) od) (some (.int (nI (2)))) (rput T m (sg V (g)) od) := by
  refine Cn.of rfl (by decide) (Nat.le_of_ble_eq_true rfl) (fun hN hM => ?_)
  show Wx _ G _ 0 [(0, .ref (m)), (1, .int (nI (l)))] [] _
  refine r_aload_n dX13_againstInspect_0 rfl 0 rfl ?_
  refine r_iload_n dX13_againstInspect_1 rfl 1 rfl ?_
  refine r_fnV (M2 := m_X13_isLot) (As := [.int (nI (l))]) (rest := []) (v := some (.int (nI (1)))) dX13_againstInspect_2 cc_X13_againstInspect_76 rfl rfl rfl (Nat.le_of_ble_eq_true rfl) hs.1 rfl rfl (by decide) (Fn.eq (g_isLot hs h24) (congrArg (fun x => some (Value.int x)) (bI_t (vp_in_nI (by (first | omega | (have : inS g l 0 ≤ g (90 + 13 * l + 1) := cnt_le _ _; omega))) (by first | decide | omega)))) rfl) rfl ?_
  refine r_if_eqN (tgt := 54) dX13_againstInspect_5 (by decide) (by (first | omega | (have : inS g l 0 ≤ g (90 + 13 * l + 1) := cnt_le _ _; omega))) (fun zz5 => ?_) (fun zz5 => ?_)
  · exact absurd zz5 (by decide)
  · refine r_aload_n dX13_againstInspect_8 rfl 0 rfl ?_
    refine m_ref (k := 0) (j := 1) hs hs.2.1.1 dX13_againstInspect_9 fr_X13_7 rfl ?_
    refine r_iload_n dX13_againstInspect_12 rfl 1 rfl ?_
    refine r_iconst (v := nI 2) dX13_againstInspect_13 (by decide) ?_
    refine r_fnS (M2 := m_X13_at) (As := [.int (nI (l)), .int (nI (2))]) (rest := [.ref (m + 1)]) (v := some (.int (nI (90 + 13 * l + 2)))) dX13_againstInspect_14 cc_X13_againstInspect_72 rfl rfl rfl (Nat.le_of_ble_eq_true rfl) f_at rfl ?_
    refine g_iald (i := 90 + 13 * l + 2) hs dX13_againstInspect_17 (by (first | omega | (have : inS g l 0 ≤ g (90 + 13 * l + 1) := cnt_le _ _; omega))) ?_
    refine r_if_neN (tgt := 46) dX13_againstInspect_18 (by decide) (by (first | omega | (have : inS g l 0 ≤ g (90 + 13 * l + 1) := cnt_le _ _; omega))) (fun h18 => ?_) (fun h18 => ?_)
    · refine r_iconst (v := nI 2) dX13_againstInspect_46 (by decide) ?_
      refine r_goto (tgt := 55) dX13_againstInspect_47 (by decide) ?_
      exact r_iret (ty := .int) dX13_againstInspect_55 rfl rfl ⟨rfl, rfl⟩
    · refine r_aload_n dX13_againstInspect_21 rfl 0 rfl ?_
      refine r_iload_n dX13_againstInspect_22 rfl 1 rfl ?_
      refine r_iconst (v := nI 0) dX13_againstInspect_23 (by decide) ?_
      refine r_fnV (M2 := m_X13_inState) (As := [.int (nI (l)), .int (nI (0))]) (rest := []) (v := some (.int (nI (inS g l 0)))) dX13_againstInspect_24 cc_X13_againstInspect_175 rfl rfl rfl (Nat.le_of_ble_eq_true rfl) hs.1 rfl rfl (by decide) (g_inState hs hb (by (first | omega | (have : inS g l 0 ≤ g (90 + 13 * l + 1) := cnt_le _ _; omega))) (by (first | omega | (have : inS g l 0 ≤ g (90 + 13 * l + 1) := cnt_le _ _; omega))) (by (first | omega | (have : inS g l 0 ≤ g (90 + 13 * l + 1) := cnt_le _ _; omega)))) rfl ?_
      refine r_if_eqN (tgt := 46) dX13_againstInspect_27 (by decide) (by (first | omega | (have : inS g l 0 ≤ g (90 + 13 * l + 1) := cnt_le _ _; omega))) (fun h27 => ?_) (fun h27 => ?_)
      · refine r_iconst (v := nI 2) dX13_againstInspect_46 (by decide) ?_
        refine r_goto (tgt := 55) dX13_againstInspect_47 (by decide) ?_
        exact r_iret (ty := .int) dX13_againstInspect_55 rfl rfl ⟨rfl, rfl⟩
      · refine r_aload_n dX13_againstInspect_30 rfl 0 rfl ?_
        refine m_ref (k := 0) (j := 1) hs hs.2.1.1 dX13_againstInspect_31 fr_X13_7 rfl ?_
        refine r_aload_n dX13_againstInspect_34 rfl 0 rfl ?_
        refine r_iload_n dX13_againstInspect_35 rfl 1 rfl ?_
        refine r_fnV (M2 := m_X13_productOf) (As := [.int (nI (l))]) (rest := [.ref (m + 1)]) (v := some (.int (nI (22 + 10 * (g (90 + 13 * l + 0)))))) dX13_againstInspect_36 cc_X13_againstInspect_90 rfl rfl rfl (Nat.le_of_ble_eq_true rfl) hs.1 rfl rfl (by decide) (g_productOf hs (by (first | omega | (have : inS g l 0 ≤ g (90 + 13 * l + 1) := cnt_le _ _; omega)))) rfl ?_
        refine r_iconst (v := nI 3) dX13_againstInspect_39 (by decide) ?_
        refine r_iaddN dX13_againstInspect_40 ?_
        refine g_iald (i := 22 + 10 * (g (90 + 13 * l + 0)) + 3) hs dX13_againstInspect_41 (by (first | omega | (have : inS g l 0 ≤ g (90 + 13 * l + 1) := cnt_le _ _; omega))) ?_
        refine r_iconst (v := nI 3) dX13_againstInspect_42 (by decide) ?_
        refine r_icmp_neN (tgt := 50) dX13_againstInspect_43 (by decide) (by (first | omega | (have : inS g l 0 ≤ g (90 + 13 * l + 1) := cnt_le _ _; omega))) (by (first | omega | (have : inS g l 0 ≤ g (90 + 13 * l + 1) := cnt_le _ _; omega))) (fun h43 => ?_) (fun h43 => ?_)
        · exact absurd h (fun q => by rcases q with q | q | q <;> first | exact zz5 q | exact h18 q | exact h27 q | exact h43 q | exact q zz5 | exact q h18 | exact q h27 | exact q h43)
        · refine r_iconst (v := nI 2) dX13_againstInspect_46 (by decide) ?_
          refine r_goto (tgt := 55) dX13_againstInspect_47 (by decide) ?_
          exact r_iret (ty := .int) dX13_againstInspect_55 rfl rfl ⟨rfl, rfl⟩
set_option maxRecDepth 4000 in
theorem p_aIns_0 {G : GI} {T : Hp} {m : Nat} {V : RVal} {g : Nat → Nat} {od : Nat → UInt64} (hs : RS T m)  (h24 : g 0 ≤ 24) (hb : WB g) {l : Nat} (hl : l < g 0) (hz : g (90 + 13 * l + 1) ≤ 200) (hst : g (90 + 13 * l + 2) < 4) (hp : g (90 + 13 * l + 0) < 4) (hsv : g (22 + 10 * g (90 + 13 * l + 0) + 3) ≤ 3) (h : ¬ (¬ g (90 + 13 * l + 2) = 0 ∨ inS g l 0 = 0 ∨ g (22 + 10 * g (90 + 13 * l + 0) + 3) = 3)) : Fn m_X13_againstInspect G [.ref (m), .int (nI (l))] (rput T m (sg V g) od) (some (.int (nI (0)))) (rput T m (sg V (g)) od) := by
  refine Cn.of rfl (by decide) (Nat.le_of_ble_eq_true rfl) (fun hN hM => ?_)
  show Wx _ G _ 0 [(0, .ref (m)), (1, .int (nI (l)))] [] _
  refine r_aload_n dX13_againstInspect_0 rfl 0 rfl ?_
  refine r_iload_n dX13_againstInspect_1 rfl 1 rfl ?_
  refine r_fnV (M2 := m_X13_isLot) (As := [.int (nI (l))]) (rest := []) (v := some (.int (nI (1)))) dX13_againstInspect_2 cc_X13_againstInspect_76 rfl rfl rfl (Nat.le_of_ble_eq_true rfl) hs.1 rfl rfl (by decide) (Fn.eq (g_isLot hs h24) (congrArg (fun x => some (Value.int x)) (bI_t (vp_in_nI (by (first | omega | (have : inS g l 0 ≤ g (90 + 13 * l + 1) := cnt_le _ _; omega))) (by first | decide | omega)))) rfl) rfl ?_
  refine r_if_eqN (tgt := 54) dX13_againstInspect_5 (by decide) (by (first | omega | (have : inS g l 0 ≤ g (90 + 13 * l + 1) := cnt_le _ _; omega))) (fun zz5 => ?_) (fun zz5 => ?_)
  · exact absurd zz5 (by decide)
  · refine r_aload_n dX13_againstInspect_8 rfl 0 rfl ?_
    refine m_ref (k := 0) (j := 1) hs hs.2.1.1 dX13_againstInspect_9 fr_X13_7 rfl ?_
    refine r_iload_n dX13_againstInspect_12 rfl 1 rfl ?_
    refine r_iconst (v := nI 2) dX13_againstInspect_13 (by decide) ?_
    refine r_fnS (M2 := m_X13_at) (As := [.int (nI (l)), .int (nI (2))]) (rest := [.ref (m + 1)]) (v := some (.int (nI (90 + 13 * l + 2)))) dX13_againstInspect_14 cc_X13_againstInspect_72 rfl rfl rfl (Nat.le_of_ble_eq_true rfl) f_at rfl ?_
    refine g_iald (i := 90 + 13 * l + 2) hs dX13_againstInspect_17 (by (first | omega | (have : inS g l 0 ≤ g (90 + 13 * l + 1) := cnt_le _ _; omega))) ?_
    refine r_if_neN (tgt := 46) dX13_againstInspect_18 (by decide) (by (first | omega | (have : inS g l 0 ≤ g (90 + 13 * l + 1) := cnt_le _ _; omega))) (fun h18 => ?_) (fun h18 => ?_)
    · exact absurd (by first | exact Or.inl h18 | exact Or.inr (Or.inl h18) | exact Or.inr (Or.inr h18)) h
    · refine r_aload_n dX13_againstInspect_21 rfl 0 rfl ?_
      refine r_iload_n dX13_againstInspect_22 rfl 1 rfl ?_
      refine r_iconst (v := nI 0) dX13_againstInspect_23 (by decide) ?_
      refine r_fnV (M2 := m_X13_inState) (As := [.int (nI (l)), .int (nI (0))]) (rest := []) (v := some (.int (nI (inS g l 0)))) dX13_againstInspect_24 cc_X13_againstInspect_175 rfl rfl rfl (Nat.le_of_ble_eq_true rfl) hs.1 rfl rfl (by decide) (g_inState hs hb (by (first | omega | (have : inS g l 0 ≤ g (90 + 13 * l + 1) := cnt_le _ _; omega))) (by (first | omega | (have : inS g l 0 ≤ g (90 + 13 * l + 1) := cnt_le _ _; omega))) (by (first | omega | (have : inS g l 0 ≤ g (90 + 13 * l + 1) := cnt_le _ _; omega)))) rfl ?_
      refine r_if_eqN (tgt := 46) dX13_againstInspect_27 (by decide) (by (first | omega | (have : inS g l 0 ≤ g (90 + 13 * l + 1) := cnt_le _ _; omega))) (fun h27 => ?_) (fun h27 => ?_)
      · exact absurd (by first | exact Or.inl h27 | exact Or.inr (Or.inl h27) | exact Or.inr (Or.inr h27)) h
      · refine r_aload_n dX13_againstInspect_30 rfl 0 rfl ?_
        refine m_ref (k := 0) (j := 1) hs hs.2.1.1 dX13_againstInspect_31 fr_X13_7 rfl ?_
        refine r_aload_n dX13_againstInspect_34 rfl 0 rfl ?_
        refine r_iload_n dX13_againstInspect_35 rfl 1 rfl ?_
        refine r_fnV (M2 := m_X13_productOf) (As := [.int (nI (l))]) (rest := [.ref (m + 1)]) (v := some (.int (nI (22 + 10 * (g (90 + 13 * l + 0)))))) dX13_againstInspect_36 cc_X13_againstInspect_90 rfl rfl rfl (Nat.le_of_ble_eq_true rfl) hs.1 rfl rfl (by decide) (g_productOf hs (by (first | omega | (have : inS g l 0 ≤ g (90 + 13 * l + 1) := cnt_le _ _; omega)))) rfl ?_
        refine r_iconst (v := nI 3) dX13_againstInspect_39 (by decide) ?_
        refine r_iaddN dX13_againstInspect_40 ?_
        refine g_iald (i := 22 + 10 * (g (90 + 13 * l + 0)) + 3) hs dX13_againstInspect_41 (by (first | omega | (have : inS g l 0 ≤ g (90 + 13 * l + 1) := cnt_le _ _; omega))) ?_
        refine r_iconst (v := nI 3) dX13_againstInspect_42 (by decide) ?_
        refine r_icmp_neN (tgt := 50) dX13_againstInspect_43 (by decide) (by (first | omega | (have : inS g l 0 ≤ g (90 + 13 * l + 1) := cnt_le _ _; omega))) (by (first | omega | (have : inS g l 0 ≤ g (90 + 13 * l + 1) := cnt_le _ _; omega))) (fun h43 => ?_) (fun h43 => ?_)
        · refine r_iconst (v := nI 0) dX13_againstInspect_50 (by decide) ?_
          refine r_goto (tgt := 55) dX13_againstInspect_51 (by decide) ?_
          exact r_iret (ty := .int) dX13_againstInspect_55 rfl rfl ⟨rfl, rfl⟩
        · exact absurd (by first | exact Or.inl h43 | exact Or.inr (Or.inl h43) | exact Or.inr (Or.inr h43)) h
set_option maxRecDepth 4000 in
theorem p_aSor_2 {G : GI} {T : Hp} {m : Nat} {V : RVal} {g : Nat → Nat} {od : Nat → UInt64} (hs : RS T m)  (h24 : g 0 ≤ 24) (hb : WB g) {l : Nat} (hl : l < g 0) (hz : g (90 + 13 * l + 1) ≤ 200) (hst : g (90 + 13 * l + 2) < 4) (hp : g (90 + 13 * l + 0) < 4) (hsv : g (22 + 10 * g (90 + 13 * l + 0) + 3) ≤ 3) (h : ¬ g (90 + 13 * l + 2) = 2) : Fn m_X13_againstSort G [.ref (m), .int (nI (l))] (rput T m (sg V g) od) (some (.int (nI (2)))) (rput T m (sg V (g)) od) := by
  refine Cn.of rfl (by decide) (Nat.le_of_ble_eq_true rfl) (fun hN hM => ?_)
  show Wx _ G _ 0 [(0, .ref (m)), (1, .int (nI (l)))] [] _
  refine r_aload_n dX13_againstSort_0 rfl 0 rfl ?_
  refine r_iload_n dX13_againstSort_1 rfl 1 rfl ?_
  refine r_fnV (M2 := m_X13_isLot) (As := [.int (nI (l))]) (rest := []) (v := some (.int (nI (1)))) dX13_againstSort_2 cc_X13_againstSort_76 rfl rfl rfl (Nat.le_of_ble_eq_true rfl) hs.1 rfl rfl (by decide) (Fn.eq (g_isLot hs h24) (congrArg (fun x => some (Value.int x)) (bI_t (vp_in_nI (by omega) (by first | decide | omega)))) rfl) rfl ?_
  refine r_if_eqN (tgt := 30) dX13_againstSort_5 (by decide) (by omega) (fun zz5 => ?_) (fun zz5 => ?_)
  · exact absurd zz5 (by decide)
  · refine r_aload_n dX13_againstSort_8 rfl 0 rfl ?_
    refine m_ref (k := 0) (j := 1) hs hs.2.1.1 dX13_againstSort_9 fr_X13_7 rfl ?_
    refine r_iload_n dX13_againstSort_12 rfl 1 rfl ?_
    refine r_iconst (v := nI 2) dX13_againstSort_13 (by decide) ?_
    refine r_fnS (M2 := m_X13_at) (As := [.int (nI (l)), .int (nI (2))]) (rest := [.ref (m + 1)]) (v := some (.int (nI (90 + 13 * l + 2)))) dX13_againstSort_14 cc_X13_againstSort_72 rfl rfl rfl (Nat.le_of_ble_eq_true rfl) f_at rfl ?_
    refine g_iald (i := 90 + 13 * l + 2) hs dX13_againstSort_17 (by omega) ?_
    refine r_iconst (v := nI 2) dX13_againstSort_18 (by decide) ?_
    refine r_icmp_neN (tgt := 26) dX13_againstSort_19 (by decide) (by omega) (by omega) (fun h19 => ?_) (fun h19 => ?_)
    · refine r_iconst (v := nI 2) dX13_againstSort_26 (by decide) ?_
      refine r_goto (tgt := 31) dX13_againstSort_27 (by decide) ?_
      exact r_iret (ty := .int) dX13_againstSort_31 rfl rfl ⟨rfl, rfl⟩
    · exact absurd h19 h
set_option maxRecDepth 4000 in
theorem p_aSor_0 {G : GI} {T : Hp} {m : Nat} {V : RVal} {g : Nat → Nat} {od : Nat → UInt64} (hs : RS T m)  (h24 : g 0 ≤ 24) (hb : WB g) {l : Nat} (hl : l < g 0) (hz : g (90 + 13 * l + 1) ≤ 200) (hst : g (90 + 13 * l + 2) < 4) (hp : g (90 + 13 * l + 0) < 4) (hsv : g (22 + 10 * g (90 + 13 * l + 0) + 3) ≤ 3) (h : g (90 + 13 * l + 2) = 2) : Fn m_X13_againstSort G [.ref (m), .int (nI (l))] (rput T m (sg V g) od) (some (.int (nI (0)))) (rput T m (sg V (g)) od) := by
  refine Cn.of rfl (by decide) (Nat.le_of_ble_eq_true rfl) (fun hN hM => ?_)
  show Wx _ G _ 0 [(0, .ref (m)), (1, .int (nI (l)))] [] _
  refine r_aload_n dX13_againstSort_0 rfl 0 rfl ?_
  refine r_iload_n dX13_againstSort_1 rfl 1 rfl ?_
  refine r_fnV (M2 := m_X13_isLot) (As := [.int (nI (l))]) (rest := []) (v := some (.int (nI (1)))) dX13_againstSort_2 cc_X13_againstSort_76 rfl rfl rfl (Nat.le_of_ble_eq_true rfl) hs.1 rfl rfl (by decide) (Fn.eq (g_isLot hs h24) (congrArg (fun x => some (Value.int x)) (bI_t (vp_in_nI (by omega) (by first | decide | omega)))) rfl) rfl ?_
  refine r_if_eqN (tgt := 30) dX13_againstSort_5 (by decide) (by omega) (fun zz5 => ?_) (fun zz5 => ?_)
  · exact absurd zz5 (by decide)
  · refine r_aload_n dX13_againstSort_8 rfl 0 rfl ?_
    refine m_ref (k := 0) (j := 1) hs hs.2.1.1 dX13_againstSort_9 fr_X13_7 rfl ?_
    refine r_iload_n dX13_againstSort_12 rfl 1 rfl ?_
    refine r_iconst (v := nI 2) dX13_againstSort_13 (by decide) ?_
    refine r_fnS (M2 := m_X13_at) (As := [.int (nI (l)), .int (nI (2))]) (rest := [.ref (m + 1)]) (v := some (.int (nI (90 + 13 * l + 2)))) dX13_againstSort_14 cc_X13_againstSort_72 rfl rfl rfl (Nat.le_of_ble_eq_true rfl) f_at rfl ?_
    refine g_iald (i := 90 + 13 * l + 2) hs dX13_againstSort_17 (by omega) ?_
    refine r_iconst (v := nI 2) dX13_againstSort_18 (by decide) ?_
    refine r_icmp_neN (tgt := 26) dX13_againstSort_19 (by decide) (by omega) (by omega) (fun h19 => ?_) (fun h19 => ?_)
    · exact absurd h h19
    · refine r_iconst (v := nI 0) dX13_againstSort_22 (by decide) ?_
      refine r_goto (tgt := 31) dX13_againstSort_23 (by decide) ?_
      exact r_iret (ty := .int) dX13_againstSort_31 rfl rfl ⟨rfl, rfl⟩
set_option maxRecDepth 4000 in
theorem p_aShp_2 {G : GI} {T : Hp} {m : Nat} {V : RVal} {g : Nat → Nat} {od : Nat → UInt64} (hs : RS T m)  (h24 : g 0 ≤ 24) (hb : WB g) {l : Nat} (hl : l < g 0) (hz : g (90 + 13 * l + 1) ≤ 200) (hst : g (90 + 13 * l + 2) < 4) (hp : g (90 + 13 * l + 0) < 4) (hsv : g (22 + 10 * g (90 + 13 * l + 0) + 3) ≤ 3) (h : ¬ g (90 + 13 * l + 2) = 1 ∨ inS g l 0 = 0) : Fn m_X13_againstShip G [.ref (m), .int (nI (l))] (rput T m (sg V g) od) (some (.int (nI (2)))) (rput T m (sg V (g)) od) := by
  refine Cn.of rfl (by decide) (Nat.le_of_ble_eq_true rfl) (fun hN hM => ?_)
  show Wx _ G _ 0 [(0, .ref (m)), (1, .int (nI (l)))] [] _
  refine r_aload_n dX13_againstShip_0 rfl 0 rfl ?_
  refine r_iload_n dX13_againstShip_1 rfl 1 rfl ?_
  refine r_fnV (M2 := m_X13_isLot) (As := [.int (nI (l))]) (rest := []) (v := some (.int (nI (1)))) dX13_againstShip_2 cc_X13_againstShip_76 rfl rfl rfl (Nat.le_of_ble_eq_true rfl) hs.1 rfl rfl (by decide) (Fn.eq (g_isLot hs h24) (congrArg (fun x => some (Value.int x)) (bI_t (vp_in_nI (by (first | omega | (have : inS g l 0 ≤ g (90 + 13 * l + 1) := cnt_le _ _; omega))) (by first | decide | omega)))) rfl) rfl ?_
  refine r_if_eqN (tgt := 39) dX13_againstShip_5 (by decide) (by (first | omega | (have : inS g l 0 ≤ g (90 + 13 * l + 1) := cnt_le _ _; omega))) (fun zz5 => ?_) (fun zz5 => ?_)
  · exact absurd zz5 (by decide)
  · refine r_aload_n dX13_againstShip_8 rfl 0 rfl ?_
    refine m_ref (k := 0) (j := 1) hs hs.2.1.1 dX13_againstShip_9 fr_X13_7 rfl ?_
    refine r_iload_n dX13_againstShip_12 rfl 1 rfl ?_
    refine r_iconst (v := nI 2) dX13_againstShip_13 (by decide) ?_
    refine r_fnS (M2 := m_X13_at) (As := [.int (nI (l)), .int (nI (2))]) (rest := [.ref (m + 1)]) (v := some (.int (nI (90 + 13 * l + 2)))) dX13_againstShip_14 cc_X13_againstShip_72 rfl rfl rfl (Nat.le_of_ble_eq_true rfl) f_at rfl ?_
    refine g_iald (i := 90 + 13 * l + 2) hs dX13_againstShip_17 (by (first | omega | (have : inS g l 0 ≤ g (90 + 13 * l + 1) := cnt_le _ _; omega))) ?_
    refine r_iconst (v := nI 1) dX13_againstShip_18 (by decide) ?_
    refine r_icmp_neN (tgt := 31) dX13_againstShip_19 (by decide) (by (first | omega | (have : inS g l 0 ≤ g (90 + 13 * l + 1) := cnt_le _ _; omega))) (by (first | omega | (have : inS g l 0 ≤ g (90 + 13 * l + 1) := cnt_le _ _; omega))) (fun h19 => ?_) (fun h19 => ?_)
    · refine r_iconst (v := nI 2) dX13_againstShip_31 (by decide) ?_
      refine r_goto (tgt := 40) dX13_againstShip_32 (by decide) ?_
      exact r_iret (ty := .int) dX13_againstShip_40 rfl rfl ⟨rfl, rfl⟩
    · refine r_aload_n dX13_againstShip_22 rfl 0 rfl ?_
      refine r_iload_n dX13_againstShip_23 rfl 1 rfl ?_
      refine r_iconst (v := nI 0) dX13_againstShip_24 (by decide) ?_
      refine r_fnV (M2 := m_X13_inState) (As := [.int (nI (l)), .int (nI (0))]) (rest := []) (v := some (.int (nI (inS g l 0)))) dX13_againstShip_25 cc_X13_againstShip_175 rfl rfl rfl (Nat.le_of_ble_eq_true rfl) hs.1 rfl rfl (by decide) (g_inState hs hb (by (first | omega | (have : inS g l 0 ≤ g (90 + 13 * l + 1) := cnt_le _ _; omega))) (by (first | omega | (have : inS g l 0 ≤ g (90 + 13 * l + 1) := cnt_le _ _; omega))) (by (first | omega | (have : inS g l 0 ≤ g (90 + 13 * l + 1) := cnt_le _ _; omega)))) rfl ?_
      refine r_if_neN (tgt := 35) dX13_againstShip_28 (by decide) (by (first | omega | (have : inS g l 0 ≤ g (90 + 13 * l + 1) := cnt_le _ _; omega))) (fun h28 => ?_) (fun h28 => ?_)
      · exact absurd h (fun q => by rcases q with q | q <;> first | exact zz5 q | exact h19 q | exact h28 q | exact q zz5 | exact q h19 | exact q h28)
      · refine r_iconst (v := nI 2) dX13_againstShip_31 (by decide) ?_
        refine r_goto (tgt := 40) dX13_againstShip_32 (by decide) ?_
        exact r_iret (ty := .int) dX13_againstShip_40 rfl rfl ⟨rfl, rfl⟩
set_option maxRecDepth 4000 in
theorem p_aShp_0 {G : GI} {T : Hp} {m : Nat} {V : RVal} {g : Nat → Nat} {od : Nat → UInt64} (hs : RS T m)  (h24 : g 0 ≤ 24) (hb : WB g) {l : Nat} (hl : l < g 0) (hz : g (90 + 13 * l + 1) ≤ 200) (hst : g (90 + 13 * l + 2) < 4) (hp : g (90 + 13 * l + 0) < 4) (hsv : g (22 + 10 * g (90 + 13 * l + 0) + 3) ≤ 3) (h : ¬ (¬ g (90 + 13 * l + 2) = 1 ∨ inS g l 0 = 0)) : Fn m_X13_againstShip G [.ref (m), .int (nI (l))] (rput T m (sg V g) od) (some (.int (nI (0)))) (rput T m (sg V (g)) od) := by
  refine Cn.of rfl (by decide) (Nat.le_of_ble_eq_true rfl) (fun hN hM => ?_)
  show Wx _ G _ 0 [(0, .ref (m)), (1, .int (nI (l)))] [] _
  refine r_aload_n dX13_againstShip_0 rfl 0 rfl ?_
  refine r_iload_n dX13_againstShip_1 rfl 1 rfl ?_
  refine r_fnV (M2 := m_X13_isLot) (As := [.int (nI (l))]) (rest := []) (v := some (.int (nI (1)))) dX13_againstShip_2 cc_X13_againstShip_76 rfl rfl rfl (Nat.le_of_ble_eq_true rfl) hs.1 rfl rfl (by decide) (Fn.eq (g_isLot hs h24) (congrArg (fun x => some (Value.int x)) (bI_t (vp_in_nI (by (first | omega | (have : inS g l 0 ≤ g (90 + 13 * l + 1) := cnt_le _ _; omega))) (by first | decide | omega)))) rfl) rfl ?_
  refine r_if_eqN (tgt := 39) dX13_againstShip_5 (by decide) (by (first | omega | (have : inS g l 0 ≤ g (90 + 13 * l + 1) := cnt_le _ _; omega))) (fun zz5 => ?_) (fun zz5 => ?_)
  · exact absurd zz5 (by decide)
  · refine r_aload_n dX13_againstShip_8 rfl 0 rfl ?_
    refine m_ref (k := 0) (j := 1) hs hs.2.1.1 dX13_againstShip_9 fr_X13_7 rfl ?_
    refine r_iload_n dX13_againstShip_12 rfl 1 rfl ?_
    refine r_iconst (v := nI 2) dX13_againstShip_13 (by decide) ?_
    refine r_fnS (M2 := m_X13_at) (As := [.int (nI (l)), .int (nI (2))]) (rest := [.ref (m + 1)]) (v := some (.int (nI (90 + 13 * l + 2)))) dX13_againstShip_14 cc_X13_againstShip_72 rfl rfl rfl (Nat.le_of_ble_eq_true rfl) f_at rfl ?_
    refine g_iald (i := 90 + 13 * l + 2) hs dX13_againstShip_17 (by (first | omega | (have : inS g l 0 ≤ g (90 + 13 * l + 1) := cnt_le _ _; omega))) ?_
    refine r_iconst (v := nI 1) dX13_againstShip_18 (by decide) ?_
    refine r_icmp_neN (tgt := 31) dX13_againstShip_19 (by decide) (by (first | omega | (have : inS g l 0 ≤ g (90 + 13 * l + 1) := cnt_le _ _; omega))) (by (first | omega | (have : inS g l 0 ≤ g (90 + 13 * l + 1) := cnt_le _ _; omega))) (fun h19 => ?_) (fun h19 => ?_)
    · exact absurd (by first | exact Or.inl h19 | exact Or.inr h19) h
    · refine r_aload_n dX13_againstShip_22 rfl 0 rfl ?_
      refine r_iload_n dX13_againstShip_23 rfl 1 rfl ?_
      refine r_iconst (v := nI 0) dX13_againstShip_24 (by decide) ?_
      refine r_fnV (M2 := m_X13_inState) (As := [.int (nI (l)), .int (nI (0))]) (rest := []) (v := some (.int (nI (inS g l 0)))) dX13_againstShip_25 cc_X13_againstShip_175 rfl rfl rfl (Nat.le_of_ble_eq_true rfl) hs.1 rfl rfl (by decide) (g_inState hs hb (by (first | omega | (have : inS g l 0 ≤ g (90 + 13 * l + 1) := cnt_le _ _; omega))) (by (first | omega | (have : inS g l 0 ≤ g (90 + 13 * l + 1) := cnt_le _ _; omega))) (by (first | omega | (have : inS g l 0 ≤ g (90 + 13 * l + 1) := cnt_le _ _; omega)))) rfl ?_
      refine r_if_neN (tgt := 35) dX13_againstShip_28 (by decide) (by (first | omega | (have : inS g l 0 ≤ g (90 + 13 * l + 1) := cnt_le _ _; omega))) (fun h28 => ?_) (fun h28 => ?_)
      · refine r_iconst (v := nI 0) dX13_againstShip_35 (by decide) ?_
        refine r_goto (tgt := 40) dX13_againstShip_36 (by decide) ?_
        exact r_iret (ty := .int) dX13_againstShip_40 rfl rfl ⟨rfl, rfl⟩
      · exact absurd (by first | exact Or.inl h28 | exact Or.inr h28) h
set_option maxRecDepth 4000 in
theorem c_inspect_1 {G : GI} {T : Hp} {m : Nat} {V : RVal} {g : Nat → Nat} {od : Nat → UInt64} (hs : RS T m)  (h24 : g 0 ≤ 24) {x : Int32} (hx : ¬ vp_in x (g 0)) : Fn m_X13_inspect G [.ref (m), .int (x)] (rput T m (sg V g) od) (some (.int (nI (0)))) (rput T m (sg (up2 V 0 (6) (nI 1)) (g)) od) := by
  refine Cn.of rfl (by decide) (Nat.le_of_ble_eq_true rfl) (fun hN hM => ?_)
  show Wx _ G _ 0 [(0, .ref (m)), (1, .int (x))] [] _
  refine r_aload_n dX13_inspect_0 rfl 0 rfl ?_
  refine r_aload_n dX13_inspect_1 rfl 0 rfl ?_
  refine r_iload_n dX13_inspect_2 rfl 1 rfl ?_
  refine r_fnV (M2 := m_X13_againstInspect) (As := [.int (x)]) (rest := [.ref (m)]) (v := some (.int (nI (1)))) dX13_inspect_3 cc_X13_inspect_233 rfl rfl rfl (Nat.le_of_ble_eq_true rfl) hs.1 rfl rfl (by decide) (p_aIns_1 hs h24 hx) rfl ?_
  refine o_put (k := 6) hs dX13_inspect_6 fw_X13_inspect_54 rfl rfl rfl ?_
  refine r_aload_n dX13_inspect_9 rfl 0 rfl ?_
  refine o_get (k := 6) hs dX13_inspect_10 fr_X13_54 rfl ?_
  refine Wx.top up2_s ?_
  refine r_if_leN (tgt := 18) dX13_inspect_13 (by decide) (by omega) (fun zz13 => ?_) (fun zz13 => ?_)
  · exact absurd zz13 (by decide)
  · refine r_iconst (v := nI 0) dX13_inspect_16 (by decide) ?_
    exact r_iret (ty := .int) dX13_inspect_17 rfl rfl ⟨rfl, rfl⟩
set_option maxRecDepth 4000 in
theorem c_inspect_2 {G : GI} {T : Hp} {m : Nat} {V : RVal} {g : Nat → Nat} {od : Nat → UInt64} (hs : RS T m)  (h24 : g 0 ≤ 24) (hb : WB g) {l : Nat} (hl : l < g 0) (hz : g (90 + 13 * l + 1) ≤ 200) (hst : g (90 + 13 * l + 2) < 4) (hp : g (90 + 13 * l + 0) < 4) (hsv : g (22 + 10 * g (90 + 13 * l + 0) + 3) ≤ 3) (h : ¬ g (90 + 13 * l + 2) = 0 ∨ inS g l 0 = 0 ∨ g (22 + 10 * g (90 + 13 * l + 0) + 3) = 3) : Fn m_X13_inspect G [.ref (m), .int (nI (l))] (rput T m (sg V g) od) (some (.int (nI (0)))) (rput T m (sg (up2 V 0 (6) (nI 2)) (g)) od) := by
  refine Cn.of rfl (by decide) (Nat.le_of_ble_eq_true rfl) (fun hN hM => ?_)
  show Wx _ G _ 0 [(0, .ref (m)), (1, .int (nI (l)))] [] _
  refine r_aload_n dX13_inspect_0 rfl 0 rfl ?_
  refine r_aload_n dX13_inspect_1 rfl 0 rfl ?_
  refine r_iload_n dX13_inspect_2 rfl 1 rfl ?_
  refine r_fnV (M2 := m_X13_againstInspect) (As := [.int (nI (l))]) (rest := [.ref (m)]) (v := some (.int (nI (2)))) dX13_inspect_3 cc_X13_inspect_233 rfl rfl rfl (Nat.le_of_ble_eq_true rfl) hs.1 rfl rfl (by decide) (p_aIns_2 hs h24 hb hl hz hst hp hsv h) rfl ?_
  refine o_put (k := 6) hs dX13_inspect_6 fw_X13_inspect_54 rfl rfl rfl ?_
  refine r_aload_n dX13_inspect_9 rfl 0 rfl ?_
  refine o_get (k := 6) hs dX13_inspect_10 fr_X13_54 rfl ?_
  refine Wx.top up2_s ?_
  refine r_if_leN (tgt := 18) dX13_inspect_13 (by decide) (by omega) (fun zz13 => ?_) (fun zz13 => ?_)
  · exact absurd zz13 (by decide)
  · refine r_iconst (v := nI 0) dX13_inspect_16 (by decide) ?_
    exact r_iret (ty := .int) dX13_inspect_17 rfl rfl ⟨rfl, rfl⟩
set_option maxRecDepth 4000 in
theorem c_inspect_0 {G : GI} {T : Hp} {m : Nat} {V : RVal} {g : Nat → Nat} {od : Nat → UInt64} (hs : RS T m)  (h24 : g 0 ≤ 24) (hb : WB g) {l : Nat} (hl : l < g 0) (hz : g (90 + 13 * l + 1) ≤ 200) (hst : g (90 + 13 * l + 2) < 4) (hp : g (90 + 13 * l + 0) < 4) (hsv : g (22 + 10 * g (90 + 13 * l + 0) + 3) ≤ 3) (h : ¬ (¬ g (90 + 13 * l + 2) = 0 ∨ inS g l 0 = 0 ∨ g (22 + 10 * g (90 + 13 * l + 0) + 3) = 3)) {V2 : RVal} (hch : Fn m_X13_changes G [.ref (m), .ref (m + 1)] (rput T m (sg (up2 V 0 (6) (nI 0)) g) od) none (rput T m (sg V2 g) od)) {V3 : RVal} {g2 : Nat → Nat} {v : Nat} (hnow : Fx m_X13_inspectNow G [.ref (m), .int (nI (l))] (rput T m (sg V2 g) od) (some (.int (nI (v)))) (fun x y => rput T m (sg (l78 V3 x y) g2) od)) : Fx m_X13_inspect G [.ref (m), .int (nI (l))] (rput T m (sg V g) od) (some (.int (nI (v)))) (fun x y => rput T m (sg (l78 V3 x y) g2) od) := by
  refine Cn.of rfl (by decide) (Nat.le_of_ble_eq_true rfl) (fun hN hM => ?_)
  show Wx _ G _ 0 [(0, .ref (m)), (1, .int (nI (l)))] [] _
  refine r_aload_n dX13_inspect_0 rfl 0 rfl ?_
  refine r_aload_n dX13_inspect_1 rfl 0 rfl ?_
  refine r_iload_n dX13_inspect_2 rfl 1 rfl ?_
  refine r_fnV (M2 := m_X13_againstInspect) (As := [.int (nI (l))]) (rest := [.ref (m)]) (v := some (.int (nI (0)))) dX13_inspect_3 cc_X13_inspect_233 rfl rfl rfl (Nat.le_of_ble_eq_true rfl) hs.1 rfl rfl (by decide) (p_aIns_0 hs h24 hb hl hz hst hp hsv h) rfl ?_
  refine o_put (k := 6) hs dX13_inspect_6 fw_X13_inspect_54 rfl rfl rfl ?_
  refine r_aload_n dX13_inspect_9 rfl 0 rfl ?_
  refine o_get (k := 6) hs dX13_inspect_10 fr_X13_54 rfl ?_
  refine Wx.top up2_s ?_
  refine r_if_leN (tgt := 18) dX13_inspect_13 (by decide) (by omega) (fun zz13 => ?_) (fun zz13 => ?_)
  · refine r_aload_n dX13_inspect_18 rfl 0 rfl ?_
    refine r_aload_n dX13_inspect_19 rfl 0 rfl ?_
    refine m_ref (k := 0) (j := 1) hs hs.2.1.1 dX13_inspect_20 fr_X13_7 rfl ?_
    refine r_fnV (M2 := m_X13_changes) (As := [.ref (m + 1)]) (rest := []) (v := none) dX13_inspect_23 cc_X13_inspect_111 rfl rfl rfl (Nat.le_of_ble_eq_true rfl) hs.1 rfl rfl (by decide) hch rfl ?_
    refine r_aload_n dX13_inspect_26 rfl 0 rfl ?_
    refine r_iload_n dX13_inspect_27 rfl 1 rfl ?_
    refine r_fxV (M2 := m_X13_inspectNow) (As := [.int (nI (l))]) (rest := []) (v := some (.int (nI (v)))) dX13_inspect_28 cc_X13_inspect_236 rfl rfl rfl (Nat.le_of_ble_eq_true rfl) hs.1 rfl rfl (by decide) hnow rfl (fun x y => ?_)
    exact r_iret (ty := .int) dX13_inspect_31 rfl rfl ⟨rfl, x, y, rfl⟩
  · exact absurd zz13 (by decide)
set_option maxRecDepth 4000 in
theorem c_sort_1 {G : GI} {T : Hp} {m : Nat} {V : RVal} {g : Nat → Nat} {od : Nat → UInt64} (hs : RS T m)  (h24 : g 0 ≤ 24) {x : Int32} (hx : ¬ vp_in x (g 0)) : Fn m_X13_sort G [.ref (m), .int (x)] (rput T m (sg V g) od) (some (.int (nI (0)))) (rput T m (sg (up2 V 0 (6) (nI 1)) (g)) od) := by
  refine Cn.of rfl (by decide) (Nat.le_of_ble_eq_true rfl) (fun hN hM => ?_)
  show Wx _ G _ 0 [(0, .ref (m)), (1, .int (x))] [] _
  refine r_aload_n dX13_sort_0 rfl 0 rfl ?_
  refine r_aload_n dX13_sort_1 rfl 0 rfl ?_
  refine r_iload_n dX13_sort_2 rfl 1 rfl ?_
  refine r_fnV (M2 := m_X13_againstSort) (As := [.int (x)]) (rest := [.ref (m)]) (v := some (.int (nI (1)))) dX13_sort_3 cc_X13_sort_248 rfl rfl rfl (Nat.le_of_ble_eq_true rfl) hs.1 rfl rfl (by decide) (p_aSor_1 hs h24 hx) rfl ?_
  refine o_put (k := 6) hs dX13_sort_6 fw_X13_sort_54 rfl rfl rfl ?_
  refine r_aload_n dX13_sort_9 rfl 0 rfl ?_
  refine o_get (k := 6) hs dX13_sort_10 fr_X13_54 rfl ?_
  refine Wx.top up2_s ?_
  refine r_if_leN (tgt := 18) dX13_sort_13 (by decide) (by omega) (fun zz13 => ?_) (fun zz13 => ?_)
  · exact absurd zz13 (by decide)
  · refine r_iconst (v := nI 0) dX13_sort_16 (by decide) ?_
    exact r_iret (ty := .int) dX13_sort_17 rfl rfl ⟨rfl, rfl⟩
set_option maxRecDepth 4000 in
theorem c_sort_2 {G : GI} {T : Hp} {m : Nat} {V : RVal} {g : Nat → Nat} {od : Nat → UInt64} (hs : RS T m)  (h24 : g 0 ≤ 24) (hb : WB g) {l : Nat} (hl : l < g 0) (hz : g (90 + 13 * l + 1) ≤ 200) (hst : g (90 + 13 * l + 2) < 4) (hp : g (90 + 13 * l + 0) < 4) (hsv : g (22 + 10 * g (90 + 13 * l + 0) + 3) ≤ 3) (h : ¬ g (90 + 13 * l + 2) = 2) : Fn m_X13_sort G [.ref (m), .int (nI (l))] (rput T m (sg V g) od) (some (.int (nI (0)))) (rput T m (sg (up2 V 0 (6) (nI 2)) (g)) od) := by
  refine Cn.of rfl (by decide) (Nat.le_of_ble_eq_true rfl) (fun hN hM => ?_)
  show Wx _ G _ 0 [(0, .ref (m)), (1, .int (nI (l)))] [] _
  refine r_aload_n dX13_sort_0 rfl 0 rfl ?_
  refine r_aload_n dX13_sort_1 rfl 0 rfl ?_
  refine r_iload_n dX13_sort_2 rfl 1 rfl ?_
  refine r_fnV (M2 := m_X13_againstSort) (As := [.int (nI (l))]) (rest := [.ref (m)]) (v := some (.int (nI (2)))) dX13_sort_3 cc_X13_sort_248 rfl rfl rfl (Nat.le_of_ble_eq_true rfl) hs.1 rfl rfl (by decide) (p_aSor_2 hs h24 hb hl hz hst hp hsv h) rfl ?_
  refine o_put (k := 6) hs dX13_sort_6 fw_X13_sort_54 rfl rfl rfl ?_
  refine r_aload_n dX13_sort_9 rfl 0 rfl ?_
  refine o_get (k := 6) hs dX13_sort_10 fr_X13_54 rfl ?_
  refine Wx.top up2_s ?_
  refine r_if_leN (tgt := 18) dX13_sort_13 (by decide) (by omega) (fun zz13 => ?_) (fun zz13 => ?_)
  · exact absurd zz13 (by decide)
  · refine r_iconst (v := nI 0) dX13_sort_16 (by decide) ?_
    exact r_iret (ty := .int) dX13_sort_17 rfl rfl ⟨rfl, rfl⟩
set_option maxRecDepth 4000 in
theorem c_sort_0 {G : GI} {T : Hp} {m : Nat} {V : RVal} {g : Nat → Nat} {od : Nat → UInt64} (hs : RS T m)  (h24 : g 0 ≤ 24) (hb : WB g) {l : Nat} (hl : l < g 0) (hz : g (90 + 13 * l + 1) ≤ 200) (hst : g (90 + 13 * l + 2) < 4) (hp : g (90 + 13 * l + 0) < 4) (hsv : g (22 + 10 * g (90 + 13 * l + 0) + 3) ≤ 3) (h : g (90 + 13 * l + 2) = 2) {V2 : RVal} (hch : Fn m_X13_changes G [.ref (m), .ref (m + 1)] (rput T m (sg (up2 V 0 (6) (nI 0)) g) od) none (rput T m (sg V2 g) od)) {V3 : RVal} {g2 : Nat → Nat} {v : Nat} (hnow : Fx m_X13_sortNow G [.ref (m), .int (nI (l))] (rput T m (sg V2 g) od) (some (.int (nI (v)))) (fun x y => rput T m (sg (l78 V3 x y) g2) od)) : Fx m_X13_sort G [.ref (m), .int (nI (l))] (rput T m (sg V g) od) (some (.int (nI (v)))) (fun x y => rput T m (sg (l78 V3 x y) g2) od) := by
  refine Cn.of rfl (by decide) (Nat.le_of_ble_eq_true rfl) (fun hN hM => ?_)
  show Wx _ G _ 0 [(0, .ref (m)), (1, .int (nI (l)))] [] _
  refine r_aload_n dX13_sort_0 rfl 0 rfl ?_
  refine r_aload_n dX13_sort_1 rfl 0 rfl ?_
  refine r_iload_n dX13_sort_2 rfl 1 rfl ?_
  refine r_fnV (M2 := m_X13_againstSort) (As := [.int (nI (l))]) (rest := [.ref (m)]) (v := some (.int (nI (0)))) dX13_sort_3 cc_X13_sort_248 rfl rfl rfl (Nat.le_of_ble_eq_true rfl) hs.1 rfl rfl (by decide) (p_aSor_0 hs h24 hb hl hz hst hp hsv h) rfl ?_
  refine o_put (k := 6) hs dX13_sort_6 fw_X13_sort_54 rfl rfl rfl ?_
  refine r_aload_n dX13_sort_9 rfl 0 rfl ?_
  refine o_get (k := 6) hs dX13_sort_10 fr_X13_54 rfl ?_
  refine Wx.top up2_s ?_
  refine r_if_leN (tgt := 18) dX13_sort_13 (by decide) (by omega) (fun zz13 => ?_) (fun zz13 => ?_)
  · refine r_aload_n dX13_sort_18 rfl 0 rfl ?_
    refine r_aload_n dX13_sort_19 rfl 0 rfl ?_
    refine m_ref (k := 0) (j := 1) hs hs.2.1.1 dX13_sort_20 fr_X13_7 rfl ?_
    refine r_fnV (M2 := m_X13_changes) (As := [.ref (m + 1)]) (rest := []) (v := none) dX13_sort_23 cc_X13_sort_111 rfl rfl rfl (Nat.le_of_ble_eq_true rfl) hs.1 rfl rfl (by decide) hch rfl ?_
    refine r_aload_n dX13_sort_26 rfl 0 rfl ?_
    refine r_iload_n dX13_sort_27 rfl 1 rfl ?_
    refine r_fxV (M2 := m_X13_sortNow) (As := [.int (nI (l))]) (rest := []) (v := some (.int (nI (v)))) dX13_sort_28 cc_X13_sort_251 rfl rfl rfl (Nat.le_of_ble_eq_true rfl) hs.1 rfl rfl (by decide) hnow rfl (fun x y => ?_)
    exact r_iret (ty := .int) dX13_sort_31 rfl rfl ⟨rfl, x, y, rfl⟩
  · exact absurd zz13 (by decide)
set_option maxRecDepth 4000 in
theorem c_ship_1 {G : GI} {T : Hp} {m : Nat} {V : RVal} {g : Nat → Nat} {od : Nat → UInt64} (hs : RS T m)  (h24 : g 0 ≤ 24) {x : Int32} (hx : ¬ vp_in x (g 0)) : Fn m_X13_ship G [.ref (m), .int (x)] (rput T m (sg V g) od) (some (.int (nI (0)))) (rput T m (sg (up2 V 0 (6) (nI 1)) (g)) od) := by
  refine Cn.of rfl (by decide) (Nat.le_of_ble_eq_true rfl) (fun hN hM => ?_)
  show Wx _ G _ 0 [(0, .ref (m)), (1, .int (x))] [] _
  refine r_aload_n dX13_ship_0 rfl 0 rfl ?_
  refine r_aload_n dX13_ship_1 rfl 0 rfl ?_
  refine r_iload_n dX13_ship_2 rfl 1 rfl ?_
  refine r_fnV (M2 := m_X13_againstShip) (As := [.int (x)]) (rest := [.ref (m)]) (v := some (.int (nI (1)))) dX13_ship_3 cc_X13_ship_254 rfl rfl rfl (Nat.le_of_ble_eq_true rfl) hs.1 rfl rfl (by decide) (p_aShp_1 hs h24 hx) rfl ?_
  refine o_put (k := 6) hs dX13_ship_6 fw_X13_ship_54 rfl rfl rfl ?_
  refine r_aload_n dX13_ship_9 rfl 0 rfl ?_
  refine o_get (k := 6) hs dX13_ship_10 fr_X13_54 rfl ?_
  refine Wx.top up2_s ?_
  refine r_if_leN (tgt := 18) dX13_ship_13 (by decide) (by omega) (fun zz13 => ?_) (fun zz13 => ?_)
  · exact absurd zz13 (by decide)
  · refine r_iconst (v := nI 0) dX13_ship_16 (by decide) ?_
    exact r_iret (ty := .int) dX13_ship_17 rfl rfl ⟨rfl, rfl⟩
set_option maxRecDepth 4000 in
theorem c_ship_2 {G : GI} {T : Hp} {m : Nat} {V : RVal} {g : Nat → Nat} {od : Nat → UInt64} (hs : RS T m)  (h24 : g 0 ≤ 24) (hb : WB g) {l : Nat} (hl : l < g 0) (hz : g (90 + 13 * l + 1) ≤ 200) (hst : g (90 + 13 * l + 2) < 4) (hp : g (90 + 13 * l + 0) < 4) (hsv : g (22 + 10 * g (90 + 13 * l + 0) + 3) ≤ 3) (h : ¬ g (90 + 13 * l + 2) = 1 ∨ inS g l 0 = 0) : Fn m_X13_ship G [.ref (m), .int (nI (l))] (rput T m (sg V g) od) (some (.int (nI (0)))) (rput T m (sg (up2 V 0 (6) (nI 2)) (g)) od) := by
  refine Cn.of rfl (by decide) (Nat.le_of_ble_eq_true rfl) (fun hN hM => ?_)
  show Wx _ G _ 0 [(0, .ref (m)), (1, .int (nI (l)))] [] _
  refine r_aload_n dX13_ship_0 rfl 0 rfl ?_
  refine r_aload_n dX13_ship_1 rfl 0 rfl ?_
  refine r_iload_n dX13_ship_2 rfl 1 rfl ?_
  refine r_fnV (M2 := m_X13_againstShip) (As := [.int (nI (l))]) (rest := [.ref (m)]) (v := some (.int (nI (2)))) dX13_ship_3 cc_X13_ship_254 rfl rfl rfl (Nat.le_of_ble_eq_true rfl) hs.1 rfl rfl (by decide) (p_aShp_2 hs h24 hb hl hz hst hp hsv h) rfl ?_
  refine o_put (k := 6) hs dX13_ship_6 fw_X13_ship_54 rfl rfl rfl ?_
  refine r_aload_n dX13_ship_9 rfl 0 rfl ?_
  refine o_get (k := 6) hs dX13_ship_10 fr_X13_54 rfl ?_
  refine Wx.top up2_s ?_
  refine r_if_leN (tgt := 18) dX13_ship_13 (by decide) (by omega) (fun zz13 => ?_) (fun zz13 => ?_)
  · exact absurd zz13 (by decide)
  · refine r_iconst (v := nI 0) dX13_ship_16 (by decide) ?_
    exact r_iret (ty := .int) dX13_ship_17 rfl rfl ⟨rfl, rfl⟩
set_option maxRecDepth 4000 in
theorem c_ship_0 {G : GI} {T : Hp} {m : Nat} {V : RVal} {g : Nat → Nat} {od : Nat → UInt64} (hs : RS T m)  (h24 : g 0 ≤ 24) (hb : WB g) {l : Nat} (hl : l < g 0) (hz : g (90 + 13 * l + 1) ≤ 200) (hst : g (90 + 13 * l + 2) < 4) (hp : g (90 + 13 * l + 0) < 4) (hsv : g (22 + 10 * g (90 + 13 * l + 0) + 3) ≤ 3) (h : ¬ (¬ g (90 + 13 * l + 2) = 1 ∨ inS g l 0 = 0)) {V2 : RVal} (hch : Fn m_X13_changes G [.ref (m), .ref (m + 1)] (rput T m (sg (up2 V 0 (6) (nI 0)) g) od) none (rput T m (sg V2 g) od)) {V3 : RVal} {g2 : Nat → Nat} {v : Nat} (hnow : Fn m_X13_shipNow G [.ref (m), .int (nI (l))] (rput T m (sg V2 g) od) (some (.int (nI (v)))) (rput T m (sg V3 g2) od)) : Fn m_X13_ship G [.ref (m), .int (nI (l))] (rput T m (sg V g) od) (some (.int (nI (v)))) (rput T m (sg V3 (g2)) od) := by
  refine Cn.of rfl (by decide) (Nat.le_of_ble_eq_true rfl) (fun hN hM => ?_)
  show Wx _ G _ 0 [(0, .ref (m)), (1, .int (nI (l)))] [] _
  refine r_aload_n dX13_ship_0 rfl 0 rfl ?_
  refine r_aload_n dX13_ship_1 rfl 0 rfl ?_
  refine r_iload_n dX13_ship_2 rfl 1 rfl ?_
  refine r_fnV (M2 := m_X13_againstShip) (As := [.int (nI (l))]) (rest := [.ref (m)]) (v := some (.int (nI (0)))) dX13_ship_3 cc_X13_ship_254 rfl rfl rfl (Nat.le_of_ble_eq_true rfl) hs.1 rfl rfl (by decide) (p_aShp_0 hs h24 hb hl hz hst hp hsv h) rfl ?_
  refine o_put (k := 6) hs dX13_ship_6 fw_X13_ship_54 rfl rfl rfl ?_
  refine r_aload_n dX13_ship_9 rfl 0 rfl ?_
  refine o_get (k := 6) hs dX13_ship_10 fr_X13_54 rfl ?_
  refine Wx.top up2_s ?_
  refine r_if_leN (tgt := 18) dX13_ship_13 (by decide) (by omega) (fun zz13 => ?_) (fun zz13 => ?_)
  · refine r_aload_n dX13_ship_18 rfl 0 rfl ?_
    refine r_aload_n dX13_ship_19 rfl 0 rfl ?_
    refine m_ref (k := 0) (j := 1) hs hs.2.1.1 dX13_ship_20 fr_X13_7 rfl ?_
    refine r_fnV (M2 := m_X13_changes) (As := [.ref (m + 1)]) (rest := []) (v := none) dX13_ship_23 cc_X13_ship_111 rfl rfl rfl (Nat.le_of_ble_eq_true rfl) hs.1 rfl rfl (by decide) hch rfl ?_
    refine r_aload_n dX13_ship_26 rfl 0 rfl ?_
    refine r_iload_n dX13_ship_27 rfl 1 rfl ?_
    refine r_fnV (M2 := m_X13_shipNow) (As := [.int (nI (l))]) (rest := []) (v := some (.int (nI (v)))) dX13_ship_28 cc_X13_ship_257 rfl rfl rfl (Nat.le_of_ble_eq_true rfl) hs.1 rfl rfl (by decide) hnow rfl ?_
    exact r_iret (ty := .int) dX13_ship_31 rfl rfl ⟨rfl, rfl⟩
  · exact absurd zz13 (by decide)
