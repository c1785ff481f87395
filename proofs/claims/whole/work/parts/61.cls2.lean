set_option maxRecDepth 4000 in
theorem k_sample_2 {G : GI} {S : Hp} {n : Nat} (hn : n ≤ 200) : Fn m_X8_sampleSize G [.int (nI n), .int (nI 2)] S (some (.int (nI (smpN n 2)))) S := by
  refine Cn.of rfl (by decide) (Nat.le_of_ble_eq_true rfl) (fun hN hM => ?_)
  show Wx _ G _ 0 [(0, .int (nI (n))), (1, .int (nI (2)))] [] _
  refine r_iconst (v := nI 0) dX8_sampleSize_0 (by decide) ?_
  refine r_istore_n (lv' := [(2, .int (nI (0))), (0, .int (nI (n))), (1, .int (nI (2)))]) dX8_sampleSize_1 rfl (by decide) rfl ?_
  refine r_iload_n dX8_sampleSize_2 rfl 0 rfl ?_
  refine r_gets (C := "LotInspector$Product") (n := "BAND_ENDS") (d := "[I") (v := .ref (gK G 0 0)) (fun U h => h.2.1.1) dX8_sampleSize_3 (sg3 200 rfl rfl) ?_
  refine r_alenT (fun U h => h.2.1.2.1) dX8_sampleSize_6 ?_
  refine r_icmp_geN (tgt := 25) dX8_sampleSize_7 (by decide) (by omega) (by omega) (fun zz7 => ?_) (fun zz7 => ?_)
  · exact absurd zz7 (by decide)
  · refine r_iload_n dX8_sampleSize_10 rfl 1 rfl ?_
    refine r_gets (C := "LotInspector$Product") (n := "BAND_ENDS") (d := "[I") (v := .ref (gK G 0 0)) (fun U h => h.2.1.1) dX8_sampleSize_11 (sg3 200 rfl rfl) ?_
    refine r_iload_n dX8_sampleSize_14 rfl 0 rfl ?_
    refine r_ialdT (fun U h => h.2.1.2.1) dX8_sampleSize_15 (vp_in_nI (by decide) (by decide)) ?_
    refine Wx.top (x := bandE (nI 0).toNatClampNeg) (y := nI 8) (by decide) ?_
    refine r_icmp_leN (tgt := 25) dX8_sampleSize_16 (by decide) (by omega) (by omega) (fun h16 => ?_) (fun h16 => ?_)
    · refine r_iload_n dX8_sampleSize_25 rfl 2 rfl ?_
      refine r_iconst (v := nI 2) dX8_sampleSize_26 (by decide) ?_
      refine r_icmp_neN (tgt := 38) dX8_sampleSize_27 (by decide) (by omega) (by omega) (fun zz27 => ?_) (fun zz27 => ?_)
      · exact absurd zz27 (by decide)
      · refine r_iload_n dX8_sampleSize_30 rfl 0 rfl ?_
        refine r_iconst (v := nI 2) dX8_sampleSize_31 (by decide) ?_
        refine r_isub dX8_sampleSize_32 ?_
        refine r_iconst (v := nI 0) dX8_sampleSize_33 (by decide) ?_
        refine r_fnS (M2 := m_J9_max_7cf53) (As := [.int (nI 0 - nI 2), .int (nI (0))]) (rest := []) (v := some (.int (nI (0)))) dX8_sampleSize_34 cc_X8_sampleSize_49 rfl rfl rfl (Nat.le_of_ble_eq_true rfl) (Fn.eq j_maxI (by decide) rfl) rfl ?_
        refine r_istore_n (lv' := [(2, .int (nI (0))), (0, .int (nI (n))), (1, .int (nI (2)))]) dX8_sampleSize_37 rfl (by decide) rfl ?_
        refine r_iload_n dX8_sampleSize_38 rfl 0 rfl ?_
        refine r_gets (C := "LotInspector$Product") (n := "SIZES") (d := "[I") (v := .ref (gK G 0 1)) (fun U h => h.2.1.2.2.1) dX8_sampleSize_39 (sg3 205 rfl rfl) ?_
        refine r_alenT (fun U h => h.2.1.2.2.2.1) dX8_sampleSize_42 ?_
        refine r_icmp_geN (tgt := 54) dX8_sampleSize_43 (by decide) (by omega) (by omega) (fun zz43 => ?_) (fun zz43 => ?_)
        · exact absurd zz43 (by decide)
        · refine r_gets (C := "LotInspector$Product") (n := "SIZES") (d := "[I") (v := .ref (gK G 0 1)) (fun U h => h.2.1.2.2.1) dX8_sampleSize_46 (sg3 205 rfl rfl) ?_
          refine r_iload_n dX8_sampleSize_49 rfl 0 rfl ?_
          refine r_ialdT (fun U h => h.2.1.2.2.2.1) dX8_sampleSize_50 (vp_in_nI (by decide) (by decide)) ?_
          refine Wx.top (x := sizeE (nI 0).toNatClampNeg) (y := nI 2) (by decide) ?_
          refine r_goto (tgt := 55) dX8_sampleSize_51 (by decide) ?_
          refine r_istore_n (lv' := [(3, .int (nI (2))), (2, .int (nI (0))), (0, .int (nI (n))), (1, .int (nI (2)))]) dX8_sampleSize_55 rfl (by decide) rfl ?_
          refine r_iload_n dX8_sampleSize_56 rfl 0 rfl ?_
          refine r_iload_n dX8_sampleSize_57 rfl 2 rfl ?_
          refine r_fnS (M2 := m_J9_min_7cf53) (As := [.int (nI (2)), .int (nI (n))]) (rest := []) (v := some (.int (nI (Nat.min 2 n)))) dX8_sampleSize_58 cc_X8_sampleSize_58 rfl rfl rfl (Nat.le_of_ble_eq_true rfl) (j_min (by omega) (by omega)) rfl ?_
          have e : Nat.min 2 n = smpN n 2 := by
            have hb : bandN n = 0 := by unfold bandN; rw [if_pos (by omega)]
            unfold smpN
            rw [hb, if_pos rfl]
            rfl
          exact r_iret (ty := .int) dX8_sampleSize_61 rfl rfl ⟨congrArg (fun x => Sum.inl (some (Value.int (nI x)))) e, rfl⟩
    · refine r_iincN (k := 1) (lv' := [(2, .int (nI (1))), (0, .int (nI (n))), (1, .int (nI (2)))]) dX8_sampleSize_19 (by decide) 0 rfl (by decide) rfl ?_
      refine r_goto (tgt := 2) dX8_sampleSize_22 (by decide) ?_
      refine r_iload_n dX8_sampleSize_2 rfl 0 rfl ?_
      refine r_gets (C := "LotInspector$Product") (n := "BAND_ENDS") (d := "[I") (v := .ref (gK G 0 0)) (fun U h => h.2.1.1) dX8_sampleSize_3 (sg3 200 rfl rfl) ?_
      refine r_alenT (fun U h => h.2.1.2.1) dX8_sampleSize_6 ?_
      refine r_icmp_geN (tgt := 25) dX8_sampleSize_7 (by decide) (by omega) (by omega) (fun zz7_1 => ?_) (fun zz7_1 => ?_)
      · exact absurd zz7_1 (by decide)
      · refine r_iload_n dX8_sampleSize_10 rfl 1 rfl ?_
        refine r_gets (C := "LotInspector$Product") (n := "BAND_ENDS") (d := "[I") (v := .ref (gK G 0 0)) (fun U h => h.2.1.1) dX8_sampleSize_11 (sg3 200 rfl rfl) ?_
        refine r_iload_n dX8_sampleSize_14 rfl 0 rfl ?_
        refine r_ialdT (fun U h => h.2.1.2.1) dX8_sampleSize_15 (vp_in_nI (by decide) (by decide)) ?_
        refine Wx.top (x := bandE (nI 1).toNatClampNeg) (y := nI 15) (by decide) ?_
        refine r_icmp_leN (tgt := 25) dX8_sampleSize_16 (by decide) (by omega) (by omega) (fun h16_1 => ?_) (fun h16_1 => ?_)
        · refine r_iload_n dX8_sampleSize_25 rfl 2 rfl ?_
          refine r_iconst (v := nI 2) dX8_sampleSize_26 (by decide) ?_
          refine r_icmp_neN (tgt := 38) dX8_sampleSize_27 (by decide) (by omega) (by omega) (fun zz27_1 => ?_) (fun zz27_1 => ?_)
          · exact absurd zz27_1 (by decide)
          · refine r_iload_n dX8_sampleSize_30 rfl 0 rfl ?_
            refine r_iconst (v := nI 2) dX8_sampleSize_31 (by decide) ?_
            refine r_isub dX8_sampleSize_32 ?_
            refine r_iconst (v := nI 0) dX8_sampleSize_33 (by decide) ?_
            refine r_fnS (M2 := m_J9_max_7cf53) (As := [.int (nI 1 - nI 2), .int (nI (0))]) (rest := []) (v := some (.int (nI (0)))) dX8_sampleSize_34 cc_X8_sampleSize_49 rfl rfl rfl (Nat.le_of_ble_eq_true rfl) (Fn.eq j_maxI (by decide) rfl) rfl ?_
            refine r_istore_n (lv' := [(2, .int (nI (0))), (0, .int (nI (n))), (1, .int (nI (2)))]) dX8_sampleSize_37 rfl (by decide) rfl ?_
            refine r_iload_n dX8_sampleSize_38 rfl 0 rfl ?_
            refine r_gets (C := "LotInspector$Product") (n := "SIZES") (d := "[I") (v := .ref (gK G 0 1)) (fun U h => h.2.1.2.2.1) dX8_sampleSize_39 (sg3 205 rfl rfl) ?_
            refine r_alenT (fun U h => h.2.1.2.2.2.1) dX8_sampleSize_42 ?_
            refine r_icmp_geN (tgt := 54) dX8_sampleSize_43 (by decide) (by omega) (by omega) (fun zz43_1 => ?_) (fun zz43_1 => ?_)
            · exact absurd zz43_1 (by decide)
            · refine r_gets (C := "LotInspector$Product") (n := "SIZES") (d := "[I") (v := .ref (gK G 0 1)) (fun U h => h.2.1.2.2.1) dX8_sampleSize_46 (sg3 205 rfl rfl) ?_
              refine r_iload_n dX8_sampleSize_49 rfl 0 rfl ?_
              refine r_ialdT (fun U h => h.2.1.2.2.2.1) dX8_sampleSize_50 (vp_in_nI (by decide) (by decide)) ?_
              refine Wx.top (x := sizeE (nI 0).toNatClampNeg) (y := nI 2) (by decide) ?_
              refine r_goto (tgt := 55) dX8_sampleSize_51 (by decide) ?_
              refine r_istore_n (lv' := [(3, .int (nI (2))), (2, .int (nI (0))), (0, .int (nI (n))), (1, .int (nI (2)))]) dX8_sampleSize_55 rfl (by decide) rfl ?_
              refine r_iload_n dX8_sampleSize_56 rfl 0 rfl ?_
              refine r_iload_n dX8_sampleSize_57 rfl 2 rfl ?_
              refine r_fnS (M2 := m_J9_min_7cf53) (As := [.int (nI (2)), .int (nI (n))]) (rest := []) (v := some (.int (nI (Nat.min 2 n)))) dX8_sampleSize_58 cc_X8_sampleSize_58 rfl rfl rfl (Nat.le_of_ble_eq_true rfl) (j_min (by omega) (by omega)) rfl ?_
              have e : Nat.min 2 n = smpN n 2 := by
                have hb : bandN n = 1 := by unfold bandN; rw [if_neg (by omega), if_pos (by omega)]
                unfold smpN
                rw [hb, if_pos rfl]
                rfl
              exact r_iret (ty := .int) dX8_sampleSize_61 rfl rfl ⟨congrArg (fun x => Sum.inl (some (Value.int (nI x)))) e, rfl⟩
        · refine r_iincN (k := 1) (lv' := [(2, .int (nI (2))), (0, .int (nI (n))), (1, .int (nI (2)))]) dX8_sampleSize_19 (by decide) 0 rfl (by decide) rfl ?_
          refine r_goto (tgt := 2) dX8_sampleSize_22 (by decide) ?_
          refine r_iload_n dX8_sampleSize_2 rfl 0 rfl ?_
          refine r_gets (C := "LotInspector$Product") (n := "BAND_ENDS") (d := "[I") (v := .ref (gK G 0 0)) (fun U h => h.2.1.1) dX8_sampleSize_3 (sg3 200 rfl rfl) ?_
          refine r_alenT (fun U h => h.2.1.2.1) dX8_sampleSize_6 ?_
          refine r_icmp_geN (tgt := 25) dX8_sampleSize_7 (by decide) (by omega) (by omega) (fun zz7_2 => ?_) (fun zz7_2 => ?_)
          · exact absurd zz7_2 (by decide)
          · refine r_iload_n dX8_sampleSize_10 rfl 1 rfl ?_
            refine r_gets (C := "LotInspector$Product") (n := "BAND_ENDS") (d := "[I") (v := .ref (gK G 0 0)) (fun U h => h.2.1.1) dX8_sampleSize_11 (sg3 200 rfl rfl) ?_
            refine r_iload_n dX8_sampleSize_14 rfl 0 rfl ?_
            refine r_ialdT (fun U h => h.2.1.2.1) dX8_sampleSize_15 (vp_in_nI (by decide) (by decide)) ?_
            refine Wx.top (x := bandE (nI 2).toNatClampNeg) (y := nI 25) (by decide) ?_
            refine r_icmp_leN (tgt := 25) dX8_sampleSize_16 (by decide) (by omega) (by omega) (fun h16_2 => ?_) (fun h16_2 => ?_)
            · refine r_iload_n dX8_sampleSize_25 rfl 2 rfl ?_
              refine r_iconst (v := nI 2) dX8_sampleSize_26 (by decide) ?_
              refine r_icmp_neN (tgt := 38) dX8_sampleSize_27 (by decide) (by omega) (by omega) (fun zz27_2 => ?_) (fun zz27_2 => ?_)
              · exact absurd zz27_2 (by decide)
              · refine r_iload_n dX8_sampleSize_30 rfl 0 rfl ?_
                refine r_iconst (v := nI 2) dX8_sampleSize_31 (by decide) ?_
                refine r_isubN dX8_sampleSize_32 (by omega) ?_
                refine r_iconst (v := nI 0) dX8_sampleSize_33 (by decide) ?_
                refine r_fnS (M2 := m_J9_max_7cf53) (As := [.int (nI (0)), .int (nI (0))]) (rest := []) (v := some (.int (nI (0)))) dX8_sampleSize_34 cc_X8_sampleSize_49 rfl rfl rfl (Nat.le_of_ble_eq_true rfl) (Fn.eq (j_max (by decide) (by decide)) rfl rfl) rfl ?_
                refine r_istore_n (lv' := [(2, .int (nI (0))), (0, .int (nI (n))), (1, .int (nI (2)))]) dX8_sampleSize_37 rfl (by decide) rfl ?_
                refine r_iload_n dX8_sampleSize_38 rfl 0 rfl ?_
                refine r_gets (C := "LotInspector$Product") (n := "SIZES") (d := "[I") (v := .ref (gK G 0 1)) (fun U h => h.2.1.2.2.1) dX8_sampleSize_39 (sg3 205 rfl rfl) ?_
                refine r_alenT (fun U h => h.2.1.2.2.2.1) dX8_sampleSize_42 ?_
                refine r_icmp_geN (tgt := 54) dX8_sampleSize_43 (by decide) (by omega) (by omega) (fun zz43_2 => ?_) (fun zz43_2 => ?_)
                · exact absurd zz43_2 (by decide)
                · refine r_gets (C := "LotInspector$Product") (n := "SIZES") (d := "[I") (v := .ref (gK G 0 1)) (fun U h => h.2.1.2.2.1) dX8_sampleSize_46 (sg3 205 rfl rfl) ?_
                  refine r_iload_n dX8_sampleSize_49 rfl 0 rfl ?_
                  refine r_ialdT (fun U h => h.2.1.2.2.2.1) dX8_sampleSize_50 (vp_in_nI (by decide) (by decide)) ?_
                  refine Wx.top (x := sizeE (nI 0).toNatClampNeg) (y := nI 2) (by decide) ?_
                  refine r_goto (tgt := 55) dX8_sampleSize_51 (by decide) ?_
                  refine r_istore_n (lv' := [(3, .int (nI (2))), (2, .int (nI (0))), (0, .int (nI (n))), (1, .int (nI (2)))]) dX8_sampleSize_55 rfl (by decide) rfl ?_
                  refine r_iload_n dX8_sampleSize_56 rfl 0 rfl ?_
                  refine r_iload_n dX8_sampleSize_57 rfl 2 rfl ?_
                  refine r_fnS (M2 := m_J9_min_7cf53) (As := [.int (nI (2)), .int (nI (n))]) (rest := []) (v := some (.int (nI (Nat.min 2 n)))) dX8_sampleSize_58 cc_X8_sampleSize_58 rfl rfl rfl (Nat.le_of_ble_eq_true rfl) (j_min (by omega) (by omega)) rfl ?_
                  have e : Nat.min 2 n = smpN n 2 := by
                    have hb : bandN n = 2 := by unfold bandN; rw [if_neg (by omega), if_neg (by omega), if_pos (by omega)]
                    unfold smpN
                    rw [hb, if_pos rfl]
                    rfl
                  exact r_iret (ty := .int) dX8_sampleSize_61 rfl rfl ⟨congrArg (fun x => Sum.inl (some (Value.int (nI x)))) e, rfl⟩
            · refine r_iincN (k := 1) (lv' := [(2, .int (nI (3))), (0, .int (nI (n))), (1, .int (nI (2)))]) dX8_sampleSize_19 (by decide) 0 rfl (by decide) rfl ?_
              refine r_goto (tgt := 2) dX8_sampleSize_22 (by decide) ?_
              refine r_iload_n dX8_sampleSize_2 rfl 0 rfl ?_
              refine r_gets (C := "LotInspector$Product") (n := "BAND_ENDS") (d := "[I") (v := .ref (gK G 0 0)) (fun U h => h.2.1.1) dX8_sampleSize_3 (sg3 200 rfl rfl) ?_
              refine r_alenT (fun U h => h.2.1.2.1) dX8_sampleSize_6 ?_
              refine r_icmp_geN (tgt := 25) dX8_sampleSize_7 (by decide) (by omega) (by omega) (fun zz7_3 => ?_) (fun zz7_3 => ?_)
              · exact absurd zz7_3 (by decide)
              · refine r_iload_n dX8_sampleSize_10 rfl 1 rfl ?_
                refine r_gets (C := "LotInspector$Product") (n := "BAND_ENDS") (d := "[I") (v := .ref (gK G 0 0)) (fun U h => h.2.1.1) dX8_sampleSize_11 (sg3 200 rfl rfl) ?_
                refine r_iload_n dX8_sampleSize_14 rfl 0 rfl ?_
                refine r_ialdT (fun U h => h.2.1.2.1) dX8_sampleSize_15 (vp_in_nI (by decide) (by decide)) ?_
                refine Wx.top (x := bandE (nI 3).toNatClampNeg) (y := nI 50) (by decide) ?_
                refine r_icmp_leN (tgt := 25) dX8_sampleSize_16 (by decide) (by omega) (by omega) (fun h16_3 => ?_) (fun h16_3 => ?_)
                · refine r_iload_n dX8_sampleSize_25 rfl 2 rfl ?_
                  refine r_iconst (v := nI 2) dX8_sampleSize_26 (by decide) ?_
                  refine r_icmp_neN (tgt := 38) dX8_sampleSize_27 (by decide) (by omega) (by omega) (fun zz27_3 => ?_) (fun zz27_3 => ?_)
                  · exact absurd zz27_3 (by decide)
                  · refine r_iload_n dX8_sampleSize_30 rfl 0 rfl ?_
                    refine r_iconst (v := nI 2) dX8_sampleSize_31 (by decide) ?_
                    refine r_isubN dX8_sampleSize_32 (by omega) ?_
                    refine r_iconst (v := nI 0) dX8_sampleSize_33 (by decide) ?_
                    refine r_fnS (M2 := m_J9_max_7cf53) (As := [.int (nI (1)), .int (nI (0))]) (rest := []) (v := some (.int (nI (1)))) dX8_sampleSize_34 cc_X8_sampleSize_49 rfl rfl rfl (Nat.le_of_ble_eq_true rfl) (Fn.eq (j_max (by decide) (by decide)) rfl rfl) rfl ?_
                    refine r_istore_n (lv' := [(2, .int (nI (1))), (0, .int (nI (n))), (1, .int (nI (2)))]) dX8_sampleSize_37 rfl (by decide) rfl ?_
                    refine r_iload_n dX8_sampleSize_38 rfl 0 rfl ?_
                    refine r_gets (C := "LotInspector$Product") (n := "SIZES") (d := "[I") (v := .ref (gK G 0 1)) (fun U h => h.2.1.2.2.1) dX8_sampleSize_39 (sg3 205 rfl rfl) ?_
                    refine r_alenT (fun U h => h.2.1.2.2.2.1) dX8_sampleSize_42 ?_
                    refine r_icmp_geN (tgt := 54) dX8_sampleSize_43 (by decide) (by omega) (by omega) (fun zz43_3 => ?_) (fun zz43_3 => ?_)
                    · exact absurd zz43_3 (by decide)
                    · refine r_gets (C := "LotInspector$Product") (n := "SIZES") (d := "[I") (v := .ref (gK G 0 1)) (fun U h => h.2.1.2.2.1) dX8_sampleSize_46 (sg3 205 rfl rfl) ?_
                      refine r_iload_n dX8_sampleSize_49 rfl 0 rfl ?_
                      refine r_ialdT (fun U h => h.2.1.2.2.2.1) dX8_sampleSize_50 (vp_in_nI (by decide) (by decide)) ?_
                      refine Wx.top (x := sizeE (nI 1).toNatClampNeg) (y := nI 3) (by decide) ?_
                      refine r_goto (tgt := 55) dX8_sampleSize_51 (by decide) ?_
                      refine r_istore_n (lv' := [(3, .int (nI (3))), (2, .int (nI (1))), (0, .int (nI (n))), (1, .int (nI (2)))]) dX8_sampleSize_55 rfl (by decide) rfl ?_
                      refine r_iload_n dX8_sampleSize_56 rfl 0 rfl ?_
                      refine r_iload_n dX8_sampleSize_57 rfl 2 rfl ?_
                      refine r_fnS (M2 := m_J9_min_7cf53) (As := [.int (nI (3)), .int (nI (n))]) (rest := []) (v := some (.int (nI (Nat.min 3 n)))) dX8_sampleSize_58 cc_X8_sampleSize_58 rfl rfl rfl (Nat.le_of_ble_eq_true rfl) (j_min (by omega) (by omega)) rfl ?_
                      have e : Nat.min 3 n = smpN n 2 := by
                        have hb : bandN n = 3 := by unfold bandN; rw [if_neg (by omega), if_neg (by omega), if_neg (by omega), if_pos (by omega)]
                        unfold smpN
                        rw [hb, if_pos rfl]
                        rfl
                      exact r_iret (ty := .int) dX8_sampleSize_61 rfl rfl ⟨congrArg (fun x => Sum.inl (some (Value.int (nI x)))) e, rfl⟩
                · refine r_iincN (k := 1) (lv' := [(2, .int (nI (4))), (0, .int (nI (n))), (1, .int (nI (2)))]) dX8_sampleSize_19 (by decide) 0 rfl (by decide) rfl ?_
                  refine r_goto (tgt := 2) dX8_sampleSize_22 (by decide) ?_
                  refine r_iload_n dX8_sampleSize_2 rfl 0 rfl ?_
                  refine r_gets (C := "LotInspector$Product") (n := "BAND_ENDS") (d := "[I") (v := .ref (gK G 0 0)) (fun U h => h.2.1.1) dX8_sampleSize_3 (sg3 200 rfl rfl) ?_
                  refine r_alenT (fun U h => h.2.1.2.1) dX8_sampleSize_6 ?_
                  refine r_icmp_geN (tgt := 25) dX8_sampleSize_7 (by decide) (by omega) (by omega) (fun zz7_4 => ?_) (fun zz7_4 => ?_)
                  · exact absurd zz7_4 (by decide)
                  · refine r_iload_n dX8_sampleSize_10 rfl 1 rfl ?_
                    refine r_gets (C := "LotInspector$Product") (n := "BAND_ENDS") (d := "[I") (v := .ref (gK G 0 0)) (fun U h => h.2.1.1) dX8_sampleSize_11 (sg3 200 rfl rfl) ?_
                    refine r_iload_n dX8_sampleSize_14 rfl 0 rfl ?_
                    refine r_ialdT (fun U h => h.2.1.2.1) dX8_sampleSize_15 (vp_in_nI (by decide) (by decide)) ?_
                    refine Wx.top (x := bandE (nI 4).toNatClampNeg) (y := nI 90) (by decide) ?_
                    refine r_icmp_leN (tgt := 25) dX8_sampleSize_16 (by decide) (by omega) (by omega) (fun h16_4 => ?_) (fun h16_4 => ?_)
                    · refine r_iload_n dX8_sampleSize_25 rfl 2 rfl ?_
                      refine r_iconst (v := nI 2) dX8_sampleSize_26 (by decide) ?_
                      refine r_icmp_neN (tgt := 38) dX8_sampleSize_27 (by decide) (by omega) (by omega) (fun zz27_4 => ?_) (fun zz27_4 => ?_)
                      · exact absurd zz27_4 (by decide)
                      · refine r_iload_n dX8_sampleSize_30 rfl 0 rfl ?_
                        refine r_iconst (v := nI 2) dX8_sampleSize_31 (by decide) ?_
                        refine r_isubN dX8_sampleSize_32 (by omega) ?_
                        refine r_iconst (v := nI 0) dX8_sampleSize_33 (by decide) ?_
                        refine r_fnS (M2 := m_J9_max_7cf53) (As := [.int (nI (2)), .int (nI (0))]) (rest := []) (v := some (.int (nI (2)))) dX8_sampleSize_34 cc_X8_sampleSize_49 rfl rfl rfl (Nat.le_of_ble_eq_true rfl) (Fn.eq (j_max (by decide) (by decide)) rfl rfl) rfl ?_
                        refine r_istore_n (lv' := [(2, .int (nI (2))), (0, .int (nI (n))), (1, .int (nI (2)))]) dX8_sampleSize_37 rfl (by decide) rfl ?_
                        refine r_iload_n dX8_sampleSize_38 rfl 0 rfl ?_
                        refine r_gets (C := "LotInspector$Product") (n := "SIZES") (d := "[I") (v := .ref (gK G 0 1)) (fun U h => h.2.1.2.2.1) dX8_sampleSize_39 (sg3 205 rfl rfl) ?_
                        refine r_alenT (fun U h => h.2.1.2.2.2.1) dX8_sampleSize_42 ?_
                        refine r_icmp_geN (tgt := 54) dX8_sampleSize_43 (by decide) (by omega) (by omega) (fun zz43_4 => ?_) (fun zz43_4 => ?_)
                        · exact absurd zz43_4 (by decide)
                        · refine r_gets (C := "LotInspector$Product") (n := "SIZES") (d := "[I") (v := .ref (gK G 0 1)) (fun U h => h.2.1.2.2.1) dX8_sampleSize_46 (sg3 205 rfl rfl) ?_
                          refine r_iload_n dX8_sampleSize_49 rfl 0 rfl ?_
                          refine r_ialdT (fun U h => h.2.1.2.2.2.1) dX8_sampleSize_50 (vp_in_nI (by decide) (by decide)) ?_
                          refine Wx.top (x := sizeE (nI 2).toNatClampNeg) (y := nI 5) (by decide) ?_
                          refine r_goto (tgt := 55) dX8_sampleSize_51 (by decide) ?_
                          refine r_istore_n (lv' := [(3, .int (nI (5))), (2, .int (nI (2))), (0, .int (nI (n))), (1, .int (nI (2)))]) dX8_sampleSize_55 rfl (by decide) rfl ?_
                          refine r_iload_n dX8_sampleSize_56 rfl 0 rfl ?_
                          refine r_iload_n dX8_sampleSize_57 rfl 2 rfl ?_
                          refine r_fnS (M2 := m_J9_min_7cf53) (As := [.int (nI (5)), .int (nI (n))]) (rest := []) (v := some (.int (nI (Nat.min 5 n)))) dX8_sampleSize_58 cc_X8_sampleSize_58 rfl rfl rfl (Nat.le_of_ble_eq_true rfl) (j_min (by omega) (by omega)) rfl ?_
                          have e : Nat.min 5 n = smpN n 2 := by
                            have hb : bandN n = 4 := by unfold bandN; rw [if_neg (by omega), if_neg (by omega), if_neg (by omega), if_neg (by omega), if_pos (by omega)]
                            unfold smpN
                            rw [hb, if_pos rfl]
                            rfl
                          exact r_iret (ty := .int) dX8_sampleSize_61 rfl rfl ⟨congrArg (fun x => Sum.inl (some (Value.int (nI x)))) e, rfl⟩
                    · refine r_iincN (k := 1) (lv' := [(2, .int (nI (5))), (0, .int (nI (n))), (1, .int (nI (2)))]) dX8_sampleSize_19 (by decide) 0 rfl (by decide) rfl ?_
                      refine r_goto (tgt := 2) dX8_sampleSize_22 (by decide) ?_
                      refine r_iload_n dX8_sampleSize_2 rfl 0 rfl ?_
                      refine r_gets (C := "LotInspector$Product") (n := "BAND_ENDS") (d := "[I") (v := .ref (gK G 0 0)) (fun U h => h.2.1.1) dX8_sampleSize_3 (sg3 200 rfl rfl) ?_
                      refine r_alenT (fun U h => h.2.1.2.1) dX8_sampleSize_6 ?_
                      refine r_icmp_geN (tgt := 25) dX8_sampleSize_7 (by decide) (by omega) (by omega) (fun zz7_5 => ?_) (fun zz7_5 => ?_)
                      · exact absurd zz7_5 (by decide)
                      · refine r_iload_n dX8_sampleSize_10 rfl 1 rfl ?_
                        refine r_gets (C := "LotInspector$Product") (n := "BAND_ENDS") (d := "[I") (v := .ref (gK G 0 0)) (fun U h => h.2.1.1) dX8_sampleSize_11 (sg3 200 rfl rfl) ?_
                        refine r_iload_n dX8_sampleSize_14 rfl 0 rfl ?_
                        refine r_ialdT (fun U h => h.2.1.2.1) dX8_sampleSize_15 (vp_in_nI (by decide) (by decide)) ?_
                        refine Wx.top (x := bandE (nI 5).toNatClampNeg) (y := nI 150) (by decide) ?_
                        refine r_icmp_leN (tgt := 25) dX8_sampleSize_16 (by decide) (by omega) (by omega) (fun h16_5 => ?_) (fun h16_5 => ?_)
                        · refine r_iload_n dX8_sampleSize_25 rfl 2 rfl ?_
                          refine r_iconst (v := nI 2) dX8_sampleSize_26 (by decide) ?_
                          refine r_icmp_neN (tgt := 38) dX8_sampleSize_27 (by decide) (by omega) (by omega) (fun zz27_5 => ?_) (fun zz27_5 => ?_)
                          · exact absurd zz27_5 (by decide)
                          · refine r_iload_n dX8_sampleSize_30 rfl 0 rfl ?_
                            refine r_iconst (v := nI 2) dX8_sampleSize_31 (by decide) ?_
                            refine r_isubN dX8_sampleSize_32 (by omega) ?_
                            refine r_iconst (v := nI 0) dX8_sampleSize_33 (by decide) ?_
                            refine r_fnS (M2 := m_J9_max_7cf53) (As := [.int (nI (3)), .int (nI (0))]) (rest := []) (v := some (.int (nI (3)))) dX8_sampleSize_34 cc_X8_sampleSize_49 rfl rfl rfl (Nat.le_of_ble_eq_true rfl) (Fn.eq (j_max (by decide) (by decide)) rfl rfl) rfl ?_
                            refine r_istore_n (lv' := [(2, .int (nI (3))), (0, .int (nI (n))), (1, .int (nI (2)))]) dX8_sampleSize_37 rfl (by decide) rfl ?_
                            refine r_iload_n dX8_sampleSize_38 rfl 0 rfl ?_
                            refine r_gets (C := "LotInspector$Product") (n := "SIZES") (d := "[I") (v := .ref (gK G 0 1)) (fun U h => h.2.1.2.2.1) dX8_sampleSize_39 (sg3 205 rfl rfl) ?_
                            refine r_alenT (fun U h => h.2.1.2.2.2.1) dX8_sampleSize_42 ?_
                            refine r_icmp_geN (tgt := 54) dX8_sampleSize_43 (by decide) (by omega) (by omega) (fun zz43_5 => ?_) (fun zz43_5 => ?_)
                            · exact absurd zz43_5 (by decide)
                            · refine r_gets (C := "LotInspector$Product") (n := "SIZES") (d := "[I") (v := .ref (gK G 0 1)) (fun U h => h.2.1.2.2.1) dX8_sampleSize_46 (sg3 205 rfl rfl) ?_
                              refine r_iload_n dX8_sampleSize_49 rfl 0 rfl ?_
                              refine r_ialdT (fun U h => h.2.1.2.2.2.1) dX8_sampleSize_50 (vp_in_nI (by decide) (by decide)) ?_
                              refine Wx.top (x := sizeE (nI 3).toNatClampNeg) (y := nI 8) (by decide) ?_
                              refine r_goto (tgt := 55) dX8_sampleSize_51 (by decide) ?_
                              refine r_istore_n (lv' := [(3, .int (nI (8))), (2, .int (nI (3))), (0, .int (nI (n))), (1, .int (nI (2)))]) dX8_sampleSize_55 rfl (by decide) rfl ?_
                              refine r_iload_n dX8_sampleSize_56 rfl 0 rfl ?_
                              refine r_iload_n dX8_sampleSize_57 rfl 2 rfl ?_
                              refine r_fnS (M2 := m_J9_min_7cf53) (As := [.int (nI (8)), .int (nI (n))]) (rest := []) (v := some (.int (nI (Nat.min 8 n)))) dX8_sampleSize_58 cc_X8_sampleSize_58 rfl rfl rfl (Nat.le_of_ble_eq_true rfl) (j_min (by omega) (by omega)) rfl ?_
                              have e : Nat.min 8 n = smpN n 2 := by
                                have hb : bandN n = 5 := by unfold bandN; rw [if_neg (by omega), if_neg (by omega), if_neg (by omega), if_neg (by omega), if_neg (by omega), if_pos (by omega)]
                                unfold smpN
                                rw [hb, if_pos rfl]
                                rfl
                              exact r_iret (ty := .int) dX8_sampleSize_61 rfl rfl ⟨congrArg (fun x => Sum.inl (some (Value.int (nI x)))) e, rfl⟩
                        · refine r_iincN (k := 1) (lv' := [(2, .int (nI (6))), (0, .int (nI (n))), (1, .int (nI (2)))]) dX8_sampleSize_19 (by decide) 0 rfl (by decide) rfl ?_
                          refine r_goto (tgt := 2) dX8_sampleSize_22 (by decide) ?_
                          refine r_iload_n dX8_sampleSize_2 rfl 0 rfl ?_
                          refine r_gets (C := "LotInspector$Product") (n := "BAND_ENDS") (d := "[I") (v := .ref (gK G 0 0)) (fun U h => h.2.1.1) dX8_sampleSize_3 (sg3 200 rfl rfl) ?_
                          refine r_alenT (fun U h => h.2.1.2.1) dX8_sampleSize_6 ?_
                          refine r_icmp_geN (tgt := 25) dX8_sampleSize_7 (by decide) (by omega) (by omega) (fun zz7_6 => ?_) (fun zz7_6 => ?_)
                          · refine r_iload_n dX8_sampleSize_25 rfl 2 rfl ?_
                            refine r_iconst (v := nI 2) dX8_sampleSize_26 (by decide) ?_
                            refine r_icmp_neN (tgt := 38) dX8_sampleSize_27 (by decide) (by omega) (by omega) (fun zz27_6 => ?_) (fun zz27_6 => ?_)
                            · exact absurd zz27_6 (by decide)
                            · refine r_iload_n dX8_sampleSize_30 rfl 0 rfl ?_
                              refine r_iconst (v := nI 2) dX8_sampleSize_31 (by decide) ?_
                              refine r_isubN dX8_sampleSize_32 (by omega) ?_
                              refine r_iconst (v := nI 0) dX8_sampleSize_33 (by decide) ?_
                              refine r_fnS (M2 := m_J9_max_7cf53) (As := [.int (nI (4)), .int (nI (0))]) (rest := []) (v := some (.int (nI (4)))) dX8_sampleSize_34 cc_X8_sampleSize_49 rfl rfl rfl (Nat.le_of_ble_eq_true rfl) (Fn.eq (j_max (by decide) (by decide)) rfl rfl) rfl ?_
                              refine r_istore_n (lv' := [(2, .int (nI (4))), (0, .int (nI (n))), (1, .int (nI (2)))]) dX8_sampleSize_37 rfl (by decide) rfl ?_
                              refine r_iload_n dX8_sampleSize_38 rfl 0 rfl ?_
                              refine r_gets (C := "LotInspector$Product") (n := "SIZES") (d := "[I") (v := .ref (gK G 0 1)) (fun U h => h.2.1.2.2.1) dX8_sampleSize_39 (sg3 205 rfl rfl) ?_
                              refine r_alenT (fun U h => h.2.1.2.2.2.1) dX8_sampleSize_42 ?_
                              refine r_icmp_geN (tgt := 54) dX8_sampleSize_43 (by decide) (by omega) (by omega) (fun zz43_6 => ?_) (fun zz43_6 => ?_)
                              · exact absurd zz43_6 (by decide)
                              · refine r_gets (C := "LotInspector$Product") (n := "SIZES") (d := "[I") (v := .ref (gK G 0 1)) (fun U h => h.2.1.2.2.1) dX8_sampleSize_46 (sg3 205 rfl rfl) ?_
                                refine r_iload_n dX8_sampleSize_49 rfl 0 rfl ?_
                                refine r_ialdT (fun U h => h.2.1.2.2.2.1) dX8_sampleSize_50 (vp_in_nI (by decide) (by decide)) ?_
                                refine Wx.top (x := sizeE (nI 4).toNatClampNeg) (y := nI 13) (by decide) ?_
                                refine r_goto (tgt := 55) dX8_sampleSize_51 (by decide) ?_
                                refine r_istore_n (lv' := [(3, .int (nI (13))), (2, .int (nI (4))), (0, .int (nI (n))), (1, .int (nI (2)))]) dX8_sampleSize_55 rfl (by decide) rfl ?_
                                refine r_iload_n dX8_sampleSize_56 rfl 0 rfl ?_
                                refine r_iload_n dX8_sampleSize_57 rfl 2 rfl ?_
                                refine r_fnS (M2 := m_J9_min_7cf53) (As := [.int (nI (13)), .int (nI (n))]) (rest := []) (v := some (.int (nI (Nat.min 13 n)))) dX8_sampleSize_58 cc_X8_sampleSize_58 rfl rfl rfl (Nat.le_of_ble_eq_true rfl) (j_min (by omega) (by omega)) rfl ?_
                                have e : Nat.min 13 n = smpN n 2 := by
                                  have hb : bandN n = 6 := by unfold bandN; rw [if_neg (by omega), if_neg (by omega), if_neg (by omega), if_neg (by omega), if_neg (by omega), if_neg (by omega)]
                                  unfold smpN
                                  rw [hb, if_pos rfl]
                                  rfl
                                exact r_iret (ty := .int) dX8_sampleSize_61 rfl rfl ⟨congrArg (fun x => Sum.inl (some (Value.int (nI x)))) e, rfl⟩
                          · exact absurd zz7_6 (by decide)
set_option maxRecDepth 4000 in
theorem k_sample_n {G : GI} {S : Hp} {n v : Nat} (hn : n ≤ 200) (hv3 : v < 4) (hv : ¬ v = 2) : Fn m_X8_sampleSize G [.int (nI n), .int (nI v)] S (some (.int (nI (smpN n v)))) S := by
  refine Cn.of rfl (by decide) (Nat.le_of_ble_eq_true rfl) (fun hN hM => ?_)
  show Wx _ G _ 0 [(0, .int (nI (n))), (1, .int (nI (v)))] [] _
  refine r_iconst (v := nI 0) dX8_sampleSize_0 (by decide) ?_
  refine r_istore_n (lv' := [(2, .int (nI (0))), (0, .int (nI (n))), (1, .int (nI (v)))]) dX8_sampleSize_1 rfl (by decide) rfl ?_
  refine r_iload_n dX8_sampleSize_2 rfl 0 rfl ?_
  refine r_gets (C := "LotInspector$Product") (n := "BAND_ENDS") (d := "[I") (v := .ref (gK G 0 0)) (fun U h => h.2.1.1) dX8_sampleSize_3 (sg3 200 rfl rfl) ?_
  refine r_alenT (fun U h => h.2.1.2.1) dX8_sampleSize_6 ?_
  refine r_icmp_geN (tgt := 25) dX8_sampleSize_7 (by decide) (by omega) (by omega) (fun zz7 => ?_) (fun zz7 => ?_)
  · exact absurd zz7 (by decide)
  · refine r_iload_n dX8_sampleSize_10 rfl 1 rfl ?_
    refine r_gets (C := "LotInspector$Product") (n := "BAND_ENDS") (d := "[I") (v := .ref (gK G 0 0)) (fun U h => h.2.1.1) dX8_sampleSize_11 (sg3 200 rfl rfl) ?_
    refine r_iload_n dX8_sampleSize_14 rfl 0 rfl ?_
    refine r_ialdT (fun U h => h.2.1.2.1) dX8_sampleSize_15 (vp_in_nI (by decide) (by decide)) ?_
    refine Wx.top (x := bandE (nI 0).toNatClampNeg) (y := nI 8) (by decide) ?_
    refine r_icmp_leN (tgt := 25) dX8_sampleSize_16 (by decide) (by omega) (by omega) (fun h16 => ?_) (fun h16 => ?_)
    · refine r_iload_n dX8_sampleSize_25 rfl 2 rfl ?_
      refine r_iconst (v := nI 2) dX8_sampleSize_26 (by decide) ?_
      refine r_icmp_neN (tgt := 38) dX8_sampleSize_27 (by decide) (by omega) (by omega) (fun h27 => ?_) (fun h27 => ?_)
      · refine r_iload_n dX8_sampleSize_38 rfl 0 rfl ?_
        refine r_gets (C := "LotInspector$Product") (n := "SIZES") (d := "[I") (v := .ref (gK G 0 1)) (fun U h => h.2.1.2.2.1) dX8_sampleSize_39 (sg3 205 rfl rfl) ?_
        refine r_alenT (fun U h => h.2.1.2.2.2.1) dX8_sampleSize_42 ?_
        refine r_icmp_geN (tgt := 54) dX8_sampleSize_43 (by decide) (by omega) (by omega) (fun zz43 => ?_) (fun zz43 => ?_)
        · exact absurd zz43 (by decide)
        · refine r_gets (C := "LotInspector$Product") (n := "SIZES") (d := "[I") (v := .ref (gK G 0 1)) (fun U h => h.2.1.2.2.1) dX8_sampleSize_46 (sg3 205 rfl rfl) ?_
          refine r_iload_n dX8_sampleSize_49 rfl 0 rfl ?_
          refine r_ialdT (fun U h => h.2.1.2.2.2.1) dX8_sampleSize_50 (vp_in_nI (by decide) (by decide)) ?_
          refine Wx.top (x := sizeE (nI 0).toNatClampNeg) (y := nI 2) (by decide) ?_
          refine r_goto (tgt := 55) dX8_sampleSize_51 (by decide) ?_
          refine r_istore_n (lv' := [(3, .int (nI (2))), (2, .int (nI (0))), (0, .int (nI (n))), (1, .int (nI (v)))]) dX8_sampleSize_55 rfl (by decide) rfl ?_
          refine r_iload_n dX8_sampleSize_56 rfl 0 rfl ?_
          refine r_iload_n dX8_sampleSize_57 rfl 2 rfl ?_
          refine r_fnS (M2 := m_J9_min_7cf53) (As := [.int (nI (2)), .int (nI (n))]) (rest := []) (v := some (.int (nI (Nat.min 2 n)))) dX8_sampleSize_58 cc_X8_sampleSize_58 rfl rfl rfl (Nat.le_of_ble_eq_true rfl) (j_min (by omega) (by omega)) rfl ?_
          have e : Nat.min 2 n = smpN n v := by
            have hb : bandN n = 0 := by unfold bandN; rw [if_pos (by omega)]
            unfold smpN
            rw [hb, if_neg hv]
            rfl
          exact r_iret (ty := .int) dX8_sampleSize_61 rfl rfl ⟨congrArg (fun x => Sum.inl (some (Value.int (nI x)))) e, rfl⟩
      · exact absurd h27 hv
    · refine r_iincN (k := 1) (lv' := [(2, .int (nI (1))), (0, .int (nI (n))), (1, .int (nI (v)))]) dX8_sampleSize_19 (by decide) 0 rfl (by decide) rfl ?_
      refine r_goto (tgt := 2) dX8_sampleSize_22 (by decide) ?_
      refine r_iload_n dX8_sampleSize_2 rfl 0 rfl ?_
      refine r_gets (C := "LotInspector$Product") (n := "BAND_ENDS") (d := "[I") (v := .ref (gK G 0 0)) (fun U h => h.2.1.1) dX8_sampleSize_3 (sg3 200 rfl rfl) ?_
      refine r_alenT (fun U h => h.2.1.2.1) dX8_sampleSize_6 ?_
      refine r_icmp_geN (tgt := 25) dX8_sampleSize_7 (by decide) (by omega) (by omega) (fun zz7_1 => ?_) (fun zz7_1 => ?_)
      · exact absurd zz7_1 (by decide)
      · refine r_iload_n dX8_sampleSize_10 rfl 1 rfl ?_
        refine r_gets (C := "LotInspector$Product") (n := "BAND_ENDS") (d := "[I") (v := .ref (gK G 0 0)) (fun U h => h.2.1.1) dX8_sampleSize_11 (sg3 200 rfl rfl) ?_
        refine r_iload_n dX8_sampleSize_14 rfl 0 rfl ?_
        refine r_ialdT (fun U h => h.2.1.2.1) dX8_sampleSize_15 (vp_in_nI (by decide) (by decide)) ?_
        refine Wx.top (x := bandE (nI 1).toNatClampNeg) (y := nI 15) (by decide) ?_
        refine r_icmp_leN (tgt := 25) dX8_sampleSize_16 (by decide) (by omega) (by omega) (fun h16_1 => ?_) (fun h16_1 => ?_)
        · refine r_iload_n dX8_sampleSize_25 rfl 2 rfl ?_
          refine r_iconst (v := nI 2) dX8_sampleSize_26 (by decide) ?_
          refine r_icmp_neN (tgt := 38) dX8_sampleSize_27 (by decide) (by omega) (by omega) (fun h27_1 => ?_) (fun h27_1 => ?_)
          · refine r_iload_n dX8_sampleSize_38 rfl 0 rfl ?_
            refine r_gets (C := "LotInspector$Product") (n := "SIZES") (d := "[I") (v := .ref (gK G 0 1)) (fun U h => h.2.1.2.2.1) dX8_sampleSize_39 (sg3 205 rfl rfl) ?_
            refine r_alenT (fun U h => h.2.1.2.2.2.1) dX8_sampleSize_42 ?_
            refine r_icmp_geN (tgt := 54) dX8_sampleSize_43 (by decide) (by omega) (by omega) (fun zz43_1 => ?_) (fun zz43_1 => ?_)
            · exact absurd zz43_1 (by decide)
            · refine r_gets (C := "LotInspector$Product") (n := "SIZES") (d := "[I") (v := .ref (gK G 0 1)) (fun U h => h.2.1.2.2.1) dX8_sampleSize_46 (sg3 205 rfl rfl) ?_
              refine r_iload_n dX8_sampleSize_49 rfl 0 rfl ?_
              refine r_ialdT (fun U h => h.2.1.2.2.2.1) dX8_sampleSize_50 (vp_in_nI (by decide) (by decide)) ?_
              refine Wx.top (x := sizeE (nI 1).toNatClampNeg) (y := nI 3) (by decide) ?_
              refine r_goto (tgt := 55) dX8_sampleSize_51 (by decide) ?_
              refine r_istore_n (lv' := [(3, .int (nI (3))), (2, .int (nI (1))), (0, .int (nI (n))), (1, .int (nI (v)))]) dX8_sampleSize_55 rfl (by decide) rfl ?_
              refine r_iload_n dX8_sampleSize_56 rfl 0 rfl ?_
              refine r_iload_n dX8_sampleSize_57 rfl 2 rfl ?_
              refine r_fnS (M2 := m_J9_min_7cf53) (As := [.int (nI (3)), .int (nI (n))]) (rest := []) (v := some (.int (nI (Nat.min 3 n)))) dX8_sampleSize_58 cc_X8_sampleSize_58 rfl rfl rfl (Nat.le_of_ble_eq_true rfl) (j_min (by omega) (by omega)) rfl ?_
              have e : Nat.min 3 n = smpN n v := by
                have hb : bandN n = 1 := by unfold bandN; rw [if_neg (by omega), if_pos (by omega)]
                unfold smpN
                rw [hb, if_neg hv]
                rfl
              exact r_iret (ty := .int) dX8_sampleSize_61 rfl rfl ⟨congrArg (fun x => Sum.inl (some (Value.int (nI x)))) e, rfl⟩
          · exact absurd h27_1 hv
        · refine r_iincN (k := 1) (lv' := [(2, .int (nI (2))), (0, .int (nI (n))), (1, .int (nI (v)))]) dX8_sampleSize_19 (by decide) 0 rfl (by decide) rfl ?_
          refine r_goto (tgt := 2) dX8_sampleSize_22 (by decide) ?_
          refine r_iload_n dX8_sampleSize_2 rfl 0 rfl ?_
          refine r_gets (C := "LotInspector$Product") (n := "BAND_ENDS") (d := "[I") (v := .ref (gK G 0 0)) (fun U h => h.2.1.1) dX8_sampleSize_3 (sg3 200 rfl rfl) ?_
          refine r_alenT (fun U h => h.2.1.2.1) dX8_sampleSize_6 ?_
          refine r_icmp_geN (tgt := 25) dX8_sampleSize_7 (by decide) (by omega) (by omega) (fun zz7_2 => ?_) (fun zz7_2 => ?_)
          · exact absurd zz7_2 (by decide)
          · refine r_iload_n dX8_sampleSize_10 rfl 1 rfl ?_
            refine r_gets (C := "LotInspector$Product") (n := "BAND_ENDS") (d := "[I") (v := .ref (gK G 0 0)) (fun U h => h.2.1.1) dX8_sampleSize_11 (sg3 200 rfl rfl) ?_
            refine r_iload_n dX8_sampleSize_14 rfl 0 rfl ?_
            refine r_ialdT (fun U h => h.2.1.2.1) dX8_sampleSize_15 (vp_in_nI (by decide) (by decide)) ?_
            refine Wx.top (x := bandE (nI 2).toNatClampNeg) (y := nI 25) (by decide) ?_
            refine r_icmp_leN (tgt := 25) dX8_sampleSize_16 (by decide) (by omega) (by omega) (fun h16_2 => ?_) (fun h16_2 => ?_)
            · refine r_iload_n dX8_sampleSize_25 rfl 2 rfl ?_
              refine r_iconst (v := nI 2) dX8_sampleSize_26 (by decide) ?_
              refine r_icmp_neN (tgt := 38) dX8_sampleSize_27 (by decide) (by omega) (by omega) (fun h27_2 => ?_) (fun h27_2 => ?_)
              · refine r_iload_n dX8_sampleSize_38 rfl 0 rfl ?_
                refine r_gets (C := "LotInspector$Product") (n := "SIZES") (d := "[I") (v := .ref (gK G 0 1)) (fun U h => h.2.1.2.2.1) dX8_sampleSize_39 (sg3 205 rfl rfl) ?_
                refine r_alenT (fun U h => h.2.1.2.2.2.1) dX8_sampleSize_42 ?_
                refine r_icmp_geN (tgt := 54) dX8_sampleSize_43 (by decide) (by omega) (by omega) (fun zz43_2 => ?_) (fun zz43_2 => ?_)
                · exact absurd zz43_2 (by decide)
                · refine r_gets (C := "LotInspector$Product") (n := "SIZES") (d := "[I") (v := .ref (gK G 0 1)) (fun U h => h.2.1.2.2.1) dX8_sampleSize_46 (sg3 205 rfl rfl) ?_
                  refine r_iload_n dX8_sampleSize_49 rfl 0 rfl ?_
                  refine r_ialdT (fun U h => h.2.1.2.2.2.1) dX8_sampleSize_50 (vp_in_nI (by decide) (by decide)) ?_
                  refine Wx.top (x := sizeE (nI 2).toNatClampNeg) (y := nI 5) (by decide) ?_
                  refine r_goto (tgt := 55) dX8_sampleSize_51 (by decide) ?_
                  refine r_istore_n (lv' := [(3, .int (nI (5))), (2, .int (nI (2))), (0, .int (nI (n))), (1, .int (nI (v)))]) dX8_sampleSize_55 rfl (by decide) rfl ?_
                  refine r_iload_n dX8_sampleSize_56 rfl 0 rfl ?_
                  refine r_iload_n dX8_sampleSize_57 rfl 2 rfl ?_
                  refine r_fnS (M2 := m_J9_min_7cf53) (As := [.int (nI (5)), .int (nI (n))]) (rest := []) (v := some (.int (nI (Nat.min 5 n)))) dX8_sampleSize_58 cc_X8_sampleSize_58 rfl rfl rfl (Nat.le_of_ble_eq_true rfl) (j_min (by omega) (by omega)) rfl ?_
                  have e : Nat.min 5 n = smpN n v := by
                    have hb : bandN n = 2 := by unfold bandN; rw [if_neg (by omega), if_neg (by omega), if_pos (by omega)]
                    unfold smpN
                    rw [hb, if_neg hv]
                    rfl
                  exact r_iret (ty := .int) dX8_sampleSize_61 rfl rfl ⟨congrArg (fun x => Sum.inl (some (Value.int (nI x)))) e, rfl⟩
              · exact absurd h27_2 hv
            · refine r_iincN (k := 1) (lv' := [(2, .int (nI (3))), (0, .int (nI (n))), (1, .int (nI (v)))]) dX8_sampleSize_19 (by decide) 0 rfl (by decide) rfl ?_
              refine r_goto (tgt := 2) dX8_sampleSize_22 (by decide) ?_
              refine r_iload_n dX8_sampleSize_2 rfl 0 rfl ?_
              refine r_gets (C := "LotInspector$Product") (n := "BAND_ENDS") (d := "[I") (v := .ref (gK G 0 0)) (fun U h => h.2.1.1) dX8_sampleSize_3 (sg3 200 rfl rfl) ?_
              refine r_alenT (fun U h => h.2.1.2.1) dX8_sampleSize_6 ?_
              refine r_icmp_geN (tgt := 25) dX8_sampleSize_7 (by decide) (by omega) (by omega) (fun zz7_3 => ?_) (fun zz7_3 => ?_)
              · exact absurd zz7_3 (by decide)
              · refine r_iload_n dX8_sampleSize_10 rfl 1 rfl ?_
                refine r_gets (C := "LotInspector$Product") (n := "BAND_ENDS") (d := "[I") (v := .ref (gK G 0 0)) (fun U h => h.2.1.1) dX8_sampleSize_11 (sg3 200 rfl rfl) ?_
                refine r_iload_n dX8_sampleSize_14 rfl 0 rfl ?_
                refine r_ialdT (fun U h => h.2.1.2.1) dX8_sampleSize_15 (vp_in_nI (by decide) (by decide)) ?_
                refine Wx.top (x := bandE (nI 3).toNatClampNeg) (y := nI 50) (by decide) ?_
                refine r_icmp_leN (tgt := 25) dX8_sampleSize_16 (by decide) (by omega) (by omega) (fun h16_3 => ?_) (fun h16_3 => ?_)
                · refine r_iload_n dX8_sampleSize_25 rfl 2 rfl ?_
                  refine r_iconst (v := nI 2) dX8_sampleSize_26 (by decide) ?_
                  refine r_icmp_neN (tgt := 38) dX8_sampleSize_27 (by decide) (by omega) (by omega) (fun h27_3 => ?_) (fun h27_3 => ?_)
                  · refine r_iload_n dX8_sampleSize_38 rfl 0 rfl ?_
                    refine r_gets (C := "LotInspector$Product") (n := "SIZES") (d := "[I") (v := .ref (gK G 0 1)) (fun U h => h.2.1.2.2.1) dX8_sampleSize_39 (sg3 205 rfl rfl) ?_
                    refine r_alenT (fun U h => h.2.1.2.2.2.1) dX8_sampleSize_42 ?_
                    refine r_icmp_geN (tgt := 54) dX8_sampleSize_43 (by decide) (by omega) (by omega) (fun zz43_3 => ?_) (fun zz43_3 => ?_)
                    · exact absurd zz43_3 (by decide)
                    · refine r_gets (C := "LotInspector$Product") (n := "SIZES") (d := "[I") (v := .ref (gK G 0 1)) (fun U h => h.2.1.2.2.1) dX8_sampleSize_46 (sg3 205 rfl rfl) ?_
                      refine r_iload_n dX8_sampleSize_49 rfl 0 rfl ?_
                      refine r_ialdT (fun U h => h.2.1.2.2.2.1) dX8_sampleSize_50 (vp_in_nI (by decide) (by decide)) ?_
                      refine Wx.top (x := sizeE (nI 3).toNatClampNeg) (y := nI 8) (by decide) ?_
                      refine r_goto (tgt := 55) dX8_sampleSize_51 (by decide) ?_
                      refine r_istore_n (lv' := [(3, .int (nI (8))), (2, .int (nI (3))), (0, .int (nI (n))), (1, .int (nI (v)))]) dX8_sampleSize_55 rfl (by decide) rfl ?_
                      refine r_iload_n dX8_sampleSize_56 rfl 0 rfl ?_
                      refine r_iload_n dX8_sampleSize_57 rfl 2 rfl ?_
                      refine r_fnS (M2 := m_J9_min_7cf53) (As := [.int (nI (8)), .int (nI (n))]) (rest := []) (v := some (.int (nI (Nat.min 8 n)))) dX8_sampleSize_58 cc_X8_sampleSize_58 rfl rfl rfl (Nat.le_of_ble_eq_true rfl) (j_min (by omega) (by omega)) rfl ?_
                      have e : Nat.min 8 n = smpN n v := by
                        have hb : bandN n = 3 := by unfold bandN; rw [if_neg (by omega), if_neg (by omega), if_neg (by omega), if_pos (by omega)]
                        unfold smpN
                        rw [hb, if_neg hv]
                        rfl
                      exact r_iret (ty := .int) dX8_sampleSize_61 rfl rfl ⟨congrArg (fun x => Sum.inl (some (Value.int (nI x)))) e, rfl⟩
                  · exact absurd h27_3 hv
                · refine r_iincN (k := 1) (lv' := [(2, .int (nI (4))), (0, .int (nI (n))), (1, .int (nI (v)))]) dX8_sampleSize_19 (by decide) 0 rfl (by decide) rfl ?_
                  refine r_goto (tgt := 2) dX8_sampleSize_22 (by decide) ?_
                  refine r_iload_n dX8_sampleSize_2 rfl 0 rfl ?_
                  refine r_gets (C := "LotInspector$Product") (n := "BAND_ENDS") (d := "[I") (v := .ref (gK G 0 0)) (fun U h => h.2.1.1) dX8_sampleSize_3 (sg3 200 rfl rfl) ?_
                  refine r_alenT (fun U h => h.2.1.2.1) dX8_sampleSize_6 ?_
                  refine r_icmp_geN (tgt := 25) dX8_sampleSize_7 (by decide) (by omega) (by omega) (fun zz7_4 => ?_) (fun zz7_4 => ?_)
                  · exact absurd zz7_4 (by decide)
                  · refine r_iload_n dX8_sampleSize_10 rfl 1 rfl ?_
                    refine r_gets (C := "LotInspector$Product") (n := "BAND_ENDS") (d := "[I") (v := .ref (gK G 0 0)) (fun U h => h.2.1.1) dX8_sampleSize_11 (sg3 200 rfl rfl) ?_
                    refine r_iload_n dX8_sampleSize_14 rfl 0 rfl ?_
                    refine r_ialdT (fun U h => h.2.1.2.1) dX8_sampleSize_15 (vp_in_nI (by decide) (by decide)) ?_
                    refine Wx.top (x := bandE (nI 4).toNatClampNeg) (y := nI 90) (by decide) ?_
                    refine r_icmp_leN (tgt := 25) dX8_sampleSize_16 (by decide) (by omega) (by omega) (fun h16_4 => ?_) (fun h16_4 => ?_)
                    · refine r_iload_n dX8_sampleSize_25 rfl 2 rfl ?_
                      refine r_iconst (v := nI 2) dX8_sampleSize_26 (by decide) ?_
                      refine r_icmp_neN (tgt := 38) dX8_sampleSize_27 (by decide) (by omega) (by omega) (fun h27_4 => ?_) (fun h27_4 => ?_)
                      · refine r_iload_n dX8_sampleSize_38 rfl 0 rfl ?_
                        refine r_gets (C := "LotInspector$Product") (n := "SIZES") (d := "[I") (v := .ref (gK G 0 1)) (fun U h => h.2.1.2.2.1) dX8_sampleSize_39 (sg3 205 rfl rfl) ?_
                        refine r_alenT (fun U h => h.2.1.2.2.2.1) dX8_sampleSize_42 ?_
                        refine r_icmp_geN (tgt := 54) dX8_sampleSize_43 (by decide) (by omega) (by omega) (fun zz43_4 => ?_) (fun zz43_4 => ?_)
                        · exact absurd zz43_4 (by decide)
                        · refine r_gets (C := "LotInspector$Product") (n := "SIZES") (d := "[I") (v := .ref (gK G 0 1)) (fun U h => h.2.1.2.2.1) dX8_sampleSize_46 (sg3 205 rfl rfl) ?_
                          refine r_iload_n dX8_sampleSize_49 rfl 0 rfl ?_
                          refine r_ialdT (fun U h => h.2.1.2.2.2.1) dX8_sampleSize_50 (vp_in_nI (by decide) (by decide)) ?_
                          refine Wx.top (x := sizeE (nI 4).toNatClampNeg) (y := nI 13) (by decide) ?_
                          refine r_goto (tgt := 55) dX8_sampleSize_51 (by decide) ?_
                          refine r_istore_n (lv' := [(3, .int (nI (13))), (2, .int (nI (4))), (0, .int (nI (n))), (1, .int (nI (v)))]) dX8_sampleSize_55 rfl (by decide) rfl ?_
                          refine r_iload_n dX8_sampleSize_56 rfl 0 rfl ?_
                          refine r_iload_n dX8_sampleSize_57 rfl 2 rfl ?_
                          refine r_fnS (M2 := m_J9_min_7cf53) (As := [.int (nI (13)), .int (nI (n))]) (rest := []) (v := some (.int (nI (Nat.min 13 n)))) dX8_sampleSize_58 cc_X8_sampleSize_58 rfl rfl rfl (Nat.le_of_ble_eq_true rfl) (j_min (by omega) (by omega)) rfl ?_
                          have e : Nat.min 13 n = smpN n v := by
                            have hb : bandN n = 4 := by unfold bandN; rw [if_neg (by omega), if_neg (by omega), if_neg (by omega), if_neg (by omega), if_pos (by omega)]
                            unfold smpN
                            rw [hb, if_neg hv]
                            rfl
                          exact r_iret (ty := .int) dX8_sampleSize_61 rfl rfl ⟨congrArg (fun x => Sum.inl (some (Value.int (nI x)))) e, rfl⟩
                      · exact absurd h27_4 hv
                    · refine r_iincN (k := 1) (lv' := [(2, .int (nI (5))), (0, .int (nI (n))), (1, .int (nI (v)))]) dX8_sampleSize_19 (by decide) 0 rfl (by decide) rfl ?_
                      refine r_goto (tgt := 2) dX8_sampleSize_22 (by decide) ?_
                      refine r_iload_n dX8_sampleSize_2 rfl 0 rfl ?_
                      refine r_gets (C := "LotInspector$Product") (n := "BAND_ENDS") (d := "[I") (v := .ref (gK G 0 0)) (fun U h => h.2.1.1) dX8_sampleSize_3 (sg3 200 rfl rfl) ?_
                      refine r_alenT (fun U h => h.2.1.2.1) dX8_sampleSize_6 ?_
                      refine r_icmp_geN (tgt := 25) dX8_sampleSize_7 (by decide) (by omega) (by omega) (fun zz7_5 => ?_) (fun zz7_5 => ?_)
                      · exact absurd zz7_5 (by decide)
                      · refine r_iload_n dX8_sampleSize_10 rfl 1 rfl ?_
                        refine r_gets (C := "LotInspector$Product") (n := "BAND_ENDS") (d := "[I") (v := .ref (gK G 0 0)) (fun U h => h.2.1.1) dX8_sampleSize_11 (sg3 200 rfl rfl) ?_
                        refine r_iload_n dX8_sampleSize_14 rfl 0 rfl ?_
                        refine r_ialdT (fun U h => h.2.1.2.1) dX8_sampleSize_15 (vp_in_nI (by decide) (by decide)) ?_
                        refine Wx.top (x := bandE (nI 5).toNatClampNeg) (y := nI 150) (by decide) ?_
                        refine r_icmp_leN (tgt := 25) dX8_sampleSize_16 (by decide) (by omega) (by omega) (fun h16_5 => ?_) (fun h16_5 => ?_)
                        · refine r_iload_n dX8_sampleSize_25 rfl 2 rfl ?_
                          refine r_iconst (v := nI 2) dX8_sampleSize_26 (by decide) ?_
                          refine r_icmp_neN (tgt := 38) dX8_sampleSize_27 (by decide) (by omega) (by omega) (fun h27_5 => ?_) (fun h27_5 => ?_)
                          · refine r_iload_n dX8_sampleSize_38 rfl 0 rfl ?_
                            refine r_gets (C := "LotInspector$Product") (n := "SIZES") (d := "[I") (v := .ref (gK G 0 1)) (fun U h => h.2.1.2.2.1) dX8_sampleSize_39 (sg3 205 rfl rfl) ?_
                            refine r_alenT (fun U h => h.2.1.2.2.2.1) dX8_sampleSize_42 ?_
                            refine r_icmp_geN (tgt := 54) dX8_sampleSize_43 (by decide) (by omega) (by omega) (fun zz43_5 => ?_) (fun zz43_5 => ?_)
                            · exact absurd zz43_5 (by decide)
                            · refine r_gets (C := "LotInspector$Product") (n := "SIZES") (d := "[I") (v := .ref (gK G 0 1)) (fun U h => h.2.1.2.2.1) dX8_sampleSize_46 (sg3 205 rfl rfl) ?_
                              refine r_iload_n dX8_sampleSize_49 rfl 0 rfl ?_
                              refine r_ialdT (fun U h => h.2.1.2.2.2.1) dX8_sampleSize_50 (vp_in_nI (by decide) (by decide)) ?_
                              refine Wx.top (x := sizeE (nI 5).toNatClampNeg) (y := nI 20) (by decide) ?_
                              refine r_goto (tgt := 55) dX8_sampleSize_51 (by decide) ?_
                              refine r_istore_n (lv' := [(3, .int (nI (20))), (2, .int (nI (5))), (0, .int (nI (n))), (1, .int (nI (v)))]) dX8_sampleSize_55 rfl (by decide) rfl ?_
                              refine r_iload_n dX8_sampleSize_56 rfl 0 rfl ?_
                              refine r_iload_n dX8_sampleSize_57 rfl 2 rfl ?_
                              refine r_fnS (M2 := m_J9_min_7cf53) (As := [.int (nI (20)), .int (nI (n))]) (rest := []) (v := some (.int (nI (Nat.min 20 n)))) dX8_sampleSize_58 cc_X8_sampleSize_58 rfl rfl rfl (Nat.le_of_ble_eq_true rfl) (j_min (by omega) (by omega)) rfl ?_
                              have e : Nat.min 20 n = smpN n v := by
                                have hb : bandN n = 5 := by unfold bandN; rw [if_neg (by omega), if_neg (by omega), if_neg (by omega), if_neg (by omega), if_neg (by omega), if_pos (by omega)]
                                unfold smpN
                                rw [hb, if_neg hv]
                                rfl
                              exact r_iret (ty := .int) dX8_sampleSize_61 rfl rfl ⟨congrArg (fun x => Sum.inl (some (Value.int (nI x)))) e, rfl⟩
                          · exact absurd h27_5 hv
                        · refine r_iincN (k := 1) (lv' := [(2, .int (nI (6))), (0, .int (nI (n))), (1, .int (nI (v)))]) dX8_sampleSize_19 (by decide) 0 rfl (by decide) rfl ?_
                          refine r_goto (tgt := 2) dX8_sampleSize_22 (by decide) ?_
                          refine r_iload_n dX8_sampleSize_2 rfl 0 rfl ?_
                          refine r_gets (C := "LotInspector$Product") (n := "BAND_ENDS") (d := "[I") (v := .ref (gK G 0 0)) (fun U h => h.2.1.1) dX8_sampleSize_3 (sg3 200 rfl rfl) ?_
                          refine r_alenT (fun U h => h.2.1.2.1) dX8_sampleSize_6 ?_
                          refine r_icmp_geN (tgt := 25) dX8_sampleSize_7 (by decide) (by omega) (by omega) (fun zz7_6 => ?_) (fun zz7_6 => ?_)
                          · refine r_iload_n dX8_sampleSize_25 rfl 2 rfl ?_
                            refine r_iconst (v := nI 2) dX8_sampleSize_26 (by decide) ?_
                            refine r_icmp_neN (tgt := 38) dX8_sampleSize_27 (by decide) (by omega) (by omega) (fun h27_6 => ?_) (fun h27_6 => ?_)
                            · refine r_iload_n dX8_sampleSize_38 rfl 0 rfl ?_
                              refine r_gets (C := "LotInspector$Product") (n := "SIZES") (d := "[I") (v := .ref (gK G 0 1)) (fun U h => h.2.1.2.2.1) dX8_sampleSize_39 (sg3 205 rfl rfl) ?_
                              refine r_alenT (fun U h => h.2.1.2.2.2.1) dX8_sampleSize_42 ?_
                              refine r_icmp_geN (tgt := 54) dX8_sampleSize_43 (by decide) (by omega) (by omega) (fun zz43_6 => ?_) (fun zz43_6 => ?_)
                              · exact absurd zz43_6 (by decide)
                              · refine r_gets (C := "LotInspector$Product") (n := "SIZES") (d := "[I") (v := .ref (gK G 0 1)) (fun U h => h.2.1.2.2.1) dX8_sampleSize_46 (sg3 205 rfl rfl) ?_
                                refine r_iload_n dX8_sampleSize_49 rfl 0 rfl ?_
                                refine r_ialdT (fun U h => h.2.1.2.2.2.1) dX8_sampleSize_50 (vp_in_nI (by decide) (by decide)) ?_
                                refine Wx.top (x := sizeE (nI 6).toNatClampNeg) (y := nI 32) (by decide) ?_
                                refine r_goto (tgt := 55) dX8_sampleSize_51 (by decide) ?_
                                refine r_istore_n (lv' := [(3, .int (nI (32))), (2, .int (nI (6))), (0, .int (nI (n))), (1, .int (nI (v)))]) dX8_sampleSize_55 rfl (by decide) rfl ?_
                                refine r_iload_n dX8_sampleSize_56 rfl 0 rfl ?_
                                refine r_iload_n dX8_sampleSize_57 rfl 2 rfl ?_
                                refine r_fnS (M2 := m_J9_min_7cf53) (As := [.int (nI (32)), .int (nI (n))]) (rest := []) (v := some (.int (nI (Nat.min 32 n)))) dX8_sampleSize_58 cc_X8_sampleSize_58 rfl rfl rfl (Nat.le_of_ble_eq_true rfl) (j_min (by omega) (by omega)) rfl ?_
                                have e : Nat.min 32 n = smpN n v := by
                                  have hb : bandN n = 6 := by unfold bandN; rw [if_neg (by omega), if_neg (by omega), if_neg (by omega), if_neg (by omega), if_neg (by omega), if_neg (by omega)]
                                  unfold smpN
                                  rw [hb, if_neg hv]
                                  rfl
                                exact r_iret (ty := .int) dX8_sampleSize_61 rfl rfl ⟨congrArg (fun x => Sum.inl (some (Value.int (nI x)))) e, rfl⟩
                            · exact absurd h27_6 hv
                          · exact absurd zz7_6 (by decide)
theorem vp_of {x : Int32} {n : Nat} (hn : n < 2 ^ 31) (h1 : ¬ x < 0) (h2 : ¬ nI n ≤ x) : vp_in x n := Classical.not_not.mp fun q => vp_no hn q h1 h2
theorem vp_of2 {x : Int32} {n : Nat} (hn : n + 1 < 2 ^ 31) (h1 : ¬ x < 0) (h2 : ¬ nI n < x) : vp_in x (n + 1) := by
  obtain ⟨j, hj, rfl⟩ := nI_of h1
  have h3 : j < n + 1 := Nat.lt_of_not_le fun q => h2 (nI_lt q hj)
  exact vp_in_nI h3 hn
set_option maxRecDepth 4000 in
theorem k_setMachine_2 {G : GI} {S : Hp} {o : Nat} (ho : OfS S o) {i p0 k0 : Nat} (hi : i < 6) (h1 : zI S 256 (o + 6 + i) = nI p0) (h2 : zI S 257 (o + 6 + i) = nI k0) {y z : Int32} (h : ¬ (vp_in y 51 ∧ vp_in z 4)) : Fn m_X7_setMachine G [.ref (o), .int (nI (i)), .int (y), .int (z)] S (some (.int ((-2)))) S := by
  refine Cn.of rfl (by decide) (Nat.le_of_ble_eq_true rfl) (fun hN hM => ?_)
  show Wx _ G _ 0 [(0, .ref (o)), (1, .int (nI (i))), (2, .int (y)), (3, .int (z))] [] _
  refine r_aload_n dX7_setMachine_0 rfl 0 rfl ?_
  refine r_iload_n dX7_setMachine_1 rfl 1 rfl ?_
  refine r_fnV (M2 := m_X7_machineAt) (As := [.int (nI (i))]) (rest := []) (v := some (.ref (o + 6 + i))) dX7_setMachine_2 cc_X7_setMachine_82 rfl rfl rfl (Nat.le_of_ble_eq_true rfl) ho.1 rfl rfl (by decide) (k_machineAt ho (by omega)) rfl ?_
  refine r_astore (lv' := [(4, .ref (o + 6 + i)), (0, .ref (o)), (1, .int (nI (i))), (2, .int (y)), (3, .int (z))]) dX7_setMachine_5 (by decide) rfl ?_
  refine r_aload dX7_setMachine_7 0 rfl ?_
  refine r_ifnonnull (tgt := 14) dX7_setMachine_9 (by decide) ?_
  refine r_iload_n dX7_setMachine_14 rfl 3 rfl ?_
  refine r_if_lt (tgt := 33) dX7_setMachine_15 (by decide) (fun h15 => ?_) (fun h15 => ?_)
  · refine r_bipush (v := (-2)) dX7_setMachine_33 (by decide) ?_
    exact r_iret (ty := .int) dX7_setMachine_35 rfl rfl ⟨rfl, rfl⟩
  · refine r_iload_n dX7_setMachine_18 rfl 3 rfl ?_
    refine r_bipush (v := nI 50) dX7_setMachine_19 (by decide) ?_
    refine r_icmp_gt (tgt := 33) dX7_setMachine_21 (by decide) (fun h21 => ?_) (fun h21 => ?_)
    · refine r_bipush (v := (-2)) dX7_setMachine_33 (by decide) ?_
      exact r_iret (ty := .int) dX7_setMachine_35 rfl rfl ⟨rfl, rfl⟩
    · refine r_iload_n dX7_setMachine_24 rfl 4 rfl ?_
      refine r_if_lt (tgt := 33) dX7_setMachine_25 (by decide) (fun h25 => ?_) (fun h25 => ?_)
      · refine r_bipush (v := (-2)) dX7_setMachine_33 (by decide) ?_
        exact r_iret (ty := .int) dX7_setMachine_35 rfl rfl ⟨rfl, rfl⟩
      · refine r_iload_n dX7_setMachine_28 rfl 4 rfl ?_
        refine r_iconst (v := nI 4) dX7_setMachine_29 (by decide) ?_
        refine r_icmp_lt (tgt := 36) dX7_setMachine_30 (by decide) (fun h30 => ?_) (fun h30 => ?_)
        · exact absurd ⟨vp_of2 (n := 50) (by decide) h15 h21, vp_of (n := 4) (by decide) h25 (Int32.not_le.mpr h30)⟩ h
        · refine r_bipush (v := (-2)) dX7_setMachine_33 (by decide) ?_
          exact r_iret (ty := .int) dX7_setMachine_35 rfl rfl ⟨rfl, rfl⟩
set_option maxRecDepth 4000 in
theorem k_setProduct_2 {G : GI} {S : Hp} {o : Nat} (ho : OfS S o) {i : Nat} (hi : i < 4) {x y z : Int32} (h : ¬ (vp_in x 31 ∧ vp_in y 16 ∧ vp_in z 16)) : Fn m_X7_setProduct G [.ref (o), .int (nI (i)), .int (x), .int (y), .int (z)] S (some (.int ((-2)))) S := by
  refine Cn.of rfl (by decide) (Nat.le_of_ble_eq_true rfl) (fun hN hM => ?_)
  show Wx _ G _ 0 [(0, .ref (o)), (1, .int (nI (i))), (2, .int (x)), (3, .int (y)), (4, .int (z))] [] _
  refine r_aload_n dX7_setProduct_0 rfl 0 rfl ?_
  refine r_iload_n dX7_setProduct_1 rfl 1 rfl ?_
  refine r_fnV (M2 := m_X7_productAt) (As := [.int (nI (i))]) (rest := []) (v := some (.ref (o + 12 + i))) dX7_setProduct_2 cc_X7_setProduct_75 rfl rfl rfl (Nat.le_of_ble_eq_true rfl) ho.1 rfl rfl (by decide) (k_productAt ho (by omega)) rfl ?_
  refine r_astore (lv' := [(5, .ref (o + 12 + i)), (0, .ref (o)), (1, .int (nI (i))), (2, .int (x)), (3, .int (y)), (4, .int (z))]) dX7_setProduct_5 (by decide) rfl ?_
  refine r_aload dX7_setProduct_7 0 rfl ?_
  refine r_ifnonnull (tgt := 14) dX7_setProduct_9 (by decide) ?_
  refine r_iload_n dX7_setProduct_14 rfl 3 rfl ?_
  refine r_if_lt (tgt := 46) dX7_setProduct_15 (by decide) (fun h15 => ?_) (fun h15 => ?_)
  · refine r_bipush (v := (-2)) dX7_setProduct_46 (by decide) ?_
    exact r_iret (ty := .int) dX7_setProduct_48 rfl rfl ⟨rfl, rfl⟩
  · refine r_iload_n dX7_setProduct_18 rfl 3 rfl ?_
    refine r_bipush (v := nI 30) dX7_setProduct_19 (by decide) ?_
    refine r_icmp_gt (tgt := 46) dX7_setProduct_21 (by decide) (fun h21 => ?_) (fun h21 => ?_)
    · refine r_bipush (v := (-2)) dX7_setProduct_46 (by decide) ?_
      exact r_iret (ty := .int) dX7_setProduct_48 rfl rfl ⟨rfl, rfl⟩
    · refine r_iload_n dX7_setProduct_24 rfl 4 rfl ?_
      refine r_if_lt (tgt := 46) dX7_setProduct_25 (by decide) (fun h25 => ?_) (fun h25 => ?_)
      · refine r_bipush (v := (-2)) dX7_setProduct_46 (by decide) ?_
        exact r_iret (ty := .int) dX7_setProduct_48 rfl rfl ⟨rfl, rfl⟩
      · refine r_iload_n dX7_setProduct_28 rfl 4 rfl ?_
        refine r_bipush (v := nI 15) dX7_setProduct_29 (by decide) ?_
        refine r_icmp_gt (tgt := 46) dX7_setProduct_31 (by decide) (fun h31 => ?_) (fun h31 => ?_)
        · refine r_bipush (v := (-2)) dX7_setProduct_46 (by decide) ?_
          exact r_iret (ty := .int) dX7_setProduct_48 rfl rfl ⟨rfl, rfl⟩
        · refine r_iload dX7_setProduct_34 5 rfl ?_
          refine r_if_lt (tgt := 46) dX7_setProduct_36 (by decide) (fun h36 => ?_) (fun h36 => ?_)
          · refine r_bipush (v := (-2)) dX7_setProduct_46 (by decide) ?_
            exact r_iret (ty := .int) dX7_setProduct_48 rfl rfl ⟨rfl, rfl⟩
          · refine r_iload dX7_setProduct_39 5 rfl ?_
            refine r_bipush (v := nI 15) dX7_setProduct_41 (by decide) ?_
            refine r_icmp_le (tgt := 49) dX7_setProduct_43 (by decide) (fun h43 => ?_) (fun h43 => ?_)
            · exact absurd ⟨vp_of2 (n := 30) (by decide) h15 h21, vp_of2 (n := 15) (by decide) h25 h31, vp_of2 (n := 15) (by decide) h36 (Int32.not_lt.mpr h43)⟩ h
            · refine r_bipush (v := (-2)) dX7_setProduct_46 (by decide) ?_
              exact r_iret (ty := .int) dX7_setProduct_48 rfl rfl ⟨rfl, rfl⟩
