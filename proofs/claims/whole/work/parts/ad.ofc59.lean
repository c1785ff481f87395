/-! THE CHANCE: the reference's question -/
set_option maxRecDepth 4000 in
theorem q_chance_1 {G : GI} {T : Hp} {m : Nat} {V : RVal} {g : Nat → Nat} {od : Nat → UInt64} (hs : RS T m)  (h24 : g 0 ≤ 24) {x y : Int32} (hx : ¬ vp_in x (g 0)) : Fn m_X13_chance G [.ref (m), .int (x), .int (y)] (rput T m (sg V g) od) (some (.long (0))) (rput T m (sg (up2 V 0 (6) (nI 1)) (g)) od) := by
  refine Cn.of rfl (by decide) (Nat.le_of_ble_eq_true rfl) (fun hN hM => ?_)
  show Wx _ G _ 0 [(0, .ref (m)), (1, .int (x)), (2, .int (y))] [] _
  refine r_aload_n dX13_chance_0 rfl 0 rfl ?_
  refine r_aload_n dX13_chance_1 rfl 0 rfl ?_
  refine r_iload_n dX13_chance_2 rfl 1 rfl ?_
  refine r_fnV (M2 := m_X13_isLot) (As := [.int (x)]) (rest := [.ref (m)]) (v := some (.int (nI (0)))) dX13_chance_3 cc_X13_chance_76 rfl rfl rfl (Nat.le_of_ble_eq_true rfl) hs.1 rfl rfl (by decide) (Fn.eq (g_isLot hs h24) (congrArg (fun x => some (Value.int x)) (bI_f hx)) rfl) rfl ?_
  refine r_if_neN (tgt := 13) dX13_chance_6 (by decide) (by omega) (fun zz6 => ?_) (fun zz6 => ?_)
  · exact absurd zz6 (by decide)
  · refine r_iconst (v := nI 1) dX13_chance_9 (by decide) ?_
    refine r_goto (tgt := 40) dX13_chance_10 (by decide) ?_
    refine o_put (k := 6) hs dX13_chance_40 fw_X13_chance_54 rfl rfl rfl ?_
    refine r_aload_n dX13_chance_43 rfl 0 rfl ?_
    refine o_get (k := 6) hs dX13_chance_44 fr_X13_54 rfl ?_
    refine Wx.top up2_s ?_
    refine r_if_leN (tgt := 52) dX13_chance_47 (by decide) (by omega) (fun zz47 => ?_) (fun zz47 => ?_)
    · exact absurd zz47 (by decide)
    · refine r_lconst (v := 0) dX13_chance_50 (by decide) ?_
      exact r_lret dX13_chance_51 rfl ⟨rfl, rfl⟩
set_option maxRecDepth 4000 in
theorem q_chance_2 {G : GI} {T : Hp} {m : Nat} {V : RVal} {g : Nat → Nat} {od : Nat → UInt64} (hs : RS T m)  (h24 : g 0 ≤ 24) {l : Nat} (hl : l < g 0) {y : Int32} (hy : ¬ vp_in y 3) : Fn m_X13_chance G [.ref (m), .int (nI (l)), .int (y)] (rput T m (sg V g) od) (some (.long (0))) (rput T m (sg (up2 V 0 (6) (nI 2)) (g)) od) := by
  refine Cn.of rfl (by decide) (Nat.le_of_ble_eq_true rfl) (fun hN hM => ?_)
  show Wx _ G _ 0 [(0, .ref (m)), (1, .int (nI (l))), (2, .int (y))] [] _
  refine r_aload_n dX13_chance_0 rfl 0 rfl ?_
  refine r_aload_n dX13_chance_1 rfl 0 rfl ?_
  refine r_iload_n dX13_chance_2 rfl 1 rfl ?_
  refine r_fnV (M2 := m_X13_isLot) (As := [.int (nI (l))]) (rest := [.ref (m)]) (v := some (.int (nI (1)))) dX13_chance_3 cc_X13_chance_76 rfl rfl rfl (Nat.le_of_ble_eq_true rfl) hs.1 rfl rfl (by decide) (Fn.eq (g_isLot hs h24) (congrArg (fun x => some (Value.int x)) (bI_t (vp_in_nI (by omega) (by first | decide | omega)))) rfl) rfl ?_
  refine r_if_neN (tgt := 13) dX13_chance_6 (by decide) (by omega) (fun zz6 => ?_) (fun zz6 => ?_)
  · refine r_iload_n dX13_chance_13 rfl 2 rfl ?_
    refine r_iconst (v := nI 0) dX13_chance_14 (by decide) ?_
    refine r_iconst (v := nI 2) dX13_chance_15 (by decide) ?_
    refine r_fnS (M2 := m_X13_in) (As := [.int (y), .int (nI (0)), .int (nI (2))]) (rest := [.ref (m)]) (v := some (.int (nI (0)))) dX13_chance_16 cc_X13_chance_68 rfl rfl rfl (Nat.le_of_ble_eq_true rfl) (Fn.eq (f_in0 (n := 2) (by decide)) (congrArg (fun x => some (Value.int x)) (bI_f hy)) rfl) rfl ?_
    refine r_if_neN (tgt := 26) dX13_chance_19 (by decide) (by omega) (fun zz19 => ?_) (fun zz19 => ?_)
    · exact absurd zz19 (by decide)
    · refine r_iconst (v := nI 2) dX13_chance_22 (by decide) ?_
      refine r_goto (tgt := 40) dX13_chance_23 (by decide) ?_
      refine o_put (k := 6) hs dX13_chance_40 fw_X13_chance_54 rfl rfl rfl ?_
      refine r_aload_n dX13_chance_43 rfl 0 rfl ?_
      refine o_get (k := 6) hs dX13_chance_44 fr_X13_54 rfl ?_
      refine Wx.top up2_s ?_
      refine r_if_leN (tgt := 52) dX13_chance_47 (by decide) (by omega) (fun zz47 => ?_) (fun zz47 => ?_)
      · exact absurd zz47 (by decide)
      · refine r_lconst (v := 0) dX13_chance_50 (by decide) ?_
        exact r_lret dX13_chance_51 rfl ⟨rfl, rfl⟩
  · exact absurd zz6 (by decide)
set_option maxRecDepth 4000 in
theorem q_chance_3 {G : GI} {T : Hp} {m : Nat} {V : RVal} {g : Nat → Nat} {od : Nat → UInt64} (hs : RS T m)  (h24 : g 0 ≤ 24) (hb : WB g) {l : Nat} (hl : l < g 0) (hz : g (90 + 13 * l + 1) ≤ 200) {v : Nat} (hv : v < 3) (h0 : inS g l 0 = 0) : Fn m_X13_chance G [.ref (m), .int (nI (l)), .int (nI (v))] (rput T m (sg V g) od) (some (.long (0))) (rput T m (sg (up2 V 0 (6) (nI 3)) (g)) od) := by
  refine Cn.of rfl (by decide) (Nat.le_of_ble_eq_true rfl) (fun hN hM => ?_)
  show Wx _ G _ 0 [(0, .ref (m)), (1, .int (nI (l))), (2, .int (nI (v)))] [] _
  refine r_aload_n dX13_chance_0 rfl 0 rfl ?_
  refine r_aload_n dX13_chance_1 rfl 0 rfl ?_
  refine r_iload_n dX13_chance_2 rfl 1 rfl ?_
  refine r_fnV (M2 := m_X13_isLot) (As := [.int (nI (l))]) (rest := [.ref (m)]) (v := some (.int (nI (1)))) dX13_chance_3 cc_X13_chance_76 rfl rfl rfl (Nat.le_of_ble_eq_true rfl) hs.1 rfl rfl (by decide) (Fn.eq (g_isLot hs h24) (congrArg (fun x => some (Value.int x)) (bI_t (vp_in_nI (by omega) (by first | decide | omega)))) rfl) rfl ?_
  refine r_if_neN (tgt := 13) dX13_chance_6 (by decide) (by omega) (fun zz6 => ?_) (fun zz6 => ?_)
  · refine r_iload_n dX13_chance_13 rfl 2 rfl ?_
    refine r_iconst (v := nI 0) dX13_chance_14 (by decide) ?_
    refine r_iconst (v := nI 2) dX13_chance_15 (by decide) ?_
    refine r_fnS (M2 := m_X13_in) (As := [.int (nI (v)), .int (nI (0)), .int (nI (2))]) (rest := [.ref (m)]) (v := some (.int (nI (1)))) dX13_chance_16 cc_X13_chance_68 rfl rfl rfl (Nat.le_of_ble_eq_true rfl) (Fn.eq (f_in0 (n := 2) (by decide)) (congrArg (fun x => some (Value.int x)) (bI_t (vp_in_nI (by omega) (by decide)))) rfl) rfl ?_
    refine r_if_neN (tgt := 26) dX13_chance_19 (by decide) (by omega) (fun zz19 => ?_) (fun zz19 => ?_)
    · refine r_aload_n dX13_chance_26 rfl 0 rfl ?_
      refine r_iload_n dX13_chance_27 rfl 1 rfl ?_
      refine r_iconst (v := nI 0) dX13_chance_28 (by decide) ?_
      refine r_fnV (M2 := m_X13_inState) (As := [.int (nI (l)), .int (nI (0))]) (rest := [.ref (m)]) (v := some (.int (nI (inS g l 0)))) dX13_chance_29 cc_X13_chance_175 rfl rfl rfl (Nat.le_of_ble_eq_true rfl) hs.1 rfl rfl (by decide) (g_inState hs hb (by omega) (by omega) (by omega)) rfl ?_
      refine r_if_neN (tgt := 39) dX13_chance_32 (by decide) (by omega) (fun h32 => ?_) (fun h32 => ?_)
      · exact absurd h0 h32
      · refine r_iconst (v := nI 3) dX13_chance_35 (by decide) ?_
        refine r_goto (tgt := 40) dX13_chance_36 (by decide) ?_
        refine o_put (k := 6) hs dX13_chance_40 fw_X13_chance_54 rfl rfl rfl ?_
        refine r_aload_n dX13_chance_43 rfl 0 rfl ?_
        refine o_get (k := 6) hs dX13_chance_44 fr_X13_54 rfl ?_
        refine Wx.top up2_s ?_
        refine r_if_leN (tgt := 52) dX13_chance_47 (by decide) (by omega) (fun zz47 => ?_) (fun zz47 => ?_)
        · exact absurd zz47 (by decide)
        · refine r_lconst (v := 0) dX13_chance_50 (by decide) ?_
          exact r_lret dX13_chance_51 rfl ⟨rfl, rfl⟩
    · exact absurd zz19 (by decide)
  · exact absurd zz6 (by decide)
set_option maxRecDepth 4000 in
theorem q_chance_0 {G : GI} {T : Hp} {m : Nat} {V : RVal} {g : Nat → Nat} {od : Nat → UInt64} (hs : RS T m)  (h24 : g 0 ≤ 24) (hb : WB g) {l : Nat} (hl : l < g 0) (hz : g (90 + 13 * l + 1) ≤ 200) (hp : g (90 + 13 * l + 0) < 4) (h15 : g (22 + 10 * g (90 + 13 * l + 0) + 1) < 16) (hlim : g (22 + 10 * g (90 + 13 * l + 0)) ≤ 30) {v : Nat} (hv : v < 3) (h0 : ¬ inS g l 0 = 0) : Fn m_X13_chance G [.ref m, .int (nI l), .int (nI v)] (rput T m (sg V g) od) (some (.long ((smC (inS g l 0) (badN g l) (smpN (inS g l 0) v) (Nat.min (alwN (smpN (inS g l 0) v) (g (22 + 10 * g (90 + 13 * l + 0))) v) (smpN (inS g l 0) v) + 1)).toInt64))) (rput T m (sg (up2 V 0 (6) (nI 0)) g) (rwC (smpN (inS g l 0) v + 1) (inS g l 0) (badN g l) (smpN (inS g l 0) v) od)) := by
  refine Cn.of rfl (by decide) (Nat.le_of_ble_eq_true rfl) (fun hN hM => ?_)
  show Wx _ G _ 0 [(0, .ref (m)), (1, .int (nI (l))), (2, .int (nI (v)))] [] _
  have hin2 : inS g l 0 ≤ 200 := Nat.le_trans (cnt_le _ _) hz
  have hsm := smC_end (t := Nat.min (alwN (smpN (inS g l 0) v) (g (22 + 10 * g (90 + 13 * l + 0))) v) (smpN (inS g l 0) v) + 1) (badN_le (g := g) (l := l)) hin2 (smpN_le (inS g l 0) v).1 (smpN_le (inS g l 0) v).2 (Nat.succ_le_succ (Nat.min_le_right _ _))
  refine r_aload_n dX13_chance_0 rfl 0 rfl ?_
  refine r_aload_n dX13_chance_1 rfl 0 rfl ?_
  refine r_iload_n dX13_chance_2 rfl 1 rfl ?_
  refine r_fnV (M2 := m_X13_isLot) (As := [.int (nI (l))]) (rest := [.ref (m)]) (v := some (.int (nI (1)))) dX13_chance_3 cc_X13_chance_76 rfl rfl rfl (Nat.le_of_ble_eq_true rfl) hs.1 rfl rfl (by decide) (Fn.eq (g_isLot hs h24) (congrArg (fun x => some (Value.int x)) (bI_t (vp_in_nI (by (first | omega | (have := smpN_le (inS g l 0) v; omega))) (by first | decide | omega)))) rfl) rfl ?_
  refine r_if_neN (tgt := 13) dX13_chance_6 (by decide) (by (first | omega | (have := smpN_le (inS g l 0) v; omega))) (fun zz6 => ?_) (fun zz6 => ?_)
  · refine r_iload_n dX13_chance_13 rfl 2 rfl ?_
    refine r_iconst (v := nI 0) dX13_chance_14 (by decide) ?_
    refine r_iconst (v := nI 2) dX13_chance_15 (by decide) ?_
    refine r_fnS (M2 := m_X13_in) (As := [.int (nI (v)), .int (nI (0)), .int (nI (2))]) (rest := [.ref (m)]) (v := some (.int (nI (1)))) dX13_chance_16 cc_X13_chance_68 rfl rfl rfl (Nat.le_of_ble_eq_true rfl) (Fn.eq (f_in0 (n := 2) (by decide)) (congrArg (fun x => some (Value.int x)) (bI_t (vp_in_nI (by (first | omega | (have := smpN_le (inS g l 0) v; omega))) (by decide)))) rfl) rfl ?_
    refine r_if_neN (tgt := 26) dX13_chance_19 (by decide) (by (first | omega | (have := smpN_le (inS g l 0) v; omega))) (fun zz19 => ?_) (fun zz19 => ?_)
    · refine r_aload_n dX13_chance_26 rfl 0 rfl ?_
      refine r_iload_n dX13_chance_27 rfl 1 rfl ?_
      refine r_iconst (v := nI 0) dX13_chance_28 (by decide) ?_
      refine r_fnV (M2 := m_X13_inState) (As := [.int (nI (l)), .int (nI (0))]) (rest := [.ref (m)]) (v := some (.int (nI (inS g l 0)))) dX13_chance_29 cc_X13_chance_175 rfl rfl rfl (Nat.le_of_ble_eq_true rfl) hs.1 rfl rfl (by decide) (g_inState hs hb (by (first | omega | (have := smpN_le (inS g l 0) v; omega))) (by (first | omega | (have := smpN_le (inS g l 0) v; omega))) (by (first | omega | (have := smpN_le (inS g l 0) v; omega)))) rfl ?_
      refine r_if_neN (tgt := 39) dX13_chance_32 (by decide) (by (first | omega | (have := smpN_le (inS g l 0) v; omega))) (fun h32 => ?_) (fun h32 => ?_)
      · refine r_iconst (v := nI 0) dX13_chance_39 (by decide) ?_
        refine o_put (k := 6) hs dX13_chance_40 fw_X13_chance_54 rfl rfl rfl ?_
        refine r_aload_n dX13_chance_43 rfl 0 rfl ?_
        refine o_get (k := 6) hs dX13_chance_44 fr_X13_54 rfl ?_
        refine Wx.top up2_s ?_
        refine r_if_leN (tgt := 52) dX13_chance_47 (by decide) (by (first | omega | (have := smpN_le (inS g l 0) v; omega))) (fun zz47 => ?_) (fun zz47 => ?_)
        · refine r_aload_n dX13_chance_52 rfl 0 rfl ?_
          refine r_iload_n dX13_chance_53 rfl 1 rfl ?_
          refine r_iconst (v := nI 0) dX13_chance_54 (by decide) ?_
          refine r_fnV (M2 := m_X13_inState) (As := [.int (nI (l)), .int (nI (0))]) (rest := []) (v := some (.int (nI (inS g l 0)))) dX13_chance_55 cc_X13_chance_175 rfl rfl rfl (Nat.le_of_ble_eq_true rfl) hs.1 rfl rfl (by decide) (g_inState hs hb (by (first | omega | (have := smpN_le (inS g l 0) v; omega))) (by (first | omega | (have := smpN_le (inS g l 0) v; omega))) (by (first | omega | (have := smpN_le (inS g l 0) v; omega)))) rfl ?_
          refine r_istore_n (lv' := [(3, .int (nI (inS g l 0))), (0, .ref (m)), (1, .int (nI (l))), (2, .int (nI (v)))]) dX13_chance_58 rfl (by decide) rfl ?_
          refine r_iload_n dX13_chance_59 rfl 0 rfl ?_
          refine r_iload_n dX13_chance_60 rfl 3 rfl ?_
          refine r_fnS (M2 := m_X13_sample) (As := [.int (nI (inS g l 0)), .int (nI (v))]) (rest := []) (v := some (.int (nI (smpN (inS g l 0) v)))) dX13_chance_61 cc_X13_chance_134 rfl rfl rfl (Nat.le_of_ble_eq_true rfl) (f_sample (by (first | omega | (have := smpN_le (inS g l 0) v; omega))) (by (first | omega | (have := smpN_le (inS g l 0) v; omega)))) rfl ?_
          refine r_istore (lv' := [(4, .int (nI (smpN (inS g l 0) v))), (3, .int (nI (inS g l 0))), (0, .ref (m)), (1, .int (nI (l))), (2, .int (nI (v)))]) dX13_chance_64 (by decide) rfl ?_
          refine r_aload_n dX13_chance_66 rfl 2 rfl ?_
          refine r_iload_n dX13_chance_67 rfl 1 rfl ?_
          refine r_aload_n dX13_chance_68 rfl 2 rfl ?_
          refine r_iload_n dX13_chance_69 rfl 3 rfl ?_
          refine r_fnV (M2 := m_X13_badHere) (As := [.int (nI (l))]) (rest := [.int (nI (inS g l 0)), .ref (m)]) (v := some (.int (nI (badN g l)))) dX13_chance_70 cc_X13_chance_263 rfl rfl rfl (Nat.le_of_ble_eq_true rfl) hs.1 rfl rfl (by decide) (g_badHere hs hb (by (first | omega | (have := smpN_le (inS g l 0) v; omega))) (by (first | omega | (have := smpN_le (inS g l 0) v; omega))) hp h15) rfl ?_
          refine r_iload dX13_chance_73 0 rfl ?_
          refine r_iload dX13_chance_75 0 rfl ?_
          refine r_aload_n dX13_chance_77 rfl 2 rfl ?_
          refine m_ref (k := 0) (j := 1) hs hs.2.1.1 dX13_chance_78 fr_X13_7 rfl ?_
          refine r_aload_n dX13_chance_81 rfl 2 rfl ?_
          refine r_iload_n dX13_chance_82 rfl 3 rfl ?_
          refine r_fnV (M2 := m_X13_productOf) (As := [.int (nI (l))]) (rest := [.ref (m + 1), .int (nI (smpN (inS g l 0) v)), .int (nI (smpN (inS g l 0) v)), .int (nI (badN g l)), .int (nI (inS g l 0)), .ref (m)]) (v := some (.int (nI (22 + 10 * (g (90 + 13 * l + 0)))))) dX13_chance_83 cc_X13_chance_90 rfl rfl rfl (Nat.le_of_ble_eq_true rfl) hs.1 rfl rfl (by decide) (g_productOf hs (by (first | omega | (have := smpN_le (inS g l 0) v; omega)))) rfl ?_
          refine g_iald (i := 22 + 10 * (g (90 + 13 * l + 0))) hs dX13_chance_86 (by (first | omega | (have := smpN_le (inS g l 0) v; omega))) ?_
          refine r_iload_n dX13_chance_87 rfl 4 rfl ?_
          refine r_fnS (M2 := m_X13_allowed) (As := [.int (nI (smpN (inS g l 0) v)), .int (nI (g (22 + 10 * (g (90 + 13 * l + 0))))), .int (nI (v))]) (rest := [.int (nI (smpN (inS g l 0) v)), .int (nI (badN g l)), .int (nI (inS g l 0)), .ref (m)]) (v := some (.int (nI (alwN (smpN (inS g l 0) v) (g (22 + 10 * (g (90 + 13 * l + 0)))) v)))) dX13_chance_88 cc_X13_chance_137 rfl rfl rfl (Nat.le_of_ble_eq_true rfl) (f_allowed (by (first | omega | (have := smpN_le (inS g l 0) v; omega))) (by (first | omega | (have := smpN_le (inS g l 0) v; omega))) (by (first | omega | (have := smpN_le (inS g l 0) v; omega)))) rfl ?_
          refine r_fnV (M2 := m_X13_chanceOf) (As := [.int (nI (inS g l 0)), .int (nI (badN g l)), .int (nI (smpN (inS g l 0) v)), .int (nI (alwN (smpN (inS g l 0) v) (g (22 + 10 * (g (90 + 13 * l + 0)))) v))]) (rest := []) (v := some (.double (smC (inS g l 0) (badN g l) (smpN (inS g l 0) v) (Nat.min (alwN (smpN (inS g l 0) v) (g (22 + 10 * g (90 + 13 * l + 0))) v) (smpN (inS g l 0) v) + 1)))) dX13_chance_91 cc_X13_chance_269 rfl rfl rfl (Nat.le_of_ble_eq_true rfl) hs.1 rfl rfl (by decide) (g_chanceOf hs (badN_le (g := g) (l := l)) hin2 (s := smpN (inS g l 0) v) (a := alwN (smpN (inS g l 0) v) (g (22 + 10 * g (90 + 13 * l + 0))) v) (smpN_le _ _).1 (smpN_le _ _).2 (by have := alw_b (s := smpN (inS g l 0) v) (q := g (22 + 10 * g (90 + 13 * l + 0))) (v := v) (smpN_le _ _).2 hlim; omega)) rfl ?_
          refine r_fnS (M2 := m_Jxe99ae_doubleToLongBits_ccdee) (As := [.double (smC (inS g l 0) (badN g l) (smpN (inS g l 0) v) (Nat.min (alwN (smpN (inS g l 0) v) (g (22 + 10 * g (90 + 13 * l + 0))) v) (smpN (inS g l 0) v) + 1))]) (rest := []) (v := some (.long ((smC (inS g l 0) (badN g l) (smpN (inS g l 0) v) (Nat.min (alwN (smpN (inS g l 0) v) (g (22 + 10 * g (90 + 13 * l + 0))) v) (smpN (inS g l 0) v) + 1)).toInt64))) dX13_chance_94 cc_X13_chance_273 rfl rfl rfl (Nat.le_of_ble_eq_true rfl) (j_bitsD hsm.1.eq) rfl ?_
          exact r_lret dX13_chance_97 rfl ⟨rfl, rfl⟩
        · exact absurd zz47 (by decide)
      · exact absurd h32 h0
    · exact absurd zz19 (by decide)
  · exact absurd zz6 (by decide)
