/-! THE CLASS READS A COMMAND -/
theorem few_E : ∀ q, q < 9 → fewE q = nI (fewN q) := by decide +kernel
theorem mos_E : ∀ q, q < 9 → mostE q = nI (mosN q) := by decide +kernel
set_option maxRecDepth 4000 in
set_option maxHeartbeats 400000 in
theorem x_readWord {G : GI} {F : Nat → Prop} {S0 S : Hp} {w : Nat → Nat} {x : Nat} {K : Nat → Nat} {E : Nat → Nat → Nat} {A c : Nat → Nat → Nat} {bx bu : Nat} (h : XF F S0 S w x K E A c bx bu) {t : Nat → Nat} {L : Nat} (hT : TXc E t L) {p : Nat} (hp : E 162 51 = p) (hpL : p ≤ L) {e : Nat} (hlt : LtE t L p e) : Cn m_X3_readWord G [.ref (x + 51)] S (fun r T => r = .inl none ∧ ((∃ q, WdP t p e q ∧ XF F S0 T w x (up1 K 11 (gK G 1 q + 1)) (up2 E 162 51 e) A c bx bu) ∨ ((∀ q, ¬ WdP t p e q) ∧ XF F S0 T w x (up1 K 11 0) E A c bx bu))) := by
  refine Cn.of rfl (by decide) (Nat.le_of_ble_eq_true rfl) (fun hN hM => ?_)
  show Wx _ G _ 0 [(0, .ref (x + 51))] [] _
  have hL60 := hT.2.1
  have heL := hlt.le hpL
  have hpe := hlt.1
  refine r_aload_n dX3_readWord_0 rfl 0 rfl ?_
  refine r_getI (ci := 5) (k := 2) dX3_readWord_1 fr_X3_24 h.1.t51 rfl ?_
  refine Wx.top (h.1.i (f := 162) (by decide) (by decide)) ?_
  refine Wx.topN hp ?_
  refine r_istore_n (lv' := [(1, .int (nI (p))), (0, .ref (x + 51))]) dX3_readWord_4 rfl (by decide) rfl ?_
  refine Wx.loop (fun u => S) (fun u => [(1, .int (nI (u))), (0, .ref (x + 51))]) (e) (p) hlt.1 (fun u hge hle next => ?_)
  show Wx _ G (S) 5 [(1, .int (nI (u))), (0, .ref (x + 51))] [] _
  refine r_iload_n dX3_readWord_5 rfl 0 rfl ?_
  refine r_aload_n dX3_readWord_6 rfl 1 rfl ?_
  refine r_getI (ci := 5) (k := 1) dX3_readWord_7 fr_X3_21 h.1.t51 rfl ?_
  refine Wx.top (h.1.i (f := 161) (by decide) (by decide)) ?_
  refine Wx.topN hT.1 ?_
  refine r_icmp_geN (tgt := 39) dX3_readWord_10 (by decide) (by (first | omega | (have := cha_lt (i := u) hT; omega))) (by (first | omega | (have := cha_lt (i := u) hT; omega))) (fun h10 => ?_) (fun h10 => ?_)
  · obtain rfl : e = u := Nat.le_antisymm (Nat.le_of_not_lt fun q => by have z := hlt.2.1 u hge q; omega) hle
    refine r_aload_n dX3_readWord_39 rfl 1 rfl ?_
    refine r_null dX3_readWord_40 ?_
    refine r_putP (ci := 5) (k := 5) (x := none) dX3_readWord_41 fw_X3_readWord_40 h.1.t51 rfl rfl ?_
    rw [show (none : Option Nat) = wdP (0) from rfl]
    refine Wx.gp (fun T => XF F S0 T w x (up1 K 11 (0)) E A c bx bu) (h.PW (n := 0)) (fun T (hx : XF F S0 T w x (up1 K 11 (0)) E A c bx bu) => ?_)
    refine r_gets (C := "LotInspector$Commands") (n := "WORDS") (d := "[LLotInspector$Word;") (v := .ref (gK G 0 3)) (fun U h => h.2.1.2.2.2.2.2.2.1) dX3_readWord_44 (sg6 11 rfl rfl) ?_
    refine r_astore_n (lv' := [(2, .ref (gK G 0 3)), (1, .int (nI (e))), (0, .ref (x + 51))]) dX3_readWord_47 rfl (by decide) rfl ?_
    refine r_aload_n dX3_readWord_48 rfl 0 rfl ?_
    refine r_alenT (t := gK G 0 3) (N := 9) (f := fun j => .ref (gK G 1 j)) (ty := .object "LotInspector$Word") (fun U h => h.2.1.2.2.2.2.2.2.2) dX3_readWord_49 ?_
    refine r_istore_n (lv' := [(3, .int (nI (9))), (2, .ref (gK G 0 3)), (1, .int (nI (e))), (0, .ref (x + 51))]) dX3_readWord_50 rfl (by decide) rfl ?_
    refine r_iconst (v := nI 0) dX3_readWord_51 (by decide) ?_
    refine r_istore (lv' := [(4, .int (nI (0))), (3, .int (nI (9))), (2, .ref (gK G 0 3)), (1, .int (nI (e))), (0, .ref (x + 51))]) dX3_readWord_52 (by decide) rfl ?_
    refine Wx.sub [0, 4, 3, 2, 1] rfl ?_
    refine Wx.loopR (fun u T lv => (∃ n, XF F S0 T w x (up1 K 11 n) E A c bx bu ∧ ((n = 0 ∧ ∀ q, q < u → ¬ WdP t p e q) ∨ ∃ q, q < u ∧ WdP t p e q ∧ n = gK G 1 q + 1)) ∧ lv = [(4, .int (nI (u))), (0, .ref (x + 51)), (1, .int (nI (e))), (2, .ref (gK G 0 3)), (3, .int (nI (9)))]) 9 0 (by decide) ⟨⟨0, hx, Or.inl ⟨rfl, fun q hq => absurd hq (Nat.not_lt_zero q)⟩⟩, rfl⟩ (fun u T lv hu0 hu hI nx => ?_)
    obtain ⟨⟨n, hx, hn⟩, rfl⟩ := hI
    refine r_iload dX3_readWord_54 0 rfl ?_
    refine r_iload_n dX3_readWord_56 rfl 4 rfl ?_
    refine r_icmp_geN (tgt := 91) dX3_readWord_57 (by decide) (by (first | omega | (have := cha_lt (i := u) hT; omega))) (by (first | omega | (have := cha_lt (i := u) hT; omega))) (fun h57 => ?_) (fun h57 => ?_)
    · obtain rfl : u = 9 := by omega
      refine Wx.sub [1, 2] rfl ?_
      rcases hn with ⟨rfl, hno⟩ | ⟨q, hq9, hwd, rfl⟩
      · refine r_aload_n dX3_readWord_91 rfl 0 rfl ?_
        refine r_getZ (ci := 5) (k := 5) dX3_readWord_92 fr_X3_40 hx.1.t51 rfl (hx.1.p165.trans (congrArg wdP up1_s)) ?_
        refine r_ifnullN (tgt := 103) dX3_readWord_95 (by decide) ?_
        exact r_vret dX3_readWord_103 rfl ⟨rfl, Or.inr ⟨fun w h => hno w h.1 h, hx⟩⟩
      · refine r_aload_n dX3_readWord_91 rfl 0 rfl ?_
        refine r_getR (ci := 5) (k := 5) (b := gK G 1 q) dX3_readWord_92 fr_X3_40 hx.1.t51 rfl (hx.1.p165.trans ((congrArg wdP up1_s).trans wdP_s)) ?_
        refine r_ifnull dX3_readWord_95 ?_
        refine r_aload_n dX3_readWord_98 rfl 0 rfl ?_
        refine r_iload_n dX3_readWord_99 rfl 1 rfl ?_
        refine r_putI (ci := 5) (k := 2) dX3_readWord_100 fw_X3_readWord_24 hx.1.t51 rfl rfl rfl ?_
        refine Wx.gp (fun T => XF F S0 T w x (up1 K 11 (gK G 1 q + 1)) (up2 E 162 (51) (e)) A c bx bu) (hx.I (f := 162) (by decide) (by decide) (by decide)) (fun T_1 (hx_1 : XF F S0 T_1 w x (up1 K 11 (gK G 1 q + 1)) (up2 E 162 (51) (e)) A c bx bu) => ?_)
        exact r_vret dX3_readWord_103 rfl ⟨rfl, Or.inl ⟨q, hwd, hx_1⟩⟩
    · refine r_aload_n dX3_readWord_60 rfl 3 rfl ?_
      refine r_iload dX3_readWord_61 0 rfl ?_
      refine r_aaldT (t := gK G 0 3) (N := 9) (f := fun j => .ref (gK G 1 j)) (i := nI (u)) (E := "LotInspector$Word") (fun U h => h.2.1.2.2.2.2.2.2.2) dX3_readWord_63 (vp_in_nI (by (first | omega | (have := cha_lt (i := u) hT; omega))) (by decide)) ?_
      rw [nI_clamp (by (first | omega | (have := cha_lt (i := u) hT; omega)))]
      show Wx _ G _ 64 [(4, .int (nI (u))), (0, .ref (x + 51)), (1, .int (nI (e))), (2, .ref (gK G 0 3)), (3, .int (nI (9)))] (.ref (gK G 1 (u)) :: []) _
      refine r_astore (lv' := [(5, .ref (gK G 1 u)), (4, .int (nI (u))), (0, .ref (x + 51)), (1, .int (nI (e))), (2, .ref (gK G 0 3)), (3, .int (nI (9)))]) dX3_readWord_64 (by decide) rfl ?_
      refine r_aload_n dX3_readWord_66 rfl 2 rfl ?_
      refine r_aload dX3_readWord_67 0 rfl ?_
      refine r_getC (o := "LotInspector$Word") (n := "letters") (d := "Ljava/lang/String;") (v := .ref (gK G 2 u)) (fun U h => (h.2.2.1 u (by omega)).2.2.1) dX3_readWord_69 (Or.inr ⟨_, (sn10 94 rfl rfl)⟩) ?_
      refine r_iload_n dX3_readWord_72 rfl 3 rfl ?_
      refine r_fnV (M2 := m_X3_spells) (As := [.ref (gK G 2 u), .int (nI (e))]) (rest := []) (v := some (.int (bI (WdP t p e u)))) dX3_readWord_73 cc_X3_readWord_76 rfl rfl rfl (Nat.le_of_ble_eq_true rfl) hx.1.t51 rfl rfl (by decide) (x_spells hx hT hp hpL (by omega) hlt.1 (hlt.le hpL)) rfl ?_
      refine r_if_eqB (tgt := 85) dX3_readWord_76 (by decide) (fun h76 => ?_) (fun h76 => ?_)
      · refine r_iincN (k := 1) (lv' := [(4, .int (nI (u + 1))), (5, .ref (gK G 1 u)), (0, .ref (x + 51)), (1, .int (nI (e))), (2, .ref (gK G 0 3)), (3, .int (nI (9)))]) dX3_readWord_85 (by decide) 1 rfl (by decide) rfl ?_
        refine r_goto (tgt := 54) dX3_readWord_88 (by decide) ?_
        refine Wx.sub [0, 2, 3, 4, 5] rfl ?_
        exact nx _ _ (by omega) ⟨⟨n, hx, hn.elim (fun z => Or.inl ⟨z.1, fun q hq => by
          by_cases r : q = u
          · rw [r]; exact h76
          · exact z.2 q (by omega)⟩) (fun ⟨q, z1, z2, z3⟩ => Or.inr ⟨q, by omega, z2, z3⟩)⟩, rfl⟩
      · refine r_aload_n dX3_readWord_79 rfl 2 rfl ?_
        refine r_aload dX3_readWord_80 0 rfl ?_
        refine r_putP (ci := 5) (k := 5) (x := some (gK G 1 u)) dX3_readWord_82 fw_X3_readWord_40 hx.1.t51 rfl rfl ?_
        rw [show (some (gK G 1 u) : Option Nat) = wdP (gK G 1 u + 1) from wdP_s.symm]
        refine Wx.gp (fun T => XF F S0 T w x (up1 (up1 K 11 n) 11 (gK G 1 u + 1)) E A c bx bu) (hx.PW (n := gK G 1 u + 1)) (fun T_2 (hx_2 : XF F S0 T_2 w x (up1 (up1 K 11 n) 11 (gK G 1 u + 1)) E A c bx bu) => ?_)
        refine r_iincN (k := 1) (lv' := [(4, .int (nI (u + 1))), (5, .ref (gK G 1 u)), (0, .ref (x + 51)), (1, .int (nI (e))), (2, .ref (gK G 0 3)), (3, .int (nI (9)))]) dX3_readWord_85 (by decide) 1 rfl (by decide) rfl ?_
        refine r_goto (tgt := 54) dX3_readWord_88 (by decide) ?_
        refine Wx.sub [0, 2, 3, 4, 5] rfl ?_
        rw [up1_up] at hx_2
        exact nx _ _ (by omega) ⟨⟨_, hx_2, Or.inr ⟨u, by omega, h76, rfl⟩⟩, rfl⟩
  · refine r_aload_n dX3_readWord_13 rfl 1 rfl ?_
    refine r_iload_n dX3_readWord_14 rfl 0 rfl ?_
    refine r_fnV (M2 := m_X3_at) (As := [.int (nI (u))]) (rest := []) (v := some (.int (nI (cha t L u)))) dX3_readWord_15 cc_X3_readWord_64 rfl rfl rfl (Nat.le_of_ble_eq_true rfl) h.1.t51 rfl rfl (by decide) (x_at h hT (i := u) (by (first | omega | (have := cha_lt (i := u) hT; omega)))) rfl ?_
    refine r_bipush (v := nI 97) dX3_readWord_18 (by decide) ?_
    refine r_icmp_ltN (tgt := 39) dX3_readWord_20 (by decide) (by (first | omega | (have := cha_lt (i := u) hT; omega))) (by (first | omega | (have := cha_lt (i := u) hT; omega))) (fun h20 => ?_) (fun h20 => ?_)
    · obtain rfl : e = u := Nat.le_antisymm (Nat.le_of_not_lt fun q => by have z := hlt.2.1 u hge q; have y := h20; rw [cha_t z.1] at y; have := z.2.1; omega) hle
      refine r_aload_n dX3_readWord_39 rfl 1 rfl ?_
      refine r_null dX3_readWord_40 ?_
      refine r_putP (ci := 5) (k := 5) (x := none) dX3_readWord_41 fw_X3_readWord_40 h.1.t51 rfl rfl ?_
      rw [show (none : Option Nat) = wdP (0) from rfl]
      refine Wx.gp (fun T => XF F S0 T w x (up1 K 11 (0)) E A c bx bu) (h.PW (n := 0)) (fun T_3 (hx_3 : XF F S0 T_3 w x (up1 K 11 (0)) E A c bx bu) => ?_)
      refine r_gets (C := "LotInspector$Commands") (n := "WORDS") (d := "[LLotInspector$Word;") (v := .ref (gK G 0 3)) (fun U h => h.2.1.2.2.2.2.2.2.1) dX3_readWord_44 (sg6 11 rfl rfl) ?_
      refine r_astore_n (lv' := [(2, .ref (gK G 0 3)), (1, .int (nI (e))), (0, .ref (x + 51))]) dX3_readWord_47 rfl (by decide) rfl ?_
      refine r_aload_n dX3_readWord_48 rfl 0 rfl ?_
      refine r_alenT (t := gK G 0 3) (N := 9) (f := fun j => .ref (gK G 1 j)) (ty := .object "LotInspector$Word") (fun U h => h.2.1.2.2.2.2.2.2.2) dX3_readWord_49 ?_
      refine r_istore_n (lv' := [(3, .int (nI (9))), (2, .ref (gK G 0 3)), (1, .int (nI (e))), (0, .ref (x + 51))]) dX3_readWord_50 rfl (by decide) rfl ?_
      refine r_iconst (v := nI 0) dX3_readWord_51 (by decide) ?_
      refine r_istore (lv' := [(4, .int (nI (0))), (3, .int (nI (9))), (2, .ref (gK G 0 3)), (1, .int (nI (e))), (0, .ref (x + 51))]) dX3_readWord_52 (by decide) rfl ?_
      refine Wx.sub [0, 4, 3, 2, 1] rfl ?_
      refine Wx.loopR (fun u T lv => (∃ n, XF F S0 T w x (up1 K 11 n) E A c bx bu ∧ ((n = 0 ∧ ∀ q, q < u → ¬ WdP t p e q) ∨ ∃ q, q < u ∧ WdP t p e q ∧ n = gK G 1 q + 1)) ∧ lv = [(4, .int (nI (u))), (0, .ref (x + 51)), (1, .int (nI (e))), (2, .ref (gK G 0 3)), (3, .int (nI (9)))]) 9 0 (by decide) ⟨⟨0, hx_3, Or.inl ⟨rfl, fun q hq => absurd hq (Nat.not_lt_zero q)⟩⟩, rfl⟩ (fun u T lv hu0 hu hI nx => ?_)
      obtain ⟨⟨n, hx, hn⟩, rfl⟩ := hI
      refine r_iload dX3_readWord_54 0 rfl ?_
      refine r_iload_n dX3_readWord_56 rfl 4 rfl ?_
      refine r_icmp_geN (tgt := 91) dX3_readWord_57 (by decide) (by (first | omega | (have := cha_lt (i := u) hT; omega))) (by (first | omega | (have := cha_lt (i := u) hT; omega))) (fun h57_1 => ?_) (fun h57_1 => ?_)
      · obtain rfl : u = 9 := by omega
        refine Wx.sub [1, 2] rfl ?_
        rcases hn with ⟨rfl, hno⟩ | ⟨q, hq9, hwd, rfl⟩
        · refine r_aload_n dX3_readWord_91 rfl 0 rfl ?_
          refine r_getZ (ci := 5) (k := 5) dX3_readWord_92 fr_X3_40 hx.1.t51 rfl (hx.1.p165.trans (congrArg wdP up1_s)) ?_
          refine r_ifnullN (tgt := 103) dX3_readWord_95 (by decide) ?_
          exact r_vret dX3_readWord_103 rfl ⟨rfl, Or.inr ⟨fun w h => hno w h.1 h, hx⟩⟩
        · refine r_aload_n dX3_readWord_91 rfl 0 rfl ?_
          refine r_getR (ci := 5) (k := 5) (b := gK G 1 q) dX3_readWord_92 fr_X3_40 hx.1.t51 rfl (hx.1.p165.trans ((congrArg wdP up1_s).trans wdP_s)) ?_
          refine r_ifnull dX3_readWord_95 ?_
          refine r_aload_n dX3_readWord_98 rfl 0 rfl ?_
          refine r_iload_n dX3_readWord_99 rfl 1 rfl ?_
          refine r_putI (ci := 5) (k := 2) dX3_readWord_100 fw_X3_readWord_24 hx.1.t51 rfl rfl rfl ?_
          refine Wx.gp (fun T => XF F S0 T w x (up1 K 11 (gK G 1 q + 1)) (up2 E 162 (51) (e)) A c bx bu) (hx.I (f := 162) (by decide) (by decide) (by decide)) (fun T_4 (hx_4 : XF F S0 T_4 w x (up1 K 11 (gK G 1 q + 1)) (up2 E 162 (51) (e)) A c bx bu) => ?_)
          exact r_vret dX3_readWord_103 rfl ⟨rfl, Or.inl ⟨q, hwd, hx_4⟩⟩
      · refine r_aload_n dX3_readWord_60 rfl 3 rfl ?_
        refine r_iload dX3_readWord_61 0 rfl ?_
        refine r_aaldT (t := gK G 0 3) (N := 9) (f := fun j => .ref (gK G 1 j)) (i := nI (u)) (E := "LotInspector$Word") (fun U h => h.2.1.2.2.2.2.2.2.2) dX3_readWord_63 (vp_in_nI (by (first | omega | (have := cha_lt (i := u) hT; omega))) (by decide)) ?_
        rw [nI_clamp (by (first | omega | (have := cha_lt (i := u) hT; omega)))]
        show Wx _ G _ 64 [(4, .int (nI (u))), (0, .ref (x + 51)), (1, .int (nI (e))), (2, .ref (gK G 0 3)), (3, .int (nI (9)))] (.ref (gK G 1 (u)) :: []) _
        refine r_astore (lv' := [(5, .ref (gK G 1 u)), (4, .int (nI (u))), (0, .ref (x + 51)), (1, .int (nI (e))), (2, .ref (gK G 0 3)), (3, .int (nI (9)))]) dX3_readWord_64 (by decide) rfl ?_
        refine r_aload_n dX3_readWord_66 rfl 2 rfl ?_
        refine r_aload dX3_readWord_67 0 rfl ?_
        refine r_getC (o := "LotInspector$Word") (n := "letters") (d := "Ljava/lang/String;") (v := .ref (gK G 2 u)) (fun U h => (h.2.2.1 u (by omega)).2.2.1) dX3_readWord_69 (Or.inr ⟨_, (sn10 94 rfl rfl)⟩) ?_
        refine r_iload_n dX3_readWord_72 rfl 3 rfl ?_
        refine r_fnV (M2 := m_X3_spells) (As := [.ref (gK G 2 u), .int (nI (e))]) (rest := []) (v := some (.int (bI (WdP t p e u)))) dX3_readWord_73 cc_X3_readWord_76 rfl rfl rfl (Nat.le_of_ble_eq_true rfl) hx.1.t51 rfl rfl (by decide) (x_spells hx hT hp hpL (by omega) hlt.1 (hlt.le hpL)) rfl ?_
        refine r_if_eqB (tgt := 85) dX3_readWord_76 (by decide) (fun h76_1 => ?_) (fun h76_1 => ?_)
        · refine r_iincN (k := 1) (lv' := [(4, .int (nI (u + 1))), (5, .ref (gK G 1 u)), (0, .ref (x + 51)), (1, .int (nI (e))), (2, .ref (gK G 0 3)), (3, .int (nI (9)))]) dX3_readWord_85 (by decide) 1 rfl (by decide) rfl ?_
          refine r_goto (tgt := 54) dX3_readWord_88 (by decide) ?_
          refine Wx.sub [0, 2, 3, 4, 5] rfl ?_
          exact nx _ _ (by omega) ⟨⟨n, hx, hn.elim (fun z => Or.inl ⟨z.1, fun q hq => by
            by_cases r : q = u
            · rw [r]; exact h76_1
            · exact z.2 q (by omega)⟩) (fun ⟨q, z1, z2, z3⟩ => Or.inr ⟨q, by omega, z2, z3⟩)⟩, rfl⟩
        · refine r_aload_n dX3_readWord_79 rfl 2 rfl ?_
          refine r_aload dX3_readWord_80 0 rfl ?_
          refine r_putP (ci := 5) (k := 5) (x := some (gK G 1 u)) dX3_readWord_82 fw_X3_readWord_40 hx.1.t51 rfl rfl ?_
          rw [show (some (gK G 1 u) : Option Nat) = wdP (gK G 1 u + 1) from wdP_s.symm]
          refine Wx.gp (fun T => XF F S0 T w x (up1 (up1 K 11 n) 11 (gK G 1 u + 1)) E A c bx bu) (hx.PW (n := gK G 1 u + 1)) (fun T_5 (hx_5 : XF F S0 T_5 w x (up1 (up1 K 11 n) 11 (gK G 1 u + 1)) E A c bx bu) => ?_)
          refine r_iincN (k := 1) (lv' := [(4, .int (nI (u + 1))), (5, .ref (gK G 1 u)), (0, .ref (x + 51)), (1, .int (nI (e))), (2, .ref (gK G 0 3)), (3, .int (nI (9)))]) dX3_readWord_85 (by decide) 1 rfl (by decide) rfl ?_
          refine r_goto (tgt := 54) dX3_readWord_88 (by decide) ?_
          refine Wx.sub [0, 2, 3, 4, 5] rfl ?_
          rw [up1_up] at hx_5
          exact nx _ _ (by omega) ⟨⟨_, hx_5, Or.inr ⟨u, by omega, h76_1, rfl⟩⟩, rfl⟩
    · refine r_aload_n dX3_readWord_23 rfl 1 rfl ?_
      refine r_iload_n dX3_readWord_24 rfl 0 rfl ?_
      refine r_fnV (M2 := m_X3_at) (As := [.int (nI (u))]) (rest := []) (v := some (.int (nI (cha t L u)))) dX3_readWord_25 cc_X3_readWord_64 rfl rfl rfl (Nat.le_of_ble_eq_true rfl) h.1.t51 rfl rfl (by decide) (x_at h hT (i := u) (by (first | omega | (have := cha_lt (i := u) hT; omega)))) rfl ?_
      refine r_bipush (v := nI 122) dX3_readWord_28 (by decide) ?_
      refine r_icmp_gtN (tgt := 39) dX3_readWord_30 (by decide) (by (first | omega | (have := cha_lt (i := u) hT; omega))) (by (first | omega | (have := cha_lt (i := u) hT; omega))) (fun h30 => ?_) (fun h30 => ?_)
      · obtain rfl : e = u := Nat.le_antisymm (Nat.le_of_not_lt fun q => by have z := hlt.2.1 u hge q; have y := h30; rw [cha_t z.1] at y; have := z.2.2; omega) hle
        refine r_aload_n dX3_readWord_39 rfl 1 rfl ?_
        refine r_null dX3_readWord_40 ?_
        refine r_putP (ci := 5) (k := 5) (x := none) dX3_readWord_41 fw_X3_readWord_40 h.1.t51 rfl rfl ?_
        rw [show (none : Option Nat) = wdP (0) from rfl]
        refine Wx.gp (fun T => XF F S0 T w x (up1 K 11 (0)) E A c bx bu) (h.PW (n := 0)) (fun T_6 (hx_6 : XF F S0 T_6 w x (up1 K 11 (0)) E A c bx bu) => ?_)
        refine r_gets (C := "LotInspector$Commands") (n := "WORDS") (d := "[LLotInspector$Word;") (v := .ref (gK G 0 3)) (fun U h => h.2.1.2.2.2.2.2.2.1) dX3_readWord_44 (sg6 11 rfl rfl) ?_
        refine r_astore_n (lv' := [(2, .ref (gK G 0 3)), (1, .int (nI (e))), (0, .ref (x + 51))]) dX3_readWord_47 rfl (by decide) rfl ?_
        refine r_aload_n dX3_readWord_48 rfl 0 rfl ?_
        refine r_alenT (t := gK G 0 3) (N := 9) (f := fun j => .ref (gK G 1 j)) (ty := .object "LotInspector$Word") (fun U h => h.2.1.2.2.2.2.2.2.2) dX3_readWord_49 ?_
        refine r_istore_n (lv' := [(3, .int (nI (9))), (2, .ref (gK G 0 3)), (1, .int (nI (e))), (0, .ref (x + 51))]) dX3_readWord_50 rfl (by decide) rfl ?_
        refine r_iconst (v := nI 0) dX3_readWord_51 (by decide) ?_
        refine r_istore (lv' := [(4, .int (nI (0))), (3, .int (nI (9))), (2, .ref (gK G 0 3)), (1, .int (nI (e))), (0, .ref (x + 51))]) dX3_readWord_52 (by decide) rfl ?_
        refine Wx.sub [0, 4, 3, 2, 1] rfl ?_
        refine Wx.loopR (fun u T lv => (∃ n, XF F S0 T w x (up1 K 11 n) E A c bx bu ∧ ((n = 0 ∧ ∀ q, q < u → ¬ WdP t p e q) ∨ ∃ q, q < u ∧ WdP t p e q ∧ n = gK G 1 q + 1)) ∧ lv = [(4, .int (nI (u))), (0, .ref (x + 51)), (1, .int (nI (e))), (2, .ref (gK G 0 3)), (3, .int (nI (9)))]) 9 0 (by decide) ⟨⟨0, hx_6, Or.inl ⟨rfl, fun q hq => absurd hq (Nat.not_lt_zero q)⟩⟩, rfl⟩ (fun u T lv hu0 hu hI nx => ?_)
        obtain ⟨⟨n, hx, hn⟩, rfl⟩ := hI
        refine r_iload dX3_readWord_54 0 rfl ?_
        refine r_iload_n dX3_readWord_56 rfl 4 rfl ?_
        refine r_icmp_geN (tgt := 91) dX3_readWord_57 (by decide) (by (first | omega | (have := cha_lt (i := u) hT; omega))) (by (first | omega | (have := cha_lt (i := u) hT; omega))) (fun h57_2 => ?_) (fun h57_2 => ?_)
        · obtain rfl : u = 9 := by omega
          refine Wx.sub [1, 2] rfl ?_
          rcases hn with ⟨rfl, hno⟩ | ⟨q, hq9, hwd, rfl⟩
          · refine r_aload_n dX3_readWord_91 rfl 0 rfl ?_
            refine r_getZ (ci := 5) (k := 5) dX3_readWord_92 fr_X3_40 hx.1.t51 rfl (hx.1.p165.trans (congrArg wdP up1_s)) ?_
            refine r_ifnullN (tgt := 103) dX3_readWord_95 (by decide) ?_
            exact r_vret dX3_readWord_103 rfl ⟨rfl, Or.inr ⟨fun w h => hno w h.1 h, hx⟩⟩
          · refine r_aload_n dX3_readWord_91 rfl 0 rfl ?_
            refine r_getR (ci := 5) (k := 5) (b := gK G 1 q) dX3_readWord_92 fr_X3_40 hx.1.t51 rfl (hx.1.p165.trans ((congrArg wdP up1_s).trans wdP_s)) ?_
            refine r_ifnull dX3_readWord_95 ?_
            refine r_aload_n dX3_readWord_98 rfl 0 rfl ?_
            refine r_iload_n dX3_readWord_99 rfl 1 rfl ?_
            refine r_putI (ci := 5) (k := 2) dX3_readWord_100 fw_X3_readWord_24 hx.1.t51 rfl rfl rfl ?_
            refine Wx.gp (fun T => XF F S0 T w x (up1 K 11 (gK G 1 q + 1)) (up2 E 162 (51) (e)) A c bx bu) (hx.I (f := 162) (by decide) (by decide) (by decide)) (fun T_7 (hx_7 : XF F S0 T_7 w x (up1 K 11 (gK G 1 q + 1)) (up2 E 162 (51) (e)) A c bx bu) => ?_)
            exact r_vret dX3_readWord_103 rfl ⟨rfl, Or.inl ⟨q, hwd, hx_7⟩⟩
        · refine r_aload_n dX3_readWord_60 rfl 3 rfl ?_
          refine r_iload dX3_readWord_61 0 rfl ?_
          refine r_aaldT (t := gK G 0 3) (N := 9) (f := fun j => .ref (gK G 1 j)) (i := nI (u)) (E := "LotInspector$Word") (fun U h => h.2.1.2.2.2.2.2.2.2) dX3_readWord_63 (vp_in_nI (by (first | omega | (have := cha_lt (i := u) hT; omega))) (by decide)) ?_
          rw [nI_clamp (by (first | omega | (have := cha_lt (i := u) hT; omega)))]
          show Wx _ G _ 64 [(4, .int (nI (u))), (0, .ref (x + 51)), (1, .int (nI (e))), (2, .ref (gK G 0 3)), (3, .int (nI (9)))] (.ref (gK G 1 (u)) :: []) _
          refine r_astore (lv' := [(5, .ref (gK G 1 u)), (4, .int (nI (u))), (0, .ref (x + 51)), (1, .int (nI (e))), (2, .ref (gK G 0 3)), (3, .int (nI (9)))]) dX3_readWord_64 (by decide) rfl ?_
          refine r_aload_n dX3_readWord_66 rfl 2 rfl ?_
          refine r_aload dX3_readWord_67 0 rfl ?_
          refine r_getC (o := "LotInspector$Word") (n := "letters") (d := "Ljava/lang/String;") (v := .ref (gK G 2 u)) (fun U h => (h.2.2.1 u (by omega)).2.2.1) dX3_readWord_69 (Or.inr ⟨_, (sn10 94 rfl rfl)⟩) ?_
          refine r_iload_n dX3_readWord_72 rfl 3 rfl ?_
          refine r_fnV (M2 := m_X3_spells) (As := [.ref (gK G 2 u), .int (nI (e))]) (rest := []) (v := some (.int (bI (WdP t p e u)))) dX3_readWord_73 cc_X3_readWord_76 rfl rfl rfl (Nat.le_of_ble_eq_true rfl) hx.1.t51 rfl rfl (by decide) (x_spells hx hT hp hpL (by omega) hlt.1 (hlt.le hpL)) rfl ?_
          refine r_if_eqB (tgt := 85) dX3_readWord_76 (by decide) (fun h76_2 => ?_) (fun h76_2 => ?_)
          · refine r_iincN (k := 1) (lv' := [(4, .int (nI (u + 1))), (5, .ref (gK G 1 u)), (0, .ref (x + 51)), (1, .int (nI (e))), (2, .ref (gK G 0 3)), (3, .int (nI (9)))]) dX3_readWord_85 (by decide) 1 rfl (by decide) rfl ?_
            refine r_goto (tgt := 54) dX3_readWord_88 (by decide) ?_
            refine Wx.sub [0, 2, 3, 4, 5] rfl ?_
            exact nx _ _ (by omega) ⟨⟨n, hx, hn.elim (fun z => Or.inl ⟨z.1, fun q hq => by
              by_cases r : q = u
              · rw [r]; exact h76_2
              · exact z.2 q (by omega)⟩) (fun ⟨q, z1, z2, z3⟩ => Or.inr ⟨q, by omega, z2, z3⟩)⟩, rfl⟩
          · refine r_aload_n dX3_readWord_79 rfl 2 rfl ?_
            refine r_aload dX3_readWord_80 0 rfl ?_
            refine r_putP (ci := 5) (k := 5) (x := some (gK G 1 u)) dX3_readWord_82 fw_X3_readWord_40 hx.1.t51 rfl rfl ?_
            rw [show (some (gK G 1 u) : Option Nat) = wdP (gK G 1 u + 1) from wdP_s.symm]
            refine Wx.gp (fun T => XF F S0 T w x (up1 (up1 K 11 n) 11 (gK G 1 u + 1)) E A c bx bu) (hx.PW (n := gK G 1 u + 1)) (fun T_8 (hx_8 : XF F S0 T_8 w x (up1 (up1 K 11 n) 11 (gK G 1 u + 1)) E A c bx bu) => ?_)
            refine r_iincN (k := 1) (lv' := [(4, .int (nI (u + 1))), (5, .ref (gK G 1 u)), (0, .ref (x + 51)), (1, .int (nI (e))), (2, .ref (gK G 0 3)), (3, .int (nI (9)))]) dX3_readWord_85 (by decide) 1 rfl (by decide) rfl ?_
            refine r_goto (tgt := 54) dX3_readWord_88 (by decide) ?_
            refine Wx.sub [0, 2, 3, 4, 5] rfl ?_
            rw [up1_up] at hx_8
            exact nx _ _ (by omega) ⟨⟨_, hx_8, Or.inr ⟨u, by omega, h76_2, rfl⟩⟩, rfl⟩
      · refine r_iincN (k := 1) (lv' := [(1, .int (nI (u + 1))), (0, .ref (x + 51))]) dX3_readWord_33 (by decide) 0 rfl (by decide) rfl ?_
        refine r_goto (tgt := 5) dX3_readWord_36 (by decide) ?_
        exact next (Nat.lt_of_le_of_ne hle (fun q => hlt.2.2 (by rw [← q]; exact ⟨by omega, by have := h20; rw [cha_t (by omega)] at this; have := h30; rw [cha_t (by omega)] at this; exact ⟨by omega, by omega⟩⟩)))
theorem NumP.ex {t : Nat → Nat} {L s : Nat} (ht : ∀ k, k < L → t k < 128) (h : dgP t L s) : ∃ d, NumP t L s d := by
  have lt : ∀ {i}, dgP t L i → i < L := fun {i} q => by
    refine Nat.lt_of_not_le fun r => ?_
    unfold dgP at q
    rw [cha_f (by omega)] at q
    omega
  have key : ∀ f c, 0 < c → c + f = 5 → (∀ i, i < c → dgP t L (s + i)) → (∀ i, 0 < i → i < c → 0 < numI t s i) → ∃ d, NumP t L s d := fun f => by
    have mk : ∀ c, 0 < c → c ≤ 5 → (∀ i, i < c → dgP t L (s + i)) → (∀ i, 0 < i → i < c → 0 < numI t s i) → (c = 5 ∨ numI t s c = 0 ∨ ¬ digP (nwI t L (s + c))) → NumP t L s c := fun c c0 c5 hd hp hst =>
      ⟨c0, c5, by have := lt (hd (c - 1) (by omega)); omega, fun i hi => by
        have q := hd i hi
        have := lt q
        unfold dgP at q
        rw [cha_t this] at q
        exact q, hp, hst⟩
    induction f with
    | zero => exact fun c c0 hc hd hp => ⟨c, mk c c0 (by omega) hd hp (Or.inl (by omega))⟩
    | succ f ih =>
      intro c c0 hc hd hp
      by_cases z : numI t s c = 0
      · exact ⟨c, mk c c0 (by omega) hd hp (Or.inr (Or.inl z))⟩
      · by_cases y : digP (nwI t L (s + c))
        · refine ih (c + 1) (by omega) (by omega) (fun i hi => ?_) (fun i h1 h2 => ?_)
          · by_cases e : i = c
            · rw [e]; exact dgP_of ht y
            · exact hd i (by omega)
          · by_cases e : i = c
            · rw [e]; omega
            · exact hp i h1 (by omega)
        · exact ⟨c, mk c c0 (by omega) hd hp (Or.inr (Or.inr y))⟩
  exact key 4 1 (by decide) rfl (fun i hi => by rw [show i = 0 by omega]; exact h) (fun i h1 h2 => absurd h2 (by omega))
theorem mosN_b {q : Nat} : 0 < mosN q ∧ mosN q ≤ 6 ∧ 0 < fewN q ∧ fewN q ≤ mosN q := by
  unfold mosN fewN
  (repeat' split) <;> omega
set_option maxRecDepth 4000 in
set_option maxHeartbeats 1000000 in
theorem x_readCommand {G : GI} {F : Nat → Prop} {S0 S : Hp} {w : Nat → Nat} {x : Nat} {K : Nat → Nat} {E : Nat → Nat → Nat} {A c : Nat → Nat → Nat} {bx bu : Nat} (h : XF F S0 S w x K E A c bx bu) {t : Nat → Nat} {L : Nat} (hT : TXc E t L) {p : Nat} (hp : E 162 51 = p) (hpL : p ≤ L) : Cn m_X3_readCommand G [.ref (x + 51)] S (fun r T => (r = .inl (some (.int (nI 1))) ∧ ∃ q n v e E', XF F S0 T w x (up1 K 11 (gK G 1 q + 1)) E' A c bx bu ∧ CmdP t L p q n v e ∧ EqC E E' ∧ E' 162 51 = e ∧ E' 164 51 = p ∧ (∀ k, k ≤ n → E' (1000 + k) 53 = v k) ∧ ∀ k, n < k → k < 6 → E' (1000 + k) 53 = 4294967295) ∨ (r = .inl (some (.int (nI 0))) ∧ ∃ k e E', XF F S0 T w x (up1 K 11 k) E' A c bx bu ∧ BadP t L p e ∧ EqC E E' ∧ E' 162 51 = e)) := by
  refine Cn.of rfl (by decide) (Nat.le_of_ble_eq_true rfl) (fun hN hM => ?_)
  show Wx _ G _ 0 [(0, .ref (x + 51))] [] _
  have hL60 := hT.2.1
  refine r_aload_n dX3_readCommand_0 rfl 0 rfl ?_
  refine r_aload_n dX3_readCommand_1 rfl 0 rfl ?_
  refine r_getI (ci := 5) (k := 2) dX3_readCommand_2 fr_X3_24 h.1.t51 rfl ?_
  refine Wx.top (h.1.i (f := 162) (by decide) (by decide)) ?_
  refine Wx.topN hp ?_
  refine r_putI (ci := 5) (k := 4) dX3_readCommand_5 fw_X3_readCommand_34 h.1.t51 rfl rfl rfl ?_
  refine Wx.gp (fun T => XF F S0 T w x K (up2 E 164 (51) (p)) A c bx bu) (h.I (f := 164) (by decide) (by decide) (by decide)) (fun T (hx : XF F S0 T w x K (up2 E 164 (51) (p)) A c bx bu) => ?_)
  refine r_aload_n dX3_readCommand_8 rfl 0 rfl ?_
  obtain ⟨e, hlt⟩ := LtE.ex (t := t) hpL
  have heL := hlt.le hpL
  refine r_callV (M2 := m_X3_readWord) (As := []) (rest := []) dX3_readCommand_9 cc_X3_readCommand_37 rfl rfl rfl (Nat.le_of_ble_eq_true rfl) hx.1.t51 rfl rfl (by decide) (x_readWord hx ((EqC.up EqC.rfl (by omega)).tx hT) ((u2_n (by omega)).trans hp) hpL hlt) (fun v9 T_1 hq => ?_) (fun E9 T9 hq => by cases hq.1)
  obtain ⟨hv9, hq⟩ := hq
  cases hv9
  rcases hq with ⟨q, hwd, hx9⟩ | ⟨hno, hx9⟩
  · have hq9 := hwd.1
    show Wx _ G T_1 12 [(0, .ref (x + 51))] [] _
    refine r_aload_n dX3_readCommand_12 rfl 0 rfl ?_
    refine r_getR (ci := 5) (k := 5) (b := gK G 1 q) dX3_readCommand_13 fr_X3_40 hx9.1.t51 rfl (hx9.1.p165.trans ((congrArg wdP up1_s).trans wdP_s)) ?_
    refine r_ifnull dX3_readCommand_16 ?_
    refine r_aload_n dX3_readCommand_19 rfl 0 rfl ?_
    refine r_bipush (v := nI 58) dX3_readCommand_20 (by decide) ?_
    by_cases hs22 : cha t L (e) = 58
    · refine r_callV (M2 := m_X3_skip) (As := [.int (nI (58))]) (rest := []) dX3_readCommand_22 cc_X3_readCommand_44 rfl rfl rfl (Nat.le_of_ble_eq_true rfl) hx9.1.t51 rfl rfl (by decide) (x_skip_t hx9 ((EqC.up (EqC.up EqC.rfl (by omega)) (by omega)).tx hT) u2_s (by omega) (by decide) hs22) (fun v9 T_2 hq => ?_) (fun E9 T9 hq => by cases hq.1)
      obtain ⟨hv9, hx_1⟩ := hq
      cases hv9
      show Wx _ G T_2 25 [(0, .ref (x + 51))] [.int (nI (1))] _
      refine r_if_neN (tgt := 30) dX3_readCommand_25 (by decide) (by (first | omega | (have := @mosN_b q; omega) | (have := @mosN_b q; have := hnm; omega))) (fun zz25 => ?_) (fun zz25 => ?_)
      · refine r_iconst (v := nI 0) dX3_readCommand_30 (by decide) ?_
        refine r_istore_n (lv' := [(1, .int (nI (0))), (0, .ref (x + 51))]) dX3_readCommand_31 rfl (by decide) rfl ?_
        have heL1 : e + 1 ≤ L := by
          refine Nat.le_of_not_lt fun r => ?_
          have := hs22
          rw [cha_f (by omega)] at this
          omega
        refine Wx.loopR (fun n T lv => (∃ E' v s, XF F S0 T w x (up1 K 11 (gK G 1 q + 1)) E' A c bx bu ∧ EqC E E' ∧ (E' 164 51 = p ∧ E' 162 51 = s) ∧ (NumsP t L (e + 1) v n s ∧ s ≤ L) ∧ (∀ k, k < n → E' (1000 + k) 53 = v k) ∧ n < mosN q) ∧ lv = [(1, .int (nI (n))), (0, .ref (x + 51))]) (mosN q) 0 (Nat.zero_le _) ⟨⟨_, fun _ => 0, e + 1, hx_1, (EqC.up (EqC.up (EqC.up EqC.rfl (by omega)) (by omega)) (by omega)), ⟨(u2_n (by omega)).trans ((u2_n (by omega)).trans u2_s), u2_s⟩, ⟨rfl, heL1⟩, fun k hk => absurd hk (Nat.not_lt_zero k), mosN_b.1⟩, rfl⟩ (fun n T lv hu0 hu hI nx => ?_)
        obtain ⟨⟨E', v, s, hx, hEq, ⟨h164, h162⟩, ⟨hns, hsL⟩, hnum, hnm⟩, rfl⟩ := hI
        refine r_iload_n dX3_readCommand_32 rfl 0 rfl ?_
        refine r_aload_n dX3_readCommand_33 rfl 1 rfl ?_
        refine r_getR (ci := 5) (k := 5) (b := gK G 1 q) dX3_readCommand_34 fr_X3_40 hx.1.t51 rfl (hx.1.p165.trans ((congrArg wdP up1_s).trans wdP_s)) ?_
        refine r_getC (o := "LotInspector$Word") (n := "most") (d := "I") (v := .int (mostE q)) (fun U h => (h.2.2.1 q hq9).2.2.2.2) dX3_readCommand_37 (Or.inr ⟨_, (sn10 95 rfl rfl)⟩) ?_
        refine Wx.top (mos_E q hq9) ?_
        refine r_icmp_geN (tgt := 123) dX3_readCommand_40 (by decide) (by (first | omega | (have := @mosN_b q; omega) | (have := @mosN_b q; have := hnm; omega))) (by (first | omega | (have := @mosN_b q; omega) | (have := @mosN_b q; have := hnm; omega))) (fun h40 => ?_) (fun h40 => ?_)
        · exact absurd h40 (by omega)
        · refine r_iload_n dX3_readCommand_43 rfl 0 rfl ?_
          refine r_aload_n dX3_readCommand_44 rfl 1 rfl ?_
          refine r_getR (ci := 5) (k := 6) (b := x + 53) dX3_readCommand_45 fr_X3_17 hx.1.t51 rfl hx.1.p166 ?_
          refine r_alen101 dX3_readCommand_48 hx.1.t53 ?_
          refine Wx.top (congrArg nI hx.1.n53) ?_
          refine r_icmp_geN (tgt := 123) dX3_readCommand_49 (by decide) (by (first | omega | (have := @mosN_b q; omega) | (have := @mosN_b q; have := hnm; omega))) (by (first | omega | (have := @mosN_b q; omega) | (have := @mosN_b q; have := hnm; omega))) (fun h49 => ?_) (fun h49 => ?_)
          · exact absurd h49 (by have := @mosN_b q; omega)
          · refine r_aload_n dX3_readCommand_52 rfl 1 rfl ?_
            refine r_iload_n dX3_readCommand_53 rfl 0 rfl ?_
            by_cases hdg9 : dgP t L s
            · obtain ⟨d, hnp⟩ := NumP.ex hT.2.2.2 hdg9
              have hdL := hnp.2.2.1
              refine r_callV (M2 := m_X3_readNumber) (As := [.int (nI (n))]) (rest := []) dX3_readCommand_54 cc_X3_readCommand_53 rfl rfl rfl (Nat.le_of_ble_eq_true rfl) hx.1.t51 rfl rfl (by decide) (x_readNumber_t hx (hEq.tx hT) h162 hsL (by (first | omega | (have := @mosN_b q; omega) | (have := @mosN_b q; have := hnm; omega))) hnp) (fun v9 T_3 hq => ?_) (fun E9 T9 hq => by cases hq.1)
              obtain ⟨hv9, hx_2⟩ := hq
              cases hv9
              show Wx _ G T_3 57 [(1, .int (nI (n))), (0, .ref (x + 51))] [.int (nI (1))] _
              refine r_if_neN (tgt := 62) dX3_readCommand_57 (by decide) (by (first | omega | (have := @mosN_b q; omega) | (have := @mosN_b q; have := hnm; omega))) (fun zz57 => ?_) (fun zz57 => ?_)
              · refine r_iload_n dX3_readCommand_62 rfl 0 rfl ?_
                refine r_iconst (v := nI 1) dX3_readCommand_63 (by decide) ?_
                refine r_iaddN dX3_readCommand_64 ?_
                refine r_aload_n dX3_readCommand_65 rfl 1 rfl ?_
                refine r_getR (ci := 5) (k := 5) (b := gK G 1 q) dX3_readCommand_66 fr_X3_40 hx_2.1.t51 rfl (hx_2.1.p165.trans ((congrArg wdP up1_s).trans wdP_s)) ?_
                refine r_getC (o := "LotInspector$Word") (n := "fewest") (d := "I") (v := .int (fewE q)) (fun U h => (h.2.2.1 q hq9).2.2.2.1) dX3_readCommand_69 (Or.inr ⟨_, (sn10 96 rfl rfl)⟩) ?_
                refine Wx.top (few_E q hq9) ?_
                refine r_icmp_ltN (tgt := 93) dX3_readCommand_72 (by decide) (by (first | omega | (have := @mosN_b q; omega) | (have := @mosN_b q; have := hnm; omega))) (by (first | omega | (have := @mosN_b q; omega) | (have := @mosN_b q; have := hnm; omega))) (fun h72 => ?_) (fun h72 => ?_)
                · refine r_iload_n dX3_readCommand_93 rfl 0 rfl ?_
                  refine r_iconst (v := nI 1) dX3_readCommand_94 (by decide) ?_
                  refine r_iaddN dX3_readCommand_95 ?_
                  refine r_aload_n dX3_readCommand_96 rfl 1 rfl ?_
                  refine r_getR (ci := 5) (k := 5) (b := gK G 1 q) dX3_readCommand_97 fr_X3_40 hx_2.1.t51 rfl (hx_2.1.p165.trans ((congrArg wdP up1_s).trans wdP_s)) ?_
                  refine r_getC (o := "LotInspector$Word") (n := "most") (d := "I") (v := .int (mostE q)) (fun U h => (h.2.2.1 q hq9).2.2.2.2) dX3_readCommand_100 (Or.inr ⟨_, (sn10 95 rfl rfl)⟩) ?_
                  refine Wx.top (mos_E q hq9) ?_
                  refine r_icmp_eqN (tgt := 115) dX3_readCommand_103 (by decide) (by (first | omega | (have := @mosN_b q; omega) | (have := @mosN_b q; have := hnm; omega))) (by (first | omega | (have := @mosN_b q; omega) | (have := @mosN_b q; have := hnm; omega))) (fun h103 => ?_) (fun h103 => ?_)
                  · refine r_iconst (v := nI 0) dX3_readCommand_115 (by decide) ?_
                    exact r_iret (ty := .boolean) dX3_readCommand_116 rfl (by decide) (Or.inr ⟨rfl, gK G 1 q + 1, s + d, _, hx_2, Or.inr (Or.inr (Or.inr ⟨e, q, n, v, s, d, hlt, hwd, hs22, hns, hnm, hnp, (fun z => by omega), (fun z => by omega), rfl⟩)), (EqC.up (EqC.up hEq (by omega)) (by omega)), ((u2_n (by omega)).trans u2_s)⟩)
                  · refine r_aload_n dX3_readCommand_106 rfl 1 rfl ?_
                    refine r_bipush (v := nI 44) dX3_readCommand_107 (by decide) ?_
                    by_cases hs109 : cha t L (s + d) = 44
                    · refine r_callV (M2 := m_X3_skip) (As := [.int (nI (44))]) (rest := []) dX3_readCommand_109 cc_X3_readCommand_44 rfl rfl rfl (Nat.le_of_ble_eq_true rfl) hx_2.1.t51 rfl rfl (by decide) (x_skip_t hx_2 ((EqC.up (EqC.up hEq (by omega)) (by omega)).tx hT) ((u2_n (by omega)).trans u2_s) (by omega) (by decide) hs109) (fun v9 T_4 hq => ?_) (fun E9 T9 hq => by cases hq.1)
                      obtain ⟨hv9, hx_3⟩ := hq
                      cases hv9
                      show Wx _ G T_4 112 [(1, .int (nI (n))), (0, .ref (x + 51))] [.int (nI (1))] _
                      refine r_if_neN (tgt := 117) dX3_readCommand_112 (by decide) (by (first | omega | (have := @mosN_b q; omega) | (have := @mosN_b q; have := hnm; omega))) (fun zz112 => ?_) (fun zz112 => ?_)
                      · refine r_iincN (k := 1) (lv' := [(1, .int (nI (n + 1))), (0, .ref (x + 51))]) dX3_readCommand_117 (by decide) 0 rfl (by decide) rfl ?_
                        refine r_goto (tgt := 32) dX3_readCommand_120 (by decide) ?_
                        exact nx _ _ (by omega) ⟨⟨_, up1 v n (numI t s d), s + d + 1, hx_3, (EqC.up (EqC.up (EqC.up hEq (by omega)) (by omega)) (by omega)), ⟨(u2_n (by omega)).trans ((u2_n (by omega)).trans ((u2_n (by omega)).trans h164)), u2_s⟩, ⟨⟨s, d, NumsP.cg (fun k hk => up1_n (by omega)) hns, hnp, up1_s, hs109, rfl⟩, (by have := hs109; refine Nat.le_of_not_lt fun r => ?_; rw [cha_f (by omega)] at this; omega)⟩, (fun k hk => by
                          by_cases e9 : k = n
                          · rw [e9, up1_s]; exact (u2_n (by omega)).trans u2_s
                          · rw [up1_n e9]; exact (u2_n (by omega)).trans ((u2_n (by omega)).trans ((u2_n (by omega)).trans (hnum k (by omega))))), by omega⟩, rfl⟩
                      · exact absurd zz112 (by decide)
                    · refine r_fnV (M2 := m_X3_skip) (As := [.int (nI (44))]) (rest := []) (v := some (.int (nI 0))) dX3_readCommand_109 cc_X3_readCommand_44 rfl rfl rfl (Nat.le_of_ble_eq_true rfl) hx_2.1.t51 rfl rfl (by decide) (x_skip_f hx_2 ((EqC.up (EqC.up hEq (by omega)) (by omega)).tx hT) ((u2_n (by omega)).trans u2_s) (by omega) (by decide) hs109) rfl ?_
                      refine r_if_neN (tgt := 117) dX3_readCommand_112 (by decide) (by (first | omega | (have := @mosN_b q; omega) | (have := @mosN_b q; have := hnm; omega))) (fun zz112_1 => ?_) (fun zz112_1 => ?_)
                      · exact absurd zz112_1 (by decide)
                      · refine r_iconst (v := nI 0) dX3_readCommand_115 (by decide) ?_
                        exact r_iret (ty := .boolean) dX3_readCommand_116 rfl (by decide) (Or.inr ⟨rfl, gK G 1 q + 1, s + d, _, hx_2, Or.inr (Or.inr (Or.inr ⟨e, q, n, v, s, d, hlt, hwd, hs22, hns, hnm, hnp, (fun z => by omega), (fun z => hs109 z.2), rfl⟩)), (EqC.up (EqC.up hEq (by omega)) (by omega)), ((u2_n (by omega)).trans u2_s)⟩)
                · refine r_aload_n dX3_readCommand_75 rfl 1 rfl ?_
                  refine r_bipush (v := nI 59) dX3_readCommand_76 (by decide) ?_
                  by_cases hs78 : cha t L (s + d) = 59
                  · refine r_callV (M2 := m_X3_skip) (As := [.int (nI (59))]) (rest := []) dX3_readCommand_78 cc_X3_readCommand_44 rfl rfl rfl (Nat.le_of_ble_eq_true rfl) hx_2.1.t51 rfl rfl (by decide) (x_skip_t hx_2 ((EqC.up (EqC.up hEq (by omega)) (by omega)).tx hT) ((u2_n (by omega)).trans u2_s) (by omega) (by decide) hs78) (fun v9 T_5 hq => ?_) (fun E9 T9 hq => by cases hq.1)
                    obtain ⟨hv9, hx_4⟩ := hq
                    cases hv9
                    show Wx _ G T_5 81 [(1, .int (nI (n))), (0, .ref (x + 51))] [.int (nI (1))] _
                    refine r_if_eqN (tgt := 93) dX3_readCommand_81 (by decide) (by (first | omega | (have := @mosN_b q; omega) | (have := @mosN_b q; have := hnm; omega))) (fun zz81 => ?_) (fun zz81 => ?_)
                    · exact absurd zz81 (by decide)
                    · refine r_aload_n dX3_readCommand_84 rfl 1 rfl ?_
                      refine r_iload_n dX3_readCommand_85 rfl 0 rfl ?_
                      refine r_iconst (v := nI 1) dX3_readCommand_86 (by decide) ?_
                      refine r_iaddN dX3_readCommand_87 ?_
                      refine r_callV (M2 := m_X3_leaveOut) (As := [.int (nI (n + 1))]) (rest := []) dX3_readCommand_88 cc_X3_readCommand_60 rfl rfl rfl (Nat.le_of_ble_eq_true rfl) hx_4.1.t51 rfl rfl (by decide) (x_leaveOut hx_4 (by (first | omega | (have := @mosN_b q; omega) | (have := @mosN_b q; have := hnm; omega)))) (fun v9 T_6 hq => ?_) (fun E9 T9 hq => by cases hq.1)
                      obtain ⟨hv9, E9, hx9, q1, q2, q3⟩ := hq
                      cases hv9
                      show Wx _ G T_6 91 [(1, .int (nI (n))), (0, .ref (x + 51))] [] _
                      refine r_iconst (v := nI 1) dX3_readCommand_91 (by decide) ?_
                      exact r_iret (ty := .boolean) dX3_readCommand_92 rfl (by decide) (Or.inl ⟨rfl, q, n, up1 v n (numI t s d), s + d + 1, E9, hx9, ⟨e, s, d, hlt, hwd, hs22, NumsP.cg (fun k hk => up1_n (by omega)) hns, hnp, up1_s, ⟨by omega, by omega⟩, hs78, rfl⟩, ((EqC.up (EqC.up (EqC.up hEq (by omega)) (by omega)) (by omega)).trans (fun f a _ h2 => q1 f a h2)), (q1 _ _ (by decide)).trans u2_s, (q1 _ _ (by decide)).trans ((u2_n (by omega)).trans ((u2_n (by omega)).trans ((u2_n (by omega)).trans h164))), (fun k hk => (q2 k (by omega)).trans (by
                        by_cases e9 : k = n
                        · rw [e9, up1_s]; exact (u2_n (by omega)).trans u2_s
                        · rw [up1_n e9]; exact (u2_n (by omega)).trans ((u2_n (by omega)).trans ((u2_n (by omega)).trans (hnum k (by omega)))))), fun k h1 h2 => q3 k (by omega) h2⟩)
                  · refine r_fnV (M2 := m_X3_skip) (As := [.int (nI (59))]) (rest := []) (v := some (.int (nI 0))) dX3_readCommand_78 cc_X3_readCommand_44 rfl rfl rfl (Nat.le_of_ble_eq_true rfl) hx_2.1.t51 rfl rfl (by decide) (x_skip_f hx_2 ((EqC.up (EqC.up hEq (by omega)) (by omega)).tx hT) ((u2_n (by omega)).trans u2_s) (by omega) (by decide) hs78) rfl ?_
                    refine r_if_eqN (tgt := 93) dX3_readCommand_81 (by decide) (by (first | omega | (have := @mosN_b q; omega) | (have := @mosN_b q; have := hnm; omega))) (fun zz81_1 => ?_) (fun zz81_1 => ?_)
                    · refine r_iload_n dX3_readCommand_93 rfl 0 rfl ?_
                      refine r_iconst (v := nI 1) dX3_readCommand_94 (by decide) ?_
                      refine r_iaddN dX3_readCommand_95 ?_
                      refine r_aload_n dX3_readCommand_96 rfl 1 rfl ?_
                      refine r_getR (ci := 5) (k := 5) (b := gK G 1 q) dX3_readCommand_97 fr_X3_40 hx_2.1.t51 rfl (hx_2.1.p165.trans ((congrArg wdP up1_s).trans wdP_s)) ?_
                      refine r_getC (o := "LotInspector$Word") (n := "most") (d := "I") (v := .int (mostE q)) (fun U h => (h.2.2.1 q hq9).2.2.2.2) dX3_readCommand_100 (Or.inr ⟨_, (sn10 95 rfl rfl)⟩) ?_
                      refine Wx.top (mos_E q hq9) ?_
                      refine r_icmp_eqN (tgt := 115) dX3_readCommand_103 (by decide) (by (first | omega | (have := @mosN_b q; omega) | (have := @mosN_b q; have := hnm; omega))) (by (first | omega | (have := @mosN_b q; omega) | (have := @mosN_b q; have := hnm; omega))) (fun h103_1 => ?_) (fun h103_1 => ?_)
                      · refine r_iconst (v := nI 0) dX3_readCommand_115 (by decide) ?_
                        exact r_iret (ty := .boolean) dX3_readCommand_116 rfl (by decide) (Or.inr ⟨rfl, gK G 1 q + 1, s + d, _, hx_2, Or.inr (Or.inr (Or.inr ⟨e, q, n, v, s, d, hlt, hwd, hs22, hns, hnm, hnp, (fun z => hs78 z.2), (fun z => by omega), rfl⟩)), (EqC.up (EqC.up hEq (by omega)) (by omega)), ((u2_n (by omega)).trans u2_s)⟩)
                      · refine r_aload_n dX3_readCommand_106 rfl 1 rfl ?_
                        refine r_bipush (v := nI 44) dX3_readCommand_107 (by decide) ?_
                        by_cases hs109 : cha t L (s + d) = 44
                        · refine r_callV (M2 := m_X3_skip) (As := [.int (nI (44))]) (rest := []) dX3_readCommand_109 cc_X3_readCommand_44 rfl rfl rfl (Nat.le_of_ble_eq_true rfl) hx_2.1.t51 rfl rfl (by decide) (x_skip_t hx_2 ((EqC.up (EqC.up hEq (by omega)) (by omega)).tx hT) ((u2_n (by omega)).trans u2_s) (by omega) (by decide) hs109) (fun v9 T_7 hq => ?_) (fun E9 T9 hq => by cases hq.1)
                          obtain ⟨hv9, hx_5⟩ := hq
                          cases hv9
                          show Wx _ G T_7 112 [(1, .int (nI (n))), (0, .ref (x + 51))] [.int (nI (1))] _
                          refine r_if_neN (tgt := 117) dX3_readCommand_112 (by decide) (by (first | omega | (have := @mosN_b q; omega) | (have := @mosN_b q; have := hnm; omega))) (fun zz112_2 => ?_) (fun zz112_2 => ?_)
                          · refine r_iincN (k := 1) (lv' := [(1, .int (nI (n + 1))), (0, .ref (x + 51))]) dX3_readCommand_117 (by decide) 0 rfl (by decide) rfl ?_
                            refine r_goto (tgt := 32) dX3_readCommand_120 (by decide) ?_
                            exact nx _ _ (by omega) ⟨⟨_, up1 v n (numI t s d), s + d + 1, hx_5, (EqC.up (EqC.up (EqC.up hEq (by omega)) (by omega)) (by omega)), ⟨(u2_n (by omega)).trans ((u2_n (by omega)).trans ((u2_n (by omega)).trans h164)), u2_s⟩, ⟨⟨s, d, NumsP.cg (fun k hk => up1_n (by omega)) hns, hnp, up1_s, hs109, rfl⟩, (by have := hs109; refine Nat.le_of_not_lt fun r => ?_; rw [cha_f (by omega)] at this; omega)⟩, (fun k hk => by
                              by_cases e9 : k = n
                              · rw [e9, up1_s]; exact (u2_n (by omega)).trans u2_s
                              · rw [up1_n e9]; exact (u2_n (by omega)).trans ((u2_n (by omega)).trans ((u2_n (by omega)).trans (hnum k (by omega))))), by omega⟩, rfl⟩
                          · exact absurd zz112_2 (by decide)
                        · refine r_fnV (M2 := m_X3_skip) (As := [.int (nI (44))]) (rest := []) (v := some (.int (nI 0))) dX3_readCommand_109 cc_X3_readCommand_44 rfl rfl rfl (Nat.le_of_ble_eq_true rfl) hx_2.1.t51 rfl rfl (by decide) (x_skip_f hx_2 ((EqC.up (EqC.up hEq (by omega)) (by omega)).tx hT) ((u2_n (by omega)).trans u2_s) (by omega) (by decide) hs109) rfl ?_
                          refine r_if_neN (tgt := 117) dX3_readCommand_112 (by decide) (by (first | omega | (have := @mosN_b q; omega) | (have := @mosN_b q; have := hnm; omega))) (fun zz112_3 => ?_) (fun zz112_3 => ?_)
                          · exact absurd zz112_3 (by decide)
                          · refine r_iconst (v := nI 0) dX3_readCommand_115 (by decide) ?_
                            exact r_iret (ty := .boolean) dX3_readCommand_116 rfl (by decide) (Or.inr ⟨rfl, gK G 1 q + 1, s + d, _, hx_2, Or.inr (Or.inr (Or.inr ⟨e, q, n, v, s, d, hlt, hwd, hs22, hns, hnm, hnp, (fun z => hs78 z.2), (fun z => hs109 z.2), rfl⟩)), (EqC.up (EqC.up hEq (by omega)) (by omega)), ((u2_n (by omega)).trans u2_s)⟩)
                    · exact absurd zz81_1 (by decide)
              · exact absurd zz57 (by decide)
            · refine r_callV (M2 := m_X3_readNumber) (As := [.int (nI (n))]) (rest := []) dX3_readCommand_54 cc_X3_readCommand_53 rfl rfl rfl (Nat.le_of_ble_eq_true rfl) hx.1.t51 rfl rfl (by decide) (x_readNumber_f hx (hEq.tx hT) h162 hsL (by (first | omega | (have := @mosN_b q; omega) | (have := @mosN_b q; have := hnm; omega))) hdg9) (fun v9 T_8 hq => ?_) (fun E9 T9 hq => by cases hq.1)
              obtain ⟨hv9, hx_6⟩ := hq
              cases hv9
              show Wx _ G T_8 57 [(1, .int (nI (n))), (0, .ref (x + 51))] [.int (nI (0))] _
              refine r_if_neN (tgt := 62) dX3_readCommand_57 (by decide) (by (first | omega | (have := @mosN_b q; omega) | (have := @mosN_b q; have := hnm; omega))) (fun zz57_1 => ?_) (fun zz57_1 => ?_)
              · exact absurd zz57_1 (by decide)
              · refine r_iconst (v := nI 0) dX3_readCommand_60 (by decide) ?_
                exact r_iret (ty := .boolean) dX3_readCommand_61 rfl (by decide) (Or.inr ⟨rfl, gK G 1 q + 1, s, _, hx_6, Or.inr (Or.inr (Or.inl ⟨e, q, n, v, s, hlt, hwd, hs22, hns, hnm, hdg9, rfl⟩)), (EqC.up hEq (by omega)), ((u2_n (by omega)).trans h162)⟩)
      · exact absurd zz25 (by decide)
    · refine r_fnV (M2 := m_X3_skip) (As := [.int (nI (58))]) (rest := []) (v := some (.int (nI 0))) dX3_readCommand_22 cc_X3_readCommand_44 rfl rfl rfl (Nat.le_of_ble_eq_true rfl) hx9.1.t51 rfl rfl (by decide) (x_skip_f hx9 ((EqC.up (EqC.up EqC.rfl (by omega)) (by omega)).tx hT) u2_s (by omega) (by decide) hs22) rfl ?_
      refine r_if_neN (tgt := 30) dX3_readCommand_25 (by decide) (by (first | omega | (have := @mosN_b q; omega) | (have := @mosN_b q; have := hnm; omega))) (fun zz25_1 => ?_) (fun zz25_1 => ?_)
      · exact absurd zz25_1 (by decide)
      · refine r_iconst (v := nI 0) dX3_readCommand_28 (by decide) ?_
        exact r_iret (ty := .boolean) dX3_readCommand_29 rfl (by decide) (Or.inr ⟨rfl, gK G 1 q + 1, e, _, hx9, Or.inr (Or.inl ⟨e, q, hlt, hwd, hs22, rfl⟩), (EqC.up (EqC.up EqC.rfl (by omega)) (by omega)), u2_s⟩)
  · show Wx _ G T_1 12 [(0, .ref (x + 51))] [] _
    refine r_aload_n dX3_readCommand_12 rfl 0 rfl ?_
    refine r_getZ (ci := 5) (k := 5) dX3_readCommand_13 fr_X3_40 hx9.1.t51 rfl (hx9.1.p165.trans (congrArg wdP up1_s)) ?_
    refine r_ifnullN (tgt := 28) dX3_readCommand_16 (by decide) ?_
    refine r_iconst (v := nI 0) dX3_readCommand_28 (by decide) ?_
    exact r_iret (ty := .boolean) dX3_readCommand_29 rfl (by decide) (Or.inr ⟨rfl, 0, p, _, hx9, Or.inl ⟨e, hlt, hno, rfl⟩, (EqC.up EqC.rfl (by omega)), ((u2_n (by omega)).trans hp)⟩)
