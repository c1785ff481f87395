/-! THE LAW's LOOP -/
theorem JS.skip {S : Hp} {x m b a0 : Nat} {inp : Nat → Int32} {n B0 U0 k : Nat} (h : JS S x m b a0 inp n B0 U0 k) : JS S x m b a0 inp n B0 U0 (k + 1) := by
  obtain ⟨T, V, g, od, N, ps, gq, ik, gk, D, pv, cap, pp, bx, bu, e, hs, hc, hv, hp, hb, ⟨hB, hU⟩, hN, h8⟩ := h
  exact ⟨T, V, g, od, N, ps, gq, ik, gk, D, pv, cap, pp, bx, bu, e, hs, hc, hv, hp, hb, ⟨by omega, by omega⟩, by omega, h8.q (by omega)⟩
set_option maxRecDepth 4000 in
theorem w_event {G : GI} {S : Hp} {x m b a0 : Nat} {ip inp : Nat → Int32} {n0 n B0 U0 k v : Nat} {Q : OV → Hp → Prop} (hSc : SCR G n inp) (h : JS S x m b a0 ip n0 B0 U0 k) (h1 : B0 + k + 1 ≤ gN G) (h2 : U0 + 6 * k + 6 ≤ gM G) (hk : k < 130000) (hi : 7 * k + 7 ≤ n) (hn : n < 2 ^ 31) (hv : v < 64) (kk : ∀ S', JS S' x m b a0 ip n0 B0 U0 (k + 1) → Wx m_L_law G S' 2750 [(0, .ref (gK G 5 0)), (1, .ref x), (2, .ref m), (3, .ref b), (4, .int (nI (7 * k)))] [] Q) : Wx m_L_law G S 40 [(0, .ref (gK G 5 0)), (1, .ref x), (2, .ref m), (3, .ref b), (4, .int (nI (7 * k)))] [.int (nI v)] Q := by
  obtain rfl | rfl | rfl | rfl | rfl | rfl | rfl | rfl | rfl | rfl | rfl | rfl | rfl | rfl | rfl | rfl | rfl | rfl | rfl | rfl | rfl | rfl | rfl | rfl | rfl | rfl | rfl | rfl | rfl | rfl | rfl | rfl | rfl | rfl | rfl | rfl | rfl | rfl | rfl | rfl | rfl | rfl | rfl | rfl | rfl | rfl | rfl | rfl | rfl | rfl | rfl | rfl | rfl | rfl | rfl | rfl | rfl | rfl | rfl | rfl | rfl | rfl | rfl | rfl : v = 0 ∨ v = 1 ∨ v = 2 ∨ v = 3 ∨ v = 4 ∨ v = 5 ∨ v = 6 ∨ v = 7 ∨ v = 8 ∨ v = 9 ∨ v = 10 ∨ v = 11 ∨ v = 12 ∨ v = 13 ∨ v = 14 ∨ v = 15 ∨ v = 16 ∨ v = 17 ∨ v = 18 ∨ v = 19 ∨ v = 20 ∨ v = 21 ∨ v = 22 ∨ v = 23 ∨ v = 24 ∨ v = 25 ∨ v = 26 ∨ v = 27 ∨ v = 28 ∨ v = 29 ∨ v = 30 ∨ v = 31 ∨ v = 32 ∨ v = 33 ∨ v = 34 ∨ v = 35 ∨ v = 36 ∨ v = 37 ∨ v = 38 ∨ v = 39 ∨ v = 40 ∨ v = 41 ∨ v = 42 ∨ v = 43 ∨ v = 44 ∨ v = 45 ∨ v = 46 ∨ v = 47 ∨ v = 48 ∨ v = 49 ∨ v = 50 ∨ v = 51 ∨ v = 52 ∨ v = 53 ∨ v = 54 ∨ v = 55 ∨ v = 56 ∨ v = 57 ∨ v = 58 ∨ v = 59 ∨ v = 60 ∨ v = 61 ∨ v = 62 ∨ v = 63 := by omega
  · exact r_tableIn (off := 172) (tgt := 212) dL_law_40 (by decide) (by decide) rfl (by decide) (w_machine hSc h h1 h2 hk hi hn kk)
  · exact r_tableIn (off := 252) (tgt := 292) dL_law_40 (by decide) (by decide) rfl (by decide) (w_worked hSc h h1 h2 hk hi hn kk)
  · exact r_tableIn (off := 308) (tgt := 348) dL_law_40 (by decide) (by decide) rfl (by decide) (w_product hSc h h1 h2 hk hi hn kk)
  · exact r_tableIn (off := 400) (tgt := 440) dL_law_40 (by decide) (by decide) rfl (by decide) (w_policy hSc h h1 h2 hk hi hn kk)
  · exact r_tableIn (off := 468) (tgt := 508) dL_law_40 (by decide) (by decide) rfl (by decide) (w_table hSc h h1 h2 hk hi hn kk)
  · exact r_tableIn (off := 576) (tgt := 616) dL_law_40 (by decide) (by decide) rfl (by decide) (w_afterwards hSc h h1 h2 hk hi hn kk)
  · exact r_tableIn (off := 656) (tgt := 696) dL_law_40 (by decide) (by decide) rfl (by decide) (w_release hSc h h1 h2 hk hi hn kk)
  · exact r_tableIn (off := 712) (tgt := 752) dL_law_40 (by decide) (by decide) rfl (by decide) (w_seed hSc h h1 h2 hk hi hn kk)
  · exact r_tableIn (off := 768) (tgt := 808) dL_law_40 (by decide) (by decide) rfl (by decide) (w_raw hSc h h1 h2 hk hi hn kk)
  · exact r_tableIn (off := 848) (tgt := 888) dL_law_40 (by decide) (by decide) rfl (by decide) (w_make hSc h h1 h2 hk hi hn kk)
  · exact r_tableIn (off := 966) (tgt := 1006) dL_law_40 (by decide) (by decide) rfl (by decide) (w_inspect hSc h h1 h2 hk hi hn kk)
  · exact r_tableIn (off := 1022) (tgt := 1062) dL_law_40 (by decide) (by decide) rfl (by decide) (w_sort hSc h h1 h2 hk hi hn kk)
  · exact r_tableIn (off := 1078) (tgt := 1118) dL_law_40 (by decide) (by decide) rfl (by decide) (w_ship hSc h h1 h2 hk hi hn kk)
  · exact r_tableIn (off := 1134) (tgt := 1174) dL_law_40 (by decide) (by decide) rfl (by decide) (w_complain hSc h h1 h2 hk hi hn kk)
  · exact r_tableIn (off := 1202) (tgt := 1242) dL_law_40 (by decide) (by decide) rfl (by decide) (w_lot hSc h h1 h2 hk hi hn kk)
  · exact r_tableIn (off := 1270) (tgt := 1310) dL_law_40 (by decide) (by decide) rfl (by decide) (w_units hSc h h1 h2 hk hi hn kk)
  · exact r_tableIn (off := 1338) (tgt := 1378) dL_law_40 (by decide) (by decide) rfl (by decide) (w_unit hSc h h1 h2 hk hi hn kk)
  · exact r_tableIn (off := 1418) (tgt := 1458) dL_law_40 (by decide) (by decide) rfl (by decide) (w_chance hSc h h1 h2 hk hi hn kk)
  · exact r_tableIn (off := 1485) (tgt := 1525) dL_law_40 (by decide) (by decide) rfl (by decide) (w_madeOf hSc h h1 h2 hk hi hn kk)
  · exact r_tableIn (off := 1565) (tgt := 1605) dL_law_40 (by decide) (by decide) rfl (by decide) (w_whereabouts hSc h h1 h2 hk hi hn kk)
  · exact r_tableIn (off := 1633) (tgt := 1673) dL_law_40 (by decide) (by decide) rfl (by decide) (w_trace hSc h h1 h2 hk hi hn kk)
  · exact r_tableIn (off := 1741) (tgt := 1781) dL_law_40 (by decide) (by decide) rfl (by decide) (w_recall hSc h h1 h2 hk hi hn kk)
  · exact r_tableIn (off := 1797) (tgt := 1837) dL_law_40 (by decide) (by decide) rfl (by decide) (w_recalled hSc h h1 h2 hk hi hn kk)
  · exact r_tableIn (off := 1865) (tgt := 1905) dL_law_40 (by decide) (by decide) rfl (by decide) (w_blame hSc h h1 h2 hk hi hn kk)
  · exact r_tableIn (off := 1933) (tgt := 1973) dL_law_40 (by decide) (by decide) rfl (by decide) (w_worst hSc h h1 h2 hk hi hn kk)
  · exact r_tableIn (off := 1989) (tgt := 2029) dL_law_40 (by decide) (by decide) rfl (by decide) (w_outgoing hSc h h1 h2 hk hi hn kk)
  · exact r_tableIn (off := 2045) (tgt := 2085) dL_law_40 (by decide) (by decide) rfl (by decide) (w_foundShare hSc h h1 h2 hk hi hn kk)
  · exact r_tableIn (off := 2100) (tgt := 2140) dL_law_40 (by decide) (by decide) rfl (by decide) (w_open hSc h h1 h2 hk hi hn kk)
  · exact r_tableIn (off := 2168) (tgt := 2208) dL_law_40 (by decide) (by decide) rfl (by decide) (w_keep hSc h h1 h2 hk hi hn kk)
  · exact r_tableIn (off := 2248) (tgt := 2288) dL_law_40 (by decide) (by decide) rfl (by decide) (w_specimen hSc h h1 h2 hk hi hn kk)
  · exact r_tableIn (off := 2328) (tgt := 2368) dL_law_40 (by decide) (by decide) rfl (by decide) (w_append hSc h h1 h2 hk hi hn kk)
  · exact r_tableIn (off := 2384) (tgt := 2424) dL_law_40 (by decide) (by decide) rfl (by decide) (w_run hSc h h1 h2 hk hi hn kk)
  · exact r_tableIn (off := 2428) (tgt := 2468) dL_law_40 (by decide) (by decide) rfl (by decide) (w_errorPosition hSc h h1 h2 hk hi hn kk)
  · exact r_tableIn (off := 2441) (tgt := 2481) dL_law_40 (by decide) (by decide) rfl (by decide) (w_report hSc h h1 h2 hk hi hn kk)
  · exact r_tableIn (off := 2497) (tgt := 2537) dL_law_40 (by decide) (by decide) rfl (by decide) (w_character hSc h h1 h2 hk hi hn kk)
  · exact r_tableIn (off := 2553) (tgt := 2593) dL_law_40 (by decide) (by decide) rfl (by decide) (w_undo hSc h h1 h2 hk hi hn kk)
  · exact r_tableIn (off := 2597) (tgt := 2637) dL_law_40 (by decide) (by decide) rfl (by decide) (w_save hSc h h1 h2 hk hi hn kk)
  · exact r_tableIn (off := 2610) (tgt := 2650) dL_law_40 (by decide) (by decide) rfl (by decide) (w_restore hSc h h1 h2 hk hi hn kk)
  · exact r_tableIn (off := 2654) (tgt := 2694) dL_law_40 (by decide) (by decide) rfl (by decide) (w_count hSc h h1 h2 hk hi hn kk)
  · exact r_tableOut (tgt := 2750) dL_law_40 (by decide) (by decide) (kk S h.skip)
  · exact r_tableOut (tgt := 2750) dL_law_40 (by decide) (by decide) (kk S h.skip)
  · exact r_tableOut (tgt := 2750) dL_law_40 (by decide) (by decide) (kk S h.skip)
  · exact r_tableOut (tgt := 2750) dL_law_40 (by decide) (by decide) (kk S h.skip)
  · exact r_tableOut (tgt := 2750) dL_law_40 (by decide) (by decide) (kk S h.skip)
  · exact r_tableOut (tgt := 2750) dL_law_40 (by decide) (by decide) (kk S h.skip)
  · exact r_tableOut (tgt := 2750) dL_law_40 (by decide) (by decide) (kk S h.skip)
  · exact r_tableOut (tgt := 2750) dL_law_40 (by decide) (by decide) (kk S h.skip)
  · exact r_tableOut (tgt := 2750) dL_law_40 (by decide) (by decide) (kk S h.skip)
  · exact r_tableOut (tgt := 2750) dL_law_40 (by decide) (by decide) (kk S h.skip)
  · exact r_tableOut (tgt := 2750) dL_law_40 (by decide) (by decide) (kk S h.skip)
  · exact r_tableOut (tgt := 2750) dL_law_40 (by decide) (by decide) (kk S h.skip)
  · exact r_tableOut (tgt := 2750) dL_law_40 (by decide) (by decide) (kk S h.skip)
  · exact r_tableOut (tgt := 2750) dL_law_40 (by decide) (by decide) (kk S h.skip)
  · exact r_tableOut (tgt := 2750) dL_law_40 (by decide) (by decide) (kk S h.skip)
  · exact r_tableOut (tgt := 2750) dL_law_40 (by decide) (by decide) (kk S h.skip)
  · exact r_tableOut (tgt := 2750) dL_law_40 (by decide) (by decide) (kk S h.skip)
  · exact r_tableOut (tgt := 2750) dL_law_40 (by decide) (by decide) (kk S h.skip)
  · exact r_tableOut (tgt := 2750) dL_law_40 (by decide) (by decide) (kk S h.skip)
  · exact r_tableOut (tgt := 2750) dL_law_40 (by decide) (by decide) (kk S h.skip)
  · exact r_tableOut (tgt := 2750) dL_law_40 (by decide) (by decide) (kk S h.skip)
  · exact r_tableOut (tgt := 2750) dL_law_40 (by decide) (by decide) (kk S h.skip)
  · exact r_tableOut (tgt := 2750) dL_law_40 (by decide) (by decide) (kk S h.skip)
  · exact r_tableOut (tgt := 2750) dL_law_40 (by decide) (by decide) (kk S h.skip)
  · exact r_tableOut (tgt := 2750) dL_law_40 (by decide) (by decide) (kk S h.skip)
theorem w_loop {G : GI} {S : Hp} {x m b a0 : Nat} {ip inp : Nat → Int32} {n0 n B0 U0 : Nat} {Q : OV → Hp → Prop} (hSc : SCR G n inp) (h : JS S x m b a0 ip n0 B0 U0 0) (h1 : B0 + n / 7 + 1 ≤ gN G) (h2 : U0 + 6 * (n / 7) + 6 ≤ gM G) (hn : n < 900000) (hQ : ∀ S', Q (.inl (some (.int (nI 1)))) S') : Wx m_L_law G S 23 [(0, .ref (gK G 5 0)), (1, .ref x), (2, .ref m), (3, .ref b), (4, .int (nI (7 * 0)))] [] Q := by
  refine Wx.loopR (fun k S lv => JS S x m b a0 ip n0 B0 U0 k ∧ lv = [(0, .ref (gK G 5 0)), (1, .ref x), (2, .ref m), (3, .ref b), (4, .int (nI (7 * k)))]) (n / 7) 0 (Nat.zero_le _) ⟨h, rfl⟩ (fun k S lv hu0 hu hI nx => ?_)
  obtain ⟨hJ, rfl⟩ := hI
  refine r_iload dL_law_23 4 rfl ?_
  refine r_aload_n dL_law_25 rfl 0 rfl ?_
  refine r_slen hSc dL_law_26 ?_
  refine r_bipush (v := nI 7) dL_law_27 (by decide) ?_
  refine r_isub dL_law_29 ?_
  have hend : Wx m_L_law G S 2756 [(0, .ref (gK G 5 0)), (1, .ref x), (2, .ref m), (3, .ref b), (4, .int (nI (7 * k)))] [] Q := by
    refine r_iconst (v := nI 1) dL_law_2756 (by decide) ?_
    exact r_iret (ty := .boolean) dL_law_2757 rfl (by decide) (hQ S)
  by_cases hi : 7 * k + 7 ≤ n
  · rw [pk_sub (by omega : 7 ≤ n)]
    refine r_icmp_gtN (tgt := 2756) dL_law_30 (by decide) (by omega) (by omega) (fun z => absurd z (by omega)) (fun _ => ?_)
    refine r_aload_n dL_law_33 rfl 0 rfl ?_
    refine r_iload dL_law_34 4 rfl ?_
    refine r_sld hSc dL_law_36 (vp_in_nI (by omega) (by omega)) ?_
    obtain ⟨w, hw, ew⟩ := nI_ex (inp (7 * k))
    refine Wx.top (y := nI w) (by rw [nI_clamp (by omega), ew]) ?_
    refine r_bipush (v := nI 63) dL_law_37 (by decide) ?_
    refine r_iandM (k := 6) (c := 64) rfl rfl dL_law_39 (by decide) ?_
    refine w_event hSc hJ (by omega) (by omega) (by omega) hi (by omega) (Nat.mod_lt _ (by decide)) (fun S' hJ' => ?_)
    refine r_iincN (k := 7) (lv' := [(4, .int (nI (7 * k + 7))), (0, .ref (gK G 5 0)), (1, .ref x), (2, .ref m), (3, .ref b)]) dL_law_2750 (by decide) 4 rfl (Nat.le_of_ble_eq_true rfl) rfl ?_
    refine r_goto (tgt := 23) dL_law_2753 (by decide) ?_
    refine Wx.sub [1, 2, 3, 4, 0] rfl ?_
    exact nx _ _ (by omega) ⟨hJ', rfl⟩
  · by_cases h7 : 7 ≤ n
    · rw [pk_sub h7]
      refine r_icmp_gtN (tgt := 2756) dL_law_30 (by decide) (by omega) (by omega) (fun _ => hend) (fun z => absurd z (by omega))
    · have hk0 : k = 0 := by omega
      subst hk0
      obtain rfl | rfl | rfl | rfl | rfl | rfl | rfl : n = 0 ∨ n = 1 ∨ n = 2 ∨ n = 3 ∨ n = 4 ∨ n = 5 ∨ n = 6 := by omega
      all_goals exact r_icmp_gt (tgt := 2756) dL_law_30 (by decide) (fun _ => hend) (fun z => absurd (by decide) z)
