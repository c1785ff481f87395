/-! ASSEMBLING -/
theorem neg_out {m : Nat} : ¬ vp_in (nI 4294967295) m := fun h => h (Or.inl (by decide))
section NatRules
variable {M M2 : MI} {G : GI} {S : Hp} {pc : Nat} {lv : List (Nat × Value)} {st : List Value} {Q : OV → Hp → Prop}
theorem r_icmp_eqW {a b : Nat} {off : Int} {tgt : Nat} (hd : decode (mB M) pc = .ok (.if_icmp .eq off, 3)) (ht : (pc : Int) + off = (tgt : Int)) (ha : a < 2 ^ 32) (hb : b < 2 ^ 32) (kt : a = b → Wx M G S tgt lv st Q) (kf : ¬ a = b → Wx M G S (pc + 3) lv st Q) : Wx M G S pc lv (.int (nI b) :: .int (nI a) :: st) Q := r_icmp_eq hd ht (fun h => kt (nI_inj ha hb h)) (fun h => kf (fun q => h (congrArg nI q)))
theorem r_icmp_neW {a b : Nat} {off : Int} {tgt : Nat} (hd : decode (mB M) pc = .ok (.if_icmp .ne off, 3)) (ht : (pc : Int) + off = (tgt : Int)) (ha : a < 2 ^ 32) (hb : b < 2 ^ 32) (kt : ¬ a = b → Wx M G S tgt lv st Q) (kf : a = b → Wx M G S (pc + 3) lv st Q) : Wx M G S pc lv (.int (nI b) :: .int (nI a) :: st) Q := r_icmp_ne hd ht (fun h => kt (fun q => h (congrArg nI q))) (fun h => kf (nI_inj ha hb h))
end NatRules

theorem few_n {g : Nat → Nat} {t n : Nat} (f : ¬ fewP g t n) : n ≤ cnt (fun v => sW (g (402 + 2 * (200 * t + v))) = 0) (g (90 + 13 * t + 1)) := Nat.le_of_not_lt fun q => f (Or.inr q)
set_option maxRecDepth 4000 in
set_option maxHeartbeats 400000 in
theorem a_asm1 {G : GI} {S : Hp} {w : Nat → Nat} {k o : Nat} {A c g : Nat → Nat} {N : Nat} (h : OR S w k o A c) (hr : Rel c g N) (hal : ∀ l, l < g 0 → A l ≠ 0) (hrm : Rm G S A) (hNb : N < 2147460000) {l a p n : Nat} (hl : g 0 = l) (hl24 : l < 24) (ha : a < 6) (hp : p < 4) (hn0 : 0 < n) (hn : n ≤ 200) {t0 : Nat} (q0 : t0 < l) (f0 : ¬ fewP g t0 n) {e0 : Nat → Nat} (e0h : EN (fun v => sW (g (402 + 2 * (200 * t0 + v))) = 0) n (g (90 + 13 * t0 + 1)) e0) : OEa m_X7_assemble G [.ref (o), .int (nI (a)), .int (nI (p)), .int (nI (n)), .int (nI (t0)), .int (nI (4294967295)), .int (nI (4294967295))] S w k o A (some (.int (nI l))) (fun A' c' => A' l ≠ 0 ∧ (∀ i, i ≠ l → A' i = A i) ∧ ∃ c1 c2 c3 c9, (∀ j, ¬ inL l j → c1 j = c j) ∧ BG c1 l p a n n c2 ∧ US c2 l t0 0 n e0 c3 ∧ WK c3 l a n c9 ∧ c' = up1 c9 0 (l + 1)) := by
  refine Cn.of rfl (by decide) (Nat.le_of_ble_eq_true rfl) (fun hN hM => ?_)
  show Wx _ G _ 0 [(0, .ref (o)), (1, .int (nI (a))), (2, .int (nI (p))), (3, .int (nI (n))), (4, .int (nI (t0))), (5, .int (nI (4294967295))), (6, .int (nI (4294967295)))] [] _
  have hx := OX.refl h
  have h24 := hr.n24
  have hmb := hr.mb ha
  have hm0 := hr.m0 ha
  have hm1 := hr.m1 ha
  have hm2 := hr.m2 ha
  have z0 := (hr.lot (l := t0) (by omega)).z
  have g0 : n ≤ cnt (fun v => sW (g (402 + 2 * (200 * t0 + v))) = 0) (g (90 + 13 * t0 + 1)) := few_n f0
  refine r_aload_n dX7_assemble_0 rfl 0 rfl ?_
  refine r_iload_n dX7_assemble_1 rfl 1 rfl ?_
  refine r_fnV (M2 := m_X7_machineAt) (As := [.int (nI (a))]) (rest := []) (v := some (.ref (o + 6 + a))) dX7_assemble_2 cc_X7_assemble_82 rfl rfl rfl (Nat.le_of_ble_eq_true rfl) hx.1.1.1 rfl rfl (by decide) (k_machineAt hx.1.1 (by omega)) rfl ?_
  refine r_astore (lv' := [(7, .ref (o + 6 + a)), (0, .ref (o)), (1, .int (nI (a))), (2, .int (nI (p))), (3, .int (nI (n))), (4, .int (nI (t0))), (5, .int (nI (4294967295))), (6, .int (nI (4294967295)))]) dX7_assemble_5 (by decide) rfl ?_
  refine r_aload dX7_assemble_7 0 rfl ?_
  refine r_ifnull dX7_assemble_9 ?_
  refine r_aload_n dX7_assemble_12 rfl 1 rfl ?_
  refine r_iload_n dX7_assemble_13 rfl 3 rfl ?_
  refine r_fnV (M2 := m_X7_productAt) (As := [.int (nI (p))]) (rest := []) (v := some (.ref (o + 12 + p))) dX7_assemble_14 cc_X7_assemble_75 rfl rfl rfl (Nat.le_of_ble_eq_true rfl) hx.1.1.1 rfl rfl (by decide) (k_productAt hx.1.1 (by omega)) rfl ?_
  refine r_ifnull dX7_assemble_17 ?_
  refine r_aload_n dX7_assemble_20 rfl 1 rfl ?_
  refine r_iload dX7_assemble_21 5 rfl ?_
  refine r_fnV (M2 := m_X7_lotAt) (As := [.int (nI (t0))]) (rest := []) (v := some (.ref (A t0))) dX7_assemble_23 cc_X7_assemble_105 rfl rfl rfl (Nat.le_of_ble_eq_true rfl) hx.1.1.1 rfl rfl (by decide) (o_lotAt hx.1 hr hal (l := t0) (by omega)) rfl ?_
  refine r_ifnull dX7_assemble_26 ?_
  refine r_iload dX7_assemble_29 6 rfl ?_
  refine r_iconst (v := nI 4294967295) dX7_assemble_31 (by decide) ?_
  refine r_icmp_eqW (tgt := 44) dX7_assemble_32 (by decide) (by omega) (by omega) (fun zz32 => ?_) (fun zz32 => ?_)
  · refine r_iload dX7_assemble_44 7 rfl ?_
    refine r_iconst (v := nI 4294967295) dX7_assemble_46 (by decide) ?_
    refine r_icmp_eqW (tgt := 61) dX7_assemble_47 (by decide) (by omega) (by omega) (fun zz47 => ?_) (fun zz47 => ?_)
    · refine r_iload dX7_assemble_61 5 rfl ?_
      refine r_iload dX7_assemble_63 6 rfl ?_
      refine r_icmp_eqW (tgt := 88) dX7_assemble_65 (by decide) (by omega) (by omega) (fun h65 => ?_) (fun h65 => ?_)
      · exact absurd h65 (by omega)
      · refine r_iload dX7_assemble_68 5 rfl ?_
        refine r_iload dX7_assemble_70 7 rfl ?_
        refine r_icmp_eqW (tgt := 88) dX7_assemble_72 (by decide) (by omega) (by omega) (fun h72 => ?_) (fun h72 => ?_)
        · exact absurd h72 h65
        · refine r_iload dX7_assemble_75 6 rfl ?_
          refine r_iconst (v := nI 4294967295) dX7_assemble_77 (by decide) ?_
          refine r_icmp_eqW (tgt := 92) dX7_assemble_78 (by decide) (by omega) (by omega) (fun zz78 => ?_) (fun zz78 => ?_)
          · refine r_iconst (v := nI 0) dX7_assemble_92 (by decide) ?_
            refine r_istore (lv' := [(8, .int (nI (0))), (7, .ref (o + 6 + a)), (0, .ref (o)), (1, .int (nI (a))), (2, .int (nI (p))), (3, .int (nI (n))), (4, .int (nI (t0))), (5, .int (nI (4294967295))), (6, .int (nI (4294967295)))]) dX7_assemble_93 (by decide) rfl ?_
            refine r_iload_n dX7_assemble_95 rfl 5 rfl ?_
            refine r_iconst (v := nI 1) dX7_assemble_96 (by decide) ?_
            refine r_icmp_ltN (tgt := 124) dX7_assemble_97 (by decide) (by omega) (by omega) (fun h97 => ?_) (fun h97 => ?_)
            · exact absurd h97 (by omega)
            · refine r_iload_n dX7_assemble_100 rfl 5 rfl ?_
              refine r_sipush (v := nI 200) dX7_assemble_101 (by decide) ?_
              refine r_icmp_gtN (tgt := 124) dX7_assemble_104 (by decide) (by omega) (by omega) (fun h104 => ?_) (fun h104 => ?_)
              · exact absurd h104 (by omega)
              · refine r_iload dX7_assemble_107 0 rfl ?_
                refine r_if_neN (tgt := 124) dX7_assemble_109 (by decide) (by omega) (fun zz109 => ?_) (fun zz109 => ?_)
                · exact absurd zz109 (by decide)
                · refine r_iload dX7_assemble_112 7 rfl ?_
                  refine r_iconst (v := nI 4294967295) dX7_assemble_114 (by decide) ?_
                  refine r_icmp_neW (tgt := 127) dX7_assemble_115 (by decide) (by omega) (by omega) (fun zz115 => ?_) (fun zz115 => ?_)
                  · exact absurd zz115 (by decide)
                  · refine r_iload dX7_assemble_118 8 rfl ?_
                    refine r_iconst (v := nI 4294967295) dX7_assemble_120 (by decide) ?_
                    refine r_icmp_eqW (tgt := 127) dX7_assemble_121 (by decide) (by omega) (by omega) (fun zz121 => ?_) (fun zz121 => ?_)
                    · refine r_aload_n dX7_assemble_127 rfl 2 rfl ?_
                      refine r_getI (ci := 9) (k := 5) dX7_assemble_128 fr_X7_49 hx.1.1.1 rfl ?_
                      refine Wx.top hx.1.o0 ?_
                      refine Wx.topN hr.c0 ?_
                      refine Wx.topN hl ?_
                      refine r_aload_n dX7_assemble_131 rfl 2 rfl ?_
                      refine r_getR (ci := 9) (k := 2) (b := o + 3) dX7_assemble_132 fr_X7_25 hx.1.1.1 rfl hx.1.1.2.1.2.2.1 ?_
                      refine r_alenQ dX7_assemble_135 hx.1.1.2.2.2.2.1.1 (by decide) (by decide) ?_
                      refine Wx.top (congrArg nI hx.1.1.2.2.2.2.1.2) ?_
                      refine r_icmp_geN (tgt := 181) dX7_assemble_136 (by decide) (by omega) (by omega) (fun h136 => ?_) (fun h136 => ?_)
                      · exact absurd h136 (by omega)
                      · refine r_aload_n dX7_assemble_139 rfl 2 rfl ?_
                        refine r_iload dX7_assemble_140 6 rfl ?_
                        refine r_iload_n dX7_assemble_142 rfl 5 rfl ?_
                        refine r_fnV (M2 := m_X7_gives) (As := [.int (nI (t0)), .int (nI (n))]) (rest := []) (v := some (.int (nI (1)))) dX7_assemble_143 cc_X7_assemble_119 rfl rfl rfl (Nat.le_of_ble_eq_true rfl) hx.1.1.1 rfl rfl (by decide) (o_gives_1 hx.1 hr hal (l := t0) (by omega) hn f0) rfl ?_
                        refine r_if_eqN (tgt := 181) dX7_assemble_146 (by decide) (by omega) (fun zz146 => ?_) (fun zz146 => ?_)
                        · exact absurd zz146 (by decide)
                        · refine r_iload dX7_assemble_149 7 rfl ?_
                          refine r_iconst (v := nI 4294967295) dX7_assemble_151 (by decide) ?_
                          refine r_icmp_eqW (tgt := 165) dX7_assemble_152 (by decide) (by omega) (by omega) (fun zz152 => ?_) (fun zz152 => ?_)
                          · refine r_iload dX7_assemble_165 8 rfl ?_
                            refine r_iconst (v := nI 4294967295) dX7_assemble_167 (by decide) ?_
                            refine r_icmp_eqW (tgt := 184) dX7_assemble_168 (by decide) (by omega) (by omega) (fun zz168 => ?_) (fun zz168 => ?_)
                            · refine r_aload_n dX7_assemble_184 rfl 2 rfl ?_
                              refine r_aload_n dX7_assemble_185 rfl 2 rfl ?_
                              refine r_getI (ci := 9) (k := 5) dX7_assemble_186 fr_X7_49 hx.1.1.1 rfl ?_
                              refine Wx.top hx.1.o0 ?_
                              refine Wx.topN hr.c0 ?_
                              refine Wx.topN hl ?_
                              refine r_callV (M2 := m_X7_slot) (As := [.int (nI l)]) (rest := []) dX7_assemble_189 cc_X7_assemble_52 rfl rfl rfl (Nat.le_of_ble_eq_true rfl) hx.1.1.1 rfl rfl (by decide) (s_slot hx.1 hl24 hrm) (fun v T hq => ?_) (fun E T hq => by obtain ⟨_, _, _, hq, _⟩ := hq; cases hq)
                              obtain ⟨w1, A1, c1, hv, hx1, hA1, hc1, ha1⟩ := hq
                              cases hv
                              replace hx1 : OX S w A T w1 k o A1 c1 := hx.trans hx1
                              show Wx _ _ _ _ _ [.ref (A1 l)] _
                              refine r_astore (lv' := [(9, .ref (A1 l)), (8, .int (nI (0))), (7, .ref (o + 6 + a)), (0, .ref (o)), (1, .int (nI (a))), (2, .int (nI (p))), (3, .int (nI (n))), (4, .int (nI (t0))), (5, .int (nI (4294967295))), (6, .int (nI (4294967295)))]) dX7_assemble_192 (by decide) rfl ?_
                              refine r_aload dX7_assemble_194 0 rfl ?_
                              refine r_iload_n dX7_assemble_196 rfl 5 rfl ?_
                              refine r_iload_n dX7_assemble_197 rfl 4 rfl ?_
                              refine r_iload_n dX7_assemble_198 rfl 6 rfl ?_
                              refine r_oexV (M2 := m_X5_begin) (As := [.int (nI (p)), .int (nI (a)), .int (nI (n))]) (rest := []) (v := none) dX7_assemble_199 cc_X7_assemble_111 rfl rfl rfl (Nat.le_of_ble_eq_true rfl) (hx1.1.lo hl24 hA1).2.1 rfl rfl (by decide) hx1 (o_begin hx1.1 hl24 hA1 (by omega) (by omega) hn) rfl (fun T c2 (hx : OX S w A T w1 k o A1 c2) hbg => ?_)
                              have hb0 : ∀ j, ¬ inL l j → c2 j = c j := fun j hj => (hbg.1 j hj).trans (hc1 j hj)
                              have hbz : c2 (90 + 13 * l + 1) = n := hbg.2.1.2.1
                              have hbd : ∀ v, v < n → c2 (402 + 8 * (200 * l + v) + 1) = 0 := fun v hv => (hbg.2.2 v hv).2.1
                              have hcz0 : c2 0 = l := (hb0 0 (by unfold inL; omega)).trans (hr.c0.trans hl)
                              have hal1 : ∀ i, i < l → A1 i ≠ 0 := fun i hi => by rw [ha1 i (by omega)]; exact hal i (by omega)
                              have hbk : c2 (90 + 13 * l + 8) = 0 := hbg.2.1.2.2.2.2.2.2.2.2.1
                              refine r_aload_n dX7_assemble_202 rfl 3 rfl ?_
                              refine r_aload dX7_assemble_203 0 rfl ?_
                              refine r_iload dX7_assemble_205 7 rfl ?_
                              refine r_oexV (M2 := m_X7_usePart) (As := [.ref (A1 l), .int (nI (t0))]) (rest := []) (v := none) dX7_assemble_207 cc_X7_assemble_123 rfl rfl rfl (Nat.le_of_ble_eq_true rfl) hx.1.1.1 rfl rfl (by decide) hx (o_use hx.1 hr hl24 hA1 hl hal1 hcz0 (by omega) (fun j hj => hb0 j (by unfold inL at hj ⊢; omega)) hbz hn hbk (by decide) (fun v hv => by rw [hbd v hv]; decide) g0 e0h) rfl (fun T_1 c3 (hx_1 : OX S w A T_1 w1 k o A1 c3) u0 => ?_)
                              have x1 : c3 0 = l := (u0.lo hl24 (by decide) 0 (by decide)).trans hcz0
                              have y1 : c3 (90 + 13 * l + 1) = n := (u0.sz hl24 (by decide)).trans hbz
                              have d1 : ∀ q, q < n → c3 (402 + 8 * (200 * l + q) + 1) < 16 := u0.dl (fun v hv => by rw [hbd v hv]; decide) (fun v hv => by rw [show c2 (402 + 8 * (200 * t0 + e0 v) + 1) = c (402 + 8 * (200 * t0 + e0 v) + 1) from (fun j (hj : inL t0 j) => hb0 j (by unfold inL at hj ⊢; omega)) _ (by have := (e0h v hv).1; unfold inL; omega), (hr.lot (l := t0) (by omega)).u1 (e0h v hv).1]; exact Nat.mod_lt _ (by decide))
                              refine r_aload_n dX7_assemble_210 rfl 3 rfl ?_
                              refine r_aload dX7_assemble_211 0 rfl ?_
                              refine r_iload dX7_assemble_213 8 rfl ?_
                              refine r_fnV (M2 := m_X7_usePart) (As := [.ref (A1 l), .int (nI (4294967295))]) (rest := []) (v := none) dX7_assemble_215 cc_X7_assemble_123 rfl rfl rfl (Nat.le_of_ble_eq_true rfl) hx_1.1.1.1 rfl rfl (by decide) (o_usePart_no hx_1.1 hl24 hA1 (by omega) neg_out) rfl ?_
                              refine r_aload_n dX7_assemble_218 rfl 3 rfl ?_
                              refine r_aload dX7_assemble_219 0 rfl ?_
                              refine r_iload dX7_assemble_221 9 rfl ?_
                              refine r_fnV (M2 := m_X7_usePart) (As := [.ref (A1 l), .int (nI (4294967295))]) (rest := []) (v := none) dX7_assemble_223 cc_X7_assemble_123 rfl rfl rfl (Nat.le_of_ble_eq_true rfl) hx_1.1.1.1 rfl rfl (by decide) (o_usePart_no hx_1.1 hl24 hA1 (by omega) neg_out) rfl ?_
                              refine r_aload_n dX7_assemble_226 rfl 3 rfl ?_
                              refine r_aload dX7_assemble_227 0 rfl ?_
                              refine r_aload dX7_assemble_229 2 rfl ?_
                              have f0 : c3 (4 + 3 * a) = g (4 + 3 * a) := ((u0.lo hl24 (by decide) _ (by omega)).trans (hb0 (4 + 3 * a) (by unfold inL; omega))).trans hm0
                              have f1 : c3 (4 + 3 * a + 1) = g (4 + 3 * a + 1) := ((u0.lo hl24 (by decide) _ (by omega)).trans (hb0 (4 + 3 * a + 1) (by unfold inL; omega))).trans hm1
                              have f2 : c3 (4 + 3 * a + 2) = g (4 + 3 * a + 2) := ((u0.lo hl24 (by decide) _ (by omega)).trans (hb0 (4 + 3 * a + 2) (by unfold inL; omega))).trans hm2
                              refine r_oexV (M2 := m_X7_finish) (As := [.ref (A1 l), .ref (o + 6 + a)]) (rest := []) (v := some (.int (nI (l)))) dX7_assemble_231 cc_X7_assemble_115 rfl rfl rfl (Nat.le_of_ble_eq_true rfl) hx_1.1.1.1 rfl rfl (by decide) hx_1 (x1 ▸ o_finish hx_1.1 hl24 hA1 ha y1 hn d1 (by omega) (by omega) (by omega) (by omega)) rfl (fun T_2 c8 (hx_2 : OX S w A T_2 w1 k o A1 c8) hfi => ?_)
                              obtain ⟨c9, hwk, he9⟩ := hfi
                              exact r_iret (ty := .int) dX7_assemble_234 rfl rfl ⟨rfl, w1, A1, c8, hx_2, hA1, ha1, c1, c2, c3, c9, hc1, hbg, u0, hwk, he9⟩
                            · exact absurd zz168 (by decide)
                          · exact absurd zz152 (by decide)
                    · exact absurd zz121 (by decide)
          · exact absurd zz78 (by decide)
    · exact absurd zz47 (by decide)
  · exact absurd zz32 (by decide)
set_option maxRecDepth 4000 in
set_option maxHeartbeats 400000 in
theorem a_asm2 {G : GI} {S : Hp} {w : Nat → Nat} {k o : Nat} {A c g : Nat → Nat} {N : Nat} (h : OR S w k o A c) (hr : Rel c g N) (hal : ∀ l, l < g 0 → A l ≠ 0) (hrm : Rm G S A) (hNb : N < 2147460000) {l a p n : Nat} (hl : g 0 = l) (hl24 : l < 24) (ha : a < 6) (hp : p < 4) (hn0 : 0 < n) (hn : n ≤ 200) {t0 : Nat} (q0 : t0 < l) {t1 : Nat} (q1 : t1 < l) (n01 : t0 ≠ t1) (f0 : ¬ fewP g t0 n) {e0 : Nat → Nat} (e0h : EN (fun v => sW (g (402 + 2 * (200 * t0 + v))) = 0) n (g (90 + 13 * t0 + 1)) e0) (f1 : ¬ fewP g t1 n) {e1 : Nat → Nat} (e1h : EN (fun v => sW (g (402 + 2 * (200 * t1 + v))) = 0) n (g (90 + 13 * t1 + 1)) e1) : OEa m_X7_assemble G [.ref (o), .int (nI (a)), .int (nI (p)), .int (nI (n)), .int (nI (t0)), .int (nI (t1)), .int (nI (4294967295))] S w k o A (some (.int (nI l))) (fun A' c' => A' l ≠ 0 ∧ (∀ i, i ≠ l → A' i = A i) ∧ ∃ c1 c2 c3 c4 c9, (∀ j, ¬ inL l j → c1 j = c j) ∧ BG c1 l p a n n c2 ∧ US c2 l t0 0 n e0 c3 ∧ US c3 l t1 1 n e1 c4 ∧ WK c4 l a n c9 ∧ c' = up1 c9 0 (l + 1)) := by
  refine Cn.of rfl (by decide) (Nat.le_of_ble_eq_true rfl) (fun hN hM => ?_)
  show Wx _ G _ 0 [(0, .ref (o)), (1, .int (nI (a))), (2, .int (nI (p))), (3, .int (nI (n))), (4, .int (nI (t0))), (5, .int (nI (t1))), (6, .int (nI (4294967295)))] [] _
  have hx := OX.refl h
  have h24 := hr.n24
  have hmb := hr.mb ha
  have hm0 := hr.m0 ha
  have hm1 := hr.m1 ha
  have hm2 := hr.m2 ha
  have z0 := (hr.lot (l := t0) (by omega)).z
  have g0 : n ≤ cnt (fun v => sW (g (402 + 2 * (200 * t0 + v))) = 0) (g (90 + 13 * t0 + 1)) := few_n f0
  have z1 := (hr.lot (l := t1) (by omega)).z
  have g1 : n ≤ cnt (fun v => sW (g (402 + 2 * (200 * t1 + v))) = 0) (g (90 + 13 * t1 + 1)) := few_n f1
  refine r_aload_n dX7_assemble_0 rfl 0 rfl ?_
  refine r_iload_n dX7_assemble_1 rfl 1 rfl ?_
  refine r_fnV (M2 := m_X7_machineAt) (As := [.int (nI (a))]) (rest := []) (v := some (.ref (o + 6 + a))) dX7_assemble_2 cc_X7_assemble_82 rfl rfl rfl (Nat.le_of_ble_eq_true rfl) hx.1.1.1 rfl rfl (by decide) (k_machineAt hx.1.1 (by omega)) rfl ?_
  refine r_astore (lv' := [(7, .ref (o + 6 + a)), (0, .ref (o)), (1, .int (nI (a))), (2, .int (nI (p))), (3, .int (nI (n))), (4, .int (nI (t0))), (5, .int (nI (t1))), (6, .int (nI (4294967295)))]) dX7_assemble_5 (by decide) rfl ?_
  refine r_aload dX7_assemble_7 0 rfl ?_
  refine r_ifnull dX7_assemble_9 ?_
  refine r_aload_n dX7_assemble_12 rfl 1 rfl ?_
  refine r_iload_n dX7_assemble_13 rfl 3 rfl ?_
  refine r_fnV (M2 := m_X7_productAt) (As := [.int (nI (p))]) (rest := []) (v := some (.ref (o + 12 + p))) dX7_assemble_14 cc_X7_assemble_75 rfl rfl rfl (Nat.le_of_ble_eq_true rfl) hx.1.1.1 rfl rfl (by decide) (k_productAt hx.1.1 (by omega)) rfl ?_
  refine r_ifnull dX7_assemble_17 ?_
  refine r_aload_n dX7_assemble_20 rfl 1 rfl ?_
  refine r_iload dX7_assemble_21 5 rfl ?_
  refine r_fnV (M2 := m_X7_lotAt) (As := [.int (nI (t0))]) (rest := []) (v := some (.ref (A t0))) dX7_assemble_23 cc_X7_assemble_105 rfl rfl rfl (Nat.le_of_ble_eq_true rfl) hx.1.1.1 rfl rfl (by decide) (o_lotAt hx.1 hr hal (l := t0) (by omega)) rfl ?_
  refine r_ifnull dX7_assemble_26 ?_
  refine r_iload dX7_assemble_29 6 rfl ?_
  refine r_iconst (v := nI 4294967295) dX7_assemble_31 (by decide) ?_
  refine r_icmp_eqW (tgt := 44) dX7_assemble_32 (by decide) (by omega) (by omega) (fun h32 => ?_) (fun h32 => ?_)
  · exact absurd h32 (by omega)
  · refine r_aload_n dX7_assemble_35 rfl 1 rfl ?_
    refine r_iload dX7_assemble_36 6 rfl ?_
    refine r_fnV (M2 := m_X7_lotAt) (As := [.int (nI (t1))]) (rest := []) (v := some (.ref (A t1))) dX7_assemble_38 cc_X7_assemble_105 rfl rfl rfl (Nat.le_of_ble_eq_true rfl) hx.1.1.1 rfl rfl (by decide) (o_lotAt hx.1 hr hal (l := t1) (by omega)) rfl ?_
    refine r_ifnull dX7_assemble_41 ?_
    refine r_iload dX7_assemble_44 7 rfl ?_
    refine r_iconst (v := nI 4294967295) dX7_assemble_46 (by decide) ?_
    refine r_icmp_eqW (tgt := 61) dX7_assemble_47 (by decide) (by omega) (by omega) (fun zz47 => ?_) (fun zz47 => ?_)
    · refine r_iload dX7_assemble_61 5 rfl ?_
      refine r_iload dX7_assemble_63 6 rfl ?_
      refine r_icmp_eqN (tgt := 88) dX7_assemble_65 (by decide) (by omega) (by omega) (fun h65 => ?_) (fun h65 => ?_)
      · exact absurd h65 (by omega)
      · refine r_iload dX7_assemble_68 5 rfl ?_
        refine r_iload dX7_assemble_70 7 rfl ?_
        refine r_icmp_eqW (tgt := 88) dX7_assemble_72 (by decide) (by omega) (by omega) (fun h72 => ?_) (fun h72 => ?_)
        · exact absurd h72 (by omega)
        · refine r_iload dX7_assemble_75 6 rfl ?_
          refine r_iconst (v := nI 4294967295) dX7_assemble_77 (by decide) ?_
          refine r_icmp_eqW (tgt := 92) dX7_assemble_78 (by decide) (by omega) (by omega) (fun h78 => ?_) (fun h78 => ?_)
          · exact absurd h78 h32
          · refine r_iload dX7_assemble_81 6 rfl ?_
            refine r_iload dX7_assemble_83 7 rfl ?_
            refine r_icmp_neW (tgt := 92) dX7_assemble_85 (by decide) (by omega) (by omega) (fun h85 => ?_) (fun h85 => ?_)
            · refine r_iconst (v := nI 0) dX7_assemble_92 (by decide) ?_
              refine r_istore (lv' := [(8, .int (nI (0))), (7, .ref (o + 6 + a)), (0, .ref (o)), (1, .int (nI (a))), (2, .int (nI (p))), (3, .int (nI (n))), (4, .int (nI (t0))), (5, .int (nI (t1))), (6, .int (nI (4294967295)))]) dX7_assemble_93 (by decide) rfl ?_
              refine r_iload_n dX7_assemble_95 rfl 5 rfl ?_
              refine r_iconst (v := nI 1) dX7_assemble_96 (by decide) ?_
              refine r_icmp_ltN (tgt := 124) dX7_assemble_97 (by decide) (by omega) (by omega) (fun h97 => ?_) (fun h97 => ?_)
              · exact absurd h97 (by omega)
              · refine r_iload_n dX7_assemble_100 rfl 5 rfl ?_
                refine r_sipush (v := nI 200) dX7_assemble_101 (by decide) ?_
                refine r_icmp_gtN (tgt := 124) dX7_assemble_104 (by decide) (by omega) (by omega) (fun h104 => ?_) (fun h104 => ?_)
                · exact absurd h104 (by omega)
                · refine r_iload dX7_assemble_107 0 rfl ?_
                  refine r_if_neN (tgt := 124) dX7_assemble_109 (by decide) (by omega) (fun zz109 => ?_) (fun zz109 => ?_)
                  · exact absurd zz109 (by decide)
                  · refine r_iload dX7_assemble_112 7 rfl ?_
                    refine r_iconst (v := nI 4294967295) dX7_assemble_114 (by decide) ?_
                    refine r_icmp_neW (tgt := 127) dX7_assemble_115 (by decide) (by omega) (by omega) (fun h115 => ?_) (fun h115 => ?_)
                    · refine r_aload_n dX7_assemble_127 rfl 2 rfl ?_
                      refine r_getI (ci := 9) (k := 5) dX7_assemble_128 fr_X7_49 hx.1.1.1 rfl ?_
                      refine Wx.top hx.1.o0 ?_
                      refine Wx.topN hr.c0 ?_
                      refine Wx.topN hl ?_
                      refine r_aload_n dX7_assemble_131 rfl 2 rfl ?_
                      refine r_getR (ci := 9) (k := 2) (b := o + 3) dX7_assemble_132 fr_X7_25 hx.1.1.1 rfl hx.1.1.2.1.2.2.1 ?_
                      refine r_alenQ dX7_assemble_135 hx.1.1.2.2.2.2.1.1 (by decide) (by decide) ?_
                      refine Wx.top (congrArg nI hx.1.1.2.2.2.2.1.2) ?_
                      refine r_icmp_geN (tgt := 181) dX7_assemble_136 (by decide) (by omega) (by omega) (fun h136 => ?_) (fun h136 => ?_)
                      · exact absurd h136 (by omega)
                      · refine r_aload_n dX7_assemble_139 rfl 2 rfl ?_
                        refine r_iload dX7_assemble_140 6 rfl ?_
                        refine r_iload_n dX7_assemble_142 rfl 5 rfl ?_
                        refine r_fnV (M2 := m_X7_gives) (As := [.int (nI (t0)), .int (nI (n))]) (rest := []) (v := some (.int (nI (1)))) dX7_assemble_143 cc_X7_assemble_119 rfl rfl rfl (Nat.le_of_ble_eq_true rfl) hx.1.1.1 rfl rfl (by decide) (o_gives_1 hx.1 hr hal (l := t0) (by omega) hn f0) rfl ?_
                        refine r_if_eqN (tgt := 181) dX7_assemble_146 (by decide) (by omega) (fun zz146 => ?_) (fun zz146 => ?_)
                        · exact absurd zz146 (by decide)
                        · refine r_iload dX7_assemble_149 7 rfl ?_
                          refine r_iconst (v := nI 4294967295) dX7_assemble_151 (by decide) ?_
                          refine r_icmp_eqW (tgt := 165) dX7_assemble_152 (by decide) (by omega) (by omega) (fun h152 => ?_) (fun h152 => ?_)
                          · exact absurd h152 h32
                          · refine r_aload_n dX7_assemble_155 rfl 2 rfl ?_
                            refine r_iload dX7_assemble_156 7 rfl ?_
                            refine r_iload_n dX7_assemble_158 rfl 5 rfl ?_
                            refine r_fnV (M2 := m_X7_gives) (As := [.int (nI (t1)), .int (nI (n))]) (rest := []) (v := some (.int (nI (1)))) dX7_assemble_159 cc_X7_assemble_119 rfl rfl rfl (Nat.le_of_ble_eq_true rfl) hx.1.1.1 rfl rfl (by decide) (o_gives_1 hx.1 hr hal (l := t1) (by omega) hn f1) rfl ?_
                            refine r_if_eqN (tgt := 181) dX7_assemble_162 (by decide) (by omega) (fun zz162 => ?_) (fun zz162 => ?_)
                            · exact absurd zz162 (by decide)
                            · refine r_iload dX7_assemble_165 8 rfl ?_
                              refine r_iconst (v := nI 4294967295) dX7_assemble_167 (by decide) ?_
                              refine r_icmp_eqW (tgt := 184) dX7_assemble_168 (by decide) (by omega) (by omega) (fun zz168 => ?_) (fun zz168 => ?_)
                              · refine r_aload_n dX7_assemble_184 rfl 2 rfl ?_
                                refine r_aload_n dX7_assemble_185 rfl 2 rfl ?_
                                refine r_getI (ci := 9) (k := 5) dX7_assemble_186 fr_X7_49 hx.1.1.1 rfl ?_
                                refine Wx.top hx.1.o0 ?_
                                refine Wx.topN hr.c0 ?_
                                refine Wx.topN hl ?_
                                refine r_callV (M2 := m_X7_slot) (As := [.int (nI l)]) (rest := []) dX7_assemble_189 cc_X7_assemble_52 rfl rfl rfl (Nat.le_of_ble_eq_true rfl) hx.1.1.1 rfl rfl (by decide) (s_slot hx.1 hl24 hrm) (fun v T hq => ?_) (fun E T hq => by obtain ⟨_, _, _, hq, _⟩ := hq; cases hq)
                                obtain ⟨w1, A1, c1, hv, hx1, hA1, hc1, ha1⟩ := hq
                                cases hv
                                replace hx1 : OX S w A T w1 k o A1 c1 := hx.trans hx1
                                show Wx _ _ _ _ _ [.ref (A1 l)] _
                                refine r_astore (lv' := [(9, .ref (A1 l)), (8, .int (nI (0))), (7, .ref (o + 6 + a)), (0, .ref (o)), (1, .int (nI (a))), (2, .int (nI (p))), (3, .int (nI (n))), (4, .int (nI (t0))), (5, .int (nI (t1))), (6, .int (nI (4294967295)))]) dX7_assemble_192 (by decide) rfl ?_
                                refine r_aload dX7_assemble_194 0 rfl ?_
                                refine r_iload_n dX7_assemble_196 rfl 5 rfl ?_
                                refine r_iload_n dX7_assemble_197 rfl 4 rfl ?_
                                refine r_iload_n dX7_assemble_198 rfl 6 rfl ?_
                                refine r_oexV (M2 := m_X5_begin) (As := [.int (nI (p)), .int (nI (a)), .int (nI (n))]) (rest := []) (v := none) dX7_assemble_199 cc_X7_assemble_111 rfl rfl rfl (Nat.le_of_ble_eq_true rfl) (hx1.1.lo hl24 hA1).2.1 rfl rfl (by decide) hx1 (o_begin hx1.1 hl24 hA1 (by omega) (by omega) hn) rfl (fun T c2 (hx : OX S w A T w1 k o A1 c2) hbg => ?_)
                                have hb0 : ∀ j, ¬ inL l j → c2 j = c j := fun j hj => (hbg.1 j hj).trans (hc1 j hj)
                                have hbz : c2 (90 + 13 * l + 1) = n := hbg.2.1.2.1
                                have hbd : ∀ v, v < n → c2 (402 + 8 * (200 * l + v) + 1) = 0 := fun v hv => (hbg.2.2 v hv).2.1
                                have hcz0 : c2 0 = l := (hb0 0 (by unfold inL; omega)).trans (hr.c0.trans hl)
                                have hal1 : ∀ i, i < l → A1 i ≠ 0 := fun i hi => by rw [ha1 i (by omega)]; exact hal i (by omega)
                                have hbk : c2 (90 + 13 * l + 8) = 0 := hbg.2.1.2.2.2.2.2.2.2.2.1
                                refine r_aload_n dX7_assemble_202 rfl 3 rfl ?_
                                refine r_aload dX7_assemble_203 0 rfl ?_
                                refine r_iload dX7_assemble_205 7 rfl ?_
                                refine r_oexV (M2 := m_X7_usePart) (As := [.ref (A1 l), .int (nI (t0))]) (rest := []) (v := none) dX7_assemble_207 cc_X7_assemble_123 rfl rfl rfl (Nat.le_of_ble_eq_true rfl) hx.1.1.1 rfl rfl (by decide) hx (o_use hx.1 hr hl24 hA1 hl hal1 hcz0 (by omega) (fun j hj => hb0 j (by unfold inL at hj ⊢; omega)) hbz hn hbk (by decide) (fun v hv => by rw [hbd v hv]; decide) g0 e0h) rfl (fun T_1 c3 (hx_1 : OX S w A T_1 w1 k o A1 c3) u0 => ?_)
                                have x1 : c3 0 = l := (u0.lo hl24 (by decide) 0 (by decide)).trans hcz0
                                have y1 : c3 (90 + 13 * l + 1) = n := (u0.sz hl24 (by decide)).trans hbz
                                have d1 : ∀ q, q < n → c3 (402 + 8 * (200 * l + q) + 1) < 16 := u0.dl (fun v hv => by rw [hbd v hv]; decide) (fun v hv => by rw [show c2 (402 + 8 * (200 * t0 + e0 v) + 1) = c (402 + 8 * (200 * t0 + e0 v) + 1) from (fun j (hj : inL t0 j) => hb0 j (by unfold inL at hj ⊢; omega)) _ (by have := (e0h v hv).1; unfold inL; omega), (hr.lot (l := t0) (by omega)).u1 (e0h v hv).1]; exact Nat.mod_lt _ (by decide))
                                refine r_aload_n dX7_assemble_210 rfl 3 rfl ?_
                                refine r_aload dX7_assemble_211 0 rfl ?_
                                refine r_iload dX7_assemble_213 8 rfl ?_
                                refine r_oexV (M2 := m_X7_usePart) (As := [.ref (A1 l), .int (nI (t1))]) (rest := []) (v := none) dX7_assemble_215 cc_X7_assemble_123 rfl rfl rfl (Nat.le_of_ble_eq_true rfl) hx_1.1.1.1 rfl rfl (by decide) hx_1 (o_use hx_1.1 hr hl24 hA1 hl hal1 x1 (by omega) (fun j hj => (u0.ot hl24 (by decide) (by omega) (by omega) hn (fun u hu => Nat.lt_of_lt_of_le (e0h u hu).1 z0) (by omega) (by omega) j hj).trans (hb0 j (by unfold inL at hj ⊢; omega))) y1 hn u0.2.1.2 (by decide) d1 g1 e1h) rfl (fun T_2 c4 (hx_2 : OX S w A T_2 w1 k o A1 c4) u1 => ?_)
                                have x2 : c4 0 = l := (u1.lo hl24 (by decide) 0 (by decide)).trans x1
                                have y2 : c4 (90 + 13 * l + 1) = n := (u1.sz hl24 (by decide)).trans y1
                                have d2 : ∀ q, q < n → c4 (402 + 8 * (200 * l + q) + 1) < 16 := u1.dl d1 (fun v hv => by rw [show c3 (402 + 8 * (200 * t1 + e1 v) + 1) = c (402 + 8 * (200 * t1 + e1 v) + 1) from (fun j (hj : inL t1 j) => (u0.ot hl24 (by decide) (by omega) (by omega) hn (fun u hu => Nat.lt_of_lt_of_le (e0h u hu).1 z0) (by omega) (by omega) j hj).trans (hb0 j (by unfold inL at hj ⊢; omega))) _ (by have := (e1h v hv).1; unfold inL; omega), (hr.lot (l := t1) (by omega)).u1 (e1h v hv).1]; exact Nat.mod_lt _ (by decide))
                                refine r_aload_n dX7_assemble_218 rfl 3 rfl ?_
                                refine r_aload dX7_assemble_219 0 rfl ?_
                                refine r_iload dX7_assemble_221 9 rfl ?_
                                refine r_fnV (M2 := m_X7_usePart) (As := [.ref (A1 l), .int (nI (4294967295))]) (rest := []) (v := none) dX7_assemble_223 cc_X7_assemble_123 rfl rfl rfl (Nat.le_of_ble_eq_true rfl) hx_2.1.1.1 rfl rfl (by decide) (o_usePart_no hx_2.1 hl24 hA1 (by omega) neg_out) rfl ?_
                                refine r_aload_n dX7_assemble_226 rfl 3 rfl ?_
                                refine r_aload dX7_assemble_227 0 rfl ?_
                                refine r_aload dX7_assemble_229 2 rfl ?_
                                have f0 : c4 (4 + 3 * a) = g (4 + 3 * a) := ((u1.lo hl24 (by decide) _ (by omega)).trans ((u0.lo hl24 (by decide) _ (by omega)).trans (hb0 (4 + 3 * a) (by unfold inL; omega)))).trans hm0
                                have f1 : c4 (4 + 3 * a + 1) = g (4 + 3 * a + 1) := ((u1.lo hl24 (by decide) _ (by omega)).trans ((u0.lo hl24 (by decide) _ (by omega)).trans (hb0 (4 + 3 * a + 1) (by unfold inL; omega)))).trans hm1
                                have f2 : c4 (4 + 3 * a + 2) = g (4 + 3 * a + 2) := ((u1.lo hl24 (by decide) _ (by omega)).trans ((u0.lo hl24 (by decide) _ (by omega)).trans (hb0 (4 + 3 * a + 2) (by unfold inL; omega)))).trans hm2
                                refine r_oexV (M2 := m_X7_finish) (As := [.ref (A1 l), .ref (o + 6 + a)]) (rest := []) (v := some (.int (nI (l)))) dX7_assemble_231 cc_X7_assemble_115 rfl rfl rfl (Nat.le_of_ble_eq_true rfl) hx_2.1.1.1 rfl rfl (by decide) hx_2 (x2 ▸ o_finish hx_2.1 hl24 hA1 ha y2 hn d2 (by omega) (by omega) (by omega) (by omega)) rfl (fun T_3 c8 (hx_3 : OX S w A T_3 w1 k o A1 c8) hfi => ?_)
                                obtain ⟨c9, hwk, he9⟩ := hfi
                                exact r_iret (ty := .int) dX7_assemble_234 rfl rfl ⟨rfl, w1, A1, c8, hx_3, hA1, ha1, c1, c2, c3, c4, c9, hc1, hbg, u0, u1, hwk, he9⟩
                              · exact absurd zz168 (by decide)
                    · exact absurd h115 h32
            · exact absurd h85 h32
    · exact absurd zz47 (by decide)
set_option maxRecDepth 4000 in
set_option maxHeartbeats 400000 in
theorem a_asm3 {G : GI} {S : Hp} {w : Nat → Nat} {k o : Nat} {A c g : Nat → Nat} {N : Nat} (h : OR S w k o A c) (hr : Rel c g N) (hal : ∀ l, l < g 0 → A l ≠ 0) (hrm : Rm G S A) (hNb : N < 2147460000) {l a p n : Nat} (hl : g 0 = l) (hl24 : l < 24) (ha : a < 6) (hp : p < 4) (hn0 : 0 < n) (hn : n ≤ 200) {t0 : Nat} (q0 : t0 < l) {t1 : Nat} (q1 : t1 < l) {t2 : Nat} (q2 : t2 < l) (n01 : t0 ≠ t1) (n02 : t0 ≠ t2) (n12 : t1 ≠ t2) (f0 : ¬ fewP g t0 n) {e0 : Nat → Nat} (e0h : EN (fun v => sW (g (402 + 2 * (200 * t0 + v))) = 0) n (g (90 + 13 * t0 + 1)) e0) (f1 : ¬ fewP g t1 n) {e1 : Nat → Nat} (e1h : EN (fun v => sW (g (402 + 2 * (200 * t1 + v))) = 0) n (g (90 + 13 * t1 + 1)) e1) (f2 : ¬ fewP g t2 n) {e2 : Nat → Nat} (e2h : EN (fun v => sW (g (402 + 2 * (200 * t2 + v))) = 0) n (g (90 + 13 * t2 + 1)) e2) : OEa m_X7_assemble G [.ref (o), .int (nI (a)), .int (nI (p)), .int (nI (n)), .int (nI (t0)), .int (nI (t1)), .int (nI (t2))] S w k o A (some (.int (nI l))) (fun A' c' => A' l ≠ 0 ∧ (∀ i, i ≠ l → A' i = A i) ∧ ∃ c1 c2 c3 c4 c5 c9, (∀ j, ¬ inL l j → c1 j = c j) ∧ BG c1 l p a n n c2 ∧ US c2 l t0 0 n e0 c3 ∧ US c3 l t1 1 n e1 c4 ∧ US c4 l t2 2 n e2 c5 ∧ WK c5 l a n c9 ∧ c' = up1 c9 0 (l + 1)) := by
  refine Cn.of rfl (by decide) (Nat.le_of_ble_eq_true rfl) (fun hN hM => ?_)
  show Wx _ G _ 0 [(0, .ref (o)), (1, .int (nI (a))), (2, .int (nI (p))), (3, .int (nI (n))), (4, .int (nI (t0))), (5, .int (nI (t1))), (6, .int (nI (t2)))] [] _
  have hx := OX.refl h
  have h24 := hr.n24
  have hmb := hr.mb ha
  have hm0 := hr.m0 ha
  have hm1 := hr.m1 ha
  have hm2 := hr.m2 ha
  have z0 := (hr.lot (l := t0) (by omega)).z
  have g0 : n ≤ cnt (fun v => sW (g (402 + 2 * (200 * t0 + v))) = 0) (g (90 + 13 * t0 + 1)) := few_n f0
  have z1 := (hr.lot (l := t1) (by omega)).z
  have g1 : n ≤ cnt (fun v => sW (g (402 + 2 * (200 * t1 + v))) = 0) (g (90 + 13 * t1 + 1)) := few_n f1
  have z2 := (hr.lot (l := t2) (by omega)).z
  have g2 : n ≤ cnt (fun v => sW (g (402 + 2 * (200 * t2 + v))) = 0) (g (90 + 13 * t2 + 1)) := few_n f2
  refine r_aload_n dX7_assemble_0 rfl 0 rfl ?_
  refine r_iload_n dX7_assemble_1 rfl 1 rfl ?_
  refine r_fnV (M2 := m_X7_machineAt) (As := [.int (nI (a))]) (rest := []) (v := some (.ref (o + 6 + a))) dX7_assemble_2 cc_X7_assemble_82 rfl rfl rfl (Nat.le_of_ble_eq_true rfl) hx.1.1.1 rfl rfl (by decide) (k_machineAt hx.1.1 (by omega)) rfl ?_
  refine r_astore (lv' := [(7, .ref (o + 6 + a)), (0, .ref (o)), (1, .int (nI (a))), (2, .int (nI (p))), (3, .int (nI (n))), (4, .int (nI (t0))), (5, .int (nI (t1))), (6, .int (nI (t2)))]) dX7_assemble_5 (by decide) rfl ?_
  refine r_aload dX7_assemble_7 0 rfl ?_
  refine r_ifnull dX7_assemble_9 ?_
  refine r_aload_n dX7_assemble_12 rfl 1 rfl ?_
  refine r_iload_n dX7_assemble_13 rfl 3 rfl ?_
  refine r_fnV (M2 := m_X7_productAt) (As := [.int (nI (p))]) (rest := []) (v := some (.ref (o + 12 + p))) dX7_assemble_14 cc_X7_assemble_75 rfl rfl rfl (Nat.le_of_ble_eq_true rfl) hx.1.1.1 rfl rfl (by decide) (k_productAt hx.1.1 (by omega)) rfl ?_
  refine r_ifnull dX7_assemble_17 ?_
  refine r_aload_n dX7_assemble_20 rfl 1 rfl ?_
  refine r_iload dX7_assemble_21 5 rfl ?_
  refine r_fnV (M2 := m_X7_lotAt) (As := [.int (nI (t0))]) (rest := []) (v := some (.ref (A t0))) dX7_assemble_23 cc_X7_assemble_105 rfl rfl rfl (Nat.le_of_ble_eq_true rfl) hx.1.1.1 rfl rfl (by decide) (o_lotAt hx.1 hr hal (l := t0) (by omega)) rfl ?_
  refine r_ifnull dX7_assemble_26 ?_
  refine r_iload dX7_assemble_29 6 rfl ?_
  refine r_iconst (v := nI 4294967295) dX7_assemble_31 (by decide) ?_
  refine r_icmp_eqW (tgt := 44) dX7_assemble_32 (by decide) (by omega) (by omega) (fun h32 => ?_) (fun h32 => ?_)
  · exact absurd h32 (by omega)
  · refine r_aload_n dX7_assemble_35 rfl 1 rfl ?_
    refine r_iload dX7_assemble_36 6 rfl ?_
    refine r_fnV (M2 := m_X7_lotAt) (As := [.int (nI (t1))]) (rest := []) (v := some (.ref (A t1))) dX7_assemble_38 cc_X7_assemble_105 rfl rfl rfl (Nat.le_of_ble_eq_true rfl) hx.1.1.1 rfl rfl (by decide) (o_lotAt hx.1 hr hal (l := t1) (by omega)) rfl ?_
    refine r_ifnull dX7_assemble_41 ?_
    refine r_iload dX7_assemble_44 7 rfl ?_
    refine r_iconst (v := nI 4294967295) dX7_assemble_46 (by decide) ?_
    refine r_icmp_eqW (tgt := 61) dX7_assemble_47 (by decide) (by omega) (by omega) (fun h47 => ?_) (fun h47 => ?_)
    · exact absurd h47 (by omega)
    · refine r_aload_n dX7_assemble_50 rfl 1 rfl ?_
      refine r_iload dX7_assemble_51 7 rfl ?_
      refine r_fnV (M2 := m_X7_lotAt) (As := [.int (nI (t2))]) (rest := []) (v := some (.ref (A t2))) dX7_assemble_53 cc_X7_assemble_105 rfl rfl rfl (Nat.le_of_ble_eq_true rfl) hx.1.1.1 rfl rfl (by decide) (o_lotAt hx.1 hr hal (l := t2) (by omega)) rfl ?_
      refine r_ifnonnull (tgt := 61) dX7_assemble_56 (by decide) ?_
      refine r_iload dX7_assemble_61 5 rfl ?_
      refine r_iload dX7_assemble_63 6 rfl ?_
      refine r_icmp_eqN (tgt := 88) dX7_assemble_65 (by decide) (by omega) (by omega) (fun h65 => ?_) (fun h65 => ?_)
      · exact absurd h65 (by omega)
      · refine r_iload dX7_assemble_68 5 rfl ?_
        refine r_iload dX7_assemble_70 7 rfl ?_
        refine r_icmp_eqN (tgt := 88) dX7_assemble_72 (by decide) (by omega) (by omega) (fun h72 => ?_) (fun h72 => ?_)
        · exact absurd h72 (by omega)
        · refine r_iload dX7_assemble_75 6 rfl ?_
          refine r_iconst (v := nI 4294967295) dX7_assemble_77 (by decide) ?_
          refine r_icmp_eqW (tgt := 92) dX7_assemble_78 (by decide) (by omega) (by omega) (fun h78 => ?_) (fun h78 => ?_)
          · exact absurd h78 h32
          · refine r_iload dX7_assemble_81 6 rfl ?_
            refine r_iload dX7_assemble_83 7 rfl ?_
            refine r_icmp_neN (tgt := 92) dX7_assemble_85 (by decide) (by omega) (by omega) (fun h85 => ?_) (fun h85 => ?_)
            · refine r_iconst (v := nI 0) dX7_assemble_92 (by decide) ?_
              refine r_istore (lv' := [(8, .int (nI (0))), (7, .ref (o + 6 + a)), (0, .ref (o)), (1, .int (nI (a))), (2, .int (nI (p))), (3, .int (nI (n))), (4, .int (nI (t0))), (5, .int (nI (t1))), (6, .int (nI (t2)))]) dX7_assemble_93 (by decide) rfl ?_
              refine r_iload_n dX7_assemble_95 rfl 5 rfl ?_
              refine r_iconst (v := nI 1) dX7_assemble_96 (by decide) ?_
              refine r_icmp_ltN (tgt := 124) dX7_assemble_97 (by decide) (by omega) (by omega) (fun h97 => ?_) (fun h97 => ?_)
              · exact absurd h97 (by omega)
              · refine r_iload_n dX7_assemble_100 rfl 5 rfl ?_
                refine r_sipush (v := nI 200) dX7_assemble_101 (by decide) ?_
                refine r_icmp_gtN (tgt := 124) dX7_assemble_104 (by decide) (by omega) (by omega) (fun h104 => ?_) (fun h104 => ?_)
                · exact absurd h104 (by omega)
                · refine r_iload dX7_assemble_107 0 rfl ?_
                  refine r_if_neN (tgt := 124) dX7_assemble_109 (by decide) (by omega) (fun zz109 => ?_) (fun zz109 => ?_)
                  · exact absurd zz109 (by decide)
                  · refine r_iload dX7_assemble_112 7 rfl ?_
                    refine r_iconst (v := nI 4294967295) dX7_assemble_114 (by decide) ?_
                    refine r_icmp_neW (tgt := 127) dX7_assemble_115 (by decide) (by omega) (by omega) (fun h115 => ?_) (fun h115 => ?_)
                    · refine r_aload_n dX7_assemble_127 rfl 2 rfl ?_
                      refine r_getI (ci := 9) (k := 5) dX7_assemble_128 fr_X7_49 hx.1.1.1 rfl ?_
                      refine Wx.top hx.1.o0 ?_
                      refine Wx.topN hr.c0 ?_
                      refine Wx.topN hl ?_
                      refine r_aload_n dX7_assemble_131 rfl 2 rfl ?_
                      refine r_getR (ci := 9) (k := 2) (b := o + 3) dX7_assemble_132 fr_X7_25 hx.1.1.1 rfl hx.1.1.2.1.2.2.1 ?_
                      refine r_alenQ dX7_assemble_135 hx.1.1.2.2.2.2.1.1 (by decide) (by decide) ?_
                      refine Wx.top (congrArg nI hx.1.1.2.2.2.2.1.2) ?_
                      refine r_icmp_geN (tgt := 181) dX7_assemble_136 (by decide) (by omega) (by omega) (fun h136 => ?_) (fun h136 => ?_)
                      · exact absurd h136 (by omega)
                      · refine r_aload_n dX7_assemble_139 rfl 2 rfl ?_
                        refine r_iload dX7_assemble_140 6 rfl ?_
                        refine r_iload_n dX7_assemble_142 rfl 5 rfl ?_
                        refine r_fnV (M2 := m_X7_gives) (As := [.int (nI (t0)), .int (nI (n))]) (rest := []) (v := some (.int (nI (1)))) dX7_assemble_143 cc_X7_assemble_119 rfl rfl rfl (Nat.le_of_ble_eq_true rfl) hx.1.1.1 rfl rfl (by decide) (o_gives_1 hx.1 hr hal (l := t0) (by omega) hn f0) rfl ?_
                        refine r_if_eqN (tgt := 181) dX7_assemble_146 (by decide) (by omega) (fun zz146 => ?_) (fun zz146 => ?_)
                        · exact absurd zz146 (by decide)
                        · refine r_iload dX7_assemble_149 7 rfl ?_
                          refine r_iconst (v := nI 4294967295) dX7_assemble_151 (by decide) ?_
                          refine r_icmp_eqW (tgt := 165) dX7_assemble_152 (by decide) (by omega) (by omega) (fun h152 => ?_) (fun h152 => ?_)
                          · exact absurd h152 h32
                          · refine r_aload_n dX7_assemble_155 rfl 2 rfl ?_
                            refine r_iload dX7_assemble_156 7 rfl ?_
                            refine r_iload_n dX7_assemble_158 rfl 5 rfl ?_
                            refine r_fnV (M2 := m_X7_gives) (As := [.int (nI (t1)), .int (nI (n))]) (rest := []) (v := some (.int (nI (1)))) dX7_assemble_159 cc_X7_assemble_119 rfl rfl rfl (Nat.le_of_ble_eq_true rfl) hx.1.1.1 rfl rfl (by decide) (o_gives_1 hx.1 hr hal (l := t1) (by omega) hn f1) rfl ?_
                            refine r_if_eqN (tgt := 181) dX7_assemble_162 (by decide) (by omega) (fun zz162 => ?_) (fun zz162 => ?_)
                            · exact absurd zz162 (by decide)
                            · refine r_iload dX7_assemble_165 8 rfl ?_
                              refine r_iconst (v := nI 4294967295) dX7_assemble_167 (by decide) ?_
                              refine r_icmp_eqW (tgt := 184) dX7_assemble_168 (by decide) (by omega) (by omega) (fun h168 => ?_) (fun h168 => ?_)
                              · exact absurd h168 h47
                              · refine r_aload_n dX7_assemble_171 rfl 2 rfl ?_
                                refine r_iload dX7_assemble_172 8 rfl ?_
                                refine r_iload_n dX7_assemble_174 rfl 5 rfl ?_
                                refine r_fnV (M2 := m_X7_gives) (As := [.int (nI (t2)), .int (nI (n))]) (rest := []) (v := some (.int (nI (1)))) dX7_assemble_175 cc_X7_assemble_119 rfl rfl rfl (Nat.le_of_ble_eq_true rfl) hx.1.1.1 rfl rfl (by decide) (o_gives_1 hx.1 hr hal (l := t2) (by omega) hn f2) rfl ?_
                                refine r_if_neN (tgt := 184) dX7_assemble_178 (by decide) (by omega) (fun zz178 => ?_) (fun zz178 => ?_)
                                · refine r_aload_n dX7_assemble_184 rfl 2 rfl ?_
                                  refine r_aload_n dX7_assemble_185 rfl 2 rfl ?_
                                  refine r_getI (ci := 9) (k := 5) dX7_assemble_186 fr_X7_49 hx.1.1.1 rfl ?_
                                  refine Wx.top hx.1.o0 ?_
                                  refine Wx.topN hr.c0 ?_
                                  refine Wx.topN hl ?_
                                  refine r_callV (M2 := m_X7_slot) (As := [.int (nI l)]) (rest := []) dX7_assemble_189 cc_X7_assemble_52 rfl rfl rfl (Nat.le_of_ble_eq_true rfl) hx.1.1.1 rfl rfl (by decide) (s_slot hx.1 hl24 hrm) (fun v T hq => ?_) (fun E T hq => by obtain ⟨_, _, _, hq, _⟩ := hq; cases hq)
                                  obtain ⟨w1, A1, c1, hv, hx1, hA1, hc1, ha1⟩ := hq
                                  cases hv
                                  replace hx1 : OX S w A T w1 k o A1 c1 := hx.trans hx1
                                  show Wx _ _ _ _ _ [.ref (A1 l)] _
                                  refine r_astore (lv' := [(9, .ref (A1 l)), (8, .int (nI (0))), (7, .ref (o + 6 + a)), (0, .ref (o)), (1, .int (nI (a))), (2, .int (nI (p))), (3, .int (nI (n))), (4, .int (nI (t0))), (5, .int (nI (t1))), (6, .int (nI (t2)))]) dX7_assemble_192 (by decide) rfl ?_
                                  refine r_aload dX7_assemble_194 0 rfl ?_
                                  refine r_iload_n dX7_assemble_196 rfl 5 rfl ?_
                                  refine r_iload_n dX7_assemble_197 rfl 4 rfl ?_
                                  refine r_iload_n dX7_assemble_198 rfl 6 rfl ?_
                                  refine r_oexV (M2 := m_X5_begin) (As := [.int (nI (p)), .int (nI (a)), .int (nI (n))]) (rest := []) (v := none) dX7_assemble_199 cc_X7_assemble_111 rfl rfl rfl (Nat.le_of_ble_eq_true rfl) (hx1.1.lo hl24 hA1).2.1 rfl rfl (by decide) hx1 (o_begin hx1.1 hl24 hA1 (by omega) (by omega) hn) rfl (fun T c2 (hx : OX S w A T w1 k o A1 c2) hbg => ?_)
                                  have hb0 : ∀ j, ¬ inL l j → c2 j = c j := fun j hj => (hbg.1 j hj).trans (hc1 j hj)
                                  have hbz : c2 (90 + 13 * l + 1) = n := hbg.2.1.2.1
                                  have hbd : ∀ v, v < n → c2 (402 + 8 * (200 * l + v) + 1) = 0 := fun v hv => (hbg.2.2 v hv).2.1
                                  have hcz0 : c2 0 = l := (hb0 0 (by unfold inL; omega)).trans (hr.c0.trans hl)
                                  have hal1 : ∀ i, i < l → A1 i ≠ 0 := fun i hi => by rw [ha1 i (by omega)]; exact hal i (by omega)
                                  have hbk : c2 (90 + 13 * l + 8) = 0 := hbg.2.1.2.2.2.2.2.2.2.2.1
                                  refine r_aload_n dX7_assemble_202 rfl 3 rfl ?_
                                  refine r_aload dX7_assemble_203 0 rfl ?_
                                  refine r_iload dX7_assemble_205 7 rfl ?_
                                  refine r_oexV (M2 := m_X7_usePart) (As := [.ref (A1 l), .int (nI (t0))]) (rest := []) (v := none) dX7_assemble_207 cc_X7_assemble_123 rfl rfl rfl (Nat.le_of_ble_eq_true rfl) hx.1.1.1 rfl rfl (by decide) hx (o_use hx.1 hr hl24 hA1 hl hal1 hcz0 (by omega) (fun j hj => hb0 j (by unfold inL at hj ⊢; omega)) hbz hn hbk (by decide) (fun v hv => by rw [hbd v hv]; decide) g0 e0h) rfl (fun T_1 c3 (hx_1 : OX S w A T_1 w1 k o A1 c3) u0 => ?_)
                                  have x1 : c3 0 = l := (u0.lo hl24 (by decide) 0 (by decide)).trans hcz0
                                  have y1 : c3 (90 + 13 * l + 1) = n := (u0.sz hl24 (by decide)).trans hbz
                                  have d1 : ∀ q, q < n → c3 (402 + 8 * (200 * l + q) + 1) < 16 := u0.dl (fun v hv => by rw [hbd v hv]; decide) (fun v hv => by rw [show c2 (402 + 8 * (200 * t0 + e0 v) + 1) = c (402 + 8 * (200 * t0 + e0 v) + 1) from (fun j (hj : inL t0 j) => hb0 j (by unfold inL at hj ⊢; omega)) _ (by have := (e0h v hv).1; unfold inL; omega), (hr.lot (l := t0) (by omega)).u1 (e0h v hv).1]; exact Nat.mod_lt _ (by decide))
                                  refine r_aload_n dX7_assemble_210 rfl 3 rfl ?_
                                  refine r_aload dX7_assemble_211 0 rfl ?_
                                  refine r_iload dX7_assemble_213 8 rfl ?_
                                  refine r_oexV (M2 := m_X7_usePart) (As := [.ref (A1 l), .int (nI (t1))]) (rest := []) (v := none) dX7_assemble_215 cc_X7_assemble_123 rfl rfl rfl (Nat.le_of_ble_eq_true rfl) hx_1.1.1.1 rfl rfl (by decide) hx_1 (o_use hx_1.1 hr hl24 hA1 hl hal1 x1 (by omega) (fun j hj => (u0.ot hl24 (by decide) (by omega) (by omega) hn (fun u hu => Nat.lt_of_lt_of_le (e0h u hu).1 z0) (by omega) (by omega) j hj).trans (hb0 j (by unfold inL at hj ⊢; omega))) y1 hn u0.2.1.2 (by decide) d1 g1 e1h) rfl (fun T_2 c4 (hx_2 : OX S w A T_2 w1 k o A1 c4) u1 => ?_)
                                  have x2 : c4 0 = l := (u1.lo hl24 (by decide) 0 (by decide)).trans x1
                                  have y2 : c4 (90 + 13 * l + 1) = n := (u1.sz hl24 (by decide)).trans y1
                                  have d2 : ∀ q, q < n → c4 (402 + 8 * (200 * l + q) + 1) < 16 := u1.dl d1 (fun v hv => by rw [show c3 (402 + 8 * (200 * t1 + e1 v) + 1) = c (402 + 8 * (200 * t1 + e1 v) + 1) from (fun j (hj : inL t1 j) => (u0.ot hl24 (by decide) (by omega) (by omega) hn (fun u hu => Nat.lt_of_lt_of_le (e0h u hu).1 z0) (by omega) (by omega) j hj).trans (hb0 j (by unfold inL at hj ⊢; omega))) _ (by have := (e1h v hv).1; unfold inL; omega), (hr.lot (l := t1) (by omega)).u1 (e1h v hv).1]; exact Nat.mod_lt _ (by decide))
                                  refine r_aload_n dX7_assemble_218 rfl 3 rfl ?_
                                  refine r_aload dX7_assemble_219 0 rfl ?_
                                  refine r_iload dX7_assemble_221 9 rfl ?_
                                  refine r_oexV (M2 := m_X7_usePart) (As := [.ref (A1 l), .int (nI (t2))]) (rest := []) (v := none) dX7_assemble_223 cc_X7_assemble_123 rfl rfl rfl (Nat.le_of_ble_eq_true rfl) hx_2.1.1.1 rfl rfl (by decide) hx_2 (o_use hx_2.1 hr hl24 hA1 hl hal1 x2 (by omega) (fun j hj => (u1.ot hl24 (by decide) (by omega) (by omega) hn (fun u hu => Nat.lt_of_lt_of_le (e1h u hu).1 z1) (by omega) (by omega) j hj).trans ((u0.ot hl24 (by decide) (by omega) (by omega) hn (fun u hu => Nat.lt_of_lt_of_le (e0h u hu).1 z0) (by omega) (by omega) j hj).trans (hb0 j (by unfold inL at hj ⊢; omega)))) y2 hn u1.2.1.2 (by decide) d2 g2 e2h) rfl (fun T_3 c5 (hx_3 : OX S w A T_3 w1 k o A1 c5) u2 => ?_)
                                  have x3 : c5 0 = l := (u2.lo hl24 (by decide) 0 (by decide)).trans x2
                                  have y3 : c5 (90 + 13 * l + 1) = n := (u2.sz hl24 (by decide)).trans y2
                                  have d3 : ∀ q, q < n → c5 (402 + 8 * (200 * l + q) + 1) < 16 := u2.dl d2 (fun v hv => by rw [show c4 (402 + 8 * (200 * t2 + e2 v) + 1) = c (402 + 8 * (200 * t2 + e2 v) + 1) from (fun j (hj : inL t2 j) => (u1.ot hl24 (by decide) (by omega) (by omega) hn (fun u hu => Nat.lt_of_lt_of_le (e1h u hu).1 z1) (by omega) (by omega) j hj).trans ((u0.ot hl24 (by decide) (by omega) (by omega) hn (fun u hu => Nat.lt_of_lt_of_le (e0h u hu).1 z0) (by omega) (by omega) j hj).trans (hb0 j (by unfold inL at hj ⊢; omega)))) _ (by have := (e2h v hv).1; unfold inL; omega), (hr.lot (l := t2) (by omega)).u1 (e2h v hv).1]; exact Nat.mod_lt _ (by decide))
                                  refine r_aload_n dX7_assemble_226 rfl 3 rfl ?_
                                  refine r_aload dX7_assemble_227 0 rfl ?_
                                  refine r_aload dX7_assemble_229 2 rfl ?_
                                  have f0 : c5 (4 + 3 * a) = g (4 + 3 * a) := ((u2.lo hl24 (by decide) _ (by omega)).trans ((u1.lo hl24 (by decide) _ (by omega)).trans ((u0.lo hl24 (by decide) _ (by omega)).trans (hb0 (4 + 3 * a) (by unfold inL; omega))))).trans hm0
                                  have f1 : c5 (4 + 3 * a + 1) = g (4 + 3 * a + 1) := ((u2.lo hl24 (by decide) _ (by omega)).trans ((u1.lo hl24 (by decide) _ (by omega)).trans ((u0.lo hl24 (by decide) _ (by omega)).trans (hb0 (4 + 3 * a + 1) (by unfold inL; omega))))).trans hm1
                                  have f2 : c5 (4 + 3 * a + 2) = g (4 + 3 * a + 2) := ((u2.lo hl24 (by decide) _ (by omega)).trans ((u1.lo hl24 (by decide) _ (by omega)).trans ((u0.lo hl24 (by decide) _ (by omega)).trans (hb0 (4 + 3 * a + 2) (by unfold inL; omega))))).trans hm2
                                  refine r_oexV (M2 := m_X7_finish) (As := [.ref (A1 l), .ref (o + 6 + a)]) (rest := []) (v := some (.int (nI (l)))) dX7_assemble_231 cc_X7_assemble_115 rfl rfl rfl (Nat.le_of_ble_eq_true rfl) hx_3.1.1.1 rfl rfl (by decide) hx_3 (x3 ▸ o_finish hx_3.1 hl24 hA1 ha y3 hn d3 (by omega) (by omega) (by omega) (by omega)) rfl (fun T_4 c8 (hx_4 : OX S w A T_4 w1 k o A1 c8) hfi => ?_)
                                  obtain ⟨c9, hwk, he9⟩ := hfi
                                  exact r_iret (ty := .int) dX7_assemble_234 rfl rfl ⟨rfl, w1, A1, c8, hx_4, hA1, ha1, c1, c2, c3, c4, c5, c9, hc1, hbg, u0, u1, u2, hwk, he9⟩
                                · exact absurd zz178 (by decide)
                    · exact absurd h115 h32
            · exact absurd h85 (by omega)
