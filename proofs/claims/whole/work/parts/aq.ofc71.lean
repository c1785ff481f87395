/-! THE CLASS RUNS A TEXT -/
theorem NumP.lt5 {t : Nat → Nat} {L h c : Nat} (q : NumP t L h c) : numI t h c < 100000 :=
  Nat.lt_of_lt_of_le (numI_lt fun i hi => (q.2.2.2.1 i hi).2) (Nat.pow_le_pow_right (by decide) q.2.1 : 10 ^ c ≤ 10 ^ 5)
theorem CmdP.vb {t : Nat → Nat} {L i w n e : Nat} {v : Nat → Nat} (h : CmdP t L i w n v e) {k : Nat} (hk : k ≤ n) : v k < 100000 := by
  obtain ⟨q, s, c, h1, h2, h3, h4, h5, h6, h7, h8, h9⟩ := h
  by_cases r : k = n
  · rw [r, h6]; exact h5.lt5
  · obtain ⟨s', c', -, h10, h11, -⟩ := h4.pre (n := k) (by omega)
    rw [h11]; exact h10.lt5
theorem uv_b {t : Nat → Nat} {L i w n e : Nat} {v : Nat → Nat} (h : CmdP t L i w n v e) : uv n v 0 < 2 ^ 31 := by
  have h0 := h.vb (Nat.zero_le n)
  unfold uv
  rw [if_pos (Nat.zero_le n)]
  omega
theorem ChP.snoc {W Kn : Nat → Nat} {Vv gg : Nat → Nat → Nat} {NN vv : Nat → Nat} {n v N' : Nat} {g' : Nat → Nat} (h : ChP W Kn Vv gg NN vv n) (hO : CmdO (W n) (uv (Kn n) (Vv n)) (gg n) (NN n) v g' N') : ChP W Kn Vv (up1 gg (n + 1) g') (up1 NN (n + 1) N') (up1 vv n v) (n + 1) := fun j hj => by
  by_cases r : j = n
  · subst r
    rw [up1_n (f := gg) (show j ≠ j + 1 by omega), up1_n (f := NN) (show j ≠ j + 1 by omega), up1_s, up1_s, up1_s]
    exact hO
  · rw [up1_n (f := gg) (show j ≠ n + 1 by omega), up1_n (f := NN) (show j ≠ n + 1 by omega), up1_n r, up1_n (f := gg) (show j + 1 ≠ n + 1 by omega), up1_n (f := NN) (show j + 1 ≠ n + 1 by omega)]
    exact h j (by omega)
theorem Perm.of11 {K K1 : Nat → Nat} (h : Perm K) (e : ∀ i, i < 11 → K1 i = K i) : Perm K1 := fun i hi => by
  obtain ⟨a, b, c⟩ := h i hi
  rw [e i (by omega)]
  exact ⟨a, b, fun j hj q => c j hj (by rw [e j (by omega)] at q; exact q)⟩
theorem run_D {E D E9 : Nat → Nat → Nat} {z : Nat} (hD : ∀ f a, (a = 52 ∨ a = 55 ∨ a = 56 ∨ 190 ≤ a ∨ a = 51 ∧ (f = 161 ∨ f = 163)) → E f a = D f a) (h : EqD E E9) (h9 : E9 163 51 = z) : ∀ f a, (a = 52 ∨ a = 55 ∨ a = 56 ∨ 190 ≤ a ∨ a = 51 ∧ (f = 161 ∨ f = 163)) → up2 E9 161 51 0 f a = up2 (up2 D 163 51 z) 161 51 0 f a := fun f a ha => by
  by_cases r : f = 161 ∧ a = 51
  · rw [r.1, r.2, u2_s, u2_s]
  · rw [u2_n (by omega), u2_n (by omega)]
    by_cases r2 : f = 163 ∧ a = 51
    · rw [r2.1, r2.2, u2_s]; exact h9
    · rw [u2_n (by omega), h f a (by omega) (by omega)]; exact hD f a ha
theorem run_D2 {E D E9 : Nat → Nat → Nat} {z : Nat} (hD : ∀ f a, (a = 52 ∨ a = 55 ∨ a = 56 ∨ 190 ≤ a ∨ a = 51 ∧ (f = 161 ∨ f = 163)) → E f a = D f a) (h : EqD E E9) : ∀ f a, (a = 52 ∨ a = 55 ∨ a = 56 ∨ 190 ≤ a ∨ a = 51 ∧ (f = 161 ∨ f = 163)) → up2 (up2 E9 161 51 0) 163 51 z f a = up2 (up2 D 163 51 z) 161 51 0 f a := fun f a ha => by
  by_cases r : f = 161 ∧ a = 51
  · rw [r.1, r.2, u2_n (by omega), u2_s, u2_s]
  · rw [u2_n (f := up2 D 163 51 z) (by omega)]
    by_cases r2 : f = 163 ∧ a = 51
    · rw [r2.1, r2.2, u2_s, u2_s]
    · rw [u2_n (by omega), u2_n (by omega), u2_n (by omega), h f a (by omega) (by omega)]; exact hD f a ha
set_option maxRecDepth 4000 in
set_option maxHeartbeats 1000000 in
theorem s_run {G : GI} {F : Nat → Prop} {S : Hp} {x bx bu : Nat} {D : Nat → Nat → Nat} {g : Nat → Nat} {N ps : Nat} {gq : Nat → Nat → Nat} {ik : Nat} {gk : Nat → Nat} (h : CSt F S x bx bu D g N ps gq ik gk) (h1 : bx + 1 ≤ gN G) (h2 : bu + 6 ≤ gM G) {t : Nat → Nat} {L : Nat} (hT : TXc D t L) (hNb : N < 2147400000) : Cn m_X12_run G [.ref x] S (fun r T => (∃ W Kn P Vv n gg NN vv, r = .inl (some (.int (nI n))) ∧ TextP t L W Kn P Vv n ∧ ChP W Kn Vv gg NN vv n ∧ gg 0 = g ∧ NN 0 = N ∧ NN n ≤ N + 10000 ∧ N ≤ NN n ∧ CSt F T x bx bu (up2 (up2 D 163 51 4294967295) 161 51 0) (gg n) (NN n) (if ps < 8 then ps + 1 else ps) (psh g gq) ik gk ∧ FrF F S T) ∨ (∃ p, r = .inr "java/lang/IllegalArgumentException" ∧ BadT t L p ∧ CSt F T x (bx + 1) (bu + 6) (up2 (up2 D 163 51 p) 161 51 0) g N ps gq ik gk ∧ FrF F S T) ∨ ∃ W Kn P Vv n gg NN vv f kv, r = .inr "java/lang/IllegalStateException" ∧ TextP t L W Kn P Vv n ∧ f < n ∧ ChP W Kn Vv gg NN vv f ∧ gg 0 = g ∧ NN 0 = N ∧ CmdX (W f) (uv (Kn f) (Vv f)) (gg f) (NN f) kv ∧ WB (gg f) ∧ CSt F T x (bx + 1) (bu + 6) (up2 (up2 D 163 51 (P f)) 161 51 0) g N ps gq ik gk ∧ FrF F S T) := by
  refine Cn.of rfl (by decide) (Nat.le_of_ble_eq_true rfl) (fun hN hM => ?_)
  show Wx _ G _ 0 [(0, .ref (x))] [] _
  obtain ⟨w, K, E, A, c, hX, hp, hr, hD, ⟨np, hnp, e1, e2, hps, hq⟩, ⟨e3, hik, hk⟩, hF⟩ := h
  have h : XF F S S w x K E A c bx bu := ⟨hX, FrF.rfl, hF⟩
  have n01 : K 0 ≠ K 1 := hp.ne (by decide) (by decide) (by decide)
  have b1 : bx ≤ gN G := by omega
  have b2 : bu ≤ gM G := by omega
  have hTE : TXc E t L := hT.cg (hD _ _ (by omega)) (fun f => hD _ _ (by omega))
  refine r_aload_n dX12_run_0 rfl 0 rfl ?_
  refine r_getR (ci := 13) (k := 8) (b := x + 51) dX12_run_1 fr_X12_35 h.1.t0 rfl h.1.p424 ?_
  refine r_callV (M2 := m_X3_isText) (As := []) (rest := []) dX12_run_4 cc_X12_run_302 rfl rfl rfl (Nat.le_of_ble_eq_true rfl) h.1.t51 rfl rfl (by decide) (x_isText h hTE) (fun v9 T1 hq9 => ?_) (fun E9 T9 hq9 => by rcases hq9 with hq9 | hq9 <;> cases hq9.1)
  rcases hq9 with ⟨hv9, W, Kn, P, Vv, cn, E', k, hx1, htx, hEq, h163⟩ | ⟨hv9, p, E', k, hx1, hbt, hEq, h163⟩
  · cases hv9
    have hK1 : ∀ i, i < 11 → up1 K 11 k i = K i := fun i hi => up1_n (by omega)
    generalize up1 K 11 k = K1 at hx1 hK1
    show Wx _ G T1 7 [(0, .ref (x))] [.int (nI (1))] _
    refine r_if_neN (tgt := 25) dX12_run_7 (by decide) (by omega) (fun zz7 => ?_) (fun zz7 => ?_)
    · refine r_aload_n dX12_run_25 rfl 0 rfl ?_
      have hp1 : Perm K1 := hp.of11 hK1
      have hr1 : Hol (A (K1 0)) (c (K1 0)) g N := by rw [hK1 0 (by decide)]; exact hr
      refine r_callV (M2 := m_X12_beginChange) (As := []) (rest := []) dX12_run_26 cc_X12_run_68 rfl rfl rfl (Nat.le_of_ble_eq_true rfl) hx1.1.t0 rfl rfl (by decide) (x_begin hx1 hp1 b1 b2 hr1) (fun v9 T2 hq9 => ?_) (fun E9 T9 hq9 => by obtain ⟨hq9, -⟩ := hq9; cases hq9)
      obtain ⟨hv9, w1, A1, c1, hx2, hol1⟩ := hq9
      cases hv9
      rw [hK1 1 (by decide)] at hx2
      have ea : up1 (up1 A (K 1) A1) (K 0) (A (K 0)) = up1 A (K 1) A1 := by
        have z := up1_self (f := up1 A (K 1) A1) (i := K 0)
        rw [up1_n n01] at z; exact z
      have ec : up1 (up1 c (K 1) c1) (K 0) (c (K 0)) = up1 c (K 1) c1 := by
        have z := up1_self (f := up1 c (K 1) c1) (i := K 0)
        rw [up1_n n01] at z; exact z
      show Wx _ G T2 29 [(0, .ref (x))] [] _
      refine r_aload_n dX12_run_29 rfl 0 rfl ?_
      refine r_getR (ci := 13) (k := 8) (b := x + 51) dX12_run_30 fr_X12_35 hx2.1.t0 rfl hx2.1.p424 ?_
      refine r_callV (M2 := m_X3_rewind) (As := []) (rest := []) dX12_run_33 cc_X12_run_308 rfl rfl rfl (Nat.le_of_ble_eq_true rfl) hx2.1.t51 rfl rfl (by decide) (x_rewind hx2) (fun v9 T3 hq9 => ?_) (fun E9 T9 hq9 => by obtain ⟨hq9, -⟩ := hq9; cases hq9)
      obtain ⟨hv9, hx3⟩ := hq9
      cases hv9
      show Wx _ G T3 36 [(0, .ref (x))] [] _
      refine r_iconst (v := nI 0) dX12_run_36 (by decide) ?_
      refine r_istore_n (lv' := [(1, .int (nI (0))), (0, .ref (x))]) dX12_run_37 rfl (by decide) rfl ?_
      refine r_iconst (v := nI 0) dX12_run_38 (by decide) ?_
      refine r_istore_n (lv' := [(2, .int (nI (0))), (1, .int (nI (0))), (0, .ref (x))]) dX12_run_39 rfl (by decide) rfl ?_
      have hcn : 6 * cn ≤ L := by have := htx.2.1.le (Nat.le_refl cn); omega
      have hL60 := hT.2.1
      refine Wx.loopR (fun n T lv => (∃ K1 w' A1 c1 A2 c2 E9 gg NN vv, XF F S T w' x K1 E9 (up1 (up1 A (K 1) A1) (K 0) A2) (up1 (up1 c (K 1) c1) (K 0) c2) bx bu ∧ (∀ i, i < 11 → K1 i = K i) ∧ Hol A1 c1 g N ∧ gg 0 = g ∧ NN 0 = N ∧ EqD E E9 ∧ Hol A2 c2 (gg n) (NN n) ∧ ChP W Kn Vv gg NN vv n ∧ NN n ≤ N + 1000 * n ∧ N ≤ NN n ∧ n ≤ cn ∧ E9 162 51 = P n ∧ E9 163 51 = 4294967295 ∧ lv = [(2, .int (nI (0))), (1, .int (nI (n))), (0, .ref (x))]) ∨ (∃ K1 w' A1 c1 A2 c2 E9 gg NN vv, XF F S T w' x K1 E9 (up1 (up1 A (K 1) A1) (K 0) A2) (up1 (up1 c (K 1) c1) (K 0) c2) bx bu ∧ (∀ i, i < 11 → K1 i = K i) ∧ Hol A1 c1 g N ∧ gg 0 = g ∧ NN 0 = N ∧ EqD E E9 ∧ ∃ f kv, Hol A2 c2 (gg f) (NN f) ∧ ChP W Kn Vv gg NN vv f ∧ CmdX (W f) (uv (Kn f) (Vv f)) (gg f) (NN f) kv ∧ f < cn ∧ f < 10 ∧ E9 164 51 = P f ∧ lv = [(2, .int (nI (1))), (1, .int (nI (n))), (0, .ref (x))])) 60 0 (by decide) (Or.inl ⟨K1, w1, A1, c1, A (K 0), c (K 0), _, fun _ => g, fun _ => N, fun _ => 0, (by rw [ea, ec]; exact hx3), hK1, hol1, rfl, rfl, hEq.up (by omega), hr, fun j hj => absurd hj (Nat.not_lt_zero j), Nat.le_refl _, Nat.le_refl _, Nat.zero_le _, u2_s.trans htx.2.1.1.symm, (u2_n (by decide)).trans h163, rfl⟩) (fun n T lv hu0 hu hI nx => ?_)
      clear hx1 hx2 hx3 hK1 ea ec hol1 hr1 hp1
      clear c1 A1 w1 K1
      rcases hI with ⟨K1, w', A1, c1, A2, c2, E9, gg, NN, vv, hx, hK1, hol1, hg0, hN0, hEq9, hol2, hch, hNn, hNl, hnc, h162, h163', rfl⟩ | ⟨K1, w', A1, c1, A2, c2, E9, gg, NN, vv, hx, hK1, hol1, hg0, hN0, hEq9, f, kv, hol2, hch, hcx, hfn, hf10, h164, rfl⟩
      · refine r_iload_n dX12_run_40 rfl 1 rfl ?_
        refine r_bipush (v := nI 60) dX12_run_41 (by decide) ?_
        refine r_icmp_geN (tgt := 79) dX12_run_43 (by decide) (by omega) (by omega) (fun h43 => ?_) (fun h43 => ?_)
        · exact absurd h43 (by omega)
        · refine r_iload_n dX12_run_46 rfl 0 rfl ?_
          refine r_if_neN (tgt := 79) dX12_run_47 (by decide) (by omega) (fun zz47 => ?_) (fun zz47 => ?_)
          · exact absurd zz47 (by decide)
          · refine r_aload_n dX12_run_50 rfl 2 rfl ?_
            refine r_getR (ci := 13) (k := 8) (b := x + 51) dX12_run_51 fr_X12_35 hx.1.t0 rfl hx.1.p424 ?_
            refine r_callV (M2 := m_X3_readCommand) (As := []) (rest := []) dX12_run_54 cc_X12_run_311 rfl rfl rfl (Nat.le_of_ble_eq_true rfl) hx.1.t51 rfl rfl (by decide) (x_readCommand hx (hEq9.tx hTE) h162 (by have := htx.2.1.le hnc; omega)) (fun v9 T5 hq9 => ?_) (fun E9 T9 hq9 => by rcases hq9 with hq9 | hq9 <;> cases hq9.1)
            rcases hq9 with ⟨hv9, q, nn, v', e, E10, hx5, hcm, hE9, h162', h164', hv1, hv2⟩ | ⟨hv9, k', e, E10, hx5, hbd, hE9, h162'⟩
            · cases hv9
              have hlt : n < cn := by
                refine Nat.lt_of_le_of_ne hnc (fun z => ?_)
                have z1 := htx.2.2
                have z2 := hcm.le
                rw [z] at z2
                omega
              obtain ⟨rfl, rfl, rfl, hvv⟩ := hcm.u (htx.2.1.2 n hlt).2
              have hK2 : ∀ i, i < 11 → up1 K1 11 (gK G 1 (W n) + 1) i = K i := fun i hi => (up1_n (by omega)).trans (hK1 i hi)
              have k11 : up1 K1 11 (gK G 1 (W n) + 1) 11 = gK G 1 (W n) + 1 := up1_s
              have hEq10 : EqD E E10 := hEq9.trans hE9.d
              have hE163 : E10 163 51 = 4294967295 := (hE9 _ _ (by decide) (by decide)).trans h163'
              have hu6 : ∀ i, i < 6 → E10 (1000 + i) 53 = uv (Kn n) (Vv n) i := fun i hi => by
                unfold uv
                split
                · rename_i z; exact (hv1 i z).trans (hvv i z)
                · rename_i z; exact hv2 i (by omega) hi
              generalize up1 K1 11 (gK G 1 (W n) + 1) = K2 at hx5 hK2 k11
              show Wx _ G T5 57 [(2, .int (nI (0))), (1, .int (nI (n))), (0, .ref (x))] [.int (nI (1))] _
              refine r_if_eqN (tgt := 79) dX12_run_57 (by decide) (by omega) (fun zz57 => ?_) (fun zz57 => ?_)
              · exact absurd zz57 (by decide)
              · refine r_aload_n dX12_run_60 rfl 2 rfl ?_
                have hW9 : W n < 9 := (htx.2.1.2 n hlt).2.le.2.2.1
                have hk20 : K2 0 < 11 := by rw [hK2 0 (by decide)]; exact (hp 0 (by decide)).1
                have hol3 : Hol (up1 (up1 A (K 1) A1) (K 0) A2 (K2 0)) (up1 (up1 c (K 1) c1) (K 0) c2 (K2 0)) (gg n) (NN n) := by rw [hK2 0 (by decide), up1_s, up1_s]; exact hol2
                rcases cmd_ex hol2.1 (by omega) hW9 (uv_b (htx.2.1.2 n hlt).2) with ⟨v, g', N', hO⟩ | ⟨kv, hcx⟩
                · refine r_callV (M2 := m_X12_carryOut) (As := []) (rest := []) dX12_run_61 cc_X12_run_314 rfl rfl rfl (Nat.le_of_ble_eq_true rfl) hx5.1.t0 rfl rfl (by decide) (x_cmdO hx5 hk20 k11 hu6 hol3 b1 b2 hO) (fun v9 T6 hq9 => ?_) (fun E9 T9 hq9 => by obtain ⟨hq9, -⟩ := hq9; cases hq9)
                  obtain ⟨hv9, w6, A4, c4, hx6, hol4⟩ := hq9
                  cases hv9
                  rw [hK2 0 (by decide), up1_up, up1_up] at hx6
                  have hv31 := hO.v.1
                  show Wx _ G T6 64 [(2, .int (nI (0))), (1, .int (nI (n))), (0, .ref (x))] [.int (nI (v))] _
                  refine r_if_geN (tgt := 71) dX12_run_64 (by decide) (by omega) ?_
                  refine r_iconst (v := nI 0) dX12_run_71 (by decide) ?_
                  refine r_istore_n (lv' := [(2, .int (nI (0))), (1, .int (nI (n))), (0, .ref (x))]) dX12_run_72 rfl (by decide) rfl ?_
                  refine r_iincN (k := 1) (lv' := [(1, .int (nI (n + 1))), (2, .int (nI (0))), (0, .ref (x))]) dX12_run_73 (by decide) 1 rfl (by decide) rfl ?_
                  refine r_goto (tgt := 40) dX12_run_76 (by decide) ?_
                  refine Wx.sub [1, 0, 2] rfl ?_
                  exact nx _ _ (by omega) (Or.inl ⟨_, _, _, _, _, _, _, up1 gg (n + 1) g', up1 NN (n + 1) N', up1 vv n v, hx6, hK2, hol1, (up1_n (by omega)).trans hg0, (up1_n (by omega)).trans hN0, hEq10, (by rw [up1_s, up1_s]; exact hol4), hch.snoc hO, (by rw [up1_s]; have := hO.v; omega), (by rw [up1_s]; have := hO.v; omega), by omega, h162', hE163, rfl⟩)
                · refine r_callV (M2 := m_X12_carryOut) (As := []) (rest := []) dX12_run_61 cc_X12_run_314 rfl rfl rfl (Nat.le_of_ble_eq_true rfl) hx5.1.t0 rfl rfl (by decide) (x_cmdX hx5 hk20 k11 hu6 hol3 b1 b2 hcx) (fun v9 T6 hq9 => ?_) (fun E9 T9 hq9 => by obtain ⟨hq9, -⟩ := hq9; cases hq9)
                  obtain ⟨hv9, w6, A4, c4, hx6, hol4⟩ := hq9
                  cases hv9
                  rw [hK2 0 (by decide), up1_up, up1_up] at hx6
                  have hkv := hcx.1
                  show Wx _ G T6 64 [(2, .int (nI (0))), (1, .int (nI (n))), (0, .ref (x))] [.int (kv)] _
                  refine r_if_ge (tgt := 71) dX12_run_64 (by decide) (fun h64_1 => ?_) (fun h64_1 => ?_)
                  · exact absurd h64_1 (Int32.not_le.mpr hkv)
                  · refine r_iconst (v := nI 1) dX12_run_67 (by decide) ?_
                    refine r_goto (tgt := 72) dX12_run_68 (by decide) ?_
                    refine r_istore_n (lv' := [(2, .int (nI (1))), (1, .int (nI (n))), (0, .ref (x))]) dX12_run_72 rfl (by decide) rfl ?_
                    refine r_iincN (k := 1) (lv' := [(1, .int (nI (n + 1))), (2, .int (nI (1))), (0, .ref (x))]) dX12_run_73 (by decide) 1 rfl (by decide) rfl ?_
                    refine r_goto (tgt := 40) dX12_run_76 (by decide) ?_
                    refine Wx.sub [1, 0, 2] rfl ?_
                    exact nx _ _ (by omega) (Or.inr ⟨_, _, _, _, _, _, _, gg, NN, vv, hx6, hK2, hol1, hg0, hN0, hEq10, n, kv, hol4, hch, hcx, by omega, by omega, h164', rfl⟩)
            · cases hv9
              have hEn : n = cn := by
                refine Nat.le_antisymm hnc (Nat.not_lt.mp fun z => ?_)
                exact (htx.2.1.2 n z).2.nb hbd
              have hEq10 : EqD E E10 := hEq9.trans hE9.d
              have hE163 : E10 163 51 = 4294967295 := (hE9 _ _ (by decide) (by decide)).trans h163'
              replace hK1 : ∀ i, i < 11 → up1 K1 11 k' i = K i := fun i hi => (up1_n (by omega)).trans (hK1 i hi)
              generalize up1 K1 11 k' = K2 at hx5 hK1
              show Wx _ G T5 57 [(2, .int (nI (0))), (1, .int (nI (n))), (0, .ref (x))] [.int (nI (0))] _
              refine r_if_eqN (tgt := 79) dX12_run_57 (by decide) (by omega) (fun zz57_1 => ?_) (fun zz57_1 => ?_)
              · refine r_aload_n dX12_run_79 rfl 2 rfl ?_
                refine r_getR (ci := 13) (k := 8) (b := x + 51) dX12_run_80 fr_X12_35 hx5.1.t0 rfl hx5.1.p424 ?_
                refine r_callV (M2 := m_X3_empty) (As := []) (rest := []) dX12_run_83 cc_X12_run_305 rfl rfl rfl (Nat.le_of_ble_eq_true rfl) hx5.1.t51 rfl rfl (by decide) (x_empty hx5) (fun v9 T hq9 => ?_) (fun E9 T9 hq9 => by obtain ⟨hq9, -⟩ := hq9; cases hq9)
                obtain ⟨hv9, hx⟩ := hq9
                cases hv9
                show Wx _ G T 86 [(2, .int (nI (0))), (1, .int (nI (n))), (0, .ref (x))] [] _
                refine r_iload_n dX12_run_86 rfl 0 rfl ?_
                refine r_if_eqN (tgt := 123) dX12_run_87 (by decide) (by omega) (fun zz87 => ?_) (fun zz87 => ?_)
                · refine r_aload_n dX12_run_123 rfl 2 rfl ?_
                  refine r_iload_n dX12_run_124 rfl 1 rfl ?_
                  have hp1 : Perm K2 := hp.of11 hK1
                  have hq1 : ∀ j, j < ps → Hol (A (K2 (pasI np j))) (c (K2 (pasI np j))) (gq j) N := fun j hj => by rw [hK1 _ (Nat.lt_succ_of_lt pasI_lt.2)]; exact hq j hj
                  have k0 := hK1 0 (by decide)
                  have k1 := hK1 1 (by decide)
                  refine r_callV (M2 := m_X12_endChange) (As := [.int (nI (n))]) (rest := []) dX12_run_125 cc_X12_run_75 rfl rfl rfl (Nat.le_of_ble_eq_true rfl) hx.1.t0 rfl rfl (by decide) (x_end hx hp1 (by omega) hnp ((u2_n (by decide)).trans ((hEq10 _ _ (by decide) (by decide)).trans e1)) ((u2_n (by decide)).trans ((hEq10 _ _ (by decide) (by decide)).trans e2)) hps) (fun v9 T8 hq9 => ?_) (fun E9 T9 hq9 => by obtain ⟨hq9, -⟩ := hq9; cases hq9)
                  obtain ⟨hv9, hx8⟩ := hq9
                  cases hv9
                  subst hEn
                  show Wx _ G T8 128 [(2, .int (nI (0))), (1, .int (nI (n))), (0, .ref (x))] [.int (nI (n))] _
                  exact r_iret (ty := .int) dX12_run_128 rfl rfl (Or.inl ⟨W, Kn, P, Vv, n, gg, NN, vv, rfl, htx, hch, hg0, hN0, by omega, hNl, cst_push hp1 (run_D hD hEq10 hE163) hnp hps hq1 ((u2_n (by decide)).trans ((hEq10 _ _ (by decide) (by decide)).trans e3)) hik hk hol1 hol2 hNl (by rw [k0]; rw [k1] at hx8 ⊢; exact hx8), hx8.2.1⟩)
                · exact absurd zz87 (by decide)
              · exact absurd zz57_1 (by decide)
      · refine r_iload_n dX12_run_40 rfl 1 rfl ?_
        refine r_bipush (v := nI 60) dX12_run_41 (by decide) ?_
        refine r_icmp_geN (tgt := 79) dX12_run_43 (by decide) (by omega) (by omega) (fun h43_1 => ?_) (fun h43_1 => ?_)
        · refine r_aload_n dX12_run_79 rfl 2 rfl ?_
          refine r_getR (ci := 13) (k := 8) (b := x + 51) dX12_run_80 fr_X12_35 hx.1.t0 rfl hx.1.p424 ?_
          refine r_callV (M2 := m_X3_empty) (As := []) (rest := []) dX12_run_83 cc_X12_run_305 rfl rfl rfl (Nat.le_of_ble_eq_true rfl) hx.1.t51 rfl rfl (by decide) (x_empty hx) (fun v9 T_1 hq9 => ?_) (fun E9 T9 hq9 => by obtain ⟨hq9, -⟩ := hq9; cases hq9)
          obtain ⟨hv9, hx_1⟩ := hq9
          cases hv9
          show Wx _ G T_1 86 [(2, .int (nI (1))), (1, .int (nI (n))), (0, .ref (x))] [] _
          refine r_iload_n dX12_run_86 rfl 0 rfl ?_
          refine r_if_eqN (tgt := 123) dX12_run_87 (by decide) (by omega) (fun zz87_1 => ?_) (fun zz87_1 => ?_)
          · exact absurd zz87_1 (by decide)
          · refine r_aload_n dX12_run_90 rfl 2 rfl ?_
            refine r_getR (ci := 13) (k := 8) (b := x + 51) dX12_run_91 fr_X12_35 hx_1.1.t0 rfl hx_1.1.p424 ?_
            refine r_aload_n dX12_run_94 rfl 2 rfl ?_
            refine r_getR (ci := 13) (k := 8) (b := x + 51) dX12_run_95 fr_X12_35 hx_1.1.t0 rfl hx_1.1.p424 ?_
            refine r_getI (ci := 5) (k := 4) dX12_run_98 fr_X12_318 hx_1.1.t51 rfl ?_
            refine Wx.top (hx_1.1.i (f := 164) (by decide) (by decide)) ?_
            refine Wx.topN (u2_n (by omega)) ?_
            refine Wx.topN h164 ?_
            refine r_putI (ci := 5) (k := 3) dX12_run_101 fw_X12_run_321 hx_1.1.t51 rfl rfl rfl ?_
            refine Wx.gp (fun T => XF F S T w' x K1 (up2 (up2 E9 161 51 0) 163 (51) (P f)) (up1 (up1 A (K 1) A1) (K 0) A2) (up1 (up1 c (K 1) c1) (K 0) c2) bx bu) (hx_1.I (f := 163) (by decide) (by decide) (by decide)) (fun T_2 (hx_2 : XF F S T_2 w' x K1 (up2 (up2 E9 161 51 0) 163 (51) (P f)) (up1 (up1 A (K 1) A1) (K 0) A2) (up1 (up1 c (K 1) c1) (K 0) c2) bx bu) => ?_)
            refine r_aload_n dX12_run_104 rfl 2 rfl ?_
            refine r_getR (ci := 13) (k := 0) (b := Pl x (K1 0)) dX12_run_105 fr_X12_10 hx_2.1.t0 rfl hx_2.1.p416 ?_
            refine r_aload_n dX12_run_108 rfl 2 rfl ?_
            refine r_getR (ci := 13) (k := 1) (b := Pl x (K1 1)) dX12_run_109 fr_X12_16 hx_2.1.t0 rfl hx_2.1.p417 ?_
            have hk10 : K1 0 < 11 := by rw [hK1 0 (by decide)]; exact (hp 0 (by decide)).1
            have hk11 : K1 1 < 11 := by rw [hK1 1 (by decide)]; exact (hp 1 (by decide)).1
            have hk1n : K1 1 ≠ K1 0 := by rw [hK1 1 (by decide), hK1 0 (by decide)]; exact n01.symm
            have hol5 : Hol (up1 (up1 A (K 1) A1) (K 0) A2 (K1 1)) (up1 (up1 c (K 1) c1) (K 0) c2 (K1 1)) g N := by rw [hK1 1 (by decide), up1_n n01.symm, up1_s, up1_n n01.symm, up1_s]; exact hol1
            refine r_callV (M2 := m_X7_copyFrom) (As := [.ref (Pl x (K1 1))]) (rest := []) dX12_run_112 cc_X12_run_324 rfl rfl rfl (Nat.le_of_ble_eq_true rfl) (hx_2.1.off' hk10).1.1 rfl rfl (by decide) (s_copy hx_2 b1 b2 hk10 hk11 hk1n hol5) (fun v9 T7 hq9 => ?_) (fun E9 T9 hq9 => by obtain ⟨hq9, -⟩ := hq9; cases hq9)
            obtain ⟨hv9, w7, A3, c3, hx7, hol3⟩ := hq9
            cases hv9
            rw [hK1 0 (by decide), up1_up, up1_up] at hx7
            show Wx _ G T7 115 [(2, .int (nI (1))), (1, .int (nI (n))), (0, .ref (x))] [] _
            have hp1 : Perm K1 := hp.of11 hK1
            have hq1 : ∀ j, j < ps → Hol (A (K1 (pasI np j))) (c (K1 (pasI np j))) (gq j) N := fun j hj => by rw [hK1 _ (Nat.lt_succ_of_lt pasI_lt.2)]; exact hq j hj
            have k0 := hK1 0 (by decide)
            have k1 := hK1 1 (by decide)
            exact r_throw (ft_IS (by decide)) rfl dX12_run_115 dX12_run_118 dX12_run_119 dX12_run_122 (by decide) (hx7.hc1 h1) (hx7.hu6 h2) (fun y u h1 h2 h3 h4 => Or.inr (Or.inr ⟨W, Kn, P, Vv, cn, gg, NN, vv, f, kv, rfl, htx, hfn, hch, hg0, hN0, hcx, hol2.1.wb, cst_same hp1 (run_D2 hD hEq9) hnp ((u2_n (by decide)).trans ((u2_n (by decide)).trans ((hEq9 _ _ (by decide) (by decide)).trans e1))) ((u2_n (by decide)).trans ((u2_n (by decide)).trans ((hEq9 _ _ (by decide) (by decide)).trans e2))) hps hq1 ((u2_n (by decide)).trans ((u2_n (by decide)).trans ((hEq9 _ _ (by decide) (by decide)).trans e3))) hik hk hol3 (by rw [k0, k1]; exact hx7.X ⟨h1, h2⟩ ⟨h3, h4⟩), (hx7.X ⟨h1, h2⟩ ⟨h3, h4⟩).2.1⟩))
        · refine r_iload_n dX12_run_46 rfl 0 rfl ?_
          refine r_if_neN (tgt := 79) dX12_run_47 (by decide) (by omega) (fun zz47_1 => ?_) (fun zz47_1 => ?_)
          · refine r_aload_n dX12_run_79 rfl 2 rfl ?_
            refine r_getR (ci := 13) (k := 8) (b := x + 51) dX12_run_80 fr_X12_35 hx.1.t0 rfl hx.1.p424 ?_
            refine r_callV (M2 := m_X3_empty) (As := []) (rest := []) dX12_run_83 cc_X12_run_305 rfl rfl rfl (Nat.le_of_ble_eq_true rfl) hx.1.t51 rfl rfl (by decide) (x_empty hx) (fun v9 T_3 hq9 => ?_) (fun E9 T9 hq9 => by obtain ⟨hq9, -⟩ := hq9; cases hq9)
            obtain ⟨hv9, hx_3⟩ := hq9
            cases hv9
            show Wx _ G T_3 86 [(2, .int (nI (1))), (1, .int (nI (n))), (0, .ref (x))] [] _
            refine r_iload_n dX12_run_86 rfl 0 rfl ?_
            refine r_if_eqN (tgt := 123) dX12_run_87 (by decide) (by omega) (fun zz87_2 => ?_) (fun zz87_2 => ?_)
            · exact absurd zz87_2 (by decide)
            · refine r_aload_n dX12_run_90 rfl 2 rfl ?_
              refine r_getR (ci := 13) (k := 8) (b := x + 51) dX12_run_91 fr_X12_35 hx_3.1.t0 rfl hx_3.1.p424 ?_
              refine r_aload_n dX12_run_94 rfl 2 rfl ?_
              refine r_getR (ci := 13) (k := 8) (b := x + 51) dX12_run_95 fr_X12_35 hx_3.1.t0 rfl hx_3.1.p424 ?_
              refine r_getI (ci := 5) (k := 4) dX12_run_98 fr_X12_318 hx_3.1.t51 rfl ?_
              refine Wx.top (hx_3.1.i (f := 164) (by decide) (by decide)) ?_
              refine Wx.topN (u2_n (by omega)) ?_
              refine Wx.topN h164 ?_
              refine r_putI (ci := 5) (k := 3) dX12_run_101 fw_X12_run_321 hx_3.1.t51 rfl rfl rfl ?_
              refine Wx.gp (fun T => XF F S T w' x K1 (up2 (up2 E9 161 51 0) 163 (51) (P f)) (up1 (up1 A (K 1) A1) (K 0) A2) (up1 (up1 c (K 1) c1) (K 0) c2) bx bu) (hx_3.I (f := 163) (by decide) (by decide) (by decide)) (fun T_4 (hx_4 : XF F S T_4 w' x K1 (up2 (up2 E9 161 51 0) 163 (51) (P f)) (up1 (up1 A (K 1) A1) (K 0) A2) (up1 (up1 c (K 1) c1) (K 0) c2) bx bu) => ?_)
              refine r_aload_n dX12_run_104 rfl 2 rfl ?_
              refine r_getR (ci := 13) (k := 0) (b := Pl x (K1 0)) dX12_run_105 fr_X12_10 hx_4.1.t0 rfl hx_4.1.p416 ?_
              refine r_aload_n dX12_run_108 rfl 2 rfl ?_
              refine r_getR (ci := 13) (k := 1) (b := Pl x (K1 1)) dX12_run_109 fr_X12_16 hx_4.1.t0 rfl hx_4.1.p417 ?_
              have hk10 : K1 0 < 11 := by rw [hK1 0 (by decide)]; exact (hp 0 (by decide)).1
              have hk11 : K1 1 < 11 := by rw [hK1 1 (by decide)]; exact (hp 1 (by decide)).1
              have hk1n : K1 1 ≠ K1 0 := by rw [hK1 1 (by decide), hK1 0 (by decide)]; exact n01.symm
              have hol5 : Hol (up1 (up1 A (K 1) A1) (K 0) A2 (K1 1)) (up1 (up1 c (K 1) c1) (K 0) c2 (K1 1)) g N := by rw [hK1 1 (by decide), up1_n n01.symm, up1_s, up1_n n01.symm, up1_s]; exact hol1
              refine r_callV (M2 := m_X7_copyFrom) (As := [.ref (Pl x (K1 1))]) (rest := []) dX12_run_112 cc_X12_run_324 rfl rfl rfl (Nat.le_of_ble_eq_true rfl) (hx_4.1.off' hk10).1.1 rfl rfl (by decide) (s_copy hx_4 b1 b2 hk10 hk11 hk1n hol5) (fun v9 T7 hq9 => ?_) (fun E9 T9 hq9 => by obtain ⟨hq9, -⟩ := hq9; cases hq9)
              obtain ⟨hv9, w7, A3, c3, hx7, hol3⟩ := hq9
              cases hv9
              rw [hK1 0 (by decide), up1_up, up1_up] at hx7
              show Wx _ G T7 115 [(2, .int (nI (1))), (1, .int (nI (n))), (0, .ref (x))] [] _
              have hp1 : Perm K1 := hp.of11 hK1
              have hq1 : ∀ j, j < ps → Hol (A (K1 (pasI np j))) (c (K1 (pasI np j))) (gq j) N := fun j hj => by rw [hK1 _ (Nat.lt_succ_of_lt pasI_lt.2)]; exact hq j hj
              have k0 := hK1 0 (by decide)
              have k1 := hK1 1 (by decide)
              exact r_throw (ft_IS (by decide)) rfl dX12_run_115 dX12_run_118 dX12_run_119 dX12_run_122 (by decide) (hx7.hc1 h1) (hx7.hu6 h2) (fun y u h1 h2 h3 h4 => Or.inr (Or.inr ⟨W, Kn, P, Vv, cn, gg, NN, vv, f, kv, rfl, htx, hfn, hch, hg0, hN0, hcx, hol2.1.wb, cst_same hp1 (run_D2 hD hEq9) hnp ((u2_n (by decide)).trans ((u2_n (by decide)).trans ((hEq9 _ _ (by decide) (by decide)).trans e1))) ((u2_n (by decide)).trans ((u2_n (by decide)).trans ((hEq9 _ _ (by decide) (by decide)).trans e2))) hps hq1 ((u2_n (by decide)).trans ((u2_n (by decide)).trans ((hEq9 _ _ (by decide) (by decide)).trans e3))) hik hk hol3 (by rw [k0, k1]; exact hx7.X ⟨h1, h2⟩ ⟨h3, h4⟩), (hx7.X ⟨h1, h2⟩ ⟨h3, h4⟩).2.1⟩))
          · exact absurd zz47_1 (by decide)
    · exact absurd zz7 (by decide)
  · cases hv9
    have hK1 : ∀ i, i < 11 → up1 K 11 k i = K i := fun i hi => up1_n (by omega)
    generalize up1 K 11 k = K1 at hx1 hK1
    show Wx _ G T1 7 [(0, .ref (x))] [.int (nI (0))] _
    refine r_if_neN (tgt := 25) dX12_run_7 (by decide) (by omega) (fun zz7_1 => ?_) (fun zz7_1 => ?_)
    · exact absurd zz7_1 (by decide)
    · refine r_aload_n dX12_run_10 rfl 0 rfl ?_
      refine r_getR (ci := 13) (k := 8) (b := x + 51) dX12_run_11 fr_X12_35 hx1.1.t0 rfl hx1.1.p424 ?_
      refine r_callV (M2 := m_X3_empty) (As := []) (rest := []) dX12_run_14 cc_X12_run_305 rfl rfl rfl (Nat.le_of_ble_eq_true rfl) hx1.1.t51 rfl rfl (by decide) (x_empty hx1) (fun v9 T_5 hq9 => ?_) (fun E9 T9 hq9 => by obtain ⟨hq9, -⟩ := hq9; cases hq9)
      obtain ⟨hv9, hx_5⟩ := hq9
      cases hv9
      show Wx _ G T_5 17 [(0, .ref (x))] [] _
      have hp1 : Perm K1 := hp.of11 hK1
      have hq1 : ∀ j, j < ps → Hol (A (K1 (pasI np j))) (c (K1 (pasI np j))) (gq j) N := fun j hj => by rw [hK1 _ (Nat.lt_succ_of_lt pasI_lt.2)]; exact hq j hj
      have hr1 : Hol (A (K1 0)) (c (K1 0)) g N := by rw [hK1 0 (by decide)]; exact hr
      exact r_throw (ft_IA (by decide)) rfl dX12_run_17 dX12_run_20 dX12_run_21 dX12_run_24 (by decide) (hx_5.hc1 h1) (hx_5.hu6 h2) (fun y u h1 h2 h3 h4 => Or.inr (Or.inl ⟨p, rfl, hbt, ⟨w, K1, _, A, c, (hx_5.X ⟨h1, h2⟩ ⟨h3, h4⟩).1, hp1, hr1, run_D hD hEq h163, ⟨np, hnp, (u2_n (by decide)).trans ((hEq _ _ (by decide) (by decide)).trans e1), (u2_n (by decide)).trans ((hEq _ _ (by decide) (by decide)).trans e2), hps, hq1⟩, ⟨(u2_n (by decide)).trans ((hEq _ _ (by decide) (by decide)).trans e3), hik, hk⟩, (hx_5.X ⟨h1, h2⟩ ⟨h3, h4⟩).2.2⟩, (hx_5.X ⟨h1, h2⟩ ⟨h3, h4⟩).2.1⟩))
