/-! UNDO, SAVE, RESTORE -/
theorem cst_undo {F : Nat → Prop} {S T : Hp} {w : Nat → Nat} {x bx bu : Nat} {K : Nat → Nat} {E D A c : Nat → Nat → Nat} {N np p ps ik : Nat} {gq : Nat → Nat → Nat} {gk : Nat → Nat} (hp : Perm K) (hD : ∀ f a, (a = 52 ∨ a = 55 ∨ a = 56 ∨ 190 ≤ a ∨ a = 51 ∧ (f = 161 ∨ f = 163)) → E f a = D f a) (hnp : np < 8) (hps : ps ≤ 8) (h0 : 0 < ps) (hq : ∀ j, j < ps → Hol (A (K (pasI np j))) (c (K (pasI np j))) (gq j) N) (e3 : E 422 0 = ik) (hik : ik < 2) (hk : ik = 1 → Hol (A 2) (c 2) gk N) (hpp : p = if np = 0 then 7 else np - 1)
    (hx : XF F S T w x (up1 (up1 K 0 (K (2 + p))) (2 + p) (K 0)) (up2 (up2 E 419 0 p) 420 0 (ps - 1)) A c bx bu) : CSt F T x bx bu D (gq 0) N (ps - 1) (fun j => gq (j + 1)) ik gk := by
  have hp8 : p < 8 := by rw [hpp]; split <;> omega
  have k0 : up1 (up1 K 0 (K (2 + p))) (2 + p) (K 0) 0 = K (2 + p) := by rw [up1_n (by omega), up1_s]
  have e0 : pasI np 0 = 2 + p := by unfold pasI; rw [hpp]; split <;> omega
  refine ⟨w, _, _, _, _, hx.1, hp.swap (i := 0) (j := 2 + p) (by decide) (by omega), ?_, fun f a ha => ?_, ⟨p, hp8, ?_, u2_s, by omega, fun j hj => ?_⟩, ⟨?_, hik, hk⟩, hx.2.2⟩
  · rw [k0, ← e0]; exact hq 0 h0
  · rw [u2_n (by omega), u2_n (by omega)]; exact hD f a ha
  · rw [u2_n (by decide), u2_s]
  · have e : pasI p j = pasI np (j + 1) := by unfold pasI; rw [hpp]; split <;> omega
    have hb := pasI_lt (np := p) (j := j)
    have hne : pasI p j ≠ 2 + p := by unfold pasI; omega
    have kK : up1 (up1 K 0 (K (2 + p))) (2 + p) (K 0) (pasI p j) = K (pasI np (j + 1)) := by rw [up1_n hne, up1_n (by omega), e]
    rw [kK]
    exact hq (j + 1) (by omega)
  · rw [u2_n (by decide), u2_n (by decide)]; exact e3
set_option maxRecDepth 4000 in
set_option maxHeartbeats 400000 in
theorem s_undo {G : GI} {F : Nat → Prop} {S : Hp} {x bx bu : Nat} {D : Nat → Nat → Nat} {g : Nat → Nat} {N ps : Nat} {gq : Nat → Nat → Nat} {ik : Nat} {gk : Nat → Nat} (h : CSt F S x bx bu D g N ps gq ik gk) (h0 : 0 < ps) : Cn m_X12_undo G [.ref (x)] S (fun r T => r = .inl (some (.int (nI (ps - 1)))) ∧ CSt F T x bx bu D (gq 0) N (ps - 1) (fun j => gq (j + 1)) ik gk ∧ FrF F S T) := by
  refine Cn.of rfl (by decide) (Nat.le_of_ble_eq_true rfl) (fun hN hM => ?_)
  show Wx _ G _ 0 [(0, .ref (x))] [] _
  obtain ⟨w, K, E, A, c, hX, hp, hr, hD, ⟨np, hnp, e1, e2, hps, hq⟩, ⟨e3, hik, hk⟩, hF⟩ := h
  have h : XF F S S w x K E A c bx bu := ⟨hX, FrF.rfl, hF⟩
  have hk0 : K 0 < 11 := (hp 0 (by decide)).1
  have n01 : K 0 ≠ K 1 := hp.ne (by decide) (by decide) (by decide)
  have n02 : K 0 ≠ 2 := (hp 0 (by decide)).2.1
  refine r_aload_n dX12_undo_0 rfl 0 rfl ?_
  refine r_getI (ci := 13) (k := 4) dX12_undo_1 fr_X12_343 h.1.t0 rfl ?_
  refine Wx.top (h.1.i0 (f := 420) (by decide)) ?_
  refine Wx.topN e2 ?_
  refine r_if_neN (tgt := 15) dX12_undo_4 (by decide) (by omega) (fun h4 => ?_) (fun h4 => ?_)
  · refine r_aload_n dX12_undo_15 rfl 0 rfl ?_
    refine r_aload_n dX12_undo_16 rfl 0 rfl ?_
    refine r_getI (ci := 13) (k := 3) dX12_undo_17 fr_X12_346 h.1.t0 rfl ?_
    refine Wx.top (h.1.i0 (f := 419) (by decide)) ?_
    refine Wx.topN e1 ?_
    refine r_if_neN (tgt := 33) dX12_undo_20 (by decide) (by omega) (fun h20 => ?_) (fun h20 => ?_)
    · refine r_aload_n dX12_undo_33 rfl 0 rfl ?_
      refine r_getI (ci := 13) (k := 3) dX12_undo_34 fr_X12_346 h.1.t0 rfl ?_
      refine Wx.top (h.1.i0 (f := 419) (by decide)) ?_
      refine Wx.topN e1 ?_
      refine r_iconst (v := nI 1) dX12_undo_37 (by decide) ?_
      refine r_isubN dX12_undo_38 (by omega) ?_
      refine r_putI (ci := 13) (k := 3) dX12_undo_39 fw_X12_undo_346 h.1.t0 rfl rfl rfl ?_
      refine Wx.gp (fun T => XF F S T w x K (up2 E 419 (0) (np - 1)) A c bx bu) (h.I0 (f := 419) (by decide) (by decide)) (fun T (hx : XF F S T w x K (up2 E 419 (0) (np - 1)) A c bx bu) => ?_)
      refine r_aload_n dX12_undo_42 rfl 0 rfl ?_
      refine r_getR (ci := 13) (k := 0) (b := Pl x (K 0)) dX12_undo_43 fr_X12_10 hx.1.t0 rfl hx.1.p416 ?_
      refine r_astore_n (lv' := [(1, .ref (Pl x (K 0))), (0, .ref (x))]) dX12_undo_46 rfl (by decide) rfl ?_
      refine r_aload_n dX12_undo_47 rfl 1 rfl ?_
      refine r_aload_n dX12_undo_48 rfl 1 rfl ?_
      refine r_getR (ci := 13) (k := 2) (b := x + 33) dX12_undo_49 fr_X12_19 hx.1.t0 rfl hx.1.p418 ?_
      refine r_aload_n dX12_undo_52 rfl 1 rfl ?_
      refine r_getI (ci := 13) (k := 3) dX12_undo_53 fr_X12_346 hx.1.t0 rfl ?_
      refine Wx.top (hx.1.i0 (f := 419) (by decide)) ?_
      refine Wx.topN u2_s ?_
      refine r_aaldR (b := Pl x (K (2 + (np - 1)))) dX12_undo_56 hx.1.t33 (by decide) (by decide) (by rw [show zN T (x + 33) = 8 from hx.1.n33]; exact vp_in_nI (by omega) (by decide)) (by rw [nI_clamp (by omega)]; exact hx.1.q33 (by omega)) ?_
      refine r_putP (ci := 13) (k := 0) (x := some (Pl x (K (2 + (np - 1))))) dX12_undo_57 fw_X12_undo_10 hx.1.t0 rfl rfl ?_
      refine Wx.gp (fun T => XF F S T w x (up1 K 0 (K (2 + (np - 1)))) (up2 E 419 (0) (np - 1)) A c bx bu) (hx.P0 (e := K (2 + (np - 1)))) (fun T_1 (hx_1 : XF F S T_1 w x (up1 K 0 (K (2 + (np - 1)))) (up2 E 419 (0) (np - 1)) A c bx bu) => ?_)
      refine r_aload_n dX12_undo_60 rfl 1 rfl ?_
      refine r_getR (ci := 13) (k := 2) (b := x + 33) dX12_undo_61 fr_X12_19 hx_1.1.t0 rfl hx_1.1.p418 ?_
      refine r_aload_n dX12_undo_64 rfl 1 rfl ?_
      refine r_getI (ci := 13) (k := 3) dX12_undo_65 fr_X12_346 hx_1.1.t0 rfl ?_
      refine Wx.top (hx_1.1.i0 (f := 419) (by decide)) ?_
      refine Wx.topN u2_s ?_
      refine r_aload_n dX12_undo_68 rfl 0 rfl ?_
      refine r_aast (r := _) dX12_undo_69 hx_1.1.t33 (by decide) 9 rfl (hx_1.1.off' hk0).1.1 rfl (by decide) (by rw [show zN T_1 (x + 33) = 8 from hx_1.1.n33]; exact vp_in_nI (by omega) (by decide)) ?_
      rw [nI_clamp (by omega)]
      refine Wx.gp (fun T => XF F S T w x (up1 (up1 K 0 (K (2 + (np - 1)))) (2 + (np - 1)) (K 0)) (up2 E 419 (0) (np - 1)) A c bx bu) (hx_1.Q (e := K 0) (by omega)) (fun T_2 (hx_2 : XF F S T_2 w x (up1 (up1 K 0 (K (2 + (np - 1)))) (2 + (np - 1)) (K 0)) (up2 E 419 (0) (np - 1)) A c bx bu) => ?_)
      refine r_aload_n dX12_undo_70 rfl 1 rfl ?_
      refine r_dup dX12_undo_71 rfl ?_
      refine r_getI (ci := 13) (k := 4) dX12_undo_72 fr_X12_343 hx_2.1.t0 rfl ?_
      refine Wx.top (hx_2.1.i0 (f := 420) (by decide)) ?_
      refine Wx.topN (u2_n (by omega)) ?_
      refine Wx.topN e2 ?_
      refine r_iconst (v := nI 1) dX12_undo_75 (by decide) ?_
      refine r_isubN dX12_undo_76 (by omega) ?_
      refine r_putI (ci := 13) (k := 4) dX12_undo_77 fw_X12_undo_343 hx_2.1.t0 rfl rfl rfl ?_
      refine Wx.gp (fun T => XF F S T w x (up1 (up1 K 0 (K (2 + (np - 1)))) (2 + (np - 1)) (K 0)) (up2 (up2 E 419 (0) (np - 1)) 420 (0) (ps - 1)) A c bx bu) (hx_2.I0 (f := 420) (by decide) (by decide)) (fun T_3 (hx_3 : XF F S T_3 w x (up1 (up1 K 0 (K (2 + (np - 1)))) (2 + (np - 1)) (K 0)) (up2 (up2 E 419 (0) (np - 1)) 420 (0) (ps - 1)) A c bx bu) => ?_)
      refine r_aload_n dX12_undo_80 rfl 1 rfl ?_
      refine r_getI (ci := 13) (k := 4) dX12_undo_81 fr_X12_343 hx_3.1.t0 rfl ?_
      refine Wx.top (hx_3.1.i0 (f := 420) (by decide)) ?_
      refine Wx.topN u2_s ?_
      exact r_iret (ty := .int) dX12_undo_84 rfl rfl ⟨rfl, cst_undo hp hD hnp hps h0 hq e3 hik hk (if_neg (by omega)).symm hx_3, hx_3.2.1⟩
    · refine r_aload_n dX12_undo_23 rfl 0 rfl ?_
      refine r_getR (ci := 13) (k := 2) (b := x + 33) dX12_undo_24 fr_X12_19 h.1.t0 rfl h.1.p418 ?_
      refine r_alenQ dX12_undo_27 h.1.t33 (by decide) (by decide) ?_
      refine Wx.top (congrArg nI h.1.n33) ?_
      refine r_iconst (v := nI 1) dX12_undo_28 (by decide) ?_
      refine r_isubN dX12_undo_29 (by omega) ?_
      refine r_goto (tgt := 39) dX12_undo_30 (by decide) ?_
      refine r_putI (ci := 13) (k := 3) dX12_undo_39 fw_X12_undo_346 h.1.t0 rfl rfl rfl ?_
      refine Wx.gp (fun T => XF F S T w x K (up2 E 419 (0) (7)) A c bx bu) (h.I0 (f := 419) (by decide) (by decide)) (fun T_4 (hx_4 : XF F S T_4 w x K (up2 E 419 (0) (7)) A c bx bu) => ?_)
      refine r_aload_n dX12_undo_42 rfl 0 rfl ?_
      refine r_getR (ci := 13) (k := 0) (b := Pl x (K 0)) dX12_undo_43 fr_X12_10 hx_4.1.t0 rfl hx_4.1.p416 ?_
      refine r_astore_n (lv' := [(1, .ref (Pl x (K 0))), (0, .ref (x))]) dX12_undo_46 rfl (by decide) rfl ?_
      refine r_aload_n dX12_undo_47 rfl 1 rfl ?_
      refine r_aload_n dX12_undo_48 rfl 1 rfl ?_
      refine r_getR (ci := 13) (k := 2) (b := x + 33) dX12_undo_49 fr_X12_19 hx_4.1.t0 rfl hx_4.1.p418 ?_
      refine r_aload_n dX12_undo_52 rfl 1 rfl ?_
      refine r_getI (ci := 13) (k := 3) dX12_undo_53 fr_X12_346 hx_4.1.t0 rfl ?_
      refine Wx.top (hx_4.1.i0 (f := 419) (by decide)) ?_
      refine Wx.topN u2_s ?_
      refine r_aaldR (b := Pl x (K (2 + 7))) dX12_undo_56 hx_4.1.t33 (by decide) (by decide) (by rw [show zN T_4 (x + 33) = 8 from hx_4.1.n33]; exact vp_in_nI (by omega) (by decide)) (by rw [nI_clamp (by omega)]; exact hx_4.1.q33 (by omega)) ?_
      refine r_putP (ci := 13) (k := 0) (x := some (Pl x (K (2 + 7)))) dX12_undo_57 fw_X12_undo_10 hx_4.1.t0 rfl rfl ?_
      refine Wx.gp (fun T => XF F S T w x (up1 K 0 (K (2 + 7))) (up2 E 419 (0) (7)) A c bx bu) (hx_4.P0 (e := K (2 + 7))) (fun T_5 (hx_5 : XF F S T_5 w x (up1 K 0 (K (2 + 7))) (up2 E 419 (0) (7)) A c bx bu) => ?_)
      refine r_aload_n dX12_undo_60 rfl 1 rfl ?_
      refine r_getR (ci := 13) (k := 2) (b := x + 33) dX12_undo_61 fr_X12_19 hx_5.1.t0 rfl hx_5.1.p418 ?_
      refine r_aload_n dX12_undo_64 rfl 1 rfl ?_
      refine r_getI (ci := 13) (k := 3) dX12_undo_65 fr_X12_346 hx_5.1.t0 rfl ?_
      refine Wx.top (hx_5.1.i0 (f := 419) (by decide)) ?_
      refine Wx.topN u2_s ?_
      refine r_aload_n dX12_undo_68 rfl 0 rfl ?_
      refine r_aast (r := _) dX12_undo_69 hx_5.1.t33 (by decide) 9 rfl (hx_5.1.off' hk0).1.1 rfl (by decide) (by rw [show zN T_5 (x + 33) = 8 from hx_5.1.n33]; exact vp_in_nI (by omega) (by decide)) ?_
      rw [nI_clamp (by omega)]
      refine Wx.gp (fun T => XF F S T w x (up1 (up1 K 0 (K (2 + 7))) (2 + 7) (K 0)) (up2 E 419 (0) (7)) A c bx bu) (hx_5.Q (e := K 0) (by omega)) (fun T_6 (hx_6 : XF F S T_6 w x (up1 (up1 K 0 (K (2 + 7))) (2 + 7) (K 0)) (up2 E 419 (0) (7)) A c bx bu) => ?_)
      refine r_aload_n dX12_undo_70 rfl 1 rfl ?_
      refine r_dup dX12_undo_71 rfl ?_
      refine r_getI (ci := 13) (k := 4) dX12_undo_72 fr_X12_343 hx_6.1.t0 rfl ?_
      refine Wx.top (hx_6.1.i0 (f := 420) (by decide)) ?_
      refine Wx.topN (u2_n (by omega)) ?_
      refine Wx.topN e2 ?_
      refine r_iconst (v := nI 1) dX12_undo_75 (by decide) ?_
      refine r_isubN dX12_undo_76 (by omega) ?_
      refine r_putI (ci := 13) (k := 4) dX12_undo_77 fw_X12_undo_343 hx_6.1.t0 rfl rfl rfl ?_
      refine Wx.gp (fun T => XF F S T w x (up1 (up1 K 0 (K (2 + 7))) (2 + 7) (K 0)) (up2 (up2 E 419 (0) (7)) 420 (0) (ps - 1)) A c bx bu) (hx_6.I0 (f := 420) (by decide) (by decide)) (fun T_7 (hx_7 : XF F S T_7 w x (up1 (up1 K 0 (K (2 + 7))) (2 + 7) (K 0)) (up2 (up2 E 419 (0) (7)) 420 (0) (ps - 1)) A c bx bu) => ?_)
      refine r_aload_n dX12_undo_80 rfl 1 rfl ?_
      refine r_getI (ci := 13) (k := 4) dX12_undo_81 fr_X12_343 hx_7.1.t0 rfl ?_
      refine Wx.top (hx_7.1.i0 (f := 420) (by decide)) ?_
      refine Wx.topN u2_s ?_
      exact r_iret (ty := .int) dX12_undo_84 rfl rfl ⟨rfl, cst_undo hp hD hnp hps h0 hq e3 hik hk (if_pos (by omega)).symm hx_7, hx_7.2.1⟩
  · exact absurd h4 (by omega)
set_option maxRecDepth 4000 in
set_option maxHeartbeats 400000 in
theorem s_undo_no {G : GI} {F : Nat → Prop} {S : Hp} {x bx bu : Nat} {D : Nat → Nat → Nat} {g : Nat → Nat} {N ps : Nat} {gq : Nat → Nat → Nat} {ik : Nat} {gk : Nat → Nat} (h : CSt F S x bx bu D g N ps gq ik gk) (h1 : bx + 1 ≤ gN G) (h2 : bu + 6 ≤ gM G) (h0 : ps = 0) : Cn m_X12_undo G [.ref (x)] S (fun r T => r = .inr "java/lang/IllegalStateException" ∧ CSt F T x (bx + 1) (bu + 6) D g N ps gq ik gk ∧ FrF F S T) := by
  refine Cn.of rfl (by decide) (Nat.le_of_ble_eq_true rfl) (fun hN hM => ?_)
  show Wx _ G _ 0 [(0, .ref (x))] [] _
  obtain ⟨w, K, E, A, c, hX, hp, hr, hD, ⟨np, hnp, e1, e2, hps, hq⟩, ⟨e3, hik, hk⟩, hF⟩ := h
  have h : XF F S S w x K E A c bx bu := ⟨hX, FrF.rfl, hF⟩
  have hk0 : K 0 < 11 := (hp 0 (by decide)).1
  have n01 : K 0 ≠ K 1 := hp.ne (by decide) (by decide) (by decide)
  have n02 : K 0 ≠ 2 := (hp 0 (by decide)).2.1
  refine r_aload_n dX12_undo_0 rfl 0 rfl ?_
  refine r_getI (ci := 13) (k := 4) dX12_undo_1 fr_X12_343 h.1.t0 rfl ?_
  refine Wx.top (h.1.i0 (f := 420) (by decide)) ?_
  refine Wx.topN e2 ?_
  refine r_if_neN (tgt := 15) dX12_undo_4 (by decide) (by omega) (fun h4 => ?_) (fun h4 => ?_)
  · exact absurd h0 h4
  · exact r_throw (ft_IS (by decide)) rfl dX12_undo_7 dX12_undo_10 dX12_undo_11 dX12_undo_14 (by decide) (h.hc1 h1) (h.hu6 h2) (fun y u h1 h2 h3 h4 => ⟨rfl, ⟨w, K, E, A, c, (h.X ⟨h1, h2⟩ ⟨h3, h4⟩).1, hp, hr, hD, ⟨np, hnp, e1, e2, hps, hq⟩, ⟨e3, hik, hk⟩, hF⟩, (h.X ⟨h1, h2⟩ ⟨h3, h4⟩).2.1⟩)
set_option maxRecDepth 4000 in
set_option maxHeartbeats 400000 in
theorem s_copy {G : GI} {F : Nat → Prop} {S0 S : Hp} {w : Nat → Nat} {x : Nat} {K : Nat → Nat} {E : Nat → Nat → Nat} {A c : Nat → Nat → Nat} {bx bu : Nat} (h : XF F S0 S w x K E A c bx bu) (h1 : bx ≤ gN G) (h2 : bu ≤ gM G) {e d : Nat} (he : e < 11) (hd : d < 11) (hne : d ≠ e) {g : Nat → Nat} {N : Nat} (hr : Hol (A d) (c d) g N) : Cn m_X7_copyFrom G [.ref (Pl x e), .ref (Pl x d)] S (fun r T => r = .inl none ∧ ∃ w' A' c', XF F S0 T w' x K E (up1 A e A') (up1 c e c') bx bu ∧ Hol A' c' g N) := by
  obtain ⟨p1, p2, p3, p4⟩ := hr.cp
  refine Cn.mono (fun r T hq => ?_) (o_officeCopy (h.1.off' he) (h.1.off' hd) hne (h.1.rm h1 h2 he) p1 p2 p3 p4)
  obtain ⟨hv, w', A', c', hx, hkc, hl⟩ := hq
  exact ⟨hv, w', A', c', h.off he hx, hr.kc hkc hl⟩
set_option maxRecDepth 4000 in
set_option maxHeartbeats 400000 in
theorem s_save {G : GI} {F : Nat → Prop} {S : Hp} {x bx bu : Nat} {D : Nat → Nat → Nat} {g : Nat → Nat} {N ps : Nat} {gq : Nat → Nat → Nat} {ik : Nat} {gk : Nat → Nat} (h : CSt F S x bx bu D g N ps gq ik gk) (h1 : bx ≤ gN G) (h2 : bu ≤ gM G) : Cn m_X12_save G [.ref (x)] S (fun r T => r = .inl (some (.int (nI (g 0)))) ∧ CSt F T x bx bu D g N ps gq 1 g ∧ FrF F S T) := by
  refine Cn.of rfl (by decide) (Nat.le_of_ble_eq_true rfl) (fun hN hM => ?_)
  show Wx _ G _ 0 [(0, .ref (x))] [] _
  obtain ⟨w, K, E, A, c, hX, hp, hr, hD, ⟨np, hnp, e1, e2, hps, hq⟩, ⟨e3, hik, hk⟩, hF⟩ := h
  have h : XF F S S w x K E A c bx bu := ⟨hX, FrF.rfl, hF⟩
  have hk0 : K 0 < 11 := (hp 0 (by decide)).1
  have n01 : K 0 ≠ K 1 := hp.ne (by decide) (by decide) (by decide)
  have n02 : K 0 ≠ 2 := (hp 0 (by decide)).2.1
  refine r_aload_n dX12_save_0 rfl 0 rfl ?_
  refine r_getR (ci := 13) (k := 5) (b := Pl x 2) dX12_save_1 fr_X12_23 h.1.t0 rfl h.1.p421 ?_
  refine r_aload_n dX12_save_4 rfl 0 rfl ?_
  refine r_getR (ci := 13) (k := 0) (b := Pl x (K 0)) dX12_save_5 fr_X12_10 h.1.t0 rfl h.1.p416 ?_
  refine r_callV (M2 := m_X7_copyFrom) (As := [.ref (Pl x (K 0))]) (rest := []) dX12_save_8 cc_X12_save_324 rfl rfl rfl (Nat.le_of_ble_eq_true rfl) (h.1.off' (by decide)).1.1 rfl rfl (by decide) (s_copy h h1 h2 (e := 2) (d := K 0) (by decide) hk0 n02 hr) (fun v9 T hq9 => ?_) (fun E9 T9 hq9 => by obtain ⟨hq9, -⟩ := hq9; cases hq9)
  obtain ⟨hv9, w1, A1, c1, hx1, hh1⟩ := hq9
  cases hv9
  show Wx _ G T 11 [(0, .ref (x))] [] _
  refine r_aload_n dX12_save_11 rfl 0 rfl ?_
  refine r_iconst (v := nI 1) dX12_save_12 (by decide) ?_
  refine r_putI (ci := 13) (k := 6) dX12_save_13 fw_X12_save_349 hx1.1.t0 rfl (by decide) (by decide) ?_
  refine Wx.gp (fun T => XF F S T w1 x K (up2 E 422 (0) (1)) (up1 A 2 A1) (up1 c 2 c1) bx bu) (hx1.I0 (f := 422) (by decide) (by decide)) (fun T_1 (hx : XF F S T_1 w1 x K (up2 E 422 (0) (1)) (up1 A 2 A1) (up1 c 2 c1) bx bu) => ?_)
  refine r_aload_n dX12_save_16 rfl 0 rfl ?_
  refine r_getR (ci := 13) (k := 0) (b := Pl x (K 0)) dX12_save_17 fr_X12_10 hx.1.t0 rfl hx.1.p416 ?_
  refine r_getI (ci := 9) (k := 5) dX12_save_20 fr_X12_353 (hx.1.off' hk0).1.1 rfl ?_
  refine Wx.top (hx.1.off' hk0).o0 ?_
  refine Wx.topN ((congrFun (up1_n (f := c) (i := 2) n02) 0).trans hr.1.c0) ?_
  refine r_iret (ty := .int) dX12_save_23 rfl rfl ⟨rfl, ⟨w1, K, _, _, _, hx.1, hp, ?_, fun f a ha => ?_, ⟨np, hnp, ?_, ?_, hps, fun j hj => ?_⟩, ⟨u2_s, by decide, fun _ => ?_⟩, hx.2.2⟩, hx.2.1⟩
  · rw [up1_n n02, up1_n n02]; exact hr
  · rw [u2_n (by omega)]; exact hD f a ha
  · rw [u2_n (by decide)]; exact e1
  · rw [u2_n (by decide)]; exact e2
  · have hb := pasI_lt (np := np) (j := j)
    rw [up1_n (hp _ hb.2).2.1, up1_n (hp _ hb.2).2.1]; exact hq j hj
  · rw [up1_s, up1_s]; exact hh1
set_option maxRecDepth 4000 in
set_option maxHeartbeats 400000 in
theorem s_restore {G : GI} {F : Nat → Prop} {S : Hp} {x bx bu : Nat} {D : Nat → Nat → Nat} {g : Nat → Nat} {N ps : Nat} {gq : Nat → Nat → Nat} {ik : Nat} {gk : Nat → Nat} (h : CSt F S x bx bu D g N ps gq ik gk) (h1 : bx ≤ gN G) (h2 : bu ≤ gM G) (h9 : ik = 1) : Cn m_X12_restore G [.ref (x)] S (fun r T => r = .inl (some (.int (nI (gk 0)))) ∧ CSt F T x bx bu D gk N 0 gq ik gk ∧ FrF F S T) := by
  refine Cn.of rfl (by decide) (Nat.le_of_ble_eq_true rfl) (fun hN hM => ?_)
  show Wx _ G _ 0 [(0, .ref (x))] [] _
  obtain ⟨w, K, E, A, c, hX, hp, hr, hD, ⟨np, hnp, e1, e2, hps, hq⟩, ⟨e3, hik, hk⟩, hF⟩ := h
  have h : XF F S S w x K E A c bx bu := ⟨hX, FrF.rfl, hF⟩
  have hk0 : K 0 < 11 := (hp 0 (by decide)).1
  have n01 : K 0 ≠ K 1 := hp.ne (by decide) (by decide) (by decide)
  have n02 : K 0 ≠ 2 := (hp 0 (by decide)).2.1
  refine r_aload_n dX12_restore_0 rfl 0 rfl ?_
  refine r_getI (ci := 13) (k := 6) dX12_restore_1 fr_X12_349 h.1.t0 rfl ?_
  refine Wx.top (h.1.i0 (f := 422) (by decide)) ?_
  refine Wx.topN e3 ?_
  refine r_if_neN (tgt := 15) dX12_restore_4 (by decide) (by omega) (fun h4 => ?_) (fun h4 => ?_)
  · refine r_aload_n dX12_restore_15 rfl 0 rfl ?_
    refine r_getR (ci := 13) (k := 0) (b := Pl x (K 0)) dX12_restore_16 fr_X12_10 h.1.t0 rfl h.1.p416 ?_
    refine r_aload_n dX12_restore_19 rfl 0 rfl ?_
    refine r_getR (ci := 13) (k := 5) (b := Pl x 2) dX12_restore_20 fr_X12_23 h.1.t0 rfl h.1.p421 ?_
    refine r_callV (M2 := m_X7_copyFrom) (As := [.ref (Pl x 2)]) (rest := []) dX12_restore_23 cc_X12_restore_324 rfl rfl rfl (Nat.le_of_ble_eq_true rfl) (h.1.off' hk0).1.1 rfl rfl (by decide) (s_copy h h1 h2 (e := K 0) (d := 2) hk0 (by decide) (Ne.symm n02) (hk h9)) (fun v9 T hq9 => ?_) (fun E9 T9 hq9 => by obtain ⟨hq9, -⟩ := hq9; cases hq9)
    obtain ⟨hv9, w1, A1, c1, hx1, hh1⟩ := hq9
    cases hv9
    show Wx _ G T 26 [(0, .ref (x))] [] _
    refine r_aload_n dX12_restore_26 rfl 0 rfl ?_
    refine r_iconst (v := nI 0) dX12_restore_27 (by decide) ?_
    refine r_putI (ci := 13) (k := 4) dX12_restore_28 fw_X12_restore_343 hx1.1.t0 rfl rfl rfl ?_
    refine Wx.gp (fun T => XF F S T w1 x K (up2 E 420 (0) (0)) (up1 A (K 0) A1) (up1 c (K 0) c1) bx bu) (hx1.I0 (f := 420) (by decide) (by decide)) (fun T_1 (hx : XF F S T_1 w1 x K (up2 E 420 (0) (0)) (up1 A (K 0) A1) (up1 c (K 0) c1) bx bu) => ?_)
    refine r_aload_n dX12_restore_31 rfl 0 rfl ?_
    refine r_getR (ci := 13) (k := 0) (b := Pl x (K 0)) dX12_restore_32 fr_X12_10 hx.1.t0 rfl hx.1.p416 ?_
    refine r_getI (ci := 9) (k := 5) dX12_restore_35 fr_X12_353 (hx.1.off' hk0).1.1 rfl ?_
    refine Wx.top (hx.1.off' hk0).o0 ?_
    refine Wx.topN ((congrFun (up1_s (f := c) (i := K 0)) 0).trans hh1.1.c0) ?_
    refine r_iret (ty := .int) dX12_restore_38 rfl rfl ⟨rfl, ⟨w1, K, _, _, _, hx.1, hp, ?_, fun f a ha => ?_, ⟨np, hnp, ?_, u2_s, by omega, fun j hj => absurd hj (Nat.not_lt_zero _)⟩, ⟨?_, hik, fun h => ?_⟩, hx.2.2⟩, hx.2.1⟩
    · rw [up1_s, up1_s]; exact hh1
    · rw [u2_n (by omega)]; exact hD f a ha
    · rw [u2_n (by decide)]; exact e1
    · rw [u2_n (by decide)]; exact e3
    · rw [up1_n (Ne.symm n02), up1_n (Ne.symm n02)]; exact hk h
  · exact absurd h4 (by omega)
set_option maxRecDepth 4000 in
set_option maxHeartbeats 400000 in
theorem s_restore_no {G : GI} {F : Nat → Prop} {S : Hp} {x bx bu : Nat} {D : Nat → Nat → Nat} {g : Nat → Nat} {N ps : Nat} {gq : Nat → Nat → Nat} {ik : Nat} {gk : Nat → Nat} (h : CSt F S x bx bu D g N ps gq ik gk) (h1 : bx + 1 ≤ gN G) (h2 : bu + 6 ≤ gM G) (h9 : ik = 0) : Cn m_X12_restore G [.ref (x)] S (fun r T => r = .inr "java/lang/IllegalStateException" ∧ CSt F T x (bx + 1) (bu + 6) D g N ps gq ik gk ∧ FrF F S T) := by
  refine Cn.of rfl (by decide) (Nat.le_of_ble_eq_true rfl) (fun hN hM => ?_)
  show Wx _ G _ 0 [(0, .ref (x))] [] _
  obtain ⟨w, K, E, A, c, hX, hp, hr, hD, ⟨np, hnp, e1, e2, hps, hq⟩, ⟨e3, hik, hk⟩, hF⟩ := h
  have h : XF F S S w x K E A c bx bu := ⟨hX, FrF.rfl, hF⟩
  have hk0 : K 0 < 11 := (hp 0 (by decide)).1
  have n01 : K 0 ≠ K 1 := hp.ne (by decide) (by decide) (by decide)
  have n02 : K 0 ≠ 2 := (hp 0 (by decide)).2.1
  refine r_aload_n dX12_restore_0 rfl 0 rfl ?_
  refine r_getI (ci := 13) (k := 6) dX12_restore_1 fr_X12_349 h.1.t0 rfl ?_
  refine Wx.top (h.1.i0 (f := 422) (by decide)) ?_
  refine Wx.topN e3 ?_
  refine r_if_neN (tgt := 15) dX12_restore_4 (by decide) (by omega) (fun h4 => ?_) (fun h4 => ?_)
  · exact absurd h9 h4
  · exact r_throw (ft_IS (by decide)) rfl dX12_restore_7 dX12_restore_10 dX12_restore_11 dX12_restore_14 (by decide) (h.hc1 h1) (h.hu6 h2) (fun y u h1 h2 h3 h4 => ⟨rfl, ⟨w, K, E, A, c, (h.X ⟨h1, h2⟩ ⟨h3, h4⟩).1, hp, hr, hD, ⟨np, hnp, e1, e2, hps, hq⟩, ⟨e3, hik, hk⟩, hF⟩, (h.X ⟨h1, h2⟩ ⟨h3, h4⟩).2.1⟩)
theorem CSt.g {F : Nat → Prop} {S : Hp} {x bx bu : Nat} {D : Nat → Nat → Nat} {f g : Nat → Nat} {N ps : Nat} {gq : Nat → Nat → Nat} {ik : Nat} {gk : Nat → Nat} (hg : WB g) (h : CSt F S x bx bu D f N ps gq ik gk) : CSt F S x bx bu D (cpG g (402 + 400 * f 0) f) N ps gq ik gk := by
  obtain ⟨w, K, E, A, c, hX, hp, hr, hD, h1, h2, hF⟩ := h
  exact ⟨w, K, E, A, c, hX, hp, hr.cp' hg, hD, h1, h2, hF⟩
