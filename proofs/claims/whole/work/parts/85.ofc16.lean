theorem fn_lot : fN RX7 23 7 17 := ⟨_, _, _, ck_7, (sg1 57 rfl rfl), (sg2 114 rfl rfl), (sg1 20 rfl rfl), by decide⟩
set_option maxRecDepth 4000 in
set_option maxHeartbeats 400000 in
theorem s_slot_n {G : GI} {S : Hp} {w : Nat → Nat} {k o : Nat} {A c : Nat → Nat} (h : OR S w k o A c) {i : Nat} (hi : i < 24) (hA : A i = 0) (hc : zX S + 8 ≤ gN G) (hs : zU S + 1220 ≤ gM G) : Cn m_X7_slot G [.ref o, .int (nI i)] S (fun r T => r = .inl (some (.ref (zX S))) ∧ OX S w A T (fun b => if zX S ≤ b then 32 * k + i + 1 else w b) k o (up1 A i (zX S)) (clC c i)) := by
  refine Cn.of rfl (by decide) (Nat.le_of_ble_eq_true rfl) (fun hN hM => ?_)
  show Wx _ G _ 0 [(0, .ref o), (1, .int (nI i))] [] _
  have hq : zQ S (o + 3) i = none := by
    rcases h.2.2.1 i hi with q | ⟨q, -⟩
    · exact q.2
    · exact absurd hA q
  refine r_aload_n dX7_slot_0 rfl 0 rfl ?_
  refine r_getR (ci := 9) (k := 2) (b := o + 3) dX7_slot_1 fr_X7_25 h.1.1 rfl h.1.2.1.2.2.1 ?_
  refine r_iload_n dX7_slot_4 rfl 1 rfl ?_
  refine r_aald dX7_slot_5 h.1.2.2.2.2.1.1 (by decide) (by decide) (by rw [h.1.2.2.2.2.1.2]; exact vp_in_nI hi (by decide)) ?_
  rw [nI_clamp (by omega), hq]
  show Wx _ _ _ _ _ (.null :: _) _
  refine r_astore_nN (lv' := [(2, .null), (0, .ref o), (1, .int (nI i))]) dX7_slot_6 rfl (by decide) rfl ?_
  refine r_aload_nN dX7_slot_7 rfl 0 rfl ?_
  refine r_ifnonnullN dX7_slot_8 ?_
  refine r_new (ci := 7) dX7_slot_11 fn_lot (by omega) (by omega) ?_
  refine r_dup dX7_slot_14 rfl ?_
  refine r_callI (M2 := m_X5_init) (As := []) (rest := [.ref (zX S)]) dX7_slot_15 cc_X7_slot_71 rfl rfl rfl (Nat.le_of_ble_eq_true rfl) (k_lotInit (S := nO S 8 17) (a := zX S) rfl zT_nO (fun b hb => (up1_n (by have : zX S + 1 ≤ b := hb; omega)).trans (h.2.2.2.2 b (by have : zX S + 1 ≤ b := hb; omega))) (by show zX S + 1 + 7 ≤ gN G; omega) (by show zU S + 17 + 1203 ≤ gM G; omega)) (fun v T hq9 => ?_) (fun E T hq9 => by cases hq9.1)
  obtain ⟨hv, hL⟩ := hq9
  cases hv
  have hol : o < zX S := h.2.2.2.2.lt (by rw [h.1.1]; decide)
  have ho3 : o + 3 < zX S := h.2.2.2.2.lt (by rw [h.1.2.2.2.2.1.1]; decide)
  obtain ⟨l1, l2, l3, l4, l5⟩ := id hL
  have e0 := l4 o (by show o < zX S + 1; omega)
  have e3 := l4 (o + 3) (by show o + 3 < zX S + 1; omega)
  have eL := l4 (zX S) (by show zX S < zX S + 1; omega)
  have t0 : zT T o = 10 := e0.1.1.trans ((up1_n (by omega)).trans h.1.1)
  have p0 : zP T 290 o = some (o + 3) := (e0.2.2.2.2.2.2 (by omega) 290).trans ((if_neg (by omega)).trans h.1.2.1.2.2.1)
  have t3 : zT T (o + 3) = 112 := e3.1.1.trans ((up1_n (by omega)).trans h.1.2.2.2.2.1.1)
  have n3 : zN T (o + 3) = 24 := e3.1.2.trans h.1.2.2.2.2.1.2
  have tL : zT T (zX S) = 8 := eL.1.1.trans zT_nO
  show Wx _ _ _ _ _ [.ref (zX S)] _
  refine r_astore_n (lv' := [(2, .ref (zX S)), (0, .ref o), (1, .int (nI i))]) dX7_slot_18 rfl (by decide) rfl ?_
  refine r_aload_n dX7_slot_19 rfl 1 rfl ?_
  refine r_getR (ci := 9) (k := 2) (b := o + 3) dX7_slot_20 fr_X7_25 t0 rfl p0 ?_
  refine r_iload_n dX7_slot_23 rfl 2 rfl ?_
  refine r_aload_n dX7_slot_24 rfl 0 rfl ?_
  refine r_aast (r := _) dX7_slot_25 t3 (by decide) 7 rfl tL rfl (by decide) (by rw [n3]; exact vp_in_nI hi (by decide)) ?_
  rw [nI_clamp (by omega)]
  refine r_aload_n dX7_slot_26 rfl 0 rfl ?_
  exact r_aret (v := some (zX S)) dX7_slot_27 rfl (Or.inl ⟨_, rfl⟩) ⟨rfl, OX.new h hi hA hL⟩
set_option maxRecDepth 4000 in
set_option maxHeartbeats 400000 in
theorem s_slot_y {G : GI} {S : Hp} {w : Nat → Nat} {k o : Nat} {A c : Nat → Nat} (h : OR S w k o A c) {i : Nat} (hi : i < 24) (hA : ¬ A i = 0) : Fn m_X7_slot G [.ref o, .int (nI i)] S (some (.ref (A i))) S := by
  refine Cn.of rfl (by decide) (Nat.le_of_ble_eq_true rfl) (fun hN hM => ?_)
  show Wx _ G _ 0 [(0, .ref (o)), (1, .int (nI (i)))] [] _
  have hx := OX.refl h
  refine r_aload_n dX7_slot_0 rfl 0 rfl ?_
  refine r_getR (ci := 9) (k := 2) (b := o + 3) dX7_slot_1 fr_X7_25 hx.1.1.1 rfl hx.1.1.2.1.2.2.1 ?_
  refine r_iload_n dX7_slot_4 rfl 1 rfl ?_
  refine r_aaldR (b := A i) dX7_slot_5 hx.1.1.2.2.2.2.1.1 (by decide) (by decide) (by rw [show zN S (o + 3) = 24 from hx.1.1.2.2.2.2.1.2]; exact vp_in_nI (by omega) (by decide)) (by rw [nI_clamp (by omega)]; exact (hx.1.lo hi hA).1) ?_
  refine r_astore_n (lv' := [(2, .ref (A i)), (0, .ref (o)), (1, .int (nI (i)))]) dX7_slot_6 rfl (by decide) rfl ?_
  refine r_aload_n dX7_slot_7 rfl 0 rfl ?_
  refine r_ifnonnull (tgt := 26) dX7_slot_8 (by decide) ?_
  refine r_aload_n dX7_slot_26 rfl 0 rfl ?_
  exact r_aret (v := some (A i)) dX7_slot_27 rfl (Or.inl ⟨_, rfl⟩) ⟨rfl, rfl⟩
/-- room for all lots that are wanting -/
def Rm (G : GI) (S : Hp) (A : Nat → Nat) : Prop := zX S + 8 * fre A ≤ gN G ∧ zU S + 1220 * fre A ≤ gM G
theorem OX.rm {G : GI} {S0 S : Hp} {w0 w : Nat → Nat} {k o : Nat} {A0 A c : Nat → Nat} (h : OX S0 w0 A0 S w k o A c) (hr : Rm G S0 A0) : Rm G S A := by
  obtain ⟨-, -, -, -, h5, h6, -, -⟩ := h
  unfold Rm at hr ⊢
  omega
theorem fre_1 {A : Nat → Nat} {i : Nat} (hi : i < 24) (hA : A i = 0) : 1 ≤ fre A := by
  have h1 := cnt_del (p := fun i => A i = 0) (a := i) hA 24
  rw [if_pos hi] at h1
  have h3 : fre A = cnt (fun i => A i = 0) 24 := rfl
  omega
/-- a lot's place, made if it is wanting -/
theorem s_slot {G : GI} {S : Hp} {w : Nat → Nat} {k o : Nat} {A c : Nat → Nat} (h : OR S w k o A c) {i : Nat} (hi : i < 24) (hr : Rm G S A) : Cn m_X7_slot G [.ref o, .int (nI i)] S (fun r T => ∃ w' A' c', r = .inl (some (.ref (A' i))) ∧ OX S w A T w' k o A' c' ∧ A' i ≠ 0 ∧ (∀ j, ¬ inL i j → c' j = c j) ∧ ∀ i2, i2 ≠ i → A' i2 = A i2) := by
  by_cases hA : A i = 0
  · have h1 := fre_1 hi hA
    refine Cn.mono (fun r T hq => ?_) (s_slot_n h hi hA (by unfold Rm at hr; omega) (by unfold Rm at hr; omega))
    obtain ⟨e, hx⟩ := hq
    refine ⟨_, _, _, by rw [up1_s]; exact e, hx, ?_, fun j hj => clC_f hj, fun i2 h2 => up1_n h2⟩
    rw [up1_s]
    have := h.2.2.2.2.lt (a := o) (by rw [h.1.1]; decide)
    omega
  · exact Cn.mono (fun r T hq => by obtain ⟨e, e2⟩ := hq; subst e2; exact ⟨w, A, c, e, OX.refl h, hA, fun _ _ => rfl, fun _ _ => rfl⟩) (s_slot_y h hi hA)
