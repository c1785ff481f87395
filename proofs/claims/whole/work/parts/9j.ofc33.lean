/-! CHANGES -/
theorem pasI_lt {np j : Nat} : 2 ≤ pasI np j ∧ pasI np j < 10 := by unfold pasI; omega
theorem Perm.ne {K : Nat → Nat} (h : Perm K) {i j : Nat} (hi : i < 10) (hj : j < 10) (hij : i ≠ j) : K i ≠ K j := fun e => hij ((h i hi).2.2 j hj e)
theorem cst_push {F : Nat → Prop} {S T : Hp} {w : Nat → Nat} {x bx bu : Nat} {K : Nat → Nat} {E D A c : Nat → Nat → Nat} {A1 c1 A2 c2 g g' : Nat → Nat} {N N' np ps ik : Nat} {gq : Nat → Nat → Nat} {gk : Nat → Nat} (hp : Perm K) (hD : ∀ f a, (a = 52 ∨ a = 55 ∨ a = 56 ∨ 190 ≤ a ∨ a = 51 ∧ (f = 161 ∨ f = 163)) → E f a = D f a) (hnp : np < 8) (hps : ps ≤ 8) (hq : ∀ j, j < ps → Hol (A (K (pasI np j))) (c (K (pasI np j))) (gq j) N) (e3 : E 422 0 = ik) (hik : ik < 2) (hk : ik = 1 → Hol (A 2) (c 2) gk N) (h1 : Hol A1 c1 g N) (h2 : Hol A2 c2 g' N') (hN : N ≤ N')
    (hx : XF F S T w x (up1 (up1 K (2 + np) (K 1)) 1 (K (2 + np))) (up2 (up2 E 419 0 (if np = 7 then 0 else np + 1)) 420 0 (if ps < 8 then ps + 1 else ps)) (up1 (up1 A (K 1) A1) (K 0) A2) (up1 (up1 c (K 1) c1) (K 0) c2) bx bu) : CSt F T x bx bu D g' N' (if ps < 8 then ps + 1 else ps) (psh g gq) ik gk := by
  have n01 : K 0 ≠ K 1 := hp.ne (by decide) (by decide) (by decide)
  have k0 : up1 (up1 K (2 + np) (K 1)) 1 (K (2 + np)) 0 = K 0 := by rw [up1_n (by decide), up1_n (by omega)]
  have rA : ∀ {f : Nat → Nat → Nat} {p q : Nat → Nat} {e : Nat}, e ≠ K 0 → e ≠ K 1 → up1 (up1 f (K 1) p) (K 0) q e = f e := fun a b => by rw [up1_n a, up1_n b]
  refine ⟨w, _, _, _, _, hx.1, hp.swap (i := 2 + np) (j := 1) (by omega) (by decide), ?_, fun f a ha => ?_, ⟨if np = 7 then 0 else np + 1, by split <;> omega, ?_, u2_s, by split <;> omega, fun j hj => ?_⟩, ⟨?_, hik, fun h => ?_⟩, hx.2.2⟩
  · rw [k0, up1_s, up1_s]; exact h2
  · rw [u2_n (by omega), u2_n (by omega)]; exact hD f a ha
  · rw [u2_n (by decide), u2_s]
  · cases j with
    | zero =>
      have e : pasI (if np = 7 then 0 else np + 1) 0 = 2 + np := by unfold pasI; split <;> omega
      have kK : up1 (up1 K (2 + np) (K 1)) 1 (K (2 + np)) (2 + np) = K 1 := by rw [up1_n (by omega), up1_s]
      rw [e, kK, up1_n n01.symm, up1_s, up1_n n01.symm, up1_s]
      exact h1.mono hN
    | succ j =>
      have hj8 : j < ps ∧ j < 7 := by split at hj <;> omega
      have e : pasI (if np = 7 then 0 else np + 1) (j + 1) = pasI np j := by unfold pasI; split <;> omega
      have hb := pasI_lt (np := np) (j := j)
      have hne : pasI np j ≠ 2 + np := by unfold pasI; omega
      have kK : up1 (up1 K (2 + np) (K 1)) 1 (K (2 + np)) (pasI np j) = K (pasI np j) := by rw [up1_n (by omega), up1_n hne]
      rw [e, kK, rA (hp.ne hb.2 (by decide) (by omega)) (hp.ne hb.2 (by decide) (by omega)), rA (hp.ne hb.2 (by decide) (by omega)) (hp.ne hb.2 (by decide) (by omega))]
      exact (hq j hj8.1).mono hN
  · rw [u2_n (by decide), u2_n (by decide)]; exact e3
  · rw [rA (Ne.symm (hp 0 (by decide)).2.1) (Ne.symm (hp 1 (by decide)).2.1), rA (Ne.symm (hp 0 (by decide)).2.1) (Ne.symm (hp 1 (by decide)).2.1)]
    exact (hk h).mono hN
/-- .. where the office is as it was in the reference's eyes -/
theorem cst_same {F : Nat → Prop} {S T : Hp} {w : Nat → Nat} {x bx bu : Nat} {K : Nat → Nat} {E D A c : Nat → Nat → Nat} {A1 c1 A2 c2 g : Nat → Nat} {N np ps ik : Nat} {gq : Nat → Nat → Nat} {gk : Nat → Nat} (hp : Perm K) (hD : ∀ f a, (a = 52 ∨ a = 55 ∨ a = 56 ∨ 190 ≤ a ∨ a = 51 ∧ (f = 161 ∨ f = 163)) → E f a = D f a) (hnp : np < 8) (e1 : E 419 0 = np) (e2 : E 420 0 = ps) (hps : ps ≤ 8) (hq : ∀ j, j < ps → Hol (A (K (pasI np j))) (c (K (pasI np j))) (gq j) N) (e3 : E 422 0 = ik) (hik : ik < 2) (hk : ik = 1 → Hol (A 2) (c 2) gk N) (h2 : Hol A2 c2 g N)
    (hx : XF F S T w x K E (up1 (up1 A (K 1) A1) (K 0) A2) (up1 (up1 c (K 1) c1) (K 0) c2) bx bu) : CSt F T x bx bu D g N ps gq ik gk := by
  have rA : ∀ {f : Nat → Nat → Nat} {p q : Nat → Nat} {e : Nat}, e ≠ K 0 → e ≠ K 1 → up1 (up1 f (K 1) p) (K 0) q e = f e := fun a b => by rw [up1_n a, up1_n b]
  refine ⟨w, _, _, _, _, hx.1, hp, ?_, hD, ⟨np, hnp, e1, e2, hps, fun j hj => ?_⟩, ⟨e3, hik, fun h => ?_⟩, hx.2.2⟩
  · rw [up1_s, up1_s]; exact h2
  · have hb := pasI_lt (np := np) (j := j)
    rw [rA (hp.ne hb.2 (by decide) (by omega)) (hp.ne hb.2 (by decide) (by omega)), rA (hp.ne hb.2 (by decide) (by omega)) (hp.ne hb.2 (by decide) (by omega))]
    exact hq j hj
  · rw [rA (Ne.symm (hp 0 (by decide)).2.1) (Ne.symm (hp 1 (by decide)).2.1), rA (Ne.symm (hp 0 (by decide)).2.1) (Ne.symm (hp 1 (by decide)).2.1)]
    exact hk h
set_option maxRecDepth 4000 in
set_option maxHeartbeats 400000 in
theorem s_machine {G : GI} {F : Nat → Prop} {S : Hp} {x bx bu : Nat} {D : Nat → Nat → Nat} {g : Nat → Nat} {N ps : Nat} {gq : Nat → Nat → Nat} {ik : Nat} {gk : Nat → Nat} (h : CSt F S x bx bu D g N ps gq ik gk) (h1 : bx ≤ gN G) (h2 : bu ≤ gM G) {y0 y1 y2 : Int32} {v : Nat} (hv : v < 2 ^ 31) {g' : Nat → Nat} {N' : Nat} (hN : N ≤ N') (hop : ∀ (T : Hp) (w : Nat → Nat) (k o : Nat) (A c : Nat → Nat), OR T w k o A c → Hol A c g N → Rm G T A → OCh m_X7_setMachine G [.ref o, .int y0, .int y1, .int y2] T w k o A (some (.int (nI v))) g' N') : Cn m_X12_machine G [.ref x, .int y0, .int y1, .int y2] S (fun r T => r = .inl (some (.int (nI v))) ∧ CSt F T x bx bu D g' N' (if ps < 8 then ps + 1 else ps) (psh g gq) ik gk ∧ FrF F S T) := by
  obtain ⟨w, K, E, A, c, hX, hp, hr, hD, ⟨np, hnp, e1, e2, hps, hq⟩, ⟨e3, hik, hk⟩, hF⟩ := h
  have hXF : XF F S S w x K E A c bx bu := ⟨hX, FrF.rfl, hF⟩
  have hk0 : K 0 < 11 := (hp 0 (by decide)).1
  have n01 : K 0 ≠ K 1 := hp.ne (by decide) (by decide) (by decide)
  refine Cn.of rfl (by decide) (Nat.le_of_ble_eq_true rfl) (fun hN9 hM9 => ?_)
  show Wx _ G _ 0 [(0, .ref x), (1, .int y0), (2, .int y1), (3, .int y2)] [] _
  refine r_aload_n dX12_machine_0 rfl 0 rfl ?_
  refine r_callV (M2 := m_X12_beginChange) (As := []) (rest := []) dX12_machine_1 cc_X12_machine_68 rfl rfl rfl (Nat.le_of_ble_eq_true rfl) hX.t0 rfl rfl (by decide) (x_begin hXF hp h1 h2 hr) (fun v9 T1 hq1 => ?_) (fun E9 T9 hq9 => by obtain ⟨hq9, -⟩ := hq9; cases hq9)
  obtain ⟨hv9, w1, A1, c1, hx1, hh1⟩ := hq1
  cases hv9
  show Wx _ G T1 4 [(0, .ref x), (1, .int y0), (2, .int y1), (3, .int y2)] [] _
  refine r_aload_n dX12_machine_4 rfl 0 rfl ?_
  refine r_aload_n dX12_machine_5 rfl 0 rfl ?_
  refine r_getR (ci := 13) (k := 0) (b := Pl x (K 0)) dX12_machine_6 fr_X12_10 hx1.1.t0 rfl hx1.1.p416 ?_
  refine r_iload_n dX12_machine_9 rfl 1 rfl ?_
  refine r_iload_n dX12_machine_10 rfl 2 rfl ?_
  refine r_iload_n dX12_machine_11 rfl 3 rfl ?_
  refine r_callV (M2 := m_X7_setMachine) (As := [.int y0, .int y1, .int y2]) (rest := [.ref x]) dX12_machine_12 cc_X12_machine_71 rfl rfl rfl (Nat.le_of_ble_eq_true rfl) (hx1.1.off' hk0).1.1 rfl rfl (by decide) (hop T1 w1 (K 0) (Pl x (K 0)) _ _ (hx1.1.off' hk0) (by rw [up1_n n01, up1_n n01]; exact hr) (hx1.1.rm h1 h2 hk0)) (fun v9 T2 hq2 => ?_) (fun E9 T9 hq9 => by obtain ⟨hq9, -⟩ := hq9; cases hq9)
  obtain ⟨hv9, w2, A2, c2, hx2, hR2, hl2⟩ := hq2
  cases hv9
  have hx3 := hx1.off hk0 hx2
  show Wx _ G T2 15 [(0, .ref x), (1, .int y0), (2, .int y1), (3, .int y2)] [.int (nI v), .ref x] _
  refine r_callV (M2 := m_X12_endChange) (As := [.int (nI v)]) (rest := []) dX12_machine_15 cc_X12_machine_75 rfl rfl rfl (Nat.le_of_ble_eq_true rfl) hx3.1.t0 rfl rfl (by decide) (x_end hx3 hp hv hnp e1 e2 hps) (fun v9 T3 hq3 => ?_) (fun E9 T9 hq9 => by obtain ⟨hq9, -⟩ := hq9; cases hq9)
  obtain ⟨hv9, hx4⟩ := hq3
  cases hv9
  show Wx _ G T3 18 [(0, .ref x), (1, .int y0), (2, .int y1), (3, .int y2)] [.int (nI v)] _
  exact r_iret (ty := .int) dX12_machine_18 rfl rfl ⟨rfl, cst_push hp hD hnp hps hq e3 hik hk hh1 ⟨hR2, hl2⟩ hN hx4, hx4.2.1⟩
set_option maxRecDepth 4000 in
set_option maxHeartbeats 400000 in
theorem s_machine_no {G : GI} {F : Nat → Prop} {S : Hp} {x bx bu : Nat} {D : Nat → Nat → Nat} {g : Nat → Nat} {N ps : Nat} {gq : Nat → Nat → Nat} {ik : Nat} {gk : Nat → Nat} (h : CSt F S x bx bu D g N ps gq ik gk) (h1 : bx + 1 ≤ gN G) (h2 : bu + 6 ≤ gM G) {y0 y1 y2 kv : Int32} {EX : String} (hend : ∀ T : Hp, zX T + 1 ≤ gN G → zU T + 6 ≤ gM G → FT m_X12_endChange G [.ref x, .int kv] T EX) (hop : ∀ (T : Hp) (w : Nat → Nat) (k o : Nat) (A c : Nat → Nat), OR T w k o A c → Hol A c g N → Rm G T A → OCh m_X7_setMachine G [.ref o, .int y0, .int y1, .int y2] T w k o A (some (.int kv)) g N) : Cn m_X12_machine G [.ref x, .int y0, .int y1, .int y2] S (fun r T => r = .inr EX ∧ CSt F T x (bx + 1) (bu + 6) D g N ps gq ik gk ∧ FrF F S T) := by
  obtain ⟨w, K, E, A, c, hX, hp, hr, hD, ⟨np, hnp, e1, e2, hps, hq⟩, ⟨e3, hik, hk⟩, hF⟩ := h
  have hXF : XF F S S w x K E A c bx bu := ⟨hX, FrF.rfl, hF⟩
  have hk0 : K 0 < 11 := (hp 0 (by decide)).1
  have n01 : K 0 ≠ K 1 := hp.ne (by decide) (by decide) (by decide)
  refine Cn.of rfl (by decide) (Nat.le_of_ble_eq_true rfl) (fun hN9 hM9 => ?_)
  show Wx _ G _ 0 [(0, .ref x), (1, .int y0), (2, .int y1), (3, .int y2)] [] _
  refine r_aload_n dX12_machine_0 rfl 0 rfl ?_
  refine r_callV (M2 := m_X12_beginChange) (As := []) (rest := []) dX12_machine_1 cc_X12_machine_68 rfl rfl rfl (Nat.le_of_ble_eq_true rfl) hX.t0 rfl rfl (by decide) (x_begin hXF hp (by omega) (by omega) hr) (fun v9 T1 hq1 => ?_) (fun E9 T9 hq9 => by obtain ⟨hq9, -⟩ := hq9; cases hq9)
  obtain ⟨hv9, w1, A1, c1, hx1, hh1⟩ := hq1
  cases hv9
  show Wx _ G T1 4 [(0, .ref x), (1, .int y0), (2, .int y1), (3, .int y2)] [] _
  refine r_aload_n dX12_machine_4 rfl 0 rfl ?_
  refine r_aload_n dX12_machine_5 rfl 0 rfl ?_
  refine r_getR (ci := 13) (k := 0) (b := Pl x (K 0)) dX12_machine_6 fr_X12_10 hx1.1.t0 rfl hx1.1.p416 ?_
  refine r_iload_n dX12_machine_9 rfl 1 rfl ?_
  refine r_iload_n dX12_machine_10 rfl 2 rfl ?_
  refine r_iload_n dX12_machine_11 rfl 3 rfl ?_
  refine r_callV (M2 := m_X7_setMachine) (As := [.int y0, .int y1, .int y2]) (rest := [.ref x]) dX12_machine_12 cc_X12_machine_71 rfl rfl rfl (Nat.le_of_ble_eq_true rfl) (hx1.1.off' hk0).1.1 rfl rfl (by decide) (hop T1 w1 (K 0) (Pl x (K 0)) _ _ (hx1.1.off' hk0) (by rw [up1_n n01, up1_n n01]; exact hr) (hx1.1.rm (by omega) (by omega) hk0)) (fun v9 T2 hq2 => ?_) (fun E9 T9 hq9 => by obtain ⟨hq9, -⟩ := hq9; cases hq9)
  obtain ⟨hv9, w2, A2, c2, hx2, hR2, hl2⟩ := hq2
  cases hv9
  have hx3 := hx1.off hk0 hx2
  show Wx _ G T2 15 [(0, .ref x), (1, .int y0), (2, .int y1), (3, .int y2)] [.int kv, .ref x] _
  refine r_ftV (M2 := m_X12_endChange) (As := [.int kv]) (rest := []) dX12_machine_15 cc_X12_machine_75 rfl rfl rfl (Nat.le_of_ble_eq_true rfl) hx3.1.t0 rfl rfl (by decide) (hend T2 (hx3.hc1 h1) (hx3.hu6 h2)) rfl (fun y u q1 q2 => ⟨rfl, cst_same hp hD hnp e1 e2 hps hq e3 hik hk ⟨hR2, hl2⟩ (hx3.X q1 q2), (hx3.X q1 q2).2.1⟩)
set_option maxRecDepth 4000 in
set_option maxHeartbeats 400000 in
theorem s_product {G : GI} {F : Nat → Prop} {S : Hp} {x bx bu : Nat} {D : Nat → Nat → Nat} {g : Nat → Nat} {N ps : Nat} {gq : Nat → Nat → Nat} {ik : Nat} {gk : Nat → Nat} (h : CSt F S x bx bu D g N ps gq ik gk) (h1 : bx ≤ gN G) (h2 : bu ≤ gM G) {y0 y1 y2 y3 : Int32} {v : Nat} (hv : v < 2 ^ 31) {g' : Nat → Nat} {N' : Nat} (hN : N ≤ N') (hop : ∀ (T : Hp) (w : Nat → Nat) (k o : Nat) (A c : Nat → Nat), OR T w k o A c → Hol A c g N → Rm G T A → OCh m_X7_setProduct G [.ref o, .int y0, .int y1, .int y2, .int y3] T w k o A (some (.int (nI v))) g' N') : Cn m_X12_product G [.ref x, .int y0, .int y1, .int y2, .int y3] S (fun r T => r = .inl (some (.int (nI v))) ∧ CSt F T x bx bu D g' N' (if ps < 8 then ps + 1 else ps) (psh g gq) ik gk ∧ FrF F S T) := by
  obtain ⟨w, K, E, A, c, hX, hp, hr, hD, ⟨np, hnp, e1, e2, hps, hq⟩, ⟨e3, hik, hk⟩, hF⟩ := h
  have hXF : XF F S S w x K E A c bx bu := ⟨hX, FrF.rfl, hF⟩
  have hk0 : K 0 < 11 := (hp 0 (by decide)).1
  have n01 : K 0 ≠ K 1 := hp.ne (by decide) (by decide) (by decide)
  refine Cn.of rfl (by decide) (Nat.le_of_ble_eq_true rfl) (fun hN9 hM9 => ?_)
  show Wx _ G _ 0 [(0, .ref x), (1, .int y0), (2, .int y1), (3, .int y2), (4, .int y3)] [] _
  refine r_aload_n dX12_product_0 rfl 0 rfl ?_
  refine r_callV (M2 := m_X12_beginChange) (As := []) (rest := []) dX12_product_1 cc_X12_product_68 rfl rfl rfl (Nat.le_of_ble_eq_true rfl) hX.t0 rfl rfl (by decide) (x_begin hXF hp h1 h2 hr) (fun v9 T1 hq1 => ?_) (fun E9 T9 hq9 => by obtain ⟨hq9, -⟩ := hq9; cases hq9)
  obtain ⟨hv9, w1, A1, c1, hx1, hh1⟩ := hq1
  cases hv9
  show Wx _ G T1 4 [(0, .ref x), (1, .int y0), (2, .int y1), (3, .int y2), (4, .int y3)] [] _
  refine r_aload_n dX12_product_4 rfl 0 rfl ?_
  refine r_aload_n dX12_product_5 rfl 0 rfl ?_
  refine r_getR (ci := 13) (k := 0) (b := Pl x (K 0)) dX12_product_6 fr_X12_10 hx1.1.t0 rfl hx1.1.p416 ?_
  refine r_iload_n dX12_product_9 rfl 1 rfl ?_
  refine r_iload_n dX12_product_10 rfl 2 rfl ?_
  refine r_iload_n dX12_product_11 rfl 3 rfl ?_
  refine r_iload dX12_product_12 4 rfl ?_
  refine r_callV (M2 := m_X7_setProduct) (As := [.int y0, .int y1, .int y2, .int y3]) (rest := [.ref x]) dX12_product_14 cc_X12_product_92 rfl rfl rfl (Nat.le_of_ble_eq_true rfl) (hx1.1.off' hk0).1.1 rfl rfl (by decide) (hop T1 w1 (K 0) (Pl x (K 0)) _ _ (hx1.1.off' hk0) (by rw [up1_n n01, up1_n n01]; exact hr) (hx1.1.rm h1 h2 hk0)) (fun v9 T2 hq2 => ?_) (fun E9 T9 hq9 => by obtain ⟨hq9, -⟩ := hq9; cases hq9)
  obtain ⟨hv9, w2, A2, c2, hx2, hR2, hl2⟩ := hq2
  cases hv9
  have hx3 := hx1.off hk0 hx2
  show Wx _ G T2 17 [(0, .ref x), (1, .int y0), (2, .int y1), (3, .int y2), (4, .int y3)] [.int (nI v), .ref x] _
  refine r_callV (M2 := m_X12_endChange) (As := [.int (nI v)]) (rest := []) dX12_product_17 cc_X12_product_75 rfl rfl rfl (Nat.le_of_ble_eq_true rfl) hx3.1.t0 rfl rfl (by decide) (x_end hx3 hp hv hnp e1 e2 hps) (fun v9 T3 hq3 => ?_) (fun E9 T9 hq9 => by obtain ⟨hq9, -⟩ := hq9; cases hq9)
  obtain ⟨hv9, hx4⟩ := hq3
  cases hv9
  show Wx _ G T3 20 [(0, .ref x), (1, .int y0), (2, .int y1), (3, .int y2), (4, .int y3)] [.int (nI v)] _
  exact r_iret (ty := .int) dX12_product_20 rfl rfl ⟨rfl, cst_push hp hD hnp hps hq e3 hik hk hh1 ⟨hR2, hl2⟩ hN hx4, hx4.2.1⟩
set_option maxRecDepth 4000 in
set_option maxHeartbeats 400000 in
theorem s_product_no {G : GI} {F : Nat → Prop} {S : Hp} {x bx bu : Nat} {D : Nat → Nat → Nat} {g : Nat → Nat} {N ps : Nat} {gq : Nat → Nat → Nat} {ik : Nat} {gk : Nat → Nat} (h : CSt F S x bx bu D g N ps gq ik gk) (h1 : bx + 1 ≤ gN G) (h2 : bu + 6 ≤ gM G) {y0 y1 y2 y3 kv : Int32} {EX : String} (hend : ∀ T : Hp, zX T + 1 ≤ gN G → zU T + 6 ≤ gM G → FT m_X12_endChange G [.ref x, .int kv] T EX) (hop : ∀ (T : Hp) (w : Nat → Nat) (k o : Nat) (A c : Nat → Nat), OR T w k o A c → Hol A c g N → Rm G T A → OCh m_X7_setProduct G [.ref o, .int y0, .int y1, .int y2, .int y3] T w k o A (some (.int kv)) g N) : Cn m_X12_product G [.ref x, .int y0, .int y1, .int y2, .int y3] S (fun r T => r = .inr EX ∧ CSt F T x (bx + 1) (bu + 6) D g N ps gq ik gk ∧ FrF F S T) := by
  obtain ⟨w, K, E, A, c, hX, hp, hr, hD, ⟨np, hnp, e1, e2, hps, hq⟩, ⟨e3, hik, hk⟩, hF⟩ := h
  have hXF : XF F S S w x K E A c bx bu := ⟨hX, FrF.rfl, hF⟩
  have hk0 : K 0 < 11 := (hp 0 (by decide)).1
  have n01 : K 0 ≠ K 1 := hp.ne (by decide) (by decide) (by decide)
  refine Cn.of rfl (by decide) (Nat.le_of_ble_eq_true rfl) (fun hN9 hM9 => ?_)
  show Wx _ G _ 0 [(0, .ref x), (1, .int y0), (2, .int y1), (3, .int y2), (4, .int y3)] [] _
  refine r_aload_n dX12_product_0 rfl 0 rfl ?_
  refine r_callV (M2 := m_X12_beginChange) (As := []) (rest := []) dX12_product_1 cc_X12_product_68 rfl rfl rfl (Nat.le_of_ble_eq_true rfl) hX.t0 rfl rfl (by decide) (x_begin hXF hp (by omega) (by omega) hr) (fun v9 T1 hq1 => ?_) (fun E9 T9 hq9 => by obtain ⟨hq9, -⟩ := hq9; cases hq9)
  obtain ⟨hv9, w1, A1, c1, hx1, hh1⟩ := hq1
  cases hv9
  show Wx _ G T1 4 [(0, .ref x), (1, .int y0), (2, .int y1), (3, .int y2), (4, .int y3)] [] _
  refine r_aload_n dX12_product_4 rfl 0 rfl ?_
  refine r_aload_n dX12_product_5 rfl 0 rfl ?_
  refine r_getR (ci := 13) (k := 0) (b := Pl x (K 0)) dX12_product_6 fr_X12_10 hx1.1.t0 rfl hx1.1.p416 ?_
  refine r_iload_n dX12_product_9 rfl 1 rfl ?_
  refine r_iload_n dX12_product_10 rfl 2 rfl ?_
  refine r_iload_n dX12_product_11 rfl 3 rfl ?_
  refine r_iload dX12_product_12 4 rfl ?_
  refine r_callV (M2 := m_X7_setProduct) (As := [.int y0, .int y1, .int y2, .int y3]) (rest := [.ref x]) dX12_product_14 cc_X12_product_92 rfl rfl rfl (Nat.le_of_ble_eq_true rfl) (hx1.1.off' hk0).1.1 rfl rfl (by decide) (hop T1 w1 (K 0) (Pl x (K 0)) _ _ (hx1.1.off' hk0) (by rw [up1_n n01, up1_n n01]; exact hr) (hx1.1.rm (by omega) (by omega) hk0)) (fun v9 T2 hq2 => ?_) (fun E9 T9 hq9 => by obtain ⟨hq9, -⟩ := hq9; cases hq9)
  obtain ⟨hv9, w2, A2, c2, hx2, hR2, hl2⟩ := hq2
  cases hv9
  have hx3 := hx1.off hk0 hx2
  show Wx _ G T2 17 [(0, .ref x), (1, .int y0), (2, .int y1), (3, .int y2), (4, .int y3)] [.int kv, .ref x] _
  refine r_ftV (M2 := m_X12_endChange) (As := [.int kv]) (rest := []) dX12_product_17 cc_X12_product_75 rfl rfl rfl (Nat.le_of_ble_eq_true rfl) hx3.1.t0 rfl rfl (by decide) (hend T2 (hx3.hc1 h1) (hx3.hu6 h2)) rfl (fun y u q1 q2 => ⟨rfl, cst_same hp hD hnp e1 e2 hps hq e3 hik hk ⟨hR2, hl2⟩ (hx3.X q1 q2), (hx3.X q1 q2).2.1⟩)
set_option maxRecDepth 4000 in
set_option maxHeartbeats 400000 in
theorem s_release {G : GI} {F : Nat → Prop} {S : Hp} {x bx bu : Nat} {D : Nat → Nat → Nat} {g : Nat → Nat} {N ps : Nat} {gq : Nat → Nat → Nat} {ik : Nat} {gk : Nat → Nat} (h : CSt F S x bx bu D g N ps gq ik gk) (h1 : bx ≤ gN G) (h2 : bu ≤ gM G) {y0 : Int32} {v : Nat} (hv : v < 2 ^ 31) {g' : Nat → Nat} {N' : Nat} (hN : N ≤ N') (hop : ∀ (T : Hp) (w : Nat → Nat) (k o : Nat) (A c : Nat → Nat), OR T w k o A c → Hol A c g N → Rm G T A → OCh m_X7_releaseProduct G [.ref o, .int y0] T w k o A (some (.int (nI v))) g' N') : Cn m_X12_release G [.ref x, .int y0] S (fun r T => r = .inl (some (.int (nI v))) ∧ CSt F T x bx bu D g' N' (if ps < 8 then ps + 1 else ps) (psh g gq) ik gk ∧ FrF F S T) := by
  obtain ⟨w, K, E, A, c, hX, hp, hr, hD, ⟨np, hnp, e1, e2, hps, hq⟩, ⟨e3, hik, hk⟩, hF⟩ := h
  have hXF : XF F S S w x K E A c bx bu := ⟨hX, FrF.rfl, hF⟩
  have hk0 : K 0 < 11 := (hp 0 (by decide)).1
  have n01 : K 0 ≠ K 1 := hp.ne (by decide) (by decide) (by decide)
  refine Cn.of rfl (by decide) (Nat.le_of_ble_eq_true rfl) (fun hN9 hM9 => ?_)
  show Wx _ G _ 0 [(0, .ref x), (1, .int y0)] [] _
  refine r_aload_n dX12_release_0 rfl 0 rfl ?_
  refine r_callV (M2 := m_X12_beginChange) (As := []) (rest := []) dX12_release_1 cc_X12_release_68 rfl rfl rfl (Nat.le_of_ble_eq_true rfl) hX.t0 rfl rfl (by decide) (x_begin hXF hp h1 h2 hr) (fun v9 T1 hq1 => ?_) (fun E9 T9 hq9 => by obtain ⟨hq9, -⟩ := hq9; cases hq9)
  obtain ⟨hv9, w1, A1, c1, hx1, hh1⟩ := hq1
  cases hv9
  show Wx _ G T1 4 [(0, .ref x), (1, .int y0)] [] _
  refine r_aload_n dX12_release_4 rfl 0 rfl ?_
  refine r_aload_n dX12_release_5 rfl 0 rfl ?_
  refine r_getR (ci := 13) (k := 0) (b := Pl x (K 0)) dX12_release_6 fr_X12_10 hx1.1.t0 rfl hx1.1.p416 ?_
  refine r_iload_n dX12_release_9 rfl 1 rfl ?_
  refine r_callV (M2 := m_X7_releaseProduct) (As := [.int y0]) (rest := [.ref x]) dX12_release_10 cc_X12_release_127 rfl rfl rfl (Nat.le_of_ble_eq_true rfl) (hx1.1.off' hk0).1.1 rfl rfl (by decide) (hop T1 w1 (K 0) (Pl x (K 0)) _ _ (hx1.1.off' hk0) (by rw [up1_n n01, up1_n n01]; exact hr) (hx1.1.rm h1 h2 hk0)) (fun v9 T2 hq2 => ?_) (fun E9 T9 hq9 => by obtain ⟨hq9, -⟩ := hq9; cases hq9)
  obtain ⟨hv9, w2, A2, c2, hx2, hR2, hl2⟩ := hq2
  cases hv9
  have hx3 := hx1.off hk0 hx2
  show Wx _ G T2 13 [(0, .ref x), (1, .int y0)] [.int (nI v), .ref x] _
  refine r_callV (M2 := m_X12_endChange) (As := [.int (nI v)]) (rest := []) dX12_release_13 cc_X12_release_75 rfl rfl rfl (Nat.le_of_ble_eq_true rfl) hx3.1.t0 rfl rfl (by decide) (x_end hx3 hp hv hnp e1 e2 hps) (fun v9 T3 hq3 => ?_) (fun E9 T9 hq9 => by obtain ⟨hq9, -⟩ := hq9; cases hq9)
  obtain ⟨hv9, hx4⟩ := hq3
  cases hv9
  show Wx _ G T3 16 [(0, .ref x), (1, .int y0)] [.int (nI v)] _
  exact r_iret (ty := .int) dX12_release_16 rfl rfl ⟨rfl, cst_push hp hD hnp hps hq e3 hik hk hh1 ⟨hR2, hl2⟩ hN hx4, hx4.2.1⟩
set_option maxRecDepth 4000 in
set_option maxHeartbeats 400000 in
theorem s_release_no {G : GI} {F : Nat → Prop} {S : Hp} {x bx bu : Nat} {D : Nat → Nat → Nat} {g : Nat → Nat} {N ps : Nat} {gq : Nat → Nat → Nat} {ik : Nat} {gk : Nat → Nat} (h : CSt F S x bx bu D g N ps gq ik gk) (h1 : bx + 1 ≤ gN G) (h2 : bu + 6 ≤ gM G) {y0 kv : Int32} {EX : String} (hend : ∀ T : Hp, zX T + 1 ≤ gN G → zU T + 6 ≤ gM G → FT m_X12_endChange G [.ref x, .int kv] T EX) (hop : ∀ (T : Hp) (w : Nat → Nat) (k o : Nat) (A c : Nat → Nat), OR T w k o A c → Hol A c g N → Rm G T A → OCh m_X7_releaseProduct G [.ref o, .int y0] T w k o A (some (.int kv)) g N) : Cn m_X12_release G [.ref x, .int y0] S (fun r T => r = .inr EX ∧ CSt F T x (bx + 1) (bu + 6) D g N ps gq ik gk ∧ FrF F S T) := by
  obtain ⟨w, K, E, A, c, hX, hp, hr, hD, ⟨np, hnp, e1, e2, hps, hq⟩, ⟨e3, hik, hk⟩, hF⟩ := h
  have hXF : XF F S S w x K E A c bx bu := ⟨hX, FrF.rfl, hF⟩
  have hk0 : K 0 < 11 := (hp 0 (by decide)).1
  have n01 : K 0 ≠ K 1 := hp.ne (by decide) (by decide) (by decide)
  refine Cn.of rfl (by decide) (Nat.le_of_ble_eq_true rfl) (fun hN9 hM9 => ?_)
  show Wx _ G _ 0 [(0, .ref x), (1, .int y0)] [] _
  refine r_aload_n dX12_release_0 rfl 0 rfl ?_
  refine r_callV (M2 := m_X12_beginChange) (As := []) (rest := []) dX12_release_1 cc_X12_release_68 rfl rfl rfl (Nat.le_of_ble_eq_true rfl) hX.t0 rfl rfl (by decide) (x_begin hXF hp (by omega) (by omega) hr) (fun v9 T1 hq1 => ?_) (fun E9 T9 hq9 => by obtain ⟨hq9, -⟩ := hq9; cases hq9)
  obtain ⟨hv9, w1, A1, c1, hx1, hh1⟩ := hq1
  cases hv9
  show Wx _ G T1 4 [(0, .ref x), (1, .int y0)] [] _
  refine r_aload_n dX12_release_4 rfl 0 rfl ?_
  refine r_aload_n dX12_release_5 rfl 0 rfl ?_
  refine r_getR (ci := 13) (k := 0) (b := Pl x (K 0)) dX12_release_6 fr_X12_10 hx1.1.t0 rfl hx1.1.p416 ?_
  refine r_iload_n dX12_release_9 rfl 1 rfl ?_
  refine r_callV (M2 := m_X7_releaseProduct) (As := [.int y0]) (rest := [.ref x]) dX12_release_10 cc_X12_release_127 rfl rfl rfl (Nat.le_of_ble_eq_true rfl) (hx1.1.off' hk0).1.1 rfl rfl (by decide) (hop T1 w1 (K 0) (Pl x (K 0)) _ _ (hx1.1.off' hk0) (by rw [up1_n n01, up1_n n01]; exact hr) (hx1.1.rm (by omega) (by omega) hk0)) (fun v9 T2 hq2 => ?_) (fun E9 T9 hq9 => by obtain ⟨hq9, -⟩ := hq9; cases hq9)
  obtain ⟨hv9, w2, A2, c2, hx2, hR2, hl2⟩ := hq2
  cases hv9
  have hx3 := hx1.off hk0 hx2
  show Wx _ G T2 13 [(0, .ref x), (1, .int y0)] [.int kv, .ref x] _
  refine r_ftV (M2 := m_X12_endChange) (As := [.int kv]) (rest := []) dX12_release_13 cc_X12_release_75 rfl rfl rfl (Nat.le_of_ble_eq_true rfl) hx3.1.t0 rfl rfl (by decide) (hend T2 (hx3.hc1 h1) (hx3.hu6 h2)) rfl (fun y u q1 q2 => ⟨rfl, cst_same hp hD hnp e1 e2 hps hq e3 hik hk ⟨hR2, hl2⟩ (hx3.X q1 q2), (hx3.X q1 q2).2.1⟩)
set_option maxRecDepth 4000 in
set_option maxHeartbeats 400000 in
theorem s_seed {G : GI} {F : Nat → Prop} {S : Hp} {x bx bu : Nat} {D : Nat → Nat → Nat} {g : Nat → Nat} {N ps : Nat} {gq : Nat → Nat → Nat} {ik : Nat} {gk : Nat → Nat} (h : CSt F S x bx bu D g N ps gq ik gk) (h1 : bx ≤ gN G) (h2 : bu ≤ gM G) {y0 : Int32} {v : Nat} (hv : v < 2 ^ 31) {g' : Nat → Nat} {N' : Nat} (hN : N ≤ N') (hop : ∀ (T : Hp) (w : Nat → Nat) (k o : Nat) (A c : Nat → Nat), OR T w k o A c → Hol A c g N → Rm G T A → OCh m_X7_setSeed G [.ref o, .int y0] T w k o A (some (.int (nI v))) g' N') : Cn m_X12_seed G [.ref x, .int y0] S (fun r T => r = .inl (some (.int (nI v))) ∧ CSt F T x bx bu D g' N' (if ps < 8 then ps + 1 else ps) (psh g gq) ik gk ∧ FrF F S T) := by
  obtain ⟨w, K, E, A, c, hX, hp, hr, hD, ⟨np, hnp, e1, e2, hps, hq⟩, ⟨e3, hik, hk⟩, hF⟩ := h
  have hXF : XF F S S w x K E A c bx bu := ⟨hX, FrF.rfl, hF⟩
  have hk0 : K 0 < 11 := (hp 0 (by decide)).1
  have n01 : K 0 ≠ K 1 := hp.ne (by decide) (by decide) (by decide)
  refine Cn.of rfl (by decide) (Nat.le_of_ble_eq_true rfl) (fun hN9 hM9 => ?_)
  show Wx _ G _ 0 [(0, .ref x), (1, .int y0)] [] _
  refine r_aload_n dX12_seed_0 rfl 0 rfl ?_
  refine r_callV (M2 := m_X12_beginChange) (As := []) (rest := []) dX12_seed_1 cc_X12_seed_68 rfl rfl rfl (Nat.le_of_ble_eq_true rfl) hX.t0 rfl rfl (by decide) (x_begin hXF hp h1 h2 hr) (fun v9 T1 hq1 => ?_) (fun E9 T9 hq9 => by obtain ⟨hq9, -⟩ := hq9; cases hq9)
  obtain ⟨hv9, w1, A1, c1, hx1, hh1⟩ := hq1
  cases hv9
  show Wx _ G T1 4 [(0, .ref x), (1, .int y0)] [] _
  refine r_aload_n dX12_seed_4 rfl 0 rfl ?_
  refine r_aload_n dX12_seed_5 rfl 0 rfl ?_
  refine r_getR (ci := 13) (k := 0) (b := Pl x (K 0)) dX12_seed_6 fr_X12_10 hx1.1.t0 rfl hx1.1.p416 ?_
  refine r_iload_n dX12_seed_9 rfl 1 rfl ?_
  refine r_callV (M2 := m_X7_setSeed) (As := [.int y0]) (rest := [.ref x]) dX12_seed_10 cc_X12_seed_130 rfl rfl rfl (Nat.le_of_ble_eq_true rfl) (hx1.1.off' hk0).1.1 rfl rfl (by decide) (hop T1 w1 (K 0) (Pl x (K 0)) _ _ (hx1.1.off' hk0) (by rw [up1_n n01, up1_n n01]; exact hr) (hx1.1.rm h1 h2 hk0)) (fun v9 T2 hq2 => ?_) (fun E9 T9 hq9 => by obtain ⟨hq9, -⟩ := hq9; cases hq9)
  obtain ⟨hv9, w2, A2, c2, hx2, hR2, hl2⟩ := hq2
  cases hv9
  have hx3 := hx1.off hk0 hx2
  show Wx _ G T2 13 [(0, .ref x), (1, .int y0)] [.int (nI v), .ref x] _
  refine r_callV (M2 := m_X12_endChange) (As := [.int (nI v)]) (rest := []) dX12_seed_13 cc_X12_seed_75 rfl rfl rfl (Nat.le_of_ble_eq_true rfl) hx3.1.t0 rfl rfl (by decide) (x_end hx3 hp hv hnp e1 e2 hps) (fun v9 T3 hq3 => ?_) (fun E9 T9 hq9 => by obtain ⟨hq9, -⟩ := hq9; cases hq9)
  obtain ⟨hv9, hx4⟩ := hq3
  cases hv9
  show Wx _ G T3 16 [(0, .ref x), (1, .int y0)] [.int (nI v)] _
  exact r_iret (ty := .int) dX12_seed_16 rfl rfl ⟨rfl, cst_push hp hD hnp hps hq e3 hik hk hh1 ⟨hR2, hl2⟩ hN hx4, hx4.2.1⟩
set_option maxRecDepth 4000 in
set_option maxHeartbeats 400000 in
theorem s_seed_no {G : GI} {F : Nat → Prop} {S : Hp} {x bx bu : Nat} {D : Nat → Nat → Nat} {g : Nat → Nat} {N ps : Nat} {gq : Nat → Nat → Nat} {ik : Nat} {gk : Nat → Nat} (h : CSt F S x bx bu D g N ps gq ik gk) (h1 : bx + 1 ≤ gN G) (h2 : bu + 6 ≤ gM G) {y0 kv : Int32} {EX : String} (hend : ∀ T : Hp, zX T + 1 ≤ gN G → zU T + 6 ≤ gM G → FT m_X12_endChange G [.ref x, .int kv] T EX) (hop : ∀ (T : Hp) (w : Nat → Nat) (k o : Nat) (A c : Nat → Nat), OR T w k o A c → Hol A c g N → Rm G T A → OCh m_X7_setSeed G [.ref o, .int y0] T w k o A (some (.int kv)) g N) : Cn m_X12_seed G [.ref x, .int y0] S (fun r T => r = .inr EX ∧ CSt F T x (bx + 1) (bu + 6) D g N ps gq ik gk ∧ FrF F S T) := by
  obtain ⟨w, K, E, A, c, hX, hp, hr, hD, ⟨np, hnp, e1, e2, hps, hq⟩, ⟨e3, hik, hk⟩, hF⟩ := h
  have hXF : XF F S S w x K E A c bx bu := ⟨hX, FrF.rfl, hF⟩
  have hk0 : K 0 < 11 := (hp 0 (by decide)).1
  have n01 : K 0 ≠ K 1 := hp.ne (by decide) (by decide) (by decide)
  refine Cn.of rfl (by decide) (Nat.le_of_ble_eq_true rfl) (fun hN9 hM9 => ?_)
  show Wx _ G _ 0 [(0, .ref x), (1, .int y0)] [] _
  refine r_aload_n dX12_seed_0 rfl 0 rfl ?_
  refine r_callV (M2 := m_X12_beginChange) (As := []) (rest := []) dX12_seed_1 cc_X12_seed_68 rfl rfl rfl (Nat.le_of_ble_eq_true rfl) hX.t0 rfl rfl (by decide) (x_begin hXF hp (by omega) (by omega) hr) (fun v9 T1 hq1 => ?_) (fun E9 T9 hq9 => by obtain ⟨hq9, -⟩ := hq9; cases hq9)
  obtain ⟨hv9, w1, A1, c1, hx1, hh1⟩ := hq1
  cases hv9
  show Wx _ G T1 4 [(0, .ref x), (1, .int y0)] [] _
  refine r_aload_n dX12_seed_4 rfl 0 rfl ?_
  refine r_aload_n dX12_seed_5 rfl 0 rfl ?_
  refine r_getR (ci := 13) (k := 0) (b := Pl x (K 0)) dX12_seed_6 fr_X12_10 hx1.1.t0 rfl hx1.1.p416 ?_
  refine r_iload_n dX12_seed_9 rfl 1 rfl ?_
  refine r_callV (M2 := m_X7_setSeed) (As := [.int y0]) (rest := [.ref x]) dX12_seed_10 cc_X12_seed_130 rfl rfl rfl (Nat.le_of_ble_eq_true rfl) (hx1.1.off' hk0).1.1 rfl rfl (by decide) (hop T1 w1 (K 0) (Pl x (K 0)) _ _ (hx1.1.off' hk0) (by rw [up1_n n01, up1_n n01]; exact hr) (hx1.1.rm (by omega) (by omega) hk0)) (fun v9 T2 hq2 => ?_) (fun E9 T9 hq9 => by obtain ⟨hq9, -⟩ := hq9; cases hq9)
  obtain ⟨hv9, w2, A2, c2, hx2, hR2, hl2⟩ := hq2
  cases hv9
  have hx3 := hx1.off hk0 hx2
  show Wx _ G T2 13 [(0, .ref x), (1, .int y0)] [.int kv, .ref x] _
  refine r_ftV (M2 := m_X12_endChange) (As := [.int kv]) (rest := []) dX12_seed_13 cc_X12_seed_75 rfl rfl rfl (Nat.le_of_ble_eq_true rfl) hx3.1.t0 rfl rfl (by decide) (hend T2 (hx3.hc1 h1) (hx3.hu6 h2)) rfl (fun y u q1 q2 => ⟨rfl, cst_same hp hD hnp e1 e2 hps hq e3 hik hk ⟨hR2, hl2⟩ (hx3.X q1 q2), (hx3.X q1 q2).2.1⟩)
set_option maxRecDepth 4000 in
set_option maxHeartbeats 400000 in
theorem s_raw {G : GI} {F : Nat → Prop} {S : Hp} {x bx bu : Nat} {D : Nat → Nat → Nat} {g : Nat → Nat} {N ps : Nat} {gq : Nat → Nat → Nat} {ik : Nat} {gk : Nat → Nat} (h : CSt F S x bx bu D g N ps gq ik gk) (h1 : bx ≤ gN G) (h2 : bu ≤ gM G) {y0 y1 y2 : Int32} {v : Nat} (hv : v < 2 ^ 31) {g' : Nat → Nat} {N' : Nat} (hN : N ≤ N') (hop : ∀ (T : Hp) (w : Nat → Nat) (k o : Nat) (A c : Nat → Nat), OR T w k o A c → Hol A c g N → Rm G T A → OCh m_X7_makeRaw G [.ref o, .int y0, .int y1, .int y2] T w k o A (some (.int (nI v))) g' N') : Cn m_X12_raw G [.ref x, .int y0, .int y1, .int y2] S (fun r T => r = .inl (some (.int (nI v))) ∧ CSt F T x bx bu D g' N' (if ps < 8 then ps + 1 else ps) (psh g gq) ik gk ∧ FrF F S T) := by
  obtain ⟨w, K, E, A, c, hX, hp, hr, hD, ⟨np, hnp, e1, e2, hps, hq⟩, ⟨e3, hik, hk⟩, hF⟩ := h
  have hXF : XF F S S w x K E A c bx bu := ⟨hX, FrF.rfl, hF⟩
  have hk0 : K 0 < 11 := (hp 0 (by decide)).1
  have n01 : K 0 ≠ K 1 := hp.ne (by decide) (by decide) (by decide)
  refine Cn.of rfl (by decide) (Nat.le_of_ble_eq_true rfl) (fun hN9 hM9 => ?_)
  show Wx _ G _ 0 [(0, .ref x), (1, .int y0), (2, .int y1), (3, .int y2)] [] _
  refine r_aload_n dX12_raw_0 rfl 0 rfl ?_
  refine r_callV (M2 := m_X12_beginChange) (As := []) (rest := []) dX12_raw_1 cc_X12_raw_68 rfl rfl rfl (Nat.le_of_ble_eq_true rfl) hX.t0 rfl rfl (by decide) (x_begin hXF hp h1 h2 hr) (fun v9 T1 hq1 => ?_) (fun E9 T9 hq9 => by obtain ⟨hq9, -⟩ := hq9; cases hq9)
  obtain ⟨hv9, w1, A1, c1, hx1, hh1⟩ := hq1
  cases hv9
  show Wx _ G T1 4 [(0, .ref x), (1, .int y0), (2, .int y1), (3, .int y2)] [] _
  refine r_aload_n dX12_raw_4 rfl 0 rfl ?_
  refine r_aload_n dX12_raw_5 rfl 0 rfl ?_
  refine r_getR (ci := 13) (k := 0) (b := Pl x (K 0)) dX12_raw_6 fr_X12_10 hx1.1.t0 rfl hx1.1.p416 ?_
  refine r_iload_n dX12_raw_9 rfl 1 rfl ?_
  refine r_iload_n dX12_raw_10 rfl 2 rfl ?_
  refine r_iload_n dX12_raw_11 rfl 3 rfl ?_
  refine r_callV (M2 := m_X7_makeRaw) (As := [.int y0, .int y1, .int y2]) (rest := [.ref x]) dX12_raw_12 cc_X12_raw_133 rfl rfl rfl (Nat.le_of_ble_eq_true rfl) (hx1.1.off' hk0).1.1 rfl rfl (by decide) (hop T1 w1 (K 0) (Pl x (K 0)) _ _ (hx1.1.off' hk0) (by rw [up1_n n01, up1_n n01]; exact hr) (hx1.1.rm h1 h2 hk0)) (fun v9 T2 hq2 => ?_) (fun E9 T9 hq9 => by obtain ⟨hq9, -⟩ := hq9; cases hq9)
  obtain ⟨hv9, w2, A2, c2, hx2, hR2, hl2⟩ := hq2
  cases hv9
  have hx3 := hx1.off hk0 hx2
  show Wx _ G T2 15 [(0, .ref x), (1, .int y0), (2, .int y1), (3, .int y2)] [.int (nI v), .ref x] _
  refine r_callV (M2 := m_X12_endChange) (As := [.int (nI v)]) (rest := []) dX12_raw_15 cc_X12_raw_75 rfl rfl rfl (Nat.le_of_ble_eq_true rfl) hx3.1.t0 rfl rfl (by decide) (x_end hx3 hp hv hnp e1 e2 hps) (fun v9 T3 hq3 => ?_) (fun E9 T9 hq9 => by obtain ⟨hq9, -⟩ := hq9; cases hq9)
  obtain ⟨hv9, hx4⟩ := hq3
  cases hv9
  show Wx _ G T3 18 [(0, .ref x), (1, .int y0), (2, .int y1), (3, .int y2)] [.int (nI v)] _
  exact r_iret (ty := .int) dX12_raw_18 rfl rfl ⟨rfl, cst_push hp hD hnp hps hq e3 hik hk hh1 ⟨hR2, hl2⟩ hN hx4, hx4.2.1⟩
set_option maxRecDepth 4000 in
set_option maxHeartbeats 400000 in
theorem s_raw_no {G : GI} {F : Nat → Prop} {S : Hp} {x bx bu : Nat} {D : Nat → Nat → Nat} {g : Nat → Nat} {N ps : Nat} {gq : Nat → Nat → Nat} {ik : Nat} {gk : Nat → Nat} (h : CSt F S x bx bu D g N ps gq ik gk) (h1 : bx + 1 ≤ gN G) (h2 : bu + 6 ≤ gM G) {y0 y1 y2 kv : Int32} {EX : String} (hend : ∀ T : Hp, zX T + 1 ≤ gN G → zU T + 6 ≤ gM G → FT m_X12_endChange G [.ref x, .int kv] T EX) (hop : ∀ (T : Hp) (w : Nat → Nat) (k o : Nat) (A c : Nat → Nat), OR T w k o A c → Hol A c g N → Rm G T A → OCh m_X7_makeRaw G [.ref o, .int y0, .int y1, .int y2] T w k o A (some (.int kv)) g N) : Cn m_X12_raw G [.ref x, .int y0, .int y1, .int y2] S (fun r T => r = .inr EX ∧ CSt F T x (bx + 1) (bu + 6) D g N ps gq ik gk ∧ FrF F S T) := by
  obtain ⟨w, K, E, A, c, hX, hp, hr, hD, ⟨np, hnp, e1, e2, hps, hq⟩, ⟨e3, hik, hk⟩, hF⟩ := h
  have hXF : XF F S S w x K E A c bx bu := ⟨hX, FrF.rfl, hF⟩
  have hk0 : K 0 < 11 := (hp 0 (by decide)).1
  have n01 : K 0 ≠ K 1 := hp.ne (by decide) (by decide) (by decide)
  refine Cn.of rfl (by decide) (Nat.le_of_ble_eq_true rfl) (fun hN9 hM9 => ?_)
  show Wx _ G _ 0 [(0, .ref x), (1, .int y0), (2, .int y1), (3, .int y2)] [] _
  refine r_aload_n dX12_raw_0 rfl 0 rfl ?_
  refine r_callV (M2 := m_X12_beginChange) (As := []) (rest := []) dX12_raw_1 cc_X12_raw_68 rfl rfl rfl (Nat.le_of_ble_eq_true rfl) hX.t0 rfl rfl (by decide) (x_begin hXF hp (by omega) (by omega) hr) (fun v9 T1 hq1 => ?_) (fun E9 T9 hq9 => by obtain ⟨hq9, -⟩ := hq9; cases hq9)
  obtain ⟨hv9, w1, A1, c1, hx1, hh1⟩ := hq1
  cases hv9
  show Wx _ G T1 4 [(0, .ref x), (1, .int y0), (2, .int y1), (3, .int y2)] [] _
  refine r_aload_n dX12_raw_4 rfl 0 rfl ?_
  refine r_aload_n dX12_raw_5 rfl 0 rfl ?_
  refine r_getR (ci := 13) (k := 0) (b := Pl x (K 0)) dX12_raw_6 fr_X12_10 hx1.1.t0 rfl hx1.1.p416 ?_
  refine r_iload_n dX12_raw_9 rfl 1 rfl ?_
  refine r_iload_n dX12_raw_10 rfl 2 rfl ?_
  refine r_iload_n dX12_raw_11 rfl 3 rfl ?_
  refine r_callV (M2 := m_X7_makeRaw) (As := [.int y0, .int y1, .int y2]) (rest := [.ref x]) dX12_raw_12 cc_X12_raw_133 rfl rfl rfl (Nat.le_of_ble_eq_true rfl) (hx1.1.off' hk0).1.1 rfl rfl (by decide) (hop T1 w1 (K 0) (Pl x (K 0)) _ _ (hx1.1.off' hk0) (by rw [up1_n n01, up1_n n01]; exact hr) (hx1.1.rm (by omega) (by omega) hk0)) (fun v9 T2 hq2 => ?_) (fun E9 T9 hq9 => by obtain ⟨hq9, -⟩ := hq9; cases hq9)
  obtain ⟨hv9, w2, A2, c2, hx2, hR2, hl2⟩ := hq2
  cases hv9
  have hx3 := hx1.off hk0 hx2
  show Wx _ G T2 15 [(0, .ref x), (1, .int y0), (2, .int y1), (3, .int y2)] [.int kv, .ref x] _
  refine r_ftV (M2 := m_X12_endChange) (As := [.int kv]) (rest := []) dX12_raw_15 cc_X12_raw_75 rfl rfl rfl (Nat.le_of_ble_eq_true rfl) hx3.1.t0 rfl rfl (by decide) (hend T2 (hx3.hc1 h1) (hx3.hu6 h2)) rfl (fun y u q1 q2 => ⟨rfl, cst_same hp hD hnp e1 e2 hps hq e3 hik hk ⟨hR2, hl2⟩ (hx3.X q1 q2), (hx3.X q1 q2).2.1⟩)
set_option maxRecDepth 4000 in
set_option maxHeartbeats 400000 in
theorem s_make {G : GI} {F : Nat → Prop} {S : Hp} {x bx bu : Nat} {D : Nat → Nat → Nat} {g : Nat → Nat} {N ps : Nat} {gq : Nat → Nat → Nat} {ik : Nat} {gk : Nat → Nat} (h : CSt F S x bx bu D g N ps gq ik gk) (h1 : bx ≤ gN G) (h2 : bu ≤ gM G) {y0 y1 y2 y3 y4 y5 : Int32} {v : Nat} (hv : v < 2 ^ 31) {g' : Nat → Nat} {N' : Nat} (hN : N ≤ N') (hop : ∀ (T : Hp) (w : Nat → Nat) (k o : Nat) (A c : Nat → Nat), OR T w k o A c → Hol A c g N → Rm G T A → OCh m_X7_assemble G [.ref o, .int y0, .int y1, .int y2, .int y3, .int y4, .int y5] T w k o A (some (.int (nI v))) g' N') : Cn m_X12_make G [.ref x, .int y0, .int y1, .int y2, .int y3, .int y4, .int y5] S (fun r T => r = .inl (some (.int (nI v))) ∧ CSt F T x bx bu D g' N' (if ps < 8 then ps + 1 else ps) (psh g gq) ik gk ∧ FrF F S T) := by
  obtain ⟨w, K, E, A, c, hX, hp, hr, hD, ⟨np, hnp, e1, e2, hps, hq⟩, ⟨e3, hik, hk⟩, hF⟩ := h
  have hXF : XF F S S w x K E A c bx bu := ⟨hX, FrF.rfl, hF⟩
  have hk0 : K 0 < 11 := (hp 0 (by decide)).1
  have n01 : K 0 ≠ K 1 := hp.ne (by decide) (by decide) (by decide)
  refine Cn.of rfl (by decide) (Nat.le_of_ble_eq_true rfl) (fun hN9 hM9 => ?_)
  show Wx _ G _ 0 [(0, .ref x), (1, .int y0), (2, .int y1), (3, .int y2), (4, .int y3), (5, .int y4), (6, .int y5)] [] _
  refine r_aload_n dX12_make_0 rfl 0 rfl ?_
  refine r_callV (M2 := m_X12_beginChange) (As := []) (rest := []) dX12_make_1 cc_X12_make_68 rfl rfl rfl (Nat.le_of_ble_eq_true rfl) hX.t0 rfl rfl (by decide) (x_begin hXF hp h1 h2 hr) (fun v9 T1 hq1 => ?_) (fun E9 T9 hq9 => by obtain ⟨hq9, -⟩ := hq9; cases hq9)
  obtain ⟨hv9, w1, A1, c1, hx1, hh1⟩ := hq1
  cases hv9
  show Wx _ G T1 4 [(0, .ref x), (1, .int y0), (2, .int y1), (3, .int y2), (4, .int y3), (5, .int y4), (6, .int y5)] [] _
  refine r_aload_n dX12_make_4 rfl 0 rfl ?_
  refine r_aload_n dX12_make_5 rfl 0 rfl ?_
  refine r_getR (ci := 13) (k := 0) (b := Pl x (K 0)) dX12_make_6 fr_X12_10 hx1.1.t0 rfl hx1.1.p416 ?_
  refine r_iload_n dX12_make_9 rfl 1 rfl ?_
  refine r_iload_n dX12_make_10 rfl 2 rfl ?_
  refine r_iload_n dX12_make_11 rfl 3 rfl ?_
  refine r_iload dX12_make_12 4 rfl ?_
  refine r_iload dX12_make_14 5 rfl ?_
  refine r_iload dX12_make_16 6 rfl ?_
  refine r_callV (M2 := m_X7_assemble) (As := [.int y0, .int y1, .int y2, .int y3, .int y4, .int y5]) (rest := [.ref x]) dX12_make_18 cc_X12_make_136 rfl rfl rfl (Nat.le_of_ble_eq_true rfl) (hx1.1.off' hk0).1.1 rfl rfl (by decide) (hop T1 w1 (K 0) (Pl x (K 0)) _ _ (hx1.1.off' hk0) (by rw [up1_n n01, up1_n n01]; exact hr) (hx1.1.rm h1 h2 hk0)) (fun v9 T2 hq2 => ?_) (fun E9 T9 hq9 => by obtain ⟨hq9, -⟩ := hq9; cases hq9)
  obtain ⟨hv9, w2, A2, c2, hx2, hR2, hl2⟩ := hq2
  cases hv9
  have hx3 := hx1.off hk0 hx2
  show Wx _ G T2 21 [(0, .ref x), (1, .int y0), (2, .int y1), (3, .int y2), (4, .int y3), (5, .int y4), (6, .int y5)] [.int (nI v), .ref x] _
  refine r_callV (M2 := m_X12_endChange) (As := [.int (nI v)]) (rest := []) dX12_make_21 cc_X12_make_75 rfl rfl rfl (Nat.le_of_ble_eq_true rfl) hx3.1.t0 rfl rfl (by decide) (x_end hx3 hp hv hnp e1 e2 hps) (fun v9 T3 hq3 => ?_) (fun E9 T9 hq9 => by obtain ⟨hq9, -⟩ := hq9; cases hq9)
  obtain ⟨hv9, hx4⟩ := hq3
  cases hv9
  show Wx _ G T3 24 [(0, .ref x), (1, .int y0), (2, .int y1), (3, .int y2), (4, .int y3), (5, .int y4), (6, .int y5)] [.int (nI v)] _
  exact r_iret (ty := .int) dX12_make_24 rfl rfl ⟨rfl, cst_push hp hD hnp hps hq e3 hik hk hh1 ⟨hR2, hl2⟩ hN hx4, hx4.2.1⟩
set_option maxRecDepth 4000 in
set_option maxHeartbeats 400000 in
theorem s_make_no {G : GI} {F : Nat → Prop} {S : Hp} {x bx bu : Nat} {D : Nat → Nat → Nat} {g : Nat → Nat} {N ps : Nat} {gq : Nat → Nat → Nat} {ik : Nat} {gk : Nat → Nat} (h : CSt F S x bx bu D g N ps gq ik gk) (h1 : bx + 1 ≤ gN G) (h2 : bu + 6 ≤ gM G) {y0 y1 y2 y3 y4 y5 kv : Int32} {EX : String} (hend : ∀ T : Hp, zX T + 1 ≤ gN G → zU T + 6 ≤ gM G → FT m_X12_endChange G [.ref x, .int kv] T EX) (hop : ∀ (T : Hp) (w : Nat → Nat) (k o : Nat) (A c : Nat → Nat), OR T w k o A c → Hol A c g N → Rm G T A → OCh m_X7_assemble G [.ref o, .int y0, .int y1, .int y2, .int y3, .int y4, .int y5] T w k o A (some (.int kv)) g N) : Cn m_X12_make G [.ref x, .int y0, .int y1, .int y2, .int y3, .int y4, .int y5] S (fun r T => r = .inr EX ∧ CSt F T x (bx + 1) (bu + 6) D g N ps gq ik gk ∧ FrF F S T) := by
  obtain ⟨w, K, E, A, c, hX, hp, hr, hD, ⟨np, hnp, e1, e2, hps, hq⟩, ⟨e3, hik, hk⟩, hF⟩ := h
  have hXF : XF F S S w x K E A c bx bu := ⟨hX, FrF.rfl, hF⟩
  have hk0 : K 0 < 11 := (hp 0 (by decide)).1
  have n01 : K 0 ≠ K 1 := hp.ne (by decide) (by decide) (by decide)
  refine Cn.of rfl (by decide) (Nat.le_of_ble_eq_true rfl) (fun hN9 hM9 => ?_)
  show Wx _ G _ 0 [(0, .ref x), (1, .int y0), (2, .int y1), (3, .int y2), (4, .int y3), (5, .int y4), (6, .int y5)] [] _
  refine r_aload_n dX12_make_0 rfl 0 rfl ?_
  refine r_callV (M2 := m_X12_beginChange) (As := []) (rest := []) dX12_make_1 cc_X12_make_68 rfl rfl rfl (Nat.le_of_ble_eq_true rfl) hX.t0 rfl rfl (by decide) (x_begin hXF hp (by omega) (by omega) hr) (fun v9 T1 hq1 => ?_) (fun E9 T9 hq9 => by obtain ⟨hq9, -⟩ := hq9; cases hq9)
  obtain ⟨hv9, w1, A1, c1, hx1, hh1⟩ := hq1
  cases hv9
  show Wx _ G T1 4 [(0, .ref x), (1, .int y0), (2, .int y1), (3, .int y2), (4, .int y3), (5, .int y4), (6, .int y5)] [] _
  refine r_aload_n dX12_make_4 rfl 0 rfl ?_
  refine r_aload_n dX12_make_5 rfl 0 rfl ?_
  refine r_getR (ci := 13) (k := 0) (b := Pl x (K 0)) dX12_make_6 fr_X12_10 hx1.1.t0 rfl hx1.1.p416 ?_
  refine r_iload_n dX12_make_9 rfl 1 rfl ?_
  refine r_iload_n dX12_make_10 rfl 2 rfl ?_
  refine r_iload_n dX12_make_11 rfl 3 rfl ?_
  refine r_iload dX12_make_12 4 rfl ?_
  refine r_iload dX12_make_14 5 rfl ?_
  refine r_iload dX12_make_16 6 rfl ?_
  refine r_callV (M2 := m_X7_assemble) (As := [.int y0, .int y1, .int y2, .int y3, .int y4, .int y5]) (rest := [.ref x]) dX12_make_18 cc_X12_make_136 rfl rfl rfl (Nat.le_of_ble_eq_true rfl) (hx1.1.off' hk0).1.1 rfl rfl (by decide) (hop T1 w1 (K 0) (Pl x (K 0)) _ _ (hx1.1.off' hk0) (by rw [up1_n n01, up1_n n01]; exact hr) (hx1.1.rm (by omega) (by omega) hk0)) (fun v9 T2 hq2 => ?_) (fun E9 T9 hq9 => by obtain ⟨hq9, -⟩ := hq9; cases hq9)
  obtain ⟨hv9, w2, A2, c2, hx2, hR2, hl2⟩ := hq2
  cases hv9
  have hx3 := hx1.off hk0 hx2
  show Wx _ G T2 21 [(0, .ref x), (1, .int y0), (2, .int y1), (3, .int y2), (4, .int y3), (5, .int y4), (6, .int y5)] [.int kv, .ref x] _
  refine r_ftV (M2 := m_X12_endChange) (As := [.int kv]) (rest := []) dX12_make_21 cc_X12_make_75 rfl rfl rfl (Nat.le_of_ble_eq_true rfl) hx3.1.t0 rfl rfl (by decide) (hend T2 (hx3.hc1 h1) (hx3.hu6 h2)) rfl (fun y u q1 q2 => ⟨rfl, cst_same hp hD hnp e1 e2 hps hq e3 hik hk ⟨hR2, hl2⟩ (hx3.X q1 q2), (hx3.X q1 q2).2.1⟩)
set_option maxRecDepth 4000 in
set_option maxHeartbeats 400000 in
theorem s_inspect {G : GI} {F : Nat → Prop} {S : Hp} {x bx bu : Nat} {D : Nat → Nat → Nat} {g : Nat → Nat} {N ps : Nat} {gq : Nat → Nat → Nat} {ik : Nat} {gk : Nat → Nat} (h : CSt F S x bx bu D g N ps gq ik gk) (h1 : bx ≤ gN G) (h2 : bu ≤ gM G) {y0 : Int32} {v : Nat} (hv : v < 2 ^ 31) {g' : Nat → Nat} {N' : Nat} (hN : N ≤ N') (hop : ∀ (T : Hp) (w : Nat → Nat) (k o : Nat) (A c : Nat → Nat), OR T w k o A c → Hol A c g N → Rm G T A → OCh m_X7_inspectLot G [.ref o, .int y0] T w k o A (some (.int (nI v))) g' N') : Cn m_X12_inspect G [.ref x, .int y0] S (fun r T => r = .inl (some (.int (nI v))) ∧ CSt F T x bx bu D g' N' (if ps < 8 then ps + 1 else ps) (psh g gq) ik gk ∧ FrF F S T) := by
  obtain ⟨w, K, E, A, c, hX, hp, hr, hD, ⟨np, hnp, e1, e2, hps, hq⟩, ⟨e3, hik, hk⟩, hF⟩ := h
  have hXF : XF F S S w x K E A c bx bu := ⟨hX, FrF.rfl, hF⟩
  have hk0 : K 0 < 11 := (hp 0 (by decide)).1
  have n01 : K 0 ≠ K 1 := hp.ne (by decide) (by decide) (by decide)
  refine Cn.of rfl (by decide) (Nat.le_of_ble_eq_true rfl) (fun hN9 hM9 => ?_)
  show Wx _ G _ 0 [(0, .ref x), (1, .int y0)] [] _
  refine r_aload_n dX12_inspect_0 rfl 0 rfl ?_
  refine r_callV (M2 := m_X12_beginChange) (As := []) (rest := []) dX12_inspect_1 cc_X12_inspect_68 rfl rfl rfl (Nat.le_of_ble_eq_true rfl) hX.t0 rfl rfl (by decide) (x_begin hXF hp h1 h2 hr) (fun v9 T1 hq1 => ?_) (fun E9 T9 hq9 => by obtain ⟨hq9, -⟩ := hq9; cases hq9)
  obtain ⟨hv9, w1, A1, c1, hx1, hh1⟩ := hq1
  cases hv9
  show Wx _ G T1 4 [(0, .ref x), (1, .int y0)] [] _
  refine r_aload_n dX12_inspect_4 rfl 0 rfl ?_
  refine r_aload_n dX12_inspect_5 rfl 0 rfl ?_
  refine r_getR (ci := 13) (k := 0) (b := Pl x (K 0)) dX12_inspect_6 fr_X12_10 hx1.1.t0 rfl hx1.1.p416 ?_
  refine r_iload_n dX12_inspect_9 rfl 1 rfl ?_
  refine r_callV (M2 := m_X7_inspectLot) (As := [.int y0]) (rest := [.ref x]) dX12_inspect_10 cc_X12_inspect_140 rfl rfl rfl (Nat.le_of_ble_eq_true rfl) (hx1.1.off' hk0).1.1 rfl rfl (by decide) (hop T1 w1 (K 0) (Pl x (K 0)) _ _ (hx1.1.off' hk0) (by rw [up1_n n01, up1_n n01]; exact hr) (hx1.1.rm h1 h2 hk0)) (fun v9 T2 hq2 => ?_) (fun E9 T9 hq9 => by obtain ⟨hq9, -⟩ := hq9; cases hq9)
  obtain ⟨hv9, w2, A2, c2, hx2, hR2, hl2⟩ := hq2
  cases hv9
  have hx3 := hx1.off hk0 hx2
  show Wx _ G T2 13 [(0, .ref x), (1, .int y0)] [.int (nI v), .ref x] _
  refine r_callV (M2 := m_X12_endChange) (As := [.int (nI v)]) (rest := []) dX12_inspect_13 cc_X12_inspect_75 rfl rfl rfl (Nat.le_of_ble_eq_true rfl) hx3.1.t0 rfl rfl (by decide) (x_end hx3 hp hv hnp e1 e2 hps) (fun v9 T3 hq3 => ?_) (fun E9 T9 hq9 => by obtain ⟨hq9, -⟩ := hq9; cases hq9)
  obtain ⟨hv9, hx4⟩ := hq3
  cases hv9
  show Wx _ G T3 16 [(0, .ref x), (1, .int y0)] [.int (nI v)] _
  exact r_iret (ty := .int) dX12_inspect_16 rfl rfl ⟨rfl, cst_push hp hD hnp hps hq e3 hik hk hh1 ⟨hR2, hl2⟩ hN hx4, hx4.2.1⟩
set_option maxRecDepth 4000 in
set_option maxHeartbeats 400000 in
theorem s_inspect_no {G : GI} {F : Nat → Prop} {S : Hp} {x bx bu : Nat} {D : Nat → Nat → Nat} {g : Nat → Nat} {N ps : Nat} {gq : Nat → Nat → Nat} {ik : Nat} {gk : Nat → Nat} (h : CSt F S x bx bu D g N ps gq ik gk) (h1 : bx + 1 ≤ gN G) (h2 : bu + 6 ≤ gM G) {y0 kv : Int32} {EX : String} (hend : ∀ T : Hp, zX T + 1 ≤ gN G → zU T + 6 ≤ gM G → FT m_X12_endChange G [.ref x, .int kv] T EX) (hop : ∀ (T : Hp) (w : Nat → Nat) (k o : Nat) (A c : Nat → Nat), OR T w k o A c → Hol A c g N → Rm G T A → OCh m_X7_inspectLot G [.ref o, .int y0] T w k o A (some (.int kv)) g N) : Cn m_X12_inspect G [.ref x, .int y0] S (fun r T => r = .inr EX ∧ CSt F T x (bx + 1) (bu + 6) D g N ps gq ik gk ∧ FrF F S T) := by
  obtain ⟨w, K, E, A, c, hX, hp, hr, hD, ⟨np, hnp, e1, e2, hps, hq⟩, ⟨e3, hik, hk⟩, hF⟩ := h
  have hXF : XF F S S w x K E A c bx bu := ⟨hX, FrF.rfl, hF⟩
  have hk0 : K 0 < 11 := (hp 0 (by decide)).1
  have n01 : K 0 ≠ K 1 := hp.ne (by decide) (by decide) (by decide)
  refine Cn.of rfl (by decide) (Nat.le_of_ble_eq_true rfl) (fun hN9 hM9 => ?_)
  show Wx _ G _ 0 [(0, .ref x), (1, .int y0)] [] _
  refine r_aload_n dX12_inspect_0 rfl 0 rfl ?_
  refine r_callV (M2 := m_X12_beginChange) (As := []) (rest := []) dX12_inspect_1 cc_X12_inspect_68 rfl rfl rfl (Nat.le_of_ble_eq_true rfl) hX.t0 rfl rfl (by decide) (x_begin hXF hp (by omega) (by omega) hr) (fun v9 T1 hq1 => ?_) (fun E9 T9 hq9 => by obtain ⟨hq9, -⟩ := hq9; cases hq9)
  obtain ⟨hv9, w1, A1, c1, hx1, hh1⟩ := hq1
  cases hv9
  show Wx _ G T1 4 [(0, .ref x), (1, .int y0)] [] _
  refine r_aload_n dX12_inspect_4 rfl 0 rfl ?_
  refine r_aload_n dX12_inspect_5 rfl 0 rfl ?_
  refine r_getR (ci := 13) (k := 0) (b := Pl x (K 0)) dX12_inspect_6 fr_X12_10 hx1.1.t0 rfl hx1.1.p416 ?_
  refine r_iload_n dX12_inspect_9 rfl 1 rfl ?_
  refine r_callV (M2 := m_X7_inspectLot) (As := [.int y0]) (rest := [.ref x]) dX12_inspect_10 cc_X12_inspect_140 rfl rfl rfl (Nat.le_of_ble_eq_true rfl) (hx1.1.off' hk0).1.1 rfl rfl (by decide) (hop T1 w1 (K 0) (Pl x (K 0)) _ _ (hx1.1.off' hk0) (by rw [up1_n n01, up1_n n01]; exact hr) (hx1.1.rm (by omega) (by omega) hk0)) (fun v9 T2 hq2 => ?_) (fun E9 T9 hq9 => by obtain ⟨hq9, -⟩ := hq9; cases hq9)
  obtain ⟨hv9, w2, A2, c2, hx2, hR2, hl2⟩ := hq2
  cases hv9
  have hx3 := hx1.off hk0 hx2
  show Wx _ G T2 13 [(0, .ref x), (1, .int y0)] [.int kv, .ref x] _
  refine r_ftV (M2 := m_X12_endChange) (As := [.int kv]) (rest := []) dX12_inspect_13 cc_X12_inspect_75 rfl rfl rfl (Nat.le_of_ble_eq_true rfl) hx3.1.t0 rfl rfl (by decide) (hend T2 (hx3.hc1 h1) (hx3.hu6 h2)) rfl (fun y u q1 q2 => ⟨rfl, cst_same hp hD hnp e1 e2 hps hq e3 hik hk ⟨hR2, hl2⟩ (hx3.X q1 q2), (hx3.X q1 q2).2.1⟩)
set_option maxRecDepth 4000 in
set_option maxHeartbeats 400000 in
theorem s_sort {G : GI} {F : Nat → Prop} {S : Hp} {x bx bu : Nat} {D : Nat → Nat → Nat} {g : Nat → Nat} {N ps : Nat} {gq : Nat → Nat → Nat} {ik : Nat} {gk : Nat → Nat} (h : CSt F S x bx bu D g N ps gq ik gk) (h1 : bx ≤ gN G) (h2 : bu ≤ gM G) {y0 : Int32} {v : Nat} (hv : v < 2 ^ 31) {g' : Nat → Nat} {N' : Nat} (hN : N ≤ N') (hop : ∀ (T : Hp) (w : Nat → Nat) (k o : Nat) (A c : Nat → Nat), OR T w k o A c → Hol A c g N → Rm G T A → OCh m_X7_sortLot G [.ref o, .int y0] T w k o A (some (.int (nI v))) g' N') : Cn m_X12_sort G [.ref x, .int y0] S (fun r T => r = .inl (some (.int (nI v))) ∧ CSt F T x bx bu D g' N' (if ps < 8 then ps + 1 else ps) (psh g gq) ik gk ∧ FrF F S T) := by
  obtain ⟨w, K, E, A, c, hX, hp, hr, hD, ⟨np, hnp, e1, e2, hps, hq⟩, ⟨e3, hik, hk⟩, hF⟩ := h
  have hXF : XF F S S w x K E A c bx bu := ⟨hX, FrF.rfl, hF⟩
  have hk0 : K 0 < 11 := (hp 0 (by decide)).1
  have n01 : K 0 ≠ K 1 := hp.ne (by decide) (by decide) (by decide)
  refine Cn.of rfl (by decide) (Nat.le_of_ble_eq_true rfl) (fun hN9 hM9 => ?_)
  show Wx _ G _ 0 [(0, .ref x), (1, .int y0)] [] _
  refine r_aload_n dX12_sort_0 rfl 0 rfl ?_
  refine r_callV (M2 := m_X12_beginChange) (As := []) (rest := []) dX12_sort_1 cc_X12_sort_68 rfl rfl rfl (Nat.le_of_ble_eq_true rfl) hX.t0 rfl rfl (by decide) (x_begin hXF hp h1 h2 hr) (fun v9 T1 hq1 => ?_) (fun E9 T9 hq9 => by obtain ⟨hq9, -⟩ := hq9; cases hq9)
  obtain ⟨hv9, w1, A1, c1, hx1, hh1⟩ := hq1
  cases hv9
  show Wx _ G T1 4 [(0, .ref x), (1, .int y0)] [] _
  refine r_aload_n dX12_sort_4 rfl 0 rfl ?_
  refine r_aload_n dX12_sort_5 rfl 0 rfl ?_
  refine r_getR (ci := 13) (k := 0) (b := Pl x (K 0)) dX12_sort_6 fr_X12_10 hx1.1.t0 rfl hx1.1.p416 ?_
  refine r_iload_n dX12_sort_9 rfl 1 rfl ?_
  refine r_callV (M2 := m_X7_sortLot) (As := [.int y0]) (rest := [.ref x]) dX12_sort_10 cc_X12_sort_143 rfl rfl rfl (Nat.le_of_ble_eq_true rfl) (hx1.1.off' hk0).1.1 rfl rfl (by decide) (hop T1 w1 (K 0) (Pl x (K 0)) _ _ (hx1.1.off' hk0) (by rw [up1_n n01, up1_n n01]; exact hr) (hx1.1.rm h1 h2 hk0)) (fun v9 T2 hq2 => ?_) (fun E9 T9 hq9 => by obtain ⟨hq9, -⟩ := hq9; cases hq9)
  obtain ⟨hv9, w2, A2, c2, hx2, hR2, hl2⟩ := hq2
  cases hv9
  have hx3 := hx1.off hk0 hx2
  show Wx _ G T2 13 [(0, .ref x), (1, .int y0)] [.int (nI v), .ref x] _
  refine r_callV (M2 := m_X12_endChange) (As := [.int (nI v)]) (rest := []) dX12_sort_13 cc_X12_sort_75 rfl rfl rfl (Nat.le_of_ble_eq_true rfl) hx3.1.t0 rfl rfl (by decide) (x_end hx3 hp hv hnp e1 e2 hps) (fun v9 T3 hq3 => ?_) (fun E9 T9 hq9 => by obtain ⟨hq9, -⟩ := hq9; cases hq9)
  obtain ⟨hv9, hx4⟩ := hq3
  cases hv9
  show Wx _ G T3 16 [(0, .ref x), (1, .int y0)] [.int (nI v)] _
  exact r_iret (ty := .int) dX12_sort_16 rfl rfl ⟨rfl, cst_push hp hD hnp hps hq e3 hik hk hh1 ⟨hR2, hl2⟩ hN hx4, hx4.2.1⟩
set_option maxRecDepth 4000 in
set_option maxHeartbeats 400000 in
theorem s_sort_no {G : GI} {F : Nat → Prop} {S : Hp} {x bx bu : Nat} {D : Nat → Nat → Nat} {g : Nat → Nat} {N ps : Nat} {gq : Nat → Nat → Nat} {ik : Nat} {gk : Nat → Nat} (h : CSt F S x bx bu D g N ps gq ik gk) (h1 : bx + 1 ≤ gN G) (h2 : bu + 6 ≤ gM G) {y0 kv : Int32} {EX : String} (hend : ∀ T : Hp, zX T + 1 ≤ gN G → zU T + 6 ≤ gM G → FT m_X12_endChange G [.ref x, .int kv] T EX) (hop : ∀ (T : Hp) (w : Nat → Nat) (k o : Nat) (A c : Nat → Nat), OR T w k o A c → Hol A c g N → Rm G T A → OCh m_X7_sortLot G [.ref o, .int y0] T w k o A (some (.int kv)) g N) : Cn m_X12_sort G [.ref x, .int y0] S (fun r T => r = .inr EX ∧ CSt F T x (bx + 1) (bu + 6) D g N ps gq ik gk ∧ FrF F S T) := by
  obtain ⟨w, K, E, A, c, hX, hp, hr, hD, ⟨np, hnp, e1, e2, hps, hq⟩, ⟨e3, hik, hk⟩, hF⟩ := h
  have hXF : XF F S S w x K E A c bx bu := ⟨hX, FrF.rfl, hF⟩
  have hk0 : K 0 < 11 := (hp 0 (by decide)).1
  have n01 : K 0 ≠ K 1 := hp.ne (by decide) (by decide) (by decide)
  refine Cn.of rfl (by decide) (Nat.le_of_ble_eq_true rfl) (fun hN9 hM9 => ?_)
  show Wx _ G _ 0 [(0, .ref x), (1, .int y0)] [] _
  refine r_aload_n dX12_sort_0 rfl 0 rfl ?_
  refine r_callV (M2 := m_X12_beginChange) (As := []) (rest := []) dX12_sort_1 cc_X12_sort_68 rfl rfl rfl (Nat.le_of_ble_eq_true rfl) hX.t0 rfl rfl (by decide) (x_begin hXF hp (by omega) (by omega) hr) (fun v9 T1 hq1 => ?_) (fun E9 T9 hq9 => by obtain ⟨hq9, -⟩ := hq9; cases hq9)
  obtain ⟨hv9, w1, A1, c1, hx1, hh1⟩ := hq1
  cases hv9
  show Wx _ G T1 4 [(0, .ref x), (1, .int y0)] [] _
  refine r_aload_n dX12_sort_4 rfl 0 rfl ?_
  refine r_aload_n dX12_sort_5 rfl 0 rfl ?_
  refine r_getR (ci := 13) (k := 0) (b := Pl x (K 0)) dX12_sort_6 fr_X12_10 hx1.1.t0 rfl hx1.1.p416 ?_
  refine r_iload_n dX12_sort_9 rfl 1 rfl ?_
  refine r_callV (M2 := m_X7_sortLot) (As := [.int y0]) (rest := [.ref x]) dX12_sort_10 cc_X12_sort_143 rfl rfl rfl (Nat.le_of_ble_eq_true rfl) (hx1.1.off' hk0).1.1 rfl rfl (by decide) (hop T1 w1 (K 0) (Pl x (K 0)) _ _ (hx1.1.off' hk0) (by rw [up1_n n01, up1_n n01]; exact hr) (hx1.1.rm (by omega) (by omega) hk0)) (fun v9 T2 hq2 => ?_) (fun E9 T9 hq9 => by obtain ⟨hq9, -⟩ := hq9; cases hq9)
  obtain ⟨hv9, w2, A2, c2, hx2, hR2, hl2⟩ := hq2
  cases hv9
  have hx3 := hx1.off hk0 hx2
  show Wx _ G T2 13 [(0, .ref x), (1, .int y0)] [.int kv, .ref x] _
  refine r_ftV (M2 := m_X12_endChange) (As := [.int kv]) (rest := []) dX12_sort_13 cc_X12_sort_75 rfl rfl rfl (Nat.le_of_ble_eq_true rfl) hx3.1.t0 rfl rfl (by decide) (hend T2 (hx3.hc1 h1) (hx3.hu6 h2)) rfl (fun y u q1 q2 => ⟨rfl, cst_same hp hD hnp e1 e2 hps hq e3 hik hk ⟨hR2, hl2⟩ (hx3.X q1 q2), (hx3.X q1 q2).2.1⟩)
set_option maxRecDepth 4000 in
set_option maxHeartbeats 400000 in
theorem s_ship {G : GI} {F : Nat → Prop} {S : Hp} {x bx bu : Nat} {D : Nat → Nat → Nat} {g : Nat → Nat} {N ps : Nat} {gq : Nat → Nat → Nat} {ik : Nat} {gk : Nat → Nat} (h : CSt F S x bx bu D g N ps gq ik gk) (h1 : bx ≤ gN G) (h2 : bu ≤ gM G) {y0 : Int32} {v : Nat} (hv : v < 2 ^ 31) {g' : Nat → Nat} {N' : Nat} (hN : N ≤ N') (hop : ∀ (T : Hp) (w : Nat → Nat) (k o : Nat) (A c : Nat → Nat), OR T w k o A c → Hol A c g N → Rm G T A → OCh m_X7_shipLot G [.ref o, .int y0] T w k o A (some (.int (nI v))) g' N') : Cn m_X12_ship G [.ref x, .int y0] S (fun r T => r = .inl (some (.int (nI v))) ∧ CSt F T x bx bu D g' N' (if ps < 8 then ps + 1 else ps) (psh g gq) ik gk ∧ FrF F S T) := by
  obtain ⟨w, K, E, A, c, hX, hp, hr, hD, ⟨np, hnp, e1, e2, hps, hq⟩, ⟨e3, hik, hk⟩, hF⟩ := h
  have hXF : XF F S S w x K E A c bx bu := ⟨hX, FrF.rfl, hF⟩
  have hk0 : K 0 < 11 := (hp 0 (by decide)).1
  have n01 : K 0 ≠ K 1 := hp.ne (by decide) (by decide) (by decide)
  refine Cn.of rfl (by decide) (Nat.le_of_ble_eq_true rfl) (fun hN9 hM9 => ?_)
  show Wx _ G _ 0 [(0, .ref x), (1, .int y0)] [] _
  refine r_aload_n dX12_ship_0 rfl 0 rfl ?_
  refine r_callV (M2 := m_X12_beginChange) (As := []) (rest := []) dX12_ship_1 cc_X12_ship_68 rfl rfl rfl (Nat.le_of_ble_eq_true rfl) hX.t0 rfl rfl (by decide) (x_begin hXF hp h1 h2 hr) (fun v9 T1 hq1 => ?_) (fun E9 T9 hq9 => by obtain ⟨hq9, -⟩ := hq9; cases hq9)
  obtain ⟨hv9, w1, A1, c1, hx1, hh1⟩ := hq1
  cases hv9
  show Wx _ G T1 4 [(0, .ref x), (1, .int y0)] [] _
  refine r_aload_n dX12_ship_4 rfl 0 rfl ?_
  refine r_aload_n dX12_ship_5 rfl 0 rfl ?_
  refine r_getR (ci := 13) (k := 0) (b := Pl x (K 0)) dX12_ship_6 fr_X12_10 hx1.1.t0 rfl hx1.1.p416 ?_
  refine r_iload_n dX12_ship_9 rfl 1 rfl ?_
  refine r_callV (M2 := m_X7_shipLot) (As := [.int y0]) (rest := [.ref x]) dX12_ship_10 cc_X12_ship_146 rfl rfl rfl (Nat.le_of_ble_eq_true rfl) (hx1.1.off' hk0).1.1 rfl rfl (by decide) (hop T1 w1 (K 0) (Pl x (K 0)) _ _ (hx1.1.off' hk0) (by rw [up1_n n01, up1_n n01]; exact hr) (hx1.1.rm h1 h2 hk0)) (fun v9 T2 hq2 => ?_) (fun E9 T9 hq9 => by obtain ⟨hq9, -⟩ := hq9; cases hq9)
  obtain ⟨hv9, w2, A2, c2, hx2, hR2, hl2⟩ := hq2
  cases hv9
  have hx3 := hx1.off hk0 hx2
  show Wx _ G T2 13 [(0, .ref x), (1, .int y0)] [.int (nI v), .ref x] _
  refine r_callV (M2 := m_X12_endChange) (As := [.int (nI v)]) (rest := []) dX12_ship_13 cc_X12_ship_75 rfl rfl rfl (Nat.le_of_ble_eq_true rfl) hx3.1.t0 rfl rfl (by decide) (x_end hx3 hp hv hnp e1 e2 hps) (fun v9 T3 hq3 => ?_) (fun E9 T9 hq9 => by obtain ⟨hq9, -⟩ := hq9; cases hq9)
  obtain ⟨hv9, hx4⟩ := hq3
  cases hv9
  show Wx _ G T3 16 [(0, .ref x), (1, .int y0)] [.int (nI v)] _
  exact r_iret (ty := .int) dX12_ship_16 rfl rfl ⟨rfl, cst_push hp hD hnp hps hq e3 hik hk hh1 ⟨hR2, hl2⟩ hN hx4, hx4.2.1⟩
set_option maxRecDepth 4000 in
set_option maxHeartbeats 400000 in
theorem s_ship_no {G : GI} {F : Nat → Prop} {S : Hp} {x bx bu : Nat} {D : Nat → Nat → Nat} {g : Nat → Nat} {N ps : Nat} {gq : Nat → Nat → Nat} {ik : Nat} {gk : Nat → Nat} (h : CSt F S x bx bu D g N ps gq ik gk) (h1 : bx + 1 ≤ gN G) (h2 : bu + 6 ≤ gM G) {y0 kv : Int32} {EX : String} (hend : ∀ T : Hp, zX T + 1 ≤ gN G → zU T + 6 ≤ gM G → FT m_X12_endChange G [.ref x, .int kv] T EX) (hop : ∀ (T : Hp) (w : Nat → Nat) (k o : Nat) (A c : Nat → Nat), OR T w k o A c → Hol A c g N → Rm G T A → OCh m_X7_shipLot G [.ref o, .int y0] T w k o A (some (.int kv)) g N) : Cn m_X12_ship G [.ref x, .int y0] S (fun r T => r = .inr EX ∧ CSt F T x (bx + 1) (bu + 6) D g N ps gq ik gk ∧ FrF F S T) := by
  obtain ⟨w, K, E, A, c, hX, hp, hr, hD, ⟨np, hnp, e1, e2, hps, hq⟩, ⟨e3, hik, hk⟩, hF⟩ := h
  have hXF : XF F S S w x K E A c bx bu := ⟨hX, FrF.rfl, hF⟩
  have hk0 : K 0 < 11 := (hp 0 (by decide)).1
  have n01 : K 0 ≠ K 1 := hp.ne (by decide) (by decide) (by decide)
  refine Cn.of rfl (by decide) (Nat.le_of_ble_eq_true rfl) (fun hN9 hM9 => ?_)
  show Wx _ G _ 0 [(0, .ref x), (1, .int y0)] [] _
  refine r_aload_n dX12_ship_0 rfl 0 rfl ?_
  refine r_callV (M2 := m_X12_beginChange) (As := []) (rest := []) dX12_ship_1 cc_X12_ship_68 rfl rfl rfl (Nat.le_of_ble_eq_true rfl) hX.t0 rfl rfl (by decide) (x_begin hXF hp (by omega) (by omega) hr) (fun v9 T1 hq1 => ?_) (fun E9 T9 hq9 => by obtain ⟨hq9, -⟩ := hq9; cases hq9)
  obtain ⟨hv9, w1, A1, c1, hx1, hh1⟩ := hq1
  cases hv9
  show Wx _ G T1 4 [(0, .ref x), (1, .int y0)] [] _
  refine r_aload_n dX12_ship_4 rfl 0 rfl ?_
  refine r_aload_n dX12_ship_5 rfl 0 rfl ?_
  refine r_getR (ci := 13) (k := 0) (b := Pl x (K 0)) dX12_ship_6 fr_X12_10 hx1.1.t0 rfl hx1.1.p416 ?_
  refine r_iload_n dX12_ship_9 rfl 1 rfl ?_
  refine r_callV (M2 := m_X7_shipLot) (As := [.int y0]) (rest := [.ref x]) dX12_ship_10 cc_X12_ship_146 rfl rfl rfl (Nat.le_of_ble_eq_true rfl) (hx1.1.off' hk0).1.1 rfl rfl (by decide) (hop T1 w1 (K 0) (Pl x (K 0)) _ _ (hx1.1.off' hk0) (by rw [up1_n n01, up1_n n01]; exact hr) (hx1.1.rm (by omega) (by omega) hk0)) (fun v9 T2 hq2 => ?_) (fun E9 T9 hq9 => by obtain ⟨hq9, -⟩ := hq9; cases hq9)
  obtain ⟨hv9, w2, A2, c2, hx2, hR2, hl2⟩ := hq2
  cases hv9
  have hx3 := hx1.off hk0 hx2
  show Wx _ G T2 13 [(0, .ref x), (1, .int y0)] [.int kv, .ref x] _
  refine r_ftV (M2 := m_X12_endChange) (As := [.int kv]) (rest := []) dX12_ship_13 cc_X12_ship_75 rfl rfl rfl (Nat.le_of_ble_eq_true rfl) hx3.1.t0 rfl rfl (by decide) (hend T2 (hx3.hc1 h1) (hx3.hu6 h2)) rfl (fun y u q1 q2 => ⟨rfl, cst_same hp hD hnp e1 e2 hps hq e3 hik hk ⟨hR2, hl2⟩ (hx3.X q1 q2), (hx3.X q1 q2).2.1⟩)
set_option maxRecDepth 4000 in
set_option maxHeartbeats 400000 in
theorem s_complain {G : GI} {F : Nat → Prop} {S : Hp} {x bx bu : Nat} {D : Nat → Nat → Nat} {g : Nat → Nat} {N ps : Nat} {gq : Nat → Nat → Nat} {ik : Nat} {gk : Nat → Nat} (h : CSt F S x bx bu D g N ps gq ik gk) (h1 : bx ≤ gN G) (h2 : bu ≤ gM G) {y0 y1 : Int32} {v : Nat} (hv : v < 2 ^ 31) {g' : Nat → Nat} {N' : Nat} (hN : N ≤ N') (hop : ∀ (T : Hp) (w : Nat → Nat) (k o : Nat) (A c : Nat → Nat), OR T w k o A c → Hol A c g N → Rm G T A → OCh m_X7_putDownComplaint G [.ref o, .int y0, .int y1] T w k o A (some (.int (nI v))) g' N') : Cn m_X12_complain G [.ref x, .int y0, .int y1] S (fun r T => r = .inl (some (.int (nI v))) ∧ CSt F T x bx bu D g' N' (if ps < 8 then ps + 1 else ps) (psh g gq) ik gk ∧ FrF F S T) := by
  obtain ⟨w, K, E, A, c, hX, hp, hr, hD, ⟨np, hnp, e1, e2, hps, hq⟩, ⟨e3, hik, hk⟩, hF⟩ := h
  have hXF : XF F S S w x K E A c bx bu := ⟨hX, FrF.rfl, hF⟩
  have hk0 : K 0 < 11 := (hp 0 (by decide)).1
  have n01 : K 0 ≠ K 1 := hp.ne (by decide) (by decide) (by decide)
  refine Cn.of rfl (by decide) (Nat.le_of_ble_eq_true rfl) (fun hN9 hM9 => ?_)
  show Wx _ G _ 0 [(0, .ref x), (1, .int y0), (2, .int y1)] [] _
  refine r_aload_n dX12_complain_0 rfl 0 rfl ?_
  refine r_callV (M2 := m_X12_beginChange) (As := []) (rest := []) dX12_complain_1 cc_X12_complain_68 rfl rfl rfl (Nat.le_of_ble_eq_true rfl) hX.t0 rfl rfl (by decide) (x_begin hXF hp h1 h2 hr) (fun v9 T1 hq1 => ?_) (fun E9 T9 hq9 => by obtain ⟨hq9, -⟩ := hq9; cases hq9)
  obtain ⟨hv9, w1, A1, c1, hx1, hh1⟩ := hq1
  cases hv9
  show Wx _ G T1 4 [(0, .ref x), (1, .int y0), (2, .int y1)] [] _
  refine r_aload_n dX12_complain_4 rfl 0 rfl ?_
  refine r_aload_n dX12_complain_5 rfl 0 rfl ?_
  refine r_getR (ci := 13) (k := 0) (b := Pl x (K 0)) dX12_complain_6 fr_X12_10 hx1.1.t0 rfl hx1.1.p416 ?_
  refine r_iload_n dX12_complain_9 rfl 1 rfl ?_
  refine r_iload_n dX12_complain_10 rfl 2 rfl ?_
  refine r_callV (M2 := m_X7_putDownComplaint) (As := [.int y0, .int y1]) (rest := [.ref x]) dX12_complain_11 cc_X12_complain_149 rfl rfl rfl (Nat.le_of_ble_eq_true rfl) (hx1.1.off' hk0).1.1 rfl rfl (by decide) (hop T1 w1 (K 0) (Pl x (K 0)) _ _ (hx1.1.off' hk0) (by rw [up1_n n01, up1_n n01]; exact hr) (hx1.1.rm h1 h2 hk0)) (fun v9 T2 hq2 => ?_) (fun E9 T9 hq9 => by obtain ⟨hq9, -⟩ := hq9; cases hq9)
  obtain ⟨hv9, w2, A2, c2, hx2, hR2, hl2⟩ := hq2
  cases hv9
  have hx3 := hx1.off hk0 hx2
  show Wx _ G T2 14 [(0, .ref x), (1, .int y0), (2, .int y1)] [.int (nI v), .ref x] _
  refine r_callV (M2 := m_X12_endChange) (As := [.int (nI v)]) (rest := []) dX12_complain_14 cc_X12_complain_75 rfl rfl rfl (Nat.le_of_ble_eq_true rfl) hx3.1.t0 rfl rfl (by decide) (x_end hx3 hp hv hnp e1 e2 hps) (fun v9 T3 hq3 => ?_) (fun E9 T9 hq9 => by obtain ⟨hq9, -⟩ := hq9; cases hq9)
  obtain ⟨hv9, hx4⟩ := hq3
  cases hv9
  show Wx _ G T3 17 [(0, .ref x), (1, .int y0), (2, .int y1)] [.int (nI v)] _
  exact r_iret (ty := .int) dX12_complain_17 rfl rfl ⟨rfl, cst_push hp hD hnp hps hq e3 hik hk hh1 ⟨hR2, hl2⟩ hN hx4, hx4.2.1⟩
set_option maxRecDepth 4000 in
set_option maxHeartbeats 400000 in
theorem s_complain_no {G : GI} {F : Nat → Prop} {S : Hp} {x bx bu : Nat} {D : Nat → Nat → Nat} {g : Nat → Nat} {N ps : Nat} {gq : Nat → Nat → Nat} {ik : Nat} {gk : Nat → Nat} (h : CSt F S x bx bu D g N ps gq ik gk) (h1 : bx + 1 ≤ gN G) (h2 : bu + 6 ≤ gM G) {y0 y1 kv : Int32} {EX : String} (hend : ∀ T : Hp, zX T + 1 ≤ gN G → zU T + 6 ≤ gM G → FT m_X12_endChange G [.ref x, .int kv] T EX) (hop : ∀ (T : Hp) (w : Nat → Nat) (k o : Nat) (A c : Nat → Nat), OR T w k o A c → Hol A c g N → Rm G T A → OCh m_X7_putDownComplaint G [.ref o, .int y0, .int y1] T w k o A (some (.int kv)) g N) : Cn m_X12_complain G [.ref x, .int y0, .int y1] S (fun r T => r = .inr EX ∧ CSt F T x (bx + 1) (bu + 6) D g N ps gq ik gk ∧ FrF F S T) := by
  obtain ⟨w, K, E, A, c, hX, hp, hr, hD, ⟨np, hnp, e1, e2, hps, hq⟩, ⟨e3, hik, hk⟩, hF⟩ := h
  have hXF : XF F S S w x K E A c bx bu := ⟨hX, FrF.rfl, hF⟩
  have hk0 : K 0 < 11 := (hp 0 (by decide)).1
  have n01 : K 0 ≠ K 1 := hp.ne (by decide) (by decide) (by decide)
  refine Cn.of rfl (by decide) (Nat.le_of_ble_eq_true rfl) (fun hN9 hM9 => ?_)
  show Wx _ G _ 0 [(0, .ref x), (1, .int y0), (2, .int y1)] [] _
  refine r_aload_n dX12_complain_0 rfl 0 rfl ?_
  refine r_callV (M2 := m_X12_beginChange) (As := []) (rest := []) dX12_complain_1 cc_X12_complain_68 rfl rfl rfl (Nat.le_of_ble_eq_true rfl) hX.t0 rfl rfl (by decide) (x_begin hXF hp (by omega) (by omega) hr) (fun v9 T1 hq1 => ?_) (fun E9 T9 hq9 => by obtain ⟨hq9, -⟩ := hq9; cases hq9)
  obtain ⟨hv9, w1, A1, c1, hx1, hh1⟩ := hq1
  cases hv9
  show Wx _ G T1 4 [(0, .ref x), (1, .int y0), (2, .int y1)] [] _
  refine r_aload_n dX12_complain_4 rfl 0 rfl ?_
  refine r_aload_n dX12_complain_5 rfl 0 rfl ?_
  refine r_getR (ci := 13) (k := 0) (b := Pl x (K 0)) dX12_complain_6 fr_X12_10 hx1.1.t0 rfl hx1.1.p416 ?_
  refine r_iload_n dX12_complain_9 rfl 1 rfl ?_
  refine r_iload_n dX12_complain_10 rfl 2 rfl ?_
  refine r_callV (M2 := m_X7_putDownComplaint) (As := [.int y0, .int y1]) (rest := [.ref x]) dX12_complain_11 cc_X12_complain_149 rfl rfl rfl (Nat.le_of_ble_eq_true rfl) (hx1.1.off' hk0).1.1 rfl rfl (by decide) (hop T1 w1 (K 0) (Pl x (K 0)) _ _ (hx1.1.off' hk0) (by rw [up1_n n01, up1_n n01]; exact hr) (hx1.1.rm (by omega) (by omega) hk0)) (fun v9 T2 hq2 => ?_) (fun E9 T9 hq9 => by obtain ⟨hq9, -⟩ := hq9; cases hq9)
  obtain ⟨hv9, w2, A2, c2, hx2, hR2, hl2⟩ := hq2
  cases hv9
  have hx3 := hx1.off hk0 hx2
  show Wx _ G T2 14 [(0, .ref x), (1, .int y0), (2, .int y1)] [.int kv, .ref x] _
  refine r_ftV (M2 := m_X12_endChange) (As := [.int kv]) (rest := []) dX12_complain_14 cc_X12_complain_75 rfl rfl rfl (Nat.le_of_ble_eq_true rfl) hx3.1.t0 rfl rfl (by decide) (hend T2 (hx3.hc1 h1) (hx3.hu6 h2)) rfl (fun y u q1 q2 => ⟨rfl, cst_same hp hD hnp e1 e2 hps hq e3 hik hk ⟨hR2, hl2⟩ (hx3.X q1 q2), (hx3.X q1 q2).2.1⟩)
