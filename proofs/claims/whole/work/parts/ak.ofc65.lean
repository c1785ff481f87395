/-! THE REFERENCE READS A TEXT -/
def TxV (V : RVal) (t : Nat → Nat) (L : Nat) : Prop := V 0 14 = nI L ∧ L ≤ 60 ∧ ∀ i, i < L → V 9 i = nI (t i)
def EqV (V V' : RVal) : Prop := ∀ j i, ¬ (j = 0 ∧ (i = 17 ∨ i = 18)) → j ≠ 10 → V' j i = V j i
theorem EqV.trans {V V' V'' : RVal} (h : EqV V V') (h' : EqV V' V'') : EqV V V'' := fun j i a b => (h' j i a b).trans (h j i a b)
theorem EqV.up {V V' : RVal} {j i : Nat} {x : Int32} (h : EqV V V') (hj : (j = 0 ∧ (i = 17 ∨ i = 18)) ∨ j = 10) : EqV V (up2 V' j i x) := fun a b h1 h2 => (up2_n (by omega)).trans (h a b h1 h2)
/-- n commands are told -/
def TolP (V : RVal) (W Kn P : Nat → Nat) (Vv : Nat → Nat → Nat) (n : Nat) : Prop := ∀ j, j < n → V 10 (9 * j) = nI (W j) ∧ V 10 (9 * j + 1) = nI (P j) ∧ (∀ k, k ≤ Kn j → V 10 (9 * j + (3 + k)) = nI (Vv j k)) ∧ ∀ k, Kn j < k → k < 6 → V 10 (9 * j + (3 + k)) = -1
theorem TolP.snoc {V V' : RVal} {t : Nat → Nat} {L e : Nat} {W Kn P : Nat → Nat} {Vv : Nat → Nat → Nat} {c q n : Nat} {v : Nat → Nat} (h : TolP V W Kn P Vv c) (hR : RdP V V' t L e c (c + 1) q (P c) (n + 1) v) (hK : ∀ j, j < c → Kn j < 6) : TolP V' (up1 W c q) (up1 Kn c n) (up1 P (c + 1) e) (up1 Vv c v) (c + 1) := by
  obtain ⟨h1, ⟨a1, a2, a3, a4, a5⟩, h3, h4, h5⟩ := hR
  intro j hj
  by_cases r : j = c
  · subst r
    rw [up1_s, up1_s, up1_s, up1_n (f := P) (show j ≠ j + 1 by omega)]
    exact ⟨a1, a2, fun k hk => a4 k (by omega), fun k k1 k2 => a5 k (by omega) k2⟩
  · rw [up1_n r, up1_n r, up1_n r, up1_n (f := P) (show j ≠ c + 1 by omega)]
    obtain ⟨b1, b2, b3, b4⟩ := h j (by omega)
    have hK6 := hK j (by omega)
    exact ⟨(h5 _ (by omega)).trans b1, (h5 _ (by omega)).trans b2, fun k hk => (h5 _ (by omega)).trans (b3 k hk), fun k k1 k2 => (h5 _ (by omega)).trans (b4 k k1 k2)⟩
set_option maxRecDepth 4000 in
set_option maxHeartbeats 1000000 in
theorem g_isText {G : GI} {T : Hp} {m : Nat} {V : RVal} {g : Nat → Nat} {od : Nat → UInt64} (hs : RS T m) {t : Nat → Nat} {L : Nat} (hx0 : TxV V t L) (ht : ∀ k, k < L → t k < 128) : Cn m_X13_isText G [.ref m] (rput T m (sg V g) od) (fun r U => (r = .inl (some (.int (nI 1))) ∧ ∃ W Kn P Vv n V', U = rput T m (sg V' g) od ∧ TextP t L W Kn P Vv n ∧ TolP V' W Kn P Vv n ∧ V' 0 17 = nI n ∧ EqV V V') ∨ (r = .inl (some (.int (nI 0))) ∧ ∃ p V', U = rput T m (sg V' g) od ∧ BadT t L p ∧ V' 0 18 = nI p ∧ EqV V V')) := by
  refine Cn.of rfl (by decide) (Nat.le_of_ble_eq_true rfl) (fun hN hM => ?_)
  show Wx _ G _ 0 [(0, .ref (m))] [] _
  have hL60 := hx0.2.1
  refine r_aload_n dX13_isText_0 rfl 0 rfl ?_
  refine r_iconst (v := nI 0) dX13_isText_1 (by decide) ?_
  refine o_put (k := 18) hs dX13_isText_2 fw_X13_isText_331 rfl rfl rfl ?_
  refine r_aload_n dX13_isText_5 rfl 0 rfl ?_
  refine r_iconst (v := nI 0) dX13_isText_6 (by decide) ?_
  refine o_put (k := 17) hs dX13_isText_7 fw_X13_isText_353 rfl rfl rfl ?_
  refine Wx.loopR (fun n S lv => (∃ W Kn P Vv V', S = rput T m (sg V' g) od ∧ TXT V' t L (P n) ∧ V' 0 17 = nI n ∧ TolP V' W Kn P Vv n ∧ CmsP t L W Kn P Vv n ∧ (n = 0 ∨ P n < L) ∧ EqV V V') ∧ lv = [(0, .ref (m))]) 11 0 (by decide) ⟨⟨fun _ => 0, fun _ => 0, fun _ => 0, fun _ _ => 0, _, rfl, ⟨(up2_n (by omega)).trans up2_s, (up2_n (by omega)).trans ((up2_n (by omega)).trans hx0.1), hx0.2.1, Nat.zero_le _, fun i hi => (up2_n (by omega)).trans ((up2_n (by omega)).trans (hx0.2.2 i hi))⟩, up2_s, fun j hj => absurd hj (Nat.not_lt_zero j), ⟨rfl, fun j hj => absurd hj (Nat.not_lt_zero j)⟩, Or.inl rfl, EqV.up (EqV.up (fun _ _ _ _ => rfl) (by omega)) (by omega)⟩, rfl⟩ (fun n S lv hu0 hu hI nx => ?_)
  obtain ⟨⟨W, Kn, P, Vv, V', rfl, hx, h17, hTo, hcs, hnP, hE⟩, rfl⟩ := hI
  have hPn := hcs.le (Nat.le_refl n)
  refine r_aload_n dX13_isText_10 rfl 0 rfl ?_
  refine r_callV (M2 := m_X13_commandHere) (As := []) (rest := []) dX13_isText_11 cc_X13_isText_368 rfl rfl rfl (Nat.le_of_ble_eq_true rfl) hs.1 rfl rfl (by decide) (g_command hs hx ht h17 (by omega)) (fun v9 U hq => ?_) (fun E9 T9 hq => by rcases hq with hq | hq <;> cases hq.1)
  rcases hq with ⟨hv9, q, nn, v, e, V9, rfl, hcm, hR⟩ | ⟨hv9, p, V9, rfl, hbd, hx9, hE9⟩
  · cases hv9
    show Wx _ G (rput T m (sg V9 g) od) 14 [(0, .ref (m))] [.int (nI (1))] _
    refine r_if_neN (tgt := 19) dX13_isText_14 (by decide) (by (first | omega | (have := hcm.le; have := hx.2.2.1; omega))) (fun zz14 => ?_) (fun zz14 => ?_)
    · refine r_aload_n dX13_isText_19 rfl 0 rfl ?_
      refine o_get (k := 18) hs dX13_isText_20 fr_X13_331 rfl ?_
      refine Wx.top hR.1.1 ?_
      refine r_aload_n dX13_isText_23 rfl 0 rfl ?_
      refine o_get (k := 14) hs dX13_isText_24 fr_X13_307 rfl ?_
      refine Wx.top hR.1.2.1 ?_
      refine r_icmp_ltN (tgt := 10) dX13_isText_27 (by decide) (by (first | omega | (have := hcm.le; have := hx.2.2.1; omega))) (by (first | omega | (have := hcm.le; have := hx.2.2.1; omega))) (fun h27 => ?_) (fun h27 => ?_)
      · have hcs2 := hcs.snoc (by have := hcm.le; omega) hcm
        exact nx _ _ (by have := hcm.le; omega) ⟨⟨_, _, _, _, V9, rfl, by rw [up1_s]; exact hR.1, hR.2.2.2.1, hTo.snoc hR (fun j hj => (hcs.2 j hj).2.le.2.2.2), hcs2, Or.inr (by rw [up1_s]; omega), hE.trans hR.2.2.1⟩, rfl⟩
      · refine r_iconst (v := nI 1) dX13_isText_30 (by decide) ?_
        have hcs2 := hcs.snoc (by have := hcm.le; omega) hcm
        exact r_iret (ty := .boolean) dX13_isText_31 rfl (by decide) (Or.inl ⟨rfl, _, _, _, _, n + 1, V9, rfl, ⟨Nat.succ_pos n, hcs2, by rw [up1_s]; have := hcm.le; omega⟩, hTo.snoc hR (fun j hj => (hcs.2 j hj).2.le.2.2.2), hR.2.2.2.1, hE.trans hR.2.2.1⟩)
    · exact absurd zz14 (by decide)
  · cases hv9
    show Wx _ G (rput T m (sg V9 g) od) 14 [(0, .ref (m))] [.int (nI (0))] _
    refine r_if_neN (tgt := 19) dX13_isText_14 (by decide) (by (first | omega | (have := hcm.le; have := hx.2.2.1; omega))) (fun zz14_1 => ?_) (fun zz14_1 => ?_)
    · exact absurd zz14_1 (by decide)
    · refine r_iconst (v := nI 0) dX13_isText_17 (by decide) ?_
      exact r_iret (ty := .boolean) dX13_isText_18 rfl (by decide) (Or.inr ⟨rfl, p, V9, rfl, ⟨W, Kn, P, Vv, n, hcs, hnP, hbd⟩, hx9.1, hE.trans hE9⟩)
