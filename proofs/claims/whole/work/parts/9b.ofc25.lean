/-! A LOT COPIED -/
def lcR (c cs : Nat → Nat) (l : Nat) : Nat → Nat := fun z => if 90 + 13 * l + 10 ≤ z ∧ z < 90 + 13 * l + 13 then cs z else c z
def lcU (c cs : Nat → Nat) (l f m : Nat) : Nat → Nat := fun z => if 402 + 8 * (200 * l) ≤ z ∧ z < 402 + 8 * (200 * l + m) ∧ (z - 402) % 8 = f then cs z else c z
theorem lcU_n {c cs : Nat → Nat} {l f m z : Nat} (h : ¬ (402 + 8 * (200 * l) ≤ z ∧ z < 402 + 8 * (200 * l + m) ∧ (z - 402) % 8 = f)) : lcU c cs l f m z = c z := if_neg h
theorem lcU_y {c cs : Nat → Nat} {l f m z : Nat} (h : 402 + 8 * (200 * l) ≤ z ∧ z < 402 + 8 * (200 * l + m) ∧ (z - 402) % 8 = f) : lcU c cs l f m z = cs z := if_pos h
theorem lcR_n {c cs : Nat → Nat} {l z : Nat} (h : ¬ (90 + 13 * l + 10 ≤ z ∧ z < 90 + 13 * l + 13)) : lcR c cs l z = c z := if_neg h
theorem lcR_y {c cs : Nat → Nat} {l z : Nat} (h : 90 + 13 * l + 10 ≤ z ∧ z < 90 + 13 * l + 13) : lcR c cs l z = cs z := if_pos h
/-- lot l's numbers are those of cs -/
def CP (c cs : Nat → Nat) (l n : Nat) (c' : Nat → Nat) : Prop := (∀ j, ¬ inL l j → c' j = c j) ∧ (∀ f, f < 13 → c' (90 + 13 * l + f) = cs (90 + 13 * l + f)) ∧ ∀ u f, u < n → f < 6 → c' (402 + 8 * (200 * l + u) + f) = cs (402 + 8 * (200 * l + u) + f)
theorem lc_fin {c cs c1 : Nat → Nat} {l n : Nat} (hl : l < 24) (hn : n ≤ 200) (h1 : ∀ j, ¬ inL l j → c1 j = c j) (h2 : ∀ f, f < 10 → c1 (90 + 13 * l + f) = cs (90 + 13 * l + f)) : CP c cs l n (lcU (lcU (lcU (lcU (lcU (lcU (lcR c1 cs l) cs l 0 n) cs l 1 n) cs l 2 n) cs l 3 n) cs l 4 n) cs l 5 n) := by
  refine ⟨fun j hj => ?_, fun f hf => ?_, fun u f hu hf => ?_⟩
  · refine Eq.trans ?_ (h1 j hj)
    unfold inL at hj
    rw [lcU_n (by omega), lcU_n (by omega), lcU_n (by omega), lcU_n (by omega), lcU_n (by omega), lcU_n (by omega), lcR_n (by omega)]
  · rw [lcU_n (by omega), lcU_n (by omega), lcU_n (by omega), lcU_n (by omega), lcU_n (by omega), lcU_n (by omega)]
    by_cases q : f < 10
    · rw [lcR_n (by omega)]; exact h2 f q
    · exact lcR_y (by omega)
  · match f, hf with
    | 0, _ => rw [lcU_n (by omega), lcU_n (by omega), lcU_n (by omega), lcU_n (by omega), lcU_n (by omega), lcU_y (by omega)]
    | 1, _ => rw [lcU_n (by omega), lcU_n (by omega), lcU_n (by omega), lcU_n (by omega), lcU_y (by omega)]
    | 2, _ => rw [lcU_n (by omega), lcU_n (by omega), lcU_n (by omega), lcU_y (by omega)]
    | 3, _ => rw [lcU_n (by omega), lcU_n (by omega), lcU_y (by omega)]
    | 4, _ => rw [lcU_n (by omega), lcU_y (by omega)]
    | 5, _ => rw [lcU_y (by omega)]
theorem fit01 {x : Nat} (h : x < 2) : fits (cpT 106) (.int (nI x)) = true := by
  match x, h with
  | 0, _ => rfl
  | 1, _ => rfl
set_option maxRecDepth 4000 in
set_option maxHeartbeats 400000 in
theorem o_lotCopy {G : GI} {S : Hp} {w : Nat → Nat} {k ks o os : Nat} {A As c cs : Nat → Nat} (h : OR S w k o A c) (hs0 : OR S w ks os As cs) (hne : ks ≠ k) {l n : Nat} (hl24 : l < 24) (hAl : A l ≠ 0) (hAs : As l ≠ 0) (hsz : cs (90 + 13 * l + 1) = n) (hn : n ≤ 200) (hb2 : ∀ u, u < n → cs (402 + 8 * (200 * l + u) + 5) < 2) : OEx m_X5_copyFrom G [.ref (A l), .ref (As l)] S w k o A none (CP c cs l n) := by
  refine Cn.of rfl (by decide) (Nat.le_of_ble_eq_true rfl) (fun hN hM => ?_)
  show Wx _ G _ 0 [(0, .ref (A l)), (1, .ref (As l))] [] _
  have hx := OX.refl h
  refine r_aload_n dX5_copyFrom_0 rfl 0 rfl ?_
  refine r_aload_n dX5_copyFrom_1 rfl 1 rfl ?_
  refine r_getI (ci := 7) (k := 0) dX5_copyFrom_2 fr_X5_33 ((hx.fr hne hs0).lo hl24 hAs).2.1 rfl ?_
  refine Wx.top ((hx.fr hne hs0).l0 hl24 hAs) ?_
  refine r_putI (ci := 7) (k := 0) dX5_copyFrom_5 fw_X5_copyFrom_33 (hx.1.lo hl24 hAl).2.1 rfl rfl rfl ?_
  refine Wx.gx ((hx.L (f := 0) hl24 hAl (by decide))) (fun T (hx : OX S w A T w k o A (up1 c (90 + 13 * l + 0) (cs (90 + 13 * l + 0)))) => ?_)
  refine r_aload_n dX5_copyFrom_8 rfl 0 rfl ?_
  refine r_aload_n dX5_copyFrom_9 rfl 1 rfl ?_
  refine r_getI (ci := 7) (k := 1) dX5_copyFrom_10 fr_X5_37 ((hx.fr hne hs0).lo hl24 hAs).2.1 rfl ?_
  refine Wx.top ((hx.fr hne hs0).l1 hl24 hAs) ?_
  refine r_putI (ci := 7) (k := 1) dX5_copyFrom_13 fw_X5_copyFrom_37 (hx.1.lo hl24 hAl).2.1 rfl rfl rfl ?_
  refine Wx.gx ((hx.L (f := 1) hl24 hAl (by decide))) (fun T_1 (hx_1 : OX S w A T_1 w k o A (up1 (up1 c (90 + 13 * l + 0) (cs (90 + 13 * l + 0))) (90 + 13 * l + 9) (cs (90 + 13 * l + 9)))) => ?_)
  refine r_aload_n dX5_copyFrom_16 rfl 0 rfl ?_
  refine r_aload_n dX5_copyFrom_17 rfl 1 rfl ?_
  refine r_getI (ci := 7) (k := 2) dX5_copyFrom_18 fr_X5_46 ((hx_1.fr hne hs0).lo hl24 hAs).2.1 rfl ?_
  refine Wx.top ((hx_1.fr hne hs0).l2 hl24 hAs) ?_
  refine r_putI (ci := 7) (k := 2) dX5_copyFrom_21 fw_X5_copyFrom_46 (hx_1.1.lo hl24 hAl).2.1 rfl rfl rfl ?_
  refine Wx.gx ((hx_1.L (f := 2) hl24 hAl (by decide))) (fun T_2 (hx_2 : OX S w A T_2 w k o A (up1 (up1 (up1 c (90 + 13 * l + 0) (cs (90 + 13 * l + 0))) (90 + 13 * l + 9) (cs (90 + 13 * l + 9))) (90 + 13 * l + 1) (cs (90 + 13 * l + 1)))) => ?_)
  refine r_aload_n dX5_copyFrom_24 rfl 0 rfl ?_
  refine r_aload_n dX5_copyFrom_25 rfl 1 rfl ?_
  refine r_getI (ci := 7) (k := 3) dX5_copyFrom_26 fr_X5_49 ((hx_2.fr hne hs0).lo hl24 hAs).2.1 rfl ?_
  refine Wx.top ((hx_2.fr hne hs0).l3 hl24 hAs) ?_
  refine r_putI (ci := 7) (k := 3) dX5_copyFrom_29 fw_X5_copyFrom_49 (hx_2.1.lo hl24 hAl).2.1 rfl rfl rfl ?_
  refine Wx.gx ((hx_2.L (f := 3) hl24 hAl (by decide))) (fun T_3 (hx_3 : OX S w A T_3 w k o A (up1 (up1 (up1 (up1 c (90 + 13 * l + 0) (cs (90 + 13 * l + 0))) (90 + 13 * l + 9) (cs (90 + 13 * l + 9))) (90 + 13 * l + 1) (cs (90 + 13 * l + 1))) (90 + 13 * l + 2) (cs (90 + 13 * l + 2)))) => ?_)
  refine r_aload_n dX5_copyFrom_32 rfl 0 rfl ?_
  refine r_aload_n dX5_copyFrom_33 rfl 1 rfl ?_
  refine r_getI (ci := 7) (k := 4) dX5_copyFrom_34 fr_X5_52 ((hx_3.fr hne hs0).lo hl24 hAs).2.1 rfl ?_
  refine Wx.top ((hx_3.fr hne hs0).l4 hl24 hAs) ?_
  refine r_putI (ci := 7) (k := 4) dX5_copyFrom_37 fw_X5_copyFrom_52 (hx_3.1.lo hl24 hAl).2.1 rfl rfl rfl ?_
  refine Wx.gx ((hx_3.L (f := 4) hl24 hAl (by decide))) (fun T_4 (hx_4 : OX S w A T_4 w k o A (up1 (up1 (up1 (up1 (up1 c (90 + 13 * l + 0) (cs (90 + 13 * l + 0))) (90 + 13 * l + 9) (cs (90 + 13 * l + 9))) (90 + 13 * l + 1) (cs (90 + 13 * l + 1))) (90 + 13 * l + 2) (cs (90 + 13 * l + 2))) (90 + 13 * l + 3) (cs (90 + 13 * l + 3)))) => ?_)
  refine r_aload_n dX5_copyFrom_40 rfl 0 rfl ?_
  refine r_aload_n dX5_copyFrom_41 rfl 1 rfl ?_
  refine r_getI (ci := 7) (k := 5) dX5_copyFrom_42 fr_X5_55 ((hx_4.fr hne hs0).lo hl24 hAs).2.1 rfl ?_
  refine Wx.top ((hx_4.fr hne hs0).l5 hl24 hAs) ?_
  refine r_putI (ci := 7) (k := 5) dX5_copyFrom_45 fw_X5_copyFrom_55 (hx_4.1.lo hl24 hAl).2.1 rfl rfl rfl ?_
  refine Wx.gx ((hx_4.L (f := 5) hl24 hAl (by decide))) (fun T_5 (hx_5 : OX S w A T_5 w k o A (up1 (up1 (up1 (up1 (up1 (up1 c (90 + 13 * l + 0) (cs (90 + 13 * l + 0))) (90 + 13 * l + 9) (cs (90 + 13 * l + 9))) (90 + 13 * l + 1) (cs (90 + 13 * l + 1))) (90 + 13 * l + 2) (cs (90 + 13 * l + 2))) (90 + 13 * l + 3) (cs (90 + 13 * l + 3))) (90 + 13 * l + 4) (cs (90 + 13 * l + 4)))) => ?_)
  refine r_aload_n dX5_copyFrom_48 rfl 0 rfl ?_
  refine r_aload_n dX5_copyFrom_49 rfl 1 rfl ?_
  refine r_getI (ci := 7) (k := 6) dX5_copyFrom_50 fr_X5_58 ((hx_5.fr hne hs0).lo hl24 hAs).2.1 rfl ?_
  refine Wx.top ((hx_5.fr hne hs0).l6 hl24 hAs) ?_
  refine r_putI (ci := 7) (k := 6) dX5_copyFrom_53 fw_X5_copyFrom_58 (hx_5.1.lo hl24 hAl).2.1 rfl rfl rfl ?_
  refine Wx.gx ((hx_5.L (f := 6) hl24 hAl (by decide))) (fun T_6 (hx_6 : OX S w A T_6 w k o A (up1 (up1 (up1 (up1 (up1 (up1 (up1 c (90 + 13 * l + 0) (cs (90 + 13 * l + 0))) (90 + 13 * l + 9) (cs (90 + 13 * l + 9))) (90 + 13 * l + 1) (cs (90 + 13 * l + 1))) (90 + 13 * l + 2) (cs (90 + 13 * l + 2))) (90 + 13 * l + 3) (cs (90 + 13 * l + 3))) (90 + 13 * l + 4) (cs (90 + 13 * l + 4))) (90 + 13 * l + 5) (cs (90 + 13 * l + 5)))) => ?_)
  refine r_aload_n dX5_copyFrom_56 rfl 0 rfl ?_
  refine r_aload_n dX5_copyFrom_57 rfl 1 rfl ?_
  refine r_getI (ci := 7) (k := 7) dX5_copyFrom_58 fr_X5_61 ((hx_6.fr hne hs0).lo hl24 hAs).2.1 rfl ?_
  refine Wx.top ((hx_6.fr hne hs0).l7 hl24 hAs) ?_
  refine r_putI (ci := 7) (k := 7) dX5_copyFrom_61 fw_X5_copyFrom_61 (hx_6.1.lo hl24 hAl).2.1 rfl rfl rfl ?_
  refine Wx.gx ((hx_6.L (f := 7) hl24 hAl (by decide))) (fun T_7 (hx_7 : OX S w A T_7 w k o A (up1 (up1 (up1 (up1 (up1 (up1 (up1 (up1 c (90 + 13 * l + 0) (cs (90 + 13 * l + 0))) (90 + 13 * l + 9) (cs (90 + 13 * l + 9))) (90 + 13 * l + 1) (cs (90 + 13 * l + 1))) (90 + 13 * l + 2) (cs (90 + 13 * l + 2))) (90 + 13 * l + 3) (cs (90 + 13 * l + 3))) (90 + 13 * l + 4) (cs (90 + 13 * l + 4))) (90 + 13 * l + 5) (cs (90 + 13 * l + 5))) (90 + 13 * l + 6) (cs (90 + 13 * l + 6)))) => ?_)
  refine r_aload_n dX5_copyFrom_64 rfl 0 rfl ?_
  refine r_aload_n dX5_copyFrom_65 rfl 1 rfl ?_
  refine r_getI (ci := 7) (k := 8) dX5_copyFrom_66 fr_X5_64 ((hx_7.fr hne hs0).lo hl24 hAs).2.1 rfl ?_
  refine Wx.top ((hx_7.fr hne hs0).l8 hl24 hAs) ?_
  refine r_putI (ci := 7) (k := 8) dX5_copyFrom_69 fw_X5_copyFrom_64 (hx_7.1.lo hl24 hAl).2.1 rfl rfl rfl ?_
  refine Wx.gx ((hx_7.L (f := 8) hl24 hAl (by decide))) (fun T_8 (hx_8 : OX S w A T_8 w k o A (up1 (up1 (up1 (up1 (up1 (up1 (up1 (up1 (up1 c (90 + 13 * l + 0) (cs (90 + 13 * l + 0))) (90 + 13 * l + 9) (cs (90 + 13 * l + 9))) (90 + 13 * l + 1) (cs (90 + 13 * l + 1))) (90 + 13 * l + 2) (cs (90 + 13 * l + 2))) (90 + 13 * l + 3) (cs (90 + 13 * l + 3))) (90 + 13 * l + 4) (cs (90 + 13 * l + 4))) (90 + 13 * l + 5) (cs (90 + 13 * l + 5))) (90 + 13 * l + 6) (cs (90 + 13 * l + 6))) (90 + 13 * l + 7) (cs (90 + 13 * l + 7)))) => ?_)
  refine r_aload_n dX5_copyFrom_72 rfl 0 rfl ?_
  refine r_aload_n dX5_copyFrom_73 rfl 1 rfl ?_
  refine r_getI (ci := 7) (k := 9) dX5_copyFrom_74 fr_X5_67 ((hx_8.fr hne hs0).lo hl24 hAs).2.1 rfl ?_
  refine Wx.top ((hx_8.fr hne hs0).l9 hl24 hAs) ?_
  refine r_putI (ci := 7) (k := 9) dX5_copyFrom_77 fw_X5_copyFrom_67 (hx_8.1.lo hl24 hAl).2.1 rfl rfl rfl ?_
  refine Wx.gx ((hx_8.L (f := 9) hl24 hAl (by decide))) (fun T_9 (hx_9 : OX S w A T_9 w k o A (up1 (up1 (up1 (up1 (up1 (up1 (up1 (up1 (up1 (up1 c (90 + 13 * l + 0) (cs (90 + 13 * l + 0))) (90 + 13 * l + 9) (cs (90 + 13 * l + 9))) (90 + 13 * l + 1) (cs (90 + 13 * l + 1))) (90 + 13 * l + 2) (cs (90 + 13 * l + 2))) (90 + 13 * l + 3) (cs (90 + 13 * l + 3))) (90 + 13 * l + 4) (cs (90 + 13 * l + 4))) (90 + 13 * l + 5) (cs (90 + 13 * l + 5))) (90 + 13 * l + 6) (cs (90 + 13 * l + 6))) (90 + 13 * l + 7) (cs (90 + 13 * l + 7))) (90 + 13 * l + 8) (cs (90 + 13 * l + 8)))) => ?_)
  have e1 : ∀ j, ¬ inL l j → (up1 (up1 (up1 (up1 (up1 (up1 (up1 (up1 (up1 (up1 c (90 + 13 * l + 0) (cs (90 + 13 * l + 0))) (90 + 13 * l + 9) (cs (90 + 13 * l + 9))) (90 + 13 * l + 1) (cs (90 + 13 * l + 1))) (90 + 13 * l + 2) (cs (90 + 13 * l + 2))) (90 + 13 * l + 3) (cs (90 + 13 * l + 3))) (90 + 13 * l + 4) (cs (90 + 13 * l + 4))) (90 + 13 * l + 5) (cs (90 + 13 * l + 5))) (90 + 13 * l + 6) (cs (90 + 13 * l + 6))) (90 + 13 * l + 7) (cs (90 + 13 * l + 7))) (90 + 13 * l + 8) (cs (90 + 13 * l + 8))) j = c j := fun j hj => by
    unfold inL at hj
    rw [up1_n (by omega), up1_n (by omega), up1_n (by omega), up1_n (by omega), up1_n (by omega), up1_n (by omega), up1_n (by omega), up1_n (by omega), up1_n (by omega), up1_n (by omega)]
  have e2 : ∀ f, f < 10 → (up1 (up1 (up1 (up1 (up1 (up1 (up1 (up1 (up1 (up1 c (90 + 13 * l + 0) (cs (90 + 13 * l + 0))) (90 + 13 * l + 9) (cs (90 + 13 * l + 9))) (90 + 13 * l + 1) (cs (90 + 13 * l + 1))) (90 + 13 * l + 2) (cs (90 + 13 * l + 2))) (90 + 13 * l + 3) (cs (90 + 13 * l + 3))) (90 + 13 * l + 4) (cs (90 + 13 * l + 4))) (90 + 13 * l + 5) (cs (90 + 13 * l + 5))) (90 + 13 * l + 6) (cs (90 + 13 * l + 6))) (90 + 13 * l + 7) (cs (90 + 13 * l + 7))) (90 + 13 * l + 8) (cs (90 + 13 * l + 8))) (90 + 13 * l + f) = cs (90 + 13 * l + f) := fun f hf => by
    match f, hf with
    | 0, _ => rw [up1_n (by omega), up1_n (by omega), up1_n (by omega), up1_n (by omega), up1_n (by omega), up1_n (by omega), up1_n (by omega), up1_n (by omega), up1_n (by omega), up1_s]
    | 1, _ => rw [up1_n (by omega), up1_n (by omega), up1_n (by omega), up1_n (by omega), up1_n (by omega), up1_n (by omega), up1_n (by omega), up1_s]
    | 2, _ => rw [up1_n (by omega), up1_n (by omega), up1_n (by omega), up1_n (by omega), up1_n (by omega), up1_n (by omega), up1_s]
    | 3, _ => rw [up1_n (by omega), up1_n (by omega), up1_n (by omega), up1_n (by omega), up1_n (by omega), up1_s]
    | 4, _ => rw [up1_n (by omega), up1_n (by omega), up1_n (by omega), up1_n (by omega), up1_s]
    | 5, _ => rw [up1_n (by omega), up1_n (by omega), up1_n (by omega), up1_s]
    | 6, _ => rw [up1_n (by omega), up1_n (by omega), up1_s]
    | 7, _ => rw [up1_n (by omega), up1_s]
    | 8, _ => rw [up1_s]
    | 9, _ => rw [up1_n (by omega), up1_n (by omega), up1_n (by omega), up1_n (by omega), up1_n (by omega), up1_n (by omega), up1_n (by omega), up1_n (by omega), up1_s]
  obtain ⟨c1, hc1⟩ : ∃ c1 : Nat → Nat, c1 = (up1 (up1 (up1 (up1 (up1 (up1 (up1 (up1 (up1 (up1 c (90 + 13 * l + 0) (cs (90 + 13 * l + 0))) (90 + 13 * l + 9) (cs (90 + 13 * l + 9))) (90 + 13 * l + 1) (cs (90 + 13 * l + 1))) (90 + 13 * l + 2) (cs (90 + 13 * l + 2))) (90 + 13 * l + 3) (cs (90 + 13 * l + 3))) (90 + 13 * l + 4) (cs (90 + 13 * l + 4))) (90 + 13 * l + 5) (cs (90 + 13 * l + 5))) (90 + 13 * l + 6) (cs (90 + 13 * l + 6))) (90 + 13 * l + 7) (cs (90 + 13 * l + 7))) (90 + 13 * l + 8) (cs (90 + 13 * l + 8))) := ⟨_, rfl⟩
  rw [← hc1] at e1 e2
  have hx_10 : OX S w A T_9 w k o A c1 := by rw [hc1]; exact hx_9
  have hz0 : c1 (90 + 13 * l + 1) = n := (e2 1 (by decide)).trans hsz
  refine r_aload_n dX5_copyFrom_80 rfl 1 rfl ?_
  refine r_getR (ci := 7) (k := 10) (b := As l + 1) dX5_copyFrom_81 fr_X5_9 ((hx_10.fr hne hs0).lo hl24 hAs).2.1 rfl ((hx_10.fr hne hs0).lo hl24 hAs).2.2.1.1 ?_
  refine r_iconst (v := nI 0) dX5_copyFrom_84 (by decide) ?_
  refine r_aload_n dX5_copyFrom_85 rfl 0 rfl ?_
  refine r_getR (ci := 7) (k := 10) (b := A l + 1) dX5_copyFrom_86 fr_X5_9 (hx_10.1.lo hl24 hAl).2.1 rfl (hx_10.1.lo hl24 hAl).2.2.1.1 ?_
  refine r_iconst (v := nI 0) dX5_copyFrom_89 (by decide) ?_
  refine r_aload_n dX5_copyFrom_90 rfl 0 rfl ?_
  refine r_getR (ci := 7) (k := 10) (b := A l + 1) dX5_copyFrom_91 fr_X5_9 (hx_10.1.lo hl24 hAl).2.1 rfl (hx_10.1.lo hl24 hAl).2.2.1.1 ?_
  refine r_alen101 dX5_copyFrom_94 (hx_10.1.lo hl24 hAl).2.2.2.1.1 ?_
  refine Wx.top (congrArg nI (hx_10.1.lo hl24 hAl).2.2.2.1.2) ?_
  refine r_copy (t := 101) dX5_copyFrom_95 (sg2 208 rfl rfl) (sg2 210 rfl rfl) (sg2 209 rfl rfl) (sg1 21 rfl rfl) (Or.inl rfl) ((hx_10.fr hne hs0).lo hl24 hAs).2.2.2.1.1 (hx_10.1.lo hl24 hAl).2.2.2.1.1 (nI_nn (by omega)) (nI_nn (by omega)) (nI_nn (by omega)) (by rw [nI_clamp (by omega), nI_clamp (by omega)]; show _ ≤ zN T_9 (As l + 1); rw [((hx_10.fr hne hs0).lo hl24 hAs).2.2.2.1.2]; omega) (by rw [nI_clamp (by omega), nI_clamp (by omega)]; show _ ≤ zN T_9 (A l + 1); rw [(hx_10.1.lo hl24 hAl).2.2.2.1.2]; omega) (fun _ _ => rfl) (by decide) (by decide) ?_
  rw [show (nI 0).toNatClampNeg = 0 from nI_clamp (by decide), show (nI (3)).toNatClampNeg = 3 from nI_clamp (by omega)]
  refine Wx.gx (OX.WR (c' := (lcR c1 cs l)) hx_10 hl24 hAl (fun j hj => ?_) (fun z hz => ?_)) (fun T_10 (hx_11 : OX S w A T_10 w k o A (lcR c1 cs l)) => ?_)
  · unfold va_cpy
    rw [if_pos (by omega), lcR_y (by omega), Nat.zero_add, Nat.sub_zero, (hx_10.fr hne hs0).r hl24 hAs hj]
  · refine lcR_n (fun q9 => hz (z - (90 + 13 * l + 10)) (by omega) (by omega))
  have hz1 : (lcR c1 cs l) (90 + 13 * l + 1) = n := (lcR_n (by omega)).trans hz0
  refine r_aload_n dX5_copyFrom_98 rfl 1 rfl ?_
  refine r_getR (ci := 7) (k := 11) (b := As l + 2) dX5_copyFrom_99 fr_X5_15 ((hx_11.fr hne hs0).lo hl24 hAs).2.1 rfl ((hx_11.fr hne hs0).lo hl24 hAs).2.2.1.2.1 ?_
  refine r_iconst (v := nI 0) dX5_copyFrom_102 (by decide) ?_
  refine r_aload_n dX5_copyFrom_103 rfl 0 rfl ?_
  refine r_getR (ci := 7) (k := 11) (b := A l + 2) dX5_copyFrom_104 fr_X5_15 (hx_11.1.lo hl24 hAl).2.1 rfl (hx_11.1.lo hl24 hAl).2.2.1.2.1 ?_
  refine r_iconst (v := nI 0) dX5_copyFrom_107 (by decide) ?_
  refine r_aload_n dX5_copyFrom_108 rfl 0 rfl ?_
  refine r_getI (ci := 7) (k := 2) dX5_copyFrom_109 fr_X5_46 (hx_11.1.lo hl24 hAl).2.1 rfl ?_
  refine Wx.top (hx_11.1.l2 hl24 hAl) ?_
  refine Wx.topN hz1 ?_
  refine r_copy (t := 101) dX5_copyFrom_112 (sg2 208 rfl rfl) (sg2 210 rfl rfl) (sg2 209 rfl rfl) (sg1 21 rfl rfl) (Or.inl rfl) ((hx_11.fr hne hs0).lo hl24 hAs).2.2.2.2.1.1 (hx_11.1.lo hl24 hAl).2.2.2.2.1.1 (nI_nn (by omega)) (nI_nn (by omega)) (nI_nn (by omega)) (by rw [nI_clamp (by omega), nI_clamp (by omega)]; show _ ≤ zN T_10 (As l + 2); rw [((hx_11.fr hne hs0).lo hl24 hAs).2.2.2.2.1.2]; omega) (by rw [nI_clamp (by omega), nI_clamp (by omega)]; show _ ≤ zN T_10 (A l + 2); rw [(hx_11.1.lo hl24 hAl).2.2.2.2.1.2]; omega) (fun _ _ => rfl) (by decide) (by decide) ?_
  rw [show (nI 0).toNatClampNeg = 0 from nI_clamp (by decide), show (nI (n)).toNatClampNeg = n from nI_clamp (by omega)]
  refine Wx.gx (OX.WU (f := 0) (c' := (lcU (lcR c1 cs l) cs l 0 n)) hx_11 hl24 hAl (by decide) (fun j hj => ?_) (fun z hz => ?_)) (fun T_11 (hx_12 : OX S w A T_11 w k o A (lcU (lcR c1 cs l) cs l 0 n)) => ?_)
  · unfold va_cpy
    by_cases q9 : j < n
    · rw [if_pos (by omega), lcU_y (by omega), Nat.zero_add, Nat.sub_zero]; exact (hx_11.fr hne hs0).u0 hl24 hAs hj
    · rw [if_neg (by omega), lcU_n (by omega)]; exact hx_11.1.u0 hl24 hAl hj
  · refine lcU_n (fun q9 => hz ((z - 402) / 8 - 200 * l) (by omega) (by omega))
  have hz2 : (lcU (lcR c1 cs l) cs l 0 n) (90 + 13 * l + 1) = n := (lcU_n (by omega)).trans hz1
  refine r_aload_n dX5_copyFrom_115 rfl 1 rfl ?_
  refine r_getR (ci := 7) (k := 12) (b := As l + 3) dX5_copyFrom_116 fr_X5_18 ((hx_12.fr hne hs0).lo hl24 hAs).2.1 rfl ((hx_12.fr hne hs0).lo hl24 hAs).2.2.1.2.2.1 ?_
  refine r_iconst (v := nI 0) dX5_copyFrom_119 (by decide) ?_
  refine r_aload_n dX5_copyFrom_120 rfl 0 rfl ?_
  refine r_getR (ci := 7) (k := 12) (b := A l + 3) dX5_copyFrom_121 fr_X5_18 (hx_12.1.lo hl24 hAl).2.1 rfl (hx_12.1.lo hl24 hAl).2.2.1.2.2.1 ?_
  refine r_iconst (v := nI 0) dX5_copyFrom_124 (by decide) ?_
  refine r_aload_n dX5_copyFrom_125 rfl 0 rfl ?_
  refine r_getI (ci := 7) (k := 2) dX5_copyFrom_126 fr_X5_46 (hx_12.1.lo hl24 hAl).2.1 rfl ?_
  refine Wx.top (hx_12.1.l2 hl24 hAl) ?_
  refine Wx.topN hz2 ?_
  refine r_copy (t := 101) dX5_copyFrom_129 (sg2 208 rfl rfl) (sg2 210 rfl rfl) (sg2 209 rfl rfl) (sg1 21 rfl rfl) (Or.inl rfl) ((hx_12.fr hne hs0).lo hl24 hAs).2.2.2.2.2.1.1 (hx_12.1.lo hl24 hAl).2.2.2.2.2.1.1 (nI_nn (by omega)) (nI_nn (by omega)) (nI_nn (by omega)) (by rw [nI_clamp (by omega), nI_clamp (by omega)]; show _ ≤ zN T_11 (As l + 3); rw [((hx_12.fr hne hs0).lo hl24 hAs).2.2.2.2.2.1.2]; omega) (by rw [nI_clamp (by omega), nI_clamp (by omega)]; show _ ≤ zN T_11 (A l + 3); rw [(hx_12.1.lo hl24 hAl).2.2.2.2.2.1.2]; omega) (fun _ _ => rfl) (by decide) (by decide) ?_
  rw [show (nI 0).toNatClampNeg = 0 from nI_clamp (by decide), show (nI (n)).toNatClampNeg = n from nI_clamp (by omega)]
  refine Wx.gx (OX.WU (f := 1) (c' := (lcU (lcU (lcR c1 cs l) cs l 0 n) cs l 1 n)) hx_12 hl24 hAl (by decide) (fun j hj => ?_) (fun z hz => ?_)) (fun T_12 (hx_13 : OX S w A T_12 w k o A (lcU (lcU (lcR c1 cs l) cs l 0 n) cs l 1 n)) => ?_)
  · unfold va_cpy
    by_cases q9 : j < n
    · rw [if_pos (by omega), lcU_y (by omega), Nat.zero_add, Nat.sub_zero]; exact (hx_12.fr hne hs0).u1 hl24 hAs hj
    · rw [if_neg (by omega), lcU_n (by omega)]; exact hx_12.1.u1 hl24 hAl hj
  · refine lcU_n (fun q9 => hz ((z - 402) / 8 - 200 * l) (by omega) (by omega))
  have hz3 : (lcU (lcU (lcR c1 cs l) cs l 0 n) cs l 1 n) (90 + 13 * l + 1) = n := (lcU_n (by omega)).trans hz2
  refine r_aload_n dX5_copyFrom_132 rfl 1 rfl ?_
  refine r_getR (ci := 7) (k := 13) (b := As l + 4) dX5_copyFrom_133 fr_X5_21 ((hx_13.fr hne hs0).lo hl24 hAs).2.1 rfl ((hx_13.fr hne hs0).lo hl24 hAs).2.2.1.2.2.2.1 ?_
  refine r_iconst (v := nI 0) dX5_copyFrom_136 (by decide) ?_
  refine r_aload_n dX5_copyFrom_137 rfl 0 rfl ?_
  refine r_getR (ci := 7) (k := 13) (b := A l + 4) dX5_copyFrom_138 fr_X5_21 (hx_13.1.lo hl24 hAl).2.1 rfl (hx_13.1.lo hl24 hAl).2.2.1.2.2.2.1 ?_
  refine r_iconst (v := nI 0) dX5_copyFrom_141 (by decide) ?_
  refine r_aload_n dX5_copyFrom_142 rfl 0 rfl ?_
  refine r_getI (ci := 7) (k := 2) dX5_copyFrom_143 fr_X5_46 (hx_13.1.lo hl24 hAl).2.1 rfl ?_
  refine Wx.top (hx_13.1.l2 hl24 hAl) ?_
  refine Wx.topN hz3 ?_
  refine r_copy (t := 101) dX5_copyFrom_146 (sg2 208 rfl rfl) (sg2 210 rfl rfl) (sg2 209 rfl rfl) (sg1 21 rfl rfl) (Or.inl rfl) ((hx_13.fr hne hs0).lo hl24 hAs).2.2.2.2.2.2.1.1 (hx_13.1.lo hl24 hAl).2.2.2.2.2.2.1.1 (nI_nn (by omega)) (nI_nn (by omega)) (nI_nn (by omega)) (by rw [nI_clamp (by omega), nI_clamp (by omega)]; show _ ≤ zN T_12 (As l + 4); rw [((hx_13.fr hne hs0).lo hl24 hAs).2.2.2.2.2.2.1.2]; omega) (by rw [nI_clamp (by omega), nI_clamp (by omega)]; show _ ≤ zN T_12 (A l + 4); rw [(hx_13.1.lo hl24 hAl).2.2.2.2.2.2.1.2]; omega) (fun _ _ => rfl) (by decide) (by decide) ?_
  rw [show (nI 0).toNatClampNeg = 0 from nI_clamp (by decide), show (nI (n)).toNatClampNeg = n from nI_clamp (by omega)]
  refine Wx.gx (OX.WU (f := 2) (c' := (lcU (lcU (lcU (lcR c1 cs l) cs l 0 n) cs l 1 n) cs l 2 n)) hx_13 hl24 hAl (by decide) (fun j hj => ?_) (fun z hz => ?_)) (fun T_13 (hx_14 : OX S w A T_13 w k o A (lcU (lcU (lcU (lcR c1 cs l) cs l 0 n) cs l 1 n) cs l 2 n)) => ?_)
  · unfold va_cpy
    by_cases q9 : j < n
    · rw [if_pos (by omega), lcU_y (by omega), Nat.zero_add, Nat.sub_zero]; exact (hx_13.fr hne hs0).u2 hl24 hAs hj
    · rw [if_neg (by omega), lcU_n (by omega)]; exact hx_13.1.u2 hl24 hAl hj
  · refine lcU_n (fun q9 => hz ((z - 402) / 8 - 200 * l) (by omega) (by omega))
  have hz4 : (lcU (lcU (lcU (lcR c1 cs l) cs l 0 n) cs l 1 n) cs l 2 n) (90 + 13 * l + 1) = n := (lcU_n (by omega)).trans hz3
  refine r_aload_n dX5_copyFrom_149 rfl 1 rfl ?_
  refine r_getR (ci := 7) (k := 14) (b := As l + 5) dX5_copyFrom_150 fr_X5_24 ((hx_14.fr hne hs0).lo hl24 hAs).2.1 rfl ((hx_14.fr hne hs0).lo hl24 hAs).2.2.1.2.2.2.2.1 ?_
  refine r_iconst (v := nI 0) dX5_copyFrom_153 (by decide) ?_
  refine r_aload_n dX5_copyFrom_154 rfl 0 rfl ?_
  refine r_getR (ci := 7) (k := 14) (b := A l + 5) dX5_copyFrom_155 fr_X5_24 (hx_14.1.lo hl24 hAl).2.1 rfl (hx_14.1.lo hl24 hAl).2.2.1.2.2.2.2.1 ?_
  refine r_iconst (v := nI 0) dX5_copyFrom_158 (by decide) ?_
  refine r_aload_n dX5_copyFrom_159 rfl 0 rfl ?_
  refine r_getI (ci := 7) (k := 2) dX5_copyFrom_160 fr_X5_46 (hx_14.1.lo hl24 hAl).2.1 rfl ?_
  refine Wx.top (hx_14.1.l2 hl24 hAl) ?_
  refine Wx.topN hz4 ?_
  refine r_copy (t := 101) dX5_copyFrom_163 (sg2 208 rfl rfl) (sg2 210 rfl rfl) (sg2 209 rfl rfl) (sg1 21 rfl rfl) (Or.inl rfl) ((hx_14.fr hne hs0).lo hl24 hAs).2.2.2.2.2.2.2.1.1 (hx_14.1.lo hl24 hAl).2.2.2.2.2.2.2.1.1 (nI_nn (by omega)) (nI_nn (by omega)) (nI_nn (by omega)) (by rw [nI_clamp (by omega), nI_clamp (by omega)]; show _ ≤ zN T_13 (As l + 5); rw [((hx_14.fr hne hs0).lo hl24 hAs).2.2.2.2.2.2.2.1.2]; omega) (by rw [nI_clamp (by omega), nI_clamp (by omega)]; show _ ≤ zN T_13 (A l + 5); rw [(hx_14.1.lo hl24 hAl).2.2.2.2.2.2.2.1.2]; omega) (fun _ _ => rfl) (by decide) (by decide) ?_
  rw [show (nI 0).toNatClampNeg = 0 from nI_clamp (by decide), show (nI (n)).toNatClampNeg = n from nI_clamp (by omega)]
  refine Wx.gx (OX.WU (f := 3) (c' := (lcU (lcU (lcU (lcU (lcR c1 cs l) cs l 0 n) cs l 1 n) cs l 2 n) cs l 3 n)) hx_14 hl24 hAl (by decide) (fun j hj => ?_) (fun z hz => ?_)) (fun T_14 (hx_15 : OX S w A T_14 w k o A (lcU (lcU (lcU (lcU (lcR c1 cs l) cs l 0 n) cs l 1 n) cs l 2 n) cs l 3 n)) => ?_)
  · unfold va_cpy
    by_cases q9 : j < n
    · rw [if_pos (by omega), lcU_y (by omega), Nat.zero_add, Nat.sub_zero]; exact (hx_14.fr hne hs0).u3 hl24 hAs hj
    · rw [if_neg (by omega), lcU_n (by omega)]; exact hx_14.1.u3 hl24 hAl hj
  · refine lcU_n (fun q9 => hz ((z - 402) / 8 - 200 * l) (by omega) (by omega))
  have hz5 : (lcU (lcU (lcU (lcU (lcR c1 cs l) cs l 0 n) cs l 1 n) cs l 2 n) cs l 3 n) (90 + 13 * l + 1) = n := (lcU_n (by omega)).trans hz4
  refine r_aload_n dX5_copyFrom_166 rfl 1 rfl ?_
  refine r_getR (ci := 7) (k := 15) (b := As l + 6) dX5_copyFrom_167 fr_X5_27 ((hx_15.fr hne hs0).lo hl24 hAs).2.1 rfl ((hx_15.fr hne hs0).lo hl24 hAs).2.2.1.2.2.2.2.2.1 ?_
  refine r_iconst (v := nI 0) dX5_copyFrom_170 (by decide) ?_
  refine r_aload_n dX5_copyFrom_171 rfl 0 rfl ?_
  refine r_getR (ci := 7) (k := 15) (b := A l + 6) dX5_copyFrom_172 fr_X5_27 (hx_15.1.lo hl24 hAl).2.1 rfl (hx_15.1.lo hl24 hAl).2.2.1.2.2.2.2.2.1 ?_
  refine r_iconst (v := nI 0) dX5_copyFrom_175 (by decide) ?_
  refine r_aload_n dX5_copyFrom_176 rfl 0 rfl ?_
  refine r_getI (ci := 7) (k := 2) dX5_copyFrom_177 fr_X5_46 (hx_15.1.lo hl24 hAl).2.1 rfl ?_
  refine Wx.top (hx_15.1.l2 hl24 hAl) ?_
  refine Wx.topN hz5 ?_
  refine r_copy (t := 101) dX5_copyFrom_180 (sg2 208 rfl rfl) (sg2 210 rfl rfl) (sg2 209 rfl rfl) (sg1 21 rfl rfl) (Or.inl rfl) ((hx_15.fr hne hs0).lo hl24 hAs).2.2.2.2.2.2.2.2.1.1 (hx_15.1.lo hl24 hAl).2.2.2.2.2.2.2.2.1.1 (nI_nn (by omega)) (nI_nn (by omega)) (nI_nn (by omega)) (by rw [nI_clamp (by omega), nI_clamp (by omega)]; show _ ≤ zN T_14 (As l + 6); rw [((hx_15.fr hne hs0).lo hl24 hAs).2.2.2.2.2.2.2.2.1.2]; omega) (by rw [nI_clamp (by omega), nI_clamp (by omega)]; show _ ≤ zN T_14 (A l + 6); rw [(hx_15.1.lo hl24 hAl).2.2.2.2.2.2.2.2.1.2]; omega) (fun _ _ => rfl) (by decide) (by decide) ?_
  rw [show (nI 0).toNatClampNeg = 0 from nI_clamp (by decide), show (nI (n)).toNatClampNeg = n from nI_clamp (by omega)]
  refine Wx.gx (OX.WU (f := 4) (c' := (lcU (lcU (lcU (lcU (lcU (lcR c1 cs l) cs l 0 n) cs l 1 n) cs l 2 n) cs l 3 n) cs l 4 n)) hx_15 hl24 hAl (by decide) (fun j hj => ?_) (fun z hz => ?_)) (fun T_15 (hx_16 : OX S w A T_15 w k o A (lcU (lcU (lcU (lcU (lcU (lcR c1 cs l) cs l 0 n) cs l 1 n) cs l 2 n) cs l 3 n) cs l 4 n)) => ?_)
  · unfold va_cpy
    by_cases q9 : j < n
    · rw [if_pos (by omega), lcU_y (by omega), Nat.zero_add, Nat.sub_zero]; exact (hx_15.fr hne hs0).u4 hl24 hAs hj
    · rw [if_neg (by omega), lcU_n (by omega)]; exact hx_15.1.u4 hl24 hAl hj
  · refine lcU_n (fun q9 => hz ((z - 402) / 8 - 200 * l) (by omega) (by omega))
  have hz6 : (lcU (lcU (lcU (lcU (lcU (lcR c1 cs l) cs l 0 n) cs l 1 n) cs l 2 n) cs l 3 n) cs l 4 n) (90 + 13 * l + 1) = n := (lcU_n (by omega)).trans hz5
  refine r_aload_n dX5_copyFrom_183 rfl 1 rfl ?_
  refine r_getR (ci := 7) (k := 16) (b := As l + 7) dX5_copyFrom_184 fr_X5_30 ((hx_16.fr hne hs0).lo hl24 hAs).2.1 rfl ((hx_16.fr hne hs0).lo hl24 hAs).2.2.1.2.2.2.2.2.2 ?_
  refine r_iconst (v := nI 0) dX5_copyFrom_187 (by decide) ?_
  refine r_aload_n dX5_copyFrom_188 rfl 0 rfl ?_
  refine r_getR (ci := 7) (k := 16) (b := A l + 7) dX5_copyFrom_189 fr_X5_30 (hx_16.1.lo hl24 hAl).2.1 rfl (hx_16.1.lo hl24 hAl).2.2.1.2.2.2.2.2.2 ?_
  refine r_iconst (v := nI 0) dX5_copyFrom_192 (by decide) ?_
  refine r_aload_n dX5_copyFrom_193 rfl 0 rfl ?_
  refine r_getI (ci := 7) (k := 2) dX5_copyFrom_194 fr_X5_46 (hx_16.1.lo hl24 hAl).2.1 rfl ?_
  refine Wx.top (hx_16.1.l2 hl24 hAl) ?_
  refine Wx.topN hz6 ?_
  refine r_copy (t := 101) dX5_copyFrom_197 (sg2 208 rfl rfl) (sg2 210 rfl rfl) (sg2 209 rfl rfl) (sg1 21 rfl rfl) (Or.inl rfl) ((hx_16.fr hne hs0).lo hl24 hAs).2.2.2.2.2.2.2.2.2.1 (hx_16.1.lo hl24 hAl).2.2.2.2.2.2.2.2.2.1 (nI_nn (by omega)) (nI_nn (by omega)) (nI_nn (by omega)) (by rw [nI_clamp (by omega), nI_clamp (by omega)]; show _ ≤ zN T_15 (As l + 7); rw [((hx_16.fr hne hs0).lo hl24 hAs).2.2.2.2.2.2.2.2.2.2]; omega) (by rw [nI_clamp (by omega), nI_clamp (by omega)]; show _ ≤ zN T_15 (A l + 7); rw [(hx_16.1.lo hl24 hAl).2.2.2.2.2.2.2.2.2.2]; omega) (fun _ _ => rfl) (by decide) (by decide) ?_
  rw [show (nI 0).toNatClampNeg = 0 from nI_clamp (by decide), show (nI (n)).toNatClampNeg = n from nI_clamp (by omega)]
  refine Wx.gx (OX.WU (f := 5) (c' := (lcU (lcU (lcU (lcU (lcU (lcU (lcR c1 cs l) cs l 0 n) cs l 1 n) cs l 2 n) cs l 3 n) cs l 4 n) cs l 5 n)) hx_16 hl24 hAl (by decide) (fun j hj => ?_) (fun z hz => ?_)) (fun T_16 (hx_17 : OX S w A T_16 w k o A (lcU (lcU (lcU (lcU (lcU (lcU (lcR c1 cs l) cs l 0 n) cs l 1 n) cs l 2 n) cs l 3 n) cs l 4 n) cs l 5 n)) => ?_)
  · unfold va_cpy
    by_cases q9 : j < n
    · rw [if_pos (by omega), lcU_y (by omega), Nat.zero_add, Nat.sub_zero]; exact (hx_16.fr hne hs0).u5 hl24 hAs hj
    · rw [if_neg (by omega), lcU_n (by omega)]; exact hx_16.1.u5 hl24 hAl hj
  · refine lcU_n (fun q9 => hz ((z - 402) / 8 - 200 * l) (by omega) (by omega))
  have hz7 : (lcU (lcU (lcU (lcU (lcU (lcU (lcR c1 cs l) cs l 0 n) cs l 1 n) cs l 2 n) cs l 3 n) cs l 4 n) cs l 5 n) (90 + 13 * l + 1) = n := (lcU_n (by omega)).trans hz6
  exact r_vret dX5_copyFrom_200 rfl ⟨rfl, _, hx_17, lc_fin hl24 hn e1 e2⟩
