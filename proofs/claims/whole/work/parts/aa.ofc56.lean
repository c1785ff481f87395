/-! THE CHANCE: both sides walked -/
section ChRules
variable {M : MI} {G : GI} {S : Hp} {pc : Nat} {lv : List (Nat × Value)} {st : List Value} {Q : OV → Hp → Prop}
theorem Wx.topD {x y : UInt64} (h : x = y) (kk : Wx M G S pc lv (.double y :: st) Q) : Wx M G S pc lv (.double x :: st) Q := h ▸ kk
end ChRules
def dR (S : Hp) (a : Nat) (f : Nat → UInt64) : Hp := (zT S, zN S, zI S, zP S, zA S, zL S, up1 (zD S) a f, zQ S, zX S, zU S)
theorem dR_self {S : Hp} {a : Nat} : dR S a (zD S a) = S := by
  show (zT S, zN S, zI S, zP S, zA S, zL S, up1 (zD S) a (zD S a), zQ S, zX S, zU S) = S
  rw [up1_self]; rfl
theorem dR_u {S : Hp} {a i : Nat} {f : Nat → UInt64} {x : UInt64} : uD (dR S a f) a i x = dR S a (up1 f i x) := by
  show (zT S, zN S, zI S, zP S, zA S, zL S, up2 (up1 (zD S) a f) a i x, zQ S, zX S, zU S) = (zT S, zN S, zI S, zP S, zA S, zL S, up1 (zD S) a (up1 f i x), zQ S, zX S, zU S)
  congr 7
  funext b j
  unfold up2 up1
  by_cases e : b = a
  · subst e
    by_cases e2 : j = i
    · rw [if_pos ⟨rfl, e2⟩, if_pos rfl, if_pos e2]
    · rw [if_neg (fun q => e2 q.2), if_pos rfl, if_pos rfl, if_neg e2]
  · rw [if_neg (fun q => e q.1), if_neg e, if_neg e]
theorem zD_dR {S : Hp} {a i : Nat} {f : Nat → UInt64} : zD (dR S a f) a i = f i := congrFun (up1_s (f := zD S) (i := a) (x := f)) i
theorem same_dR {S : Hp} {a b : Nat} {f : Nat → UInt64} (h : b ≠ a) : Same S (dR S a f) b := ⟨fun _ => rfl, fun _ => rfl, rfl, rfl, up1_n h, rfl⟩
/-- the row of the numbers: M places of it -/
def rwC (M n b j : Nat) (f : Nat → UInt64) : Nat → UInt64 := fun q => if q < M then odC n b j q else f q
def rkC (M n b j : Nat) (f : Nat → UInt64) (v : Nat) : Nat → UInt64 := fun q => if q < M then (if v ≤ q then odC n b (j + 1) q else odC n b j q) else f q
theorem rkC_top {M n b j : Nat} {f : Nat → UInt64} : rkC M n b j f (j + 2) = rwC M n b j f := funext fun q => by
  unfold rkC rwC
  by_cases h : j + 2 ≤ q
  · rw [if_pos h, show odC n b (j + 1) q = odC n b j q from if_neg (by omega)]
  · rw [if_neg h]
theorem rkC_0 {M n b j : Nat} {f : Nat → UInt64} : rkC M n b j f 0 = rwC M n b (j + 1) f := funext fun q => by
  unfold rkC rwC
  rw [if_pos (Nat.zero_le q)]
theorem rkC_s {M n b j k : Nat} {f : Nat → UInt64} {z : UInt64} (hz : z = stC n b j (odC n b j) k) (hk : k < M) (hj : k ≤ j + 1) : up1 (rkC M n b j f (k + 1)) k z = rkC M n b j f k := funext fun q => by
  unfold up1 rkC
  by_cases e : q = k
  · subst e
    rw [if_pos rfl, if_pos hk, if_pos (Nat.le_refl _), hz]
    exact (if_pos hj).symm
  · rw [if_neg e]
    by_cases h : k + 1 ≤ q
    · rw [if_pos h, if_pos (show k ≤ q by omega)]
    · rw [if_neg h, if_neg (show ¬ k ≤ q by omega)]
theorem rkC_r {M n b j v q : Nat} {f : Nat → UInt64} (h1 : q < M) (h2 : q < v) : rkC M n b j f v q = odC n b j q := by
  unfold rkC
  rw [if_pos h1, if_neg (by omega)]
theorem rwC_0 {n b : Nat} {f : Nat → UInt64} : rwC 0 n b 0 f = f := funext fun q => if_neg (Nat.not_lt_zero q)
theorem rwC_s {n b u : Nat} {f : Nat → UInt64} {z : UInt64} (hz : z = odC n b 0 u) : up1 (rwC u n b 0 f) u z = rwC (u + 1) n b 0 f := funext fun q => by
  unfold up1 rwC
  by_cases e : q = u
  · subst e
    rw [if_pos rfl, if_pos (Nat.lt_succ_self _), hz]
  · rw [if_neg e]
    by_cases h : q < u
    · rw [if_pos h, if_pos (show q < u + 1 by omega)]
    · rw [if_neg h, if_neg (show ¬ q < u + 1 by omega)]
theorem rwC_r {M n b j q : Nat} {f : Nat → UInt64} (h : q < M) : rwC M n b j f q = odC n b j q := if_pos h
/-- numbers that may be below 0 -/
theorem i_sub3 {a j k : Nat} (h : j ≤ a + k) : nI a - (nI j - nI k) = nI (a + k - j) := by
  have e : nI a - (nI j - nI k) = nI a + nI k - nI j := by grind
  rw [e, nI_add, show a + k = a + k - j + j by omega, ← nI_add, Int32.add_sub_cancel, show a + k - j + j - j = a + k - j by omega]
theorem i_neg33 : ∀ z, z < 300 → 0 < z → -(nI z) < nI 0 := by decide +kernel
theorem i_max3 {a j k : Nat} (ha : a + k < 1000) (hj : j < 300) : (if nI a - (nI j - nI k) < nI 0 then nI 0 else nI a - (nI j - nI k)) = nI (a + k - j) := by
  by_cases h : j ≤ a + k
  · rw [i_sub3 h, if_neg (show ¬ nI (a + k - j) < nI 0 from nI_pos (by omega))]
  · have e : nI a - (nI j - nI k) = -(nI (j - (a + k))) := by
      have e1 : nI j = nI (j - (a + k)) + (nI a + nI k) := by rw [nI_add, nI_add]; congr 1; omega
      rw [e1]
      grind
    rw [e, if_pos (i_neg33 _ (by omega) (by omega)), show a + k - j = 0 by omega]
theorem i_least3 {a j k : Nat} (ha : a + k < 1000) (hj : j < 300) : (if nI 0 < nI a - (nI j - nI k) then nI a - (nI j - nI k) else nI 0) = nI (a + k - j) := by
  by_cases h : j ≤ a + k
  · rw [i_sub3 h]
    by_cases h0 : a + k - j = 0
    · rw [h0]; decide
    · rw [if_pos ((nI_ltI (by decide) (by omega)).mpr (by omega))]
  · have e : nI a - (nI j - nI k) = -(nI (j - (a + k))) := by
      have e1 : nI j = nI (j - (a + k)) + (nI a + nI k) := by rw [nI_add, nI_add]; congr 1; omega
      rw [e1]
      grind
    have h2 := i_neg33 (j - (a + k)) (by omega) (by omega)
    rw [e, if_neg (fun q => absurd (Int32.lt_trans q h2) (by decide)), show a + k - j = 0 by omega]
theorem rput_uD {T : Hp} {m i : Nat} {V : RVal} {od : Nat → UInt64} {x : UInt64} : uD (rput T m V od) (m + 6) i x = rput T m V (up1 od i x) := by
  have e : up2 (fun a i => if a = m + 6 then od i else zD T a i) (m + 6) i x = fun a j => if a = m + 6 then up1 od i x j else zD T a j := by
    funext b j
    unfold up2 up1
    by_cases e : b = m + 6
    · by_cases e2 : j = i
      · rw [if_pos ⟨e, e2⟩, if_pos e, if_pos e2]
      · rw [if_neg (fun q => e2 q.2), if_pos e, if_neg e2]; exact if_pos e
    · rw [if_neg (fun q => e q.1), if_neg e]; exact if_neg e
  exact congrArg (fun z => (zT T, zN T, zI (rput T m V od), zP T, zA (rput T m V od), zL T, z, zQ T, zX T, zU T)) e
set_option maxRecDepth 4000 in
set_option maxHeartbeats 400000 in
theorem k_draw {G : GI} {S : Hp} {c v : Nat} (h1 : zT S c = 5) (hpv : zP S 128 c = some v) (h2 : zT S v = 103) (h3 : zN S v = 33) {n b : Nat} (hb : b ≤ n) (hn : n ≤ 200) {j : Nat} (hj : j < n) (hj32 : j < 32) {f : Nat → UInt64} : Fn m_X2_drawOneMore G [.ref c, .int (nI j), .int (nI n), .int (nI b)] (dR S v (rwC 33 n b j f)) none (dR S v (rwC 33 n b (j + 1) f)) := by
  refine Cn.of rfl (by decide) (Nat.le_of_ble_eq_true rfl) (fun hN hM => ?_)
  show Wx _ G _ 0 [(0, .ref (c)), (1, .int (nI (j))), (2, .int (nI (n))), (3, .int (nI (b)))] [] _
  refine r_iload_n dX2_drawOneMore_0 rfl 2 rfl ?_
  refine r_iload_n dX2_drawOneMore_1 rfl 1 rfl ?_
  refine r_isubN dX2_drawOneMore_2 (by omega) ?_
  refine r_i2d dX2_drawOneMore_3 ?_
  refine r_dstore (lv' := [(4, .double (FP.i2d (nI (n - j)))), (0, .ref (c)), (1, .int (nI (j))), (2, .int (nI (n))), (3, .int (nI (b)))]) dX2_drawOneMore_4 (by decide) rfl ?_
  refine r_iload_n dX2_drawOneMore_6 rfl 2 rfl ?_
  refine r_iconst (v := nI 1) dX2_drawOneMore_7 (by decide) ?_
  refine r_iaddN dX2_drawOneMore_8 ?_
  refine r_aload_n dX2_drawOneMore_9 rfl 1 rfl ?_
  refine r_getR (ci := 4) (k := 0) (b := v) dX2_drawOneMore_10 fr_X2_7 h1 rfl hpv ?_
  refine r_alen103 dX2_drawOneMore_13 h2 ?_
  refine Wx.top (congrArg nI h3) ?_
  refine r_iconst (v := nI 1) dX2_drawOneMore_14 (by decide) ?_
  refine r_isubN dX2_drawOneMore_15 (by omega) ?_
  refine r_fnS (M2 := m_J9_min_7cf53) (As := [.int (nI (j + 1)), .int (nI (32))]) (rest := []) (v := some (.int (nI (j + 1)))) dX2_drawOneMore_16 cc_X2_drawOneMore_17 rfl rfl rfl (Nat.le_of_ble_eq_true rfl) (by have q9 := j_min (G := G) (S := dR S v (rwC 33 n b j f)) (x := j + 1) (y := 32) (by omega) (by omega); rw [show Nat.min (j + 1) 32 = j + 1 from Nat.min_eq_left (by omega)] at q9; exact q9) rfl ?_
  refine r_istore (lv' := [(6, .int (nI (j + 1))), (4, .double (FP.i2d (nI (n - j)))), (0, .ref (c)), (1, .int (nI (j))), (2, .int (nI (n))), (3, .int (nI (b)))]) dX2_drawOneMore_19 (by decide) rfl ?_
  refine Wx.loopR (fun u T lv => ∃ q, q + u = j + 2 ∧ T = dR S v (rkC 33 n b j f q) ∧ lv = [(6, .int (nI q + (-1))), (4, .double (FP.i2d (nI (n - j)))), (0, .ref (c)), (1, .int (nI (j))), (2, .int (nI (n))), (3, .int (nI (b)))]) (j + 2) 0 (Nat.zero_le _) ⟨j + 2, rfl, by rw [rkC_top], by rw [i_less1 (j + 1) (by omega)]⟩ (fun u T lv hu0 hu hI nx => ?_)
  obtain ⟨q, hq, rfl, rfl⟩ := hI
  rcases q with _ | k
  · refine r_iload dX2_drawOneMore_21 0 rfl ?_
    refine Wx.top (y := -1) (by decide) ?_
    refine r_if_lt (tgt := 109) dX2_drawOneMore_23 (by decide) (fun _ => ?_) (fun hh => absurd (by decide) hh)
    exact r_vret dX2_drawOneMore_109 rfl ⟨rfl, congrArg (fun z => dR S v z) rkC_0⟩
  · rw [i_less1 k (by omega)]
    have hst := (ivC hb hn (show j ≤ n by omega) (show j ≤ 32 by omega)).step (k := k) hb hn hj hj32 (by omega)
    refine r_iload dX2_drawOneMore_21 0 rfl ?_
    refine r_if_ltN (tgt := 109) dX2_drawOneMore_23 (by decide) (by omega) ?_
    refine r_iload_n dX2_drawOneMore_26 rfl 4 rfl ?_
    refine r_iload_n dX2_drawOneMore_27 rfl 5 rfl ?_
    refine r_isubN dX2_drawOneMore_28 (by omega) ?_
    refine r_iload_n dX2_drawOneMore_29 rfl 3 rfl ?_
    refine r_iload dX2_drawOneMore_30 0 rfl ?_
    refine r_isub dX2_drawOneMore_32 ?_
    refine r_isub dX2_drawOneMore_33 ?_
    refine r_iconst (v := nI 0) dX2_drawOneMore_34 (by decide) ?_
    refine r_fnS (M2 := m_J9_max_7cf53) (As := [.int (nI (n - b) - (nI j - nI k)), .int (nI (0))]) (rest := []) (v := some (.int (nI (n - b + k - j)))) dX2_drawOneMore_35 cc_X2_drawOneMore_23 rfl rfl rfl (Nat.le_of_ble_eq_true rfl) (Fn.eq j_maxI (congrArg (fun z => some (Value.int z)) (i_max3 (a := n - b) (j := j) (k := k) (by omega) (by omega))) rfl) rfl ?_
    refine r_i2d dX2_drawOneMore_38 ?_
    refine r_dstore (lv' := [(7, .double (FP.i2d (nI (n - b + k - j)))), (6, .int (nI (k))), (4, .double (FP.i2d (nI (n - j)))), (0, .ref (c)), (1, .int (nI (j))), (2, .int (nI (n))), (3, .int (nI (b)))]) dX2_drawOneMore_39 (by decide) rfl ?_
    refine r_iload_n dX2_drawOneMore_41 rfl 6 rfl ?_
    refine r_iload dX2_drawOneMore_42 1 rfl ?_
    refine r_iconst (v := nI 1) dX2_drawOneMore_44 (by decide) ?_
    refine r_isub dX2_drawOneMore_45 ?_
    refine r_isub dX2_drawOneMore_46 ?_
    refine r_iconst (v := nI 0) dX2_drawOneMore_47 (by decide) ?_
    refine r_fnS (M2 := m_J9_max_7cf53) (As := [.int (nI b - (nI k - nI 1)), .int (nI (0))]) (rest := []) (v := some (.int (nI (b + 1 - k)))) dX2_drawOneMore_48 cc_X2_drawOneMore_23 rfl rfl rfl (Nat.le_of_ble_eq_true rfl) (Fn.eq j_maxI (congrArg (fun z => some (Value.int z)) (i_max3 (a := b) (j := k) (k := 1) (by omega) (by omega))) rfl) rfl ?_
    refine r_i2d dX2_drawOneMore_51 ?_
    refine r_dstore (lv' := [(9, .double (FP.i2d (nI (b + 1 - k)))), (7, .double (FP.i2d (nI (n - b + k - j)))), (6, .int (nI (k))), (4, .double (FP.i2d (nI (n - j)))), (0, .ref (c)), (1, .int (nI (j))), (2, .int (nI (n))), (3, .int (nI (b)))]) dX2_drawOneMore_52 (by decide) rfl ?_
    refine r_iload dX2_drawOneMore_54 2 rfl ?_
    refine r_if_neN (tgt := 63) dX2_drawOneMore_56 (by decide) (by omega) (fun h56 => ?_) (fun h56 => ?_)
    · refine r_aload_n dX2_drawOneMore_63 rfl 4 rfl ?_
      refine r_getR (ci := 4) (k := 0) (b := v) dX2_drawOneMore_64 fr_X2_7 h1 rfl hpv ?_
      refine r_iload dX2_drawOneMore_67 2 rfl ?_
      refine r_iconst (v := nI 1) dX2_drawOneMore_69 (by decide) ?_
      refine r_isubN dX2_drawOneMore_70 (by omega) ?_
      refine r_dald dX2_drawOneMore_71 h2 (show vp_in _ (zN _ _) from by rw [show zN (dR S v (rkC 33 n b j f (k + 1))) (v) = 33 from h3]; exact vp_in_nI (by omega) (by decide)) ?_
      refine Wx.topD ((congrArg (zD _ _) (nI_clamp (by omega))).trans ((zD_dR).trans (rkC_r (by omega) (by omega)))) ?_
      have hpr : prC n b j k = odC n b j (k - 1) := if_neg h56
      rw [hpr] at hst
      have hz : stC n b j (odC n b j) k = FP.dadd (FP.ddiv (FP.dmul (odC n b j k) (FP.i2d (nI (n - b + k - j)))) (FP.i2d (nI (n - j)))) (FP.ddiv (FP.dmul (odC n b j (k - 1)) (FP.i2d (nI (b + 1 - k)))) (FP.i2d (nI (n - j)))) := by unfold stC; rw [if_neg h56]
      refine r_dstore (lv' := [(11, .double (odC n b j (k - 1))), (9, .double (FP.i2d (nI (b + 1 - k)))), (7, .double (FP.i2d (nI (n - b + k - j)))), (6, .int (nI (k))), (4, .double (FP.i2d (nI (n - j)))), (0, .ref (c)), (1, .int (nI (j))), (2, .int (nI (n))), (3, .int (nI (b)))]) dX2_drawOneMore_72 (by decide) rfl ?_
      refine r_aload_n dX2_drawOneMore_74 rfl 5 rfl ?_
      refine r_getR (ci := 4) (k := 0) (b := v) dX2_drawOneMore_75 fr_X2_7 h1 rfl hpv ?_
      refine r_iload dX2_drawOneMore_78 3 rfl ?_
      refine r_aload_n dX2_drawOneMore_80 rfl 5 rfl ?_
      refine r_getR (ci := 4) (k := 0) (b := v) dX2_drawOneMore_81 fr_X2_7 h1 rfl hpv ?_
      refine r_iload dX2_drawOneMore_84 3 rfl ?_
      refine r_dald dX2_drawOneMore_86 h2 (show vp_in _ (zN _ _) from by rw [show zN (dR S v (rkC 33 n b j f (k + 1))) (v) = 33 from h3]; exact vp_in_nI (by omega) (by decide)) ?_
      refine Wx.topD ((congrArg (zD _ _) (nI_clamp (by omega))).trans ((zD_dR).trans (rkC_r (by omega) (by omega)))) ?_
      refine r_dload dX2_drawOneMore_87 2 rfl ?_
      refine r_dmul dX2_drawOneMore_89 hst.1.1.nn ?_
      refine r_dload dX2_drawOneMore_90 4 rfl ?_
      refine r_ddiv dX2_drawOneMore_92 hst.1.2.nn ?_
      refine r_dload dX2_drawOneMore_93 0 rfl ?_
      refine r_dload dX2_drawOneMore_95 1 rfl ?_
      refine r_dmul dX2_drawOneMore_97 hst.2.1.1.nn ?_
      refine r_dload dX2_drawOneMore_98 4 rfl ?_
      refine r_ddiv dX2_drawOneMore_100 hst.2.1.2.nn ?_
      refine r_dadd dX2_drawOneMore_101 (hz ▸ hst.2.2.1.nn) ?_
      refine r_dast dX2_drawOneMore_102 h2 (show vp_in _ (zN _ _) from by rw [show zN (dR S v (rkC 33 n b j f (k + 1))) (v) = 33 from h3]; exact vp_in_nI (by omega) (by decide)) ?_
      refine Wx.st' (S' := dR S v (rkC 33 n b j f k)) (by rw [nI_clamp (by omega), dR_u]; exact congrArg (fun z => dR S v z) (rkC_s hz.symm (by omega) (by omega))) ?_
      refine r_iinc (v := nI k + (-1)) (lv' := [(6, .int (nI k + (-1))), (11, .double (odC n b j (k - 1))), (9, .double (FP.i2d (nI (b + 1 - k)))), (7, .double (FP.i2d (nI (n - b + k - j)))), (4, .double (FP.i2d (nI (n - j)))), (0, .ref (c)), (1, .int (nI (j))), (2, .int (nI (n))), (3, .int (nI (b)))]) dX2_drawOneMore_103 3 rfl (by rfl) (by decide) rfl ?_
      refine r_goto (tgt := 21) dX2_drawOneMore_106 (by decide) ?_
      refine Wx.sub [0, 4, 5, 6, 7, 8] rfl ?_
      exact nx _ _ (by omega) ⟨k, by omega, rfl, rfl⟩
    · refine r_dconst0 dX2_drawOneMore_59 ?_
      refine r_goto (tgt := 72) dX2_drawOneMore_60 (by decide) ?_
      have hpr : prC n b j k = FP.dconst0 := if_pos h56
      rw [hpr] at hst
      have hz : stC n b j (odC n b j) k = FP.dadd (FP.ddiv (FP.dmul (odC n b j k) (FP.i2d (nI (n - b + k - j)))) (FP.i2d (nI (n - j)))) (FP.ddiv (FP.dmul (FP.dconst0) (FP.i2d (nI (b + 1 - k)))) (FP.i2d (nI (n - j)))) := by unfold stC; rw [if_pos h56]
      refine r_dstore (lv' := [(11, .double (FP.dconst0)), (9, .double (FP.i2d (nI (b + 1 - k)))), (7, .double (FP.i2d (nI (n - b + k - j)))), (6, .int (nI (k))), (4, .double (FP.i2d (nI (n - j)))), (0, .ref (c)), (1, .int (nI (j))), (2, .int (nI (n))), (3, .int (nI (b)))]) dX2_drawOneMore_72 (by decide) rfl ?_
      refine r_aload_n dX2_drawOneMore_74 rfl 5 rfl ?_
      refine r_getR (ci := 4) (k := 0) (b := v) dX2_drawOneMore_75 fr_X2_7 h1 rfl hpv ?_
      refine r_iload dX2_drawOneMore_78 3 rfl ?_
      refine r_aload_n dX2_drawOneMore_80 rfl 5 rfl ?_
      refine r_getR (ci := 4) (k := 0) (b := v) dX2_drawOneMore_81 fr_X2_7 h1 rfl hpv ?_
      refine r_iload dX2_drawOneMore_84 3 rfl ?_
      refine r_dald dX2_drawOneMore_86 h2 (show vp_in _ (zN _ _) from by rw [show zN (dR S v (rkC 33 n b j f (k + 1))) (v) = 33 from h3]; exact vp_in_nI (by omega) (by decide)) ?_
      refine Wx.topD ((congrArg (zD _ _) (nI_clamp (by omega))).trans ((zD_dR).trans (rkC_r (by omega) (by omega)))) ?_
      refine r_dload dX2_drawOneMore_87 2 rfl ?_
      refine r_dmul dX2_drawOneMore_89 hst.1.1.nn ?_
      refine r_dload dX2_drawOneMore_90 4 rfl ?_
      refine r_ddiv dX2_drawOneMore_92 hst.1.2.nn ?_
      refine r_dload dX2_drawOneMore_93 0 rfl ?_
      refine r_dload dX2_drawOneMore_95 1 rfl ?_
      refine r_dmul dX2_drawOneMore_97 hst.2.1.1.nn ?_
      refine r_dload dX2_drawOneMore_98 4 rfl ?_
      refine r_ddiv dX2_drawOneMore_100 hst.2.1.2.nn ?_
      refine r_dadd dX2_drawOneMore_101 (hz ▸ hst.2.2.1.nn) ?_
      refine r_dast dX2_drawOneMore_102 h2 (show vp_in _ (zN _ _) from by rw [show zN (dR S v (rkC 33 n b j f (k + 1))) (v) = 33 from h3]; exact vp_in_nI (by omega) (by decide)) ?_
      refine Wx.st' (S' := dR S v (rkC 33 n b j f k)) (by rw [nI_clamp (by omega), dR_u]; exact congrArg (fun z => dR S v z) (rkC_s hz.symm (by omega) (by omega))) ?_
      refine r_iinc (v := nI k + (-1)) (lv' := [(6, .int (nI k + (-1))), (11, .double (FP.dconst0)), (9, .double (FP.i2d (nI (b + 1 - k)))), (7, .double (FP.i2d (nI (n - b + k - j)))), (4, .double (FP.i2d (nI (n - j)))), (0, .ref (c)), (1, .int (nI (j))), (2, .int (nI (n))), (3, .int (nI (b)))]) dX2_drawOneMore_103 3 rfl (by rfl) (by decide) rfl ?_
      refine r_goto (tgt := 21) dX2_drawOneMore_106 (by decide) ?_
      refine Wx.sub [0, 4, 5, 6, 7, 8] rfl ?_
      exact nx _ _ (by omega) ⟨k, by omega, rfl, rfl⟩
set_option maxRecDepth 4000 in
set_option maxHeartbeats 400000 in
theorem k_ofAcc {G : GI} {S : Hp} {c v : Nat} (h1 : zT S c = 5) (hpv : zP S 128 c = some v) (h2 : zT S v = 103) (h3 : zN S v = 33) {n b : Nat} (hb : b ≤ n) (hn : n ≤ 200) {s a : Nat} (hsn : s ≤ n) (hs32 : s ≤ 32) (ha : a < 1000) {f : Nat → UInt64} : Fn m_X2_ofAcceptance G [.ref c, .int (nI n), .int (nI b), .int (nI s), .int (nI a)] (dR S v f) (some (.double (smC n b s (Nat.min a s + 1)))) (dR S v (rwC 33 n b s f)) := by
  refine Cn.of rfl (by decide) (Nat.le_of_ble_eq_true rfl) (fun hN hM => ?_)
  show Wx _ G _ 0 [(0, .ref (c)), (1, .int (nI (n))), (2, .int (nI (b))), (3, .int (nI (s))), (4, .int (nI (a)))] [] _
  have hm1 : Nat.min a s ≤ a := Nat.min_le_left _ _
  have hm2 : Nat.min a s ≤ s := Nat.min_le_right _ _
  have hm3 : Nat.min a s = a ∨ Nat.min a s = s := by
    rcases Nat.le_total a s with q | q
    · exact Or.inl (Nat.min_eq_left q)
    · exact Or.inr (Nat.min_eq_right q)
  refine r_iconst (v := nI 0) dX2_ofAcceptance_0 (by decide) ?_
  refine r_istore (lv' := [(5, .int (nI (0))), (0, .ref (c)), (1, .int (nI (n))), (2, .int (nI (b))), (3, .int (nI (s))), (4, .int (nI (a)))]) dX2_ofAcceptance_1 (by decide) rfl ?_
  rw [show dR S v f = dR S v (rwC 0 n b 0 f) from congrArg (fun z => dR S v z) rwC_0.symm]
  refine Wx.loop (fun u => dR S v (rwC u n b 0 f)) (fun u => [(5, .int (nI (u))), (0, .ref (c)), (1, .int (nI (n))), (2, .int (nI (b))), (3, .int (nI (s))), (4, .int (nI (a)))]) (33) (0) (Nat.zero_le _) (fun u hge hle next => ?_)
  show Wx _ G (dR S v (rwC u n b 0 f)) 3 [(5, .int (nI (u))), (0, .ref (c)), (1, .int (nI (n))), (2, .int (nI (b))), (3, .int (nI (s))), (4, .int (nI (a)))] [] _
  refine r_iload dX2_ofAcceptance_3 0 rfl ?_
  refine r_aload_n dX2_ofAcceptance_5 rfl 1 rfl ?_
  refine r_getR (ci := 4) (k := 0) (b := v) dX2_ofAcceptance_6 fr_X2_7 h1 rfl hpv ?_
  refine r_alen103 dX2_ofAcceptance_9 h2 ?_
  refine Wx.top (congrArg nI h3) ?_
  refine r_icmp_geN (tgt := 36) dX2_ofAcceptance_10 (by decide) (by omega) (by omega) (fun h10 => ?_) (fun h10 => ?_)
  · obtain rfl : u = 33 := by omega
    refine Wx.sub [1, 2, 3, 4, 5] rfl ?_
    refine r_iconst (v := nI 0) dX2_ofAcceptance_36 (by decide) ?_
    refine r_istore (lv' := [(5, .int (nI (0))), (0, .ref (c)), (1, .int (nI (n))), (2, .int (nI (b))), (3, .int (nI (s))), (4, .int (nI (a)))]) dX2_ofAcceptance_37 (by decide) rfl ?_
    refine Wx.loop (fun j => dR S v (rwC 33 n b j f)) (fun j => [(5, .int (nI (j))), (0, .ref (c)), (1, .int (nI (n))), (2, .int (nI (b))), (3, .int (nI (s))), (4, .int (nI (a)))]) (s) (0) (Nat.zero_le _) (fun j hge_1 hle_1 next_1 => ?_)
    show Wx _ G (dR S v (rwC 33 n b j f)) 39 [(5, .int (nI (j))), (0, .ref (c)), (1, .int (nI (n))), (2, .int (nI (b))), (3, .int (nI (s))), (4, .int (nI (a)))] [] _
    refine r_iload dX2_ofAcceptance_39 0 rfl ?_
    refine r_iload_n dX2_ofAcceptance_41 rfl 4 rfl ?_
    refine r_icmp_geN (tgt := 77) dX2_ofAcceptance_42 (by decide) (by omega) (by omega) (fun h42 => ?_) (fun h42 => ?_)
    · obtain rfl : j = s := by omega
      refine Wx.sub [1, 2, 3, 4, 5] rfl ?_
      refine r_dconst0 dX2_ofAcceptance_77 ?_
      refine r_dstore (lv' := [(5, .double (FP.dconst0)), (0, .ref (c)), (1, .int (nI (n))), (2, .int (nI (b))), (3, .int (nI (j))), (4, .int (nI (a)))]) dX2_ofAcceptance_78 (by decide) rfl ?_
      refine r_iconst (v := nI 0) dX2_ofAcceptance_80 (by decide) ?_
      refine r_istore (lv' := [(7, .int (nI (0))), (5, .double (FP.dconst0)), (0, .ref (c)), (1, .int (nI (n))), (2, .int (nI (b))), (3, .int (nI (j))), (4, .int (nI (a)))]) dX2_ofAcceptance_81 (by decide) rfl ?_
      refine Wx.loop (fun t => dR S v (rwC 33 n b j f)) (fun t => [(7, .int (nI (t))), (5, .double (smC n b j t)), (0, .ref (c)), (1, .int (nI (n))), (2, .int (nI (b))), (3, .int (nI (j))), (4, .int (nI (a)))]) (Nat.min a j + 1) (0) (Nat.zero_le _) (fun t hge_2 hle_2 next_2 => ?_)
      show Wx _ G (dR S v (rwC 33 n b j f)) 83 [(7, .int (nI (t))), (5, .double (smC n b j t)), (0, .ref (c)), (1, .int (nI (n))), (2, .int (nI (b))), (3, .int (nI (j))), (4, .int (nI (a)))] [] _
      refine r_iload dX2_ofAcceptance_83 0 rfl ?_
      refine r_iload dX2_ofAcceptance_85 6 rfl ?_
      refine r_icmp_gtN (tgt := 124) dX2_ofAcceptance_87 (by decide) (by omega) (by omega) (fun h87 => ?_) (fun h87 => ?_)
      · refine r_dload dX2_ofAcceptance_124 1 rfl ?_
        exact r_dret dX2_ofAcceptance_126 rfl ⟨by rw [show t = Nat.min a j + 1 by omega], rfl⟩
      · refine r_iload dX2_ofAcceptance_90 0 rfl ?_
        refine r_iload_n dX2_ofAcceptance_92 rfl 5 rfl ?_
        refine r_icmp_gtN (tgt := 124) dX2_ofAcceptance_93 (by decide) (by omega) (by omega) (fun h93 => ?_) (fun h93 => ?_)
        · refine r_dload dX2_ofAcceptance_124 1 rfl ?_
          exact r_dret dX2_ofAcceptance_126 rfl ⟨by rw [show t = Nat.min a j + 1 by omega], rfl⟩
        · refine r_iload dX2_ofAcceptance_96 0 rfl ?_
          refine r_aload_n dX2_ofAcceptance_98 rfl 2 rfl ?_
          refine r_getR (ci := 4) (k := 0) (b := v) dX2_ofAcceptance_99 fr_X2_7 h1 rfl hpv ?_
          refine r_alen103 dX2_ofAcceptance_102 h2 ?_
          refine Wx.top (congrArg nI h3) ?_
          refine r_icmp_geN (tgt := 124) dX2_ofAcceptance_103 (by decide) (by omega) (by omega) (fun h103 => ?_) (fun h103 => ?_)
          · exact absurd h103 (by omega)
          · refine r_dload dX2_ofAcceptance_106 1 rfl ?_
            refine r_aload_n dX2_ofAcceptance_108 rfl 2 rfl ?_
            refine r_getR (ci := 4) (k := 0) (b := v) dX2_ofAcceptance_109 fr_X2_7 h1 rfl hpv ?_
            refine r_iload dX2_ofAcceptance_112 0 rfl ?_
            refine r_dald dX2_ofAcceptance_114 h2 (show vp_in _ (zN _ _) from by rw [show zN (dR S v (rwC 33 n b j f)) (v) = 33 from h3]; exact vp_in_nI (by omega) (by decide)) ?_
            refine Wx.topD ((congrArg (zD _ _) (nI_clamp (by omega))).trans ((zD_dR).trans (rwC_r (by omega)))) ?_
            refine r_dadd dX2_ofAcceptance_115 (smC_ok (ivC hb hn hsn hs32) hs32 (t := t + 1) (by omega)).1.nn ?_
            refine r_dstore (lv' := [(5, .double (FP.dadd (smC n b j t) (odC n b j t))), (7, .int (nI (t))), (0, .ref (c)), (1, .int (nI (n))), (2, .int (nI (b))), (3, .int (nI (j))), (4, .int (nI (a)))]) dX2_ofAcceptance_116 (by decide) rfl ?_
            refine r_iincN (k := 1) (lv' := [(7, .int (nI (t + 1))), (5, .double (FP.dadd (smC n b j t) (odC n b j t))), (0, .ref (c)), (1, .int (nI (n))), (2, .int (nI (b))), (3, .int (nI (j))), (4, .int (nI (a)))]) dX2_ofAcceptance_118 (by decide) 1 rfl (by decide) rfl ?_
            refine r_goto (tgt := 83) dX2_ofAcceptance_121 (by decide) ?_
            exact next_2 (by omega)
    · refine r_iload dX2_ofAcceptance_45 0 rfl ?_
      refine r_iload_n dX2_ofAcceptance_47 rfl 2 rfl ?_
      refine r_icmp_geN (tgt := 77) dX2_ofAcceptance_48 (by decide) (by omega) (by omega) (fun h48 => ?_) (fun h48 => ?_)
      · exact absurd h48 (by omega)
      · refine r_iload dX2_ofAcceptance_51 0 rfl ?_
        refine r_aload_n dX2_ofAcceptance_53 rfl 1 rfl ?_
        refine r_getR (ci := 4) (k := 0) (b := v) dX2_ofAcceptance_54 fr_X2_7 h1 rfl hpv ?_
        refine r_alen103 dX2_ofAcceptance_57 h2 ?_
        refine Wx.top (congrArg nI h3) ?_
        refine r_iconst (v := nI 1) dX2_ofAcceptance_58 (by decide) ?_
        refine r_isubN dX2_ofAcceptance_59 (by omega) ?_
        refine r_icmp_geN (tgt := 77) dX2_ofAcceptance_60 (by decide) (by omega) (by omega) (fun h60 => ?_) (fun h60 => ?_)
        · exact absurd h60 (by omega)
        · refine r_aload_n dX2_ofAcceptance_63 rfl 1 rfl ?_
          refine r_iload dX2_ofAcceptance_64 0 rfl ?_
          refine r_iload_n dX2_ofAcceptance_66 rfl 2 rfl ?_
          refine r_iload_n dX2_ofAcceptance_67 rfl 3 rfl ?_
          refine r_fnV (M2 := m_X2_drawOneMore) (As := [.int (nI (j)), .int (nI (n)), .int (nI (b))]) (rest := []) (v := none) dX2_ofAcceptance_68 cc_X2_ofAcceptance_13 rfl rfl rfl (Nat.le_of_ble_eq_true rfl) h1 rfl rfl (by decide) (k_draw h1 hpv h2 h3 hb hn (j := j) (by omega) (by omega)) rfl ?_
          refine r_iincN (k := 1) (lv' := [(5, .int (nI (j + 1))), (0, .ref (c)), (1, .int (nI (n))), (2, .int (nI (b))), (3, .int (nI (s))), (4, .int (nI (a)))]) dX2_ofAcceptance_71 (by decide) 0 rfl (by decide) rfl ?_
          refine r_goto (tgt := 39) dX2_ofAcceptance_74 (by decide) ?_
          exact next_1 (by omega)
  · refine r_aload_n dX2_ofAcceptance_13 rfl 1 rfl ?_
    refine r_getR (ci := 4) (k := 0) (b := v) dX2_ofAcceptance_14 fr_X2_7 h1 rfl hpv ?_
    refine r_iload dX2_ofAcceptance_17 0 rfl ?_
    refine r_iload dX2_ofAcceptance_19 0 rfl ?_
    refine r_if_neN (tgt := 28) dX2_ofAcceptance_21 (by decide) (by omega) (fun h21 => ?_) (fun h21 => ?_)
    · refine r_dconst0 dX2_ofAcceptance_28 ?_
      refine r_dast dX2_ofAcceptance_29 h2 (show vp_in _ (zN _ _) from by rw [show zN (dR S v (rwC u n b 0 f)) (v) = 33 from h3]; exact vp_in_nI (by omega) (by decide)) ?_
      refine Wx.st' (S' := dR S v (rwC (u + 1) n b 0 f)) (by rw [nI_clamp (by omega), dR_u]; exact congrArg (fun z => dR S v z) (rwC_s (show FP.dconst0 = odC n b 0 u from (if_neg h21).symm))) ?_
      refine r_iincN (k := 1) (lv' := [(5, .int (nI (u + 1))), (0, .ref (c)), (1, .int (nI (n))), (2, .int (nI (b))), (3, .int (nI (s))), (4, .int (nI (a)))]) dX2_ofAcceptance_30 (by decide) 0 rfl (by decide) rfl ?_
      refine r_goto (tgt := 3) dX2_ofAcceptance_33 (by decide) ?_
      exact next (by omega)
    · refine r_dconst1 dX2_ofAcceptance_24 ?_
      refine r_goto (tgt := 29) dX2_ofAcceptance_25 (by decide) ?_
      refine r_dast dX2_ofAcceptance_29 h2 (show vp_in _ (zN _ _) from by rw [show zN (dR S v (rwC u n b 0 f)) (v) = 33 from h3]; exact vp_in_nI (by omega) (by decide)) ?_
      refine Wx.st' (S' := dR S v (rwC (u + 1) n b 0 f)) (by rw [nI_clamp (by omega), dR_u]; exact congrArg (fun z => dR S v z) (rwC_s (show FP.dconst1 = odC n b 0 u from (if_pos h21).symm))) ?_
      refine r_iincN (k := 1) (lv' := [(5, .int (nI (u + 1))), (0, .ref (c)), (1, .int (nI (n))), (2, .int (nI (b))), (3, .int (nI (s))), (4, .int (nI (a)))]) dX2_ofAcceptance_30 (by decide) 0 rfl (by decide) rfl ?_
      refine r_goto (tgt := 3) dX2_ofAcceptance_33 (by decide) ?_
      exact next (by omega)
