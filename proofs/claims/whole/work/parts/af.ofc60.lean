/-! TEXTS OF COMMANDS: the class reads -/
theorem wdP_s {n : Nat} : wdP (n + 1) = some n := if_neg (Nat.succ_ne_zero n)
theorem r_getZ {M : MI} {G : GI} {S : Hp} {pc : Nat} {lv : List (Nat × Value)} {st : List Value} {Q : OV → Hp → Prop} {idx ci k a : Nat} (hd : decode (mB M) pc = .ok (.getfield idx, 3)) (hf : fR (mY M).cls idx ci k) (ht : zT S a = ci + 1) (hi : rfF (32 * ci + k) = true) (hb : zP S (32 * ci + k) a = none) (kk : Wx M G S (pc + 3) lv (.null :: st) Q) : Wx M G S pc lv (.ref a :: st) Q := r_getP hd hf ht hi (by rw [hb]; exact kk)
/-- the text in the buffer -/
def TXc (E : Nat → Nat → Nat) (t : Nat → Nat) (L : Nat) : Prop := E 161 51 = L ∧ L ≤ 60 ∧ (∀ i, E (1000 + i) 52 = t i) ∧ ∀ i, i < L → t i < 128
theorem cha_lt {E : Nat → Nat → Nat} {t : Nat → Nat} {L i : Nat} (h : TXc E t L) : cha t L i < 128 := by
  unfold cha
  split
  · exact h.2.2.2 i (by assumption)
  · decide
theorem TXc.cg {E E' : Nat → Nat → Nat} {t : Nat → Nat} {L : Nat} (h : TXc E t L) (e1 : E' 161 51 = E 161 51) (e2 : ∀ f, E' f 52 = E f 52) : TXc E' t L := ⟨e1.trans h.1, h.2.1, fun i => (e2 _).trans (h.2.2.1 i), h.2.2.2⟩
/-- only the reader's own numbers differ -/
def EqC (E E' : Nat → Nat → Nat) : Prop := ∀ f a, ¬ (a = 51 ∧ (f = 162 ∨ f = 164)) → a ≠ 53 → E' f a = E f a
theorem EqC.rfl {E : Nat → Nat → Nat} : EqC E E := fun _ _ _ _ => _root_.rfl
theorem EqC.trans {E E' E'' : Nat → Nat → Nat} (h : EqC E E') (h' : EqC E' E'') : EqC E E'' := fun f a h1 h2 => (h' f a h1 h2).trans (h f a h1 h2)
theorem EqC.up {E E' : Nat → Nat → Nat} {f a v : Nat} (h : EqC E E') (hf : (a = 51 ∧ (f = 162 ∨ f = 164)) ∨ a = 53) : EqC E (up2 E' f a v) := fun i b h1 h2 => (u2_n (by omega)).trans (h i b h1 h2)
theorem EqC.tx {E E' : Nat → Nat → Nat} {t : Nat → Nat} {L : Nat} (h : EqC E E') (hT : TXc E t L) : TXc E' t L := hT.cg (h _ _ (by omega) (by decide)) fun f => h _ _ (by omega) (by decide)
theorem up2_up {α : Type} {f : Nat → Nat → α} {i j : Nat} {x y : α} : up2 (up2 f i j x) i j y = up2 f i j y := by
  funext a b
  unfold up2
  by_cases h : a = i ∧ b = j
  · rw [if_pos h, if_pos h]
  · rw [if_neg h, if_neg h, if_neg h]
theorem up2_self {α : Type} {f : Nat → Nat → α} {i j : Nat} {v : α} (h : f i j = v) : up2 f i j v = f := by
  funext a b
  unfold up2
  by_cases q : a = i ∧ b = j
  · rw [if_pos q, q.1, q.2, h]
  · rw [if_neg q]
set_option maxRecDepth 4000 in
set_option maxHeartbeats 400000 in
theorem x_at {G : GI} {F : Nat → Prop} {S0 S : Hp} {w : Nat → Nat} {x : Nat} {K : Nat → Nat} {E : Nat → Nat → Nat} {A c : Nat → Nat → Nat} {bx bu : Nat} (h : XF F S0 S w x K E A c bx bu) {t : Nat → Nat} {L : Nat} (hT : TXc E t L) {i : Nat} (hi : i < 1000) : Fn m_X3_at G [.ref (x + 51), .int (nI (i))] S (some (.int (nI (cha t L i)))) S := by
  refine Cn.of rfl (by decide) (Nat.le_of_ble_eq_true rfl) (fun hN hM => ?_)
  show Wx _ G _ 0 [(0, .ref (x + 51)), (1, .int (nI (i)))] [] _
  have hL60 := hT.2.1
  refine r_iload_n dX3_at_0 rfl 1 rfl ?_
  refine r_if_ltN (tgt := 30) dX3_at_1 (by decide) (by omega) ?_
  refine r_iload_n dX3_at_4 rfl 1 rfl ?_
  refine r_aload_n dX3_at_5 rfl 0 rfl ?_
  refine r_getI (ci := 5) (k := 1) dX3_at_6 fr_X3_21 h.1.t51 rfl ?_
  refine Wx.top (h.1.i (f := 161) (by decide) (by decide)) ?_
  refine Wx.topN hT.1 ?_
  refine r_icmp_geN (tgt := 30) dX3_at_9 (by decide) (by omega) (by omega) (fun h9 => ?_) (fun h9 => ?_)
  · refine r_iconst (v := nI 0) dX3_at_30 (by decide) ?_
    exact r_iret (ty := .char) dX3_at_31 rfl (by decide) ⟨congrArg (fun z => Sum.inl (some (Value.int (nI z)))) (cha_f (by omega)).symm, rfl⟩
  · refine r_iload_n dX3_at_12 rfl 1 rfl ?_
    refine r_aload_n dX3_at_13 rfl 0 rfl ?_
    refine r_getR (ci := 5) (k := 0) (b := x + 52) dX3_at_14 fr_X3_9 h.1.t51 rfl h.1.p160 ?_
    refine r_alen105 dX3_at_17 h.1.t52 ?_
    refine Wx.top (congrArg nI h.1.n52) ?_
    refine r_icmp_geN (tgt := 30) dX3_at_18 (by decide) (by omega) (by omega) (fun h18 => ?_) (fun h18 => ?_)
    · exact absurd h18 (by omega)
    · refine r_aload_n dX3_at_21 rfl 0 rfl ?_
      refine r_getR (ci := 5) (k := 0) (b := x + 52) dX3_at_22 fr_X3_9 h.1.t51 rfl h.1.p160 ?_
      refine r_iload_n dX3_at_25 rfl 1 rfl ?_
      refine r_cald dX3_at_26 h.1.t52 (by rw [show zN S (x + 52) = 60 from h.1.n52]; exact vp_in_nI (by omega) (by decide)) ?_
      refine Wx.top (congrArg (zA _ _) (nI_clamp (by omega))) ?_
      refine Wx.top (h.1.a (i := i) (by decide)) ?_
      refine Wx.topN (hT.2.2.1 (i)) ?_
      refine r_goto (tgt := 31) dX3_at_27 (by decide) ?_
      exact r_iret (ty := .char) dX3_at_31 rfl (show narrow .char (.int (nI (t i))) = .int (nI (t i)) from (pk_charN (by have := hT.2.2.2 i (by omega); omega)).1) ⟨congrArg (fun z => Sum.inl (some (Value.int (nI z)))) (cha_t (by omega)).symm, rfl⟩
set_option maxRecDepth 4000 in
set_option maxHeartbeats 400000 in
theorem x_skip_t {G : GI} {F : Nat → Prop} {S0 S : Hp} {w : Nat → Nat} {x : Nat} {K : Nat → Nat} {E : Nat → Nat → Nat} {A c : Nat → Nat → Nat} {bx bu : Nat} (h : XF F S0 S w x K E A c bx bu) {t : Nat → Nat} {L : Nat} (hT : TXc E t L) {p : Nat} (hp : E 162 51 = p) (hpL : p ≤ L) {ch : Nat} (hch : ch < 128) (hc9 : cha t L p = ch) : Cn m_X3_skip G [.ref (x + 51), .int (nI (ch))] S (fun r T => r = .inl (some (.int (nI (1)))) ∧ XF F S0 T w x K (up2 E 162 51 (p + 1)) A c bx bu) := by
  refine Cn.of rfl (by decide) (Nat.le_of_ble_eq_true rfl) (fun hN hM => ?_)
  show Wx _ G _ 0 [(0, .ref (x + 51)), (1, .int (nI (ch)))] [] _
  have hL60 := hT.2.1
  have hcl := cha_lt (i := p) hT
  refine r_aload_n dX3_skip_0 rfl 0 rfl ?_
  refine r_aload_n dX3_skip_1 rfl 0 rfl ?_
  refine r_getI (ci := 5) (k := 2) dX3_skip_2 fr_X3_24 h.1.t51 rfl ?_
  refine Wx.top (h.1.i (f := 162) (by decide) (by decide)) ?_
  refine Wx.topN hp ?_
  refine r_fnV (M2 := m_X3_at) (As := [.int (nI (p))]) (rest := []) (v := some (.int (nI (cha t L p)))) dX3_skip_5 cc_X3_skip_64 rfl rfl rfl (Nat.le_of_ble_eq_true rfl) h.1.t51 rfl rfl (by decide) (x_at h hT (i := p) (by omega)) rfl ?_
  refine r_iload_n dX3_skip_8 rfl 1 rfl ?_
  refine r_icmp_eqN (tgt := 14) dX3_skip_9 (by decide) (by omega) (by omega) (fun h9 => ?_) (fun h9 => ?_)
  · refine r_aload_n dX3_skip_14 rfl 0 rfl ?_
    refine r_dup dX3_skip_15 rfl ?_
    refine r_getI (ci := 5) (k := 2) dX3_skip_16 fr_X3_24 h.1.t51 rfl ?_
    refine Wx.top (h.1.i (f := 162) (by decide) (by decide)) ?_
    refine Wx.topN hp ?_
    refine r_iconst (v := nI 1) dX3_skip_19 (by decide) ?_
    refine r_iaddN dX3_skip_20 ?_
    refine r_putI (ci := 5) (k := 2) dX3_skip_21 fw_X3_skip_24 h.1.t51 rfl rfl rfl ?_
    refine Wx.gp (fun T => XF F S0 T w x K (up2 E 162 (51) (p + 1)) A c bx bu) (h.I (f := 162) (by decide) (by decide) (by decide)) (fun T (hx : XF F S0 T w x K (up2 E 162 (51) (p + 1)) A c bx bu) => ?_)
    refine r_iconst (v := nI 1) dX3_skip_24 (by decide) ?_
    exact r_iret (ty := .boolean) dX3_skip_25 rfl (by decide) ⟨rfl, hx⟩
  · exact absurd hc9 h9
set_option maxRecDepth 4000 in
set_option maxHeartbeats 400000 in
theorem x_skip_f {G : GI} {F : Nat → Prop} {S0 S : Hp} {w : Nat → Nat} {x : Nat} {K : Nat → Nat} {E : Nat → Nat → Nat} {A c : Nat → Nat → Nat} {bx bu : Nat} (h : XF F S0 S w x K E A c bx bu) {t : Nat → Nat} {L : Nat} (hT : TXc E t L) {p : Nat} (hp : E 162 51 = p) (hpL : p ≤ L) {ch : Nat} (hch : ch < 128) (hc9 : ¬ cha t L p = ch) : Fn m_X3_skip G [.ref (x + 51), .int (nI (ch))] S (some (.int (nI (0)))) S := by
  refine Cn.of rfl (by decide) (Nat.le_of_ble_eq_true rfl) (fun hN hM => ?_)
  show Wx _ G _ 0 [(0, .ref (x + 51)), (1, .int (nI (ch)))] [] _
  have hL60 := hT.2.1
  have hcl := cha_lt (i := p) hT
  refine r_aload_n dX3_skip_0 rfl 0 rfl ?_
  refine r_aload_n dX3_skip_1 rfl 0 rfl ?_
  refine r_getI (ci := 5) (k := 2) dX3_skip_2 fr_X3_24 h.1.t51 rfl ?_
  refine Wx.top (h.1.i (f := 162) (by decide) (by decide)) ?_
  refine Wx.topN hp ?_
  refine r_fnV (M2 := m_X3_at) (As := [.int (nI (p))]) (rest := []) (v := some (.int (nI (cha t L p)))) dX3_skip_5 cc_X3_skip_64 rfl rfl rfl (Nat.le_of_ble_eq_true rfl) h.1.t51 rfl rfl (by decide) (x_at h hT (i := p) (by omega)) rfl ?_
  refine r_iload_n dX3_skip_8 rfl 1 rfl ?_
  refine r_icmp_eqN (tgt := 14) dX3_skip_9 (by decide) (by omega) (by omega) (fun h9 => ?_) (fun h9 => ?_)
  · exact absurd h9 hc9
  · refine r_iconst (v := nI 0) dX3_skip_12 (by decide) ?_
    exact r_iret (ty := .boolean) dX3_skip_13 rfl (by decide) ⟨rfl, rfl⟩
set_option maxRecDepth 4000 in
set_option maxHeartbeats 400000 in
theorem x_readNumber_f {G : GI} {F : Nat → Prop} {S0 S : Hp} {w : Nat → Nat} {x : Nat} {K : Nat → Nat} {E : Nat → Nat → Nat} {A c : Nat → Nat → Nat} {bx bu : Nat} (h : XF F S0 S w x K E A c bx bu) {t : Nat → Nat} {L : Nat} (hT : TXc E t L) {p : Nat} (hp : E 162 51 = p) (hpL : p ≤ L) {i : Nat} (hi : i < 6) (hd9 : ¬ dgP t L p) : Cn m_X3_readNumber G [.ref (x + 51), .int (nI (i))] S (fun r T => r = .inl (some (.int (nI (0)))) ∧ XF F S0 T w x K (up2 E (1000 + i) 53 0) A c bx bu) := by
  refine Cn.of rfl (by decide) (Nat.le_of_ble_eq_true rfl) (fun hN hM => ?_)
  show Wx _ G _ 0 [(0, .ref (x + 51)), (1, .int (nI (i)))] [] _
  have hL60 := hT.2.1
  have hcl := cha_lt (i := p) hT
  refine r_iconst (v := nI 0) dX3_readNumber_0 (by decide) ?_
  refine r_istore_n (lv' := [(2, .int (nI (0))), (0, .ref (x + 51)), (1, .int (nI (i)))]) dX3_readNumber_1 rfl (by decide) rfl ?_
  refine r_iconst (v := nI 0) dX3_readNumber_2 (by decide) ?_
  refine r_istore_n (lv' := [(3, .int (nI (0))), (2, .int (nI (0))), (0, .ref (x + 51)), (1, .int (nI (i)))]) dX3_readNumber_3 rfl (by decide) rfl ?_
  refine r_iconst (v := nI 0) dX3_readNumber_4 (by decide) ?_
  refine r_istore (lv' := [(4, .int (nI (0))), (3, .int (nI (0))), (2, .int (nI (0))), (0, .ref (x + 51)), (1, .int (nI (i)))]) dX3_readNumber_5 (by decide) rfl ?_
  refine r_iload_n dX3_readNumber_7 rfl 1 rfl ?_
  refine r_iconst (v := nI 5) dX3_readNumber_8 (by decide) ?_
  refine r_icmp_geN (tgt := 87) dX3_readNumber_9 (by decide) (by omega) (by omega) (fun zz9 => ?_) (fun zz9 => ?_)
  · exact absurd zz9 (by decide)
  · refine r_iload dX3_readNumber_12 0 rfl ?_
    refine r_if_neN (tgt := 87) dX3_readNumber_14 (by decide) (by omega) (fun zz14 => ?_) (fun zz14 => ?_)
    · exact absurd zz14 (by decide)
    · refine r_aload_n dX3_readNumber_17 rfl 3 rfl ?_
      refine r_aload_n dX3_readNumber_18 rfl 3 rfl ?_
      refine r_getI (ci := 5) (k := 2) dX3_readNumber_19 fr_X3_24 h.1.t51 rfl ?_
      refine Wx.top (h.1.i (f := 162) (by decide) (by decide)) ?_
      refine Wx.topN hp ?_
      refine r_fnV (M2 := m_X3_at) (As := [.int (nI (p))]) (rest := []) (v := some (.int (nI (cha t L p)))) dX3_readNumber_22 cc_X3_readNumber_64 rfl rfl rfl (Nat.le_of_ble_eq_true rfl) h.1.t51 rfl rfl (by decide) (x_at h hT (i := p) (by omega)) rfl ?_
      refine r_bipush (v := nI 48) dX3_readNumber_25 (by decide) ?_
      refine r_icmp_ltN (tgt := 87) dX3_readNumber_27 (by decide) (by omega) (by omega) (fun h27 => ?_) (fun h27 => ?_)
      · refine r_aload_n dX3_readNumber_87 rfl 3 rfl ?_
        refine r_getR (ci := 5) (k := 6) (b := x + 53) dX3_readNumber_88 fr_X3_17 h.1.t51 rfl h.1.p166 ?_
        refine r_iload_n dX3_readNumber_91 rfl 4 rfl ?_
        refine r_iload_n dX3_readNumber_92 rfl 2 rfl ?_
        refine r_iast dX3_readNumber_93 h.1.t53 (by rw [show zN S (x + 53) = 6 from h.1.n53]; exact vp_in_nI (by omega) (by decide)) ?_
        refine Wx.st' (S' := uA S (x + 53) (i) (nI (0))) (by rw [nI_clamp (by omega)]) ?_
        refine Wx.gp (fun T => XF F S0 T w x K (up2 E (1000 + i) (53) (0)) A c bx bu) (h.AA (i := i) (by decide)) (fun T (hx : XF F S0 T w x K (up2 E (1000 + i) (53) (0)) A c bx bu) => ?_)
        refine r_iload_n dX3_readNumber_94 rfl 1 rfl ?_
        refine r_if_leN (tgt := 102) dX3_readNumber_95 (by decide) (by omega) (fun zz95 => ?_) (fun zz95 => ?_)
        · refine r_iconst (v := nI 0) dX3_readNumber_102 (by decide) ?_
          exact r_iret (ty := .boolean) dX3_readNumber_103 rfl (by decide) ⟨rfl, hx⟩
        · exact absurd zz95 (by decide)
      · refine r_aload_n dX3_readNumber_30 rfl 3 rfl ?_
        refine r_aload_n dX3_readNumber_31 rfl 3 rfl ?_
        refine r_getI (ci := 5) (k := 2) dX3_readNumber_32 fr_X3_24 h.1.t51 rfl ?_
        refine Wx.top (h.1.i (f := 162) (by decide) (by decide)) ?_
        refine Wx.topN hp ?_
        refine r_fnV (M2 := m_X3_at) (As := [.int (nI (p))]) (rest := []) (v := some (.int (nI (cha t L p)))) dX3_readNumber_35 cc_X3_readNumber_64 rfl rfl rfl (Nat.le_of_ble_eq_true rfl) h.1.t51 rfl rfl (by decide) (x_at h hT (i := p) (by omega)) rfl ?_
        refine r_bipush (v := nI 57) dX3_readNumber_38 (by decide) ?_
        refine r_icmp_gtN (tgt := 87) dX3_readNumber_40 (by decide) (by omega) (by omega) (fun h40 => ?_) (fun h40 => ?_)
        · refine r_aload_n dX3_readNumber_87 rfl 3 rfl ?_
          refine r_getR (ci := 5) (k := 6) (b := x + 53) dX3_readNumber_88 fr_X3_17 h.1.t51 rfl h.1.p166 ?_
          refine r_iload_n dX3_readNumber_91 rfl 4 rfl ?_
          refine r_iload_n dX3_readNumber_92 rfl 2 rfl ?_
          refine r_iast dX3_readNumber_93 h.1.t53 (by rw [show zN S (x + 53) = 6 from h.1.n53]; exact vp_in_nI (by omega) (by decide)) ?_
          refine Wx.st' (S' := uA S (x + 53) (i) (nI (0))) (by rw [nI_clamp (by omega)]) ?_
          refine Wx.gp (fun T => XF F S0 T w x K (up2 E (1000 + i) (53) (0)) A c bx bu) (h.AA (i := i) (by decide)) (fun T_1 (hx_1 : XF F S0 T_1 w x K (up2 E (1000 + i) (53) (0)) A c bx bu) => ?_)
          refine r_iload_n dX3_readNumber_94 rfl 1 rfl ?_
          refine r_if_leN (tgt := 102) dX3_readNumber_95 (by decide) (by omega) (fun zz95_1 => ?_) (fun zz95_1 => ?_)
          · refine r_iconst (v := nI 0) dX3_readNumber_102 (by decide) ?_
            exact r_iret (ty := .boolean) dX3_readNumber_103 rfl (by decide) ⟨rfl, hx_1⟩
          · exact absurd zz95_1 (by decide)
        · exact absurd (show dgP t L p from ⟨by omega, by omega⟩) hd9
def nzI (t : Nat → Nat) (p u : Nat) : Nat := if u = 0 then 0 else if numI t p u = 0 then 1 else 0
theorem nzI_lt {t : Nat → Nat} {p u : Nat} : nzI t p u < 2 := by
  unfold nzI
  repeat' split
  all_goals decide
set_option maxRecDepth 4000 in
set_option maxHeartbeats 400000 in
theorem x_readNumber_t {G : GI} {F : Nat → Prop} {S0 S : Hp} {w : Nat → Nat} {x : Nat} {K : Nat → Nat} {E : Nat → Nat → Nat} {A c : Nat → Nat → Nat} {bx bu : Nat} (h : XF F S0 S w x K E A c bx bu) {t : Nat → Nat} {L : Nat} (hT : TXc E t L) {p : Nat} (hp : E 162 51 = p) (hpL : p ≤ L) {i : Nat} (hi : i < 6) {d : Nat} (hnp : NumP t L p d) : Cn m_X3_readNumber G [.ref (x + 51), .int (nI (i))] S (fun r T => r = .inl (some (.int (nI 1))) ∧ XF F S0 T w x K (up2 (up2 E 162 51 (p + d)) (1000 + i) 53 (numI t p d)) A c bx bu) := by
  refine Cn.of rfl (by decide) (Nat.le_of_ble_eq_true rfl) (fun hN hM => ?_)
  show Wx _ G _ 0 [(0, .ref (x + 51)), (1, .int (nI (i)))] [] _
  have hL60 := hT.2.1
  have hd5 := hnp.2.1
  refine r_iconst (v := nI 0) dX3_readNumber_0 (by decide) ?_
  refine r_istore_n (lv' := [(2, .int (nI (0))), (0, .ref (x + 51)), (1, .int (nI (i)))]) dX3_readNumber_1 rfl (by decide) rfl ?_
  refine r_iconst (v := nI 0) dX3_readNumber_2 (by decide) ?_
  refine r_istore_n (lv' := [(3, .int (nI (0))), (2, .int (nI (0))), (0, .ref (x + 51)), (1, .int (nI (i)))]) dX3_readNumber_3 rfl (by decide) rfl ?_
  refine r_iconst (v := nI 0) dX3_readNumber_4 (by decide) ?_
  refine r_istore (lv' := [(4, .int (nI (0))), (3, .int (nI (0))), (2, .int (nI (0))), (0, .ref (x + 51)), (1, .int (nI (i)))]) dX3_readNumber_5 (by decide) rfl ?_
  refine Wx.sub [2, 1, 0, 3, 4] rfl ?_
  have h9' : XF F S0 S w x K (up2 E 162 51 (p + 0)) A c bx bu := by rw [up2_self (show E 162 51 = p + 0 from hp)]; exact h
  refine Wx.loopR (fun u T lv => XF F S0 T w x K (up2 E 162 51 (p + u)) A c bx bu ∧ lv = [(2, .int (nI (numI t p u))), (3, .int (nI (u))), (4, .int (nI (nzI t p u))), (0, .ref (x + 51)), (1, .int (nI (i)))]) d 0 (Nat.zero_le _) ⟨h9', rfl⟩ (fun u T lv hu0 hu hI nx => ?_)
  obtain ⟨hx, rfl⟩ := hI
  have hnlt : numI t p u < 100000 := Nat.lt_of_lt_of_le (numI_lt fun i hi => (hnp.2.2.2.1 i (by omega)).2) (Nat.pow_le_pow_right (n := 10) (by decide) (by omega : u ≤ 5))
  have hcl := cha_lt (i := p + u) hT
  rcases Nat.lt_or_ge u d with hud | hud
  · have hnl2 : numI t p (u + 1) < 100000 := Nat.lt_of_lt_of_le (numI_lt fun i hi => (hnp.2.2.2.1 i (by omega)).2) (Nat.pow_le_pow_right (n := 10) (by decide) (by omega : u + 1 ≤ 5))
    have hdg := hnp.dg hud
    unfold dgP at hdg
    have hz : nzI t p u = 0 := by
      unfold nzI
      by_cases h0 : u = 0
      · rw [if_pos h0]
      · rw [if_neg h0, if_neg (by have := hnp.2.2.2.2.1 u (by omega) hud; omega)]
    rw [hz]
    refine r_iload_n dX3_readNumber_7 rfl 1 rfl ?_
    refine r_iconst (v := nI 5) dX3_readNumber_8 (by decide) ?_
    refine r_icmp_geN (tgt := 87) dX3_readNumber_9 (by decide) (by (first | omega | (have hz9 : nzI t p u < 2 := nzI_lt; omega))) (by (first | omega | (have hz9 : nzI t p u < 2 := nzI_lt; omega))) (fun h9 => ?_) (fun h9 => ?_)
    · exact absurd h9 (by omega)
    · refine r_iload dX3_readNumber_12 2 rfl ?_
      refine r_if_neN (tgt := 87) dX3_readNumber_14 (by decide) (by (first | omega | (have hz9 : nzI t p u < 2 := nzI_lt; omega))) (fun zz14 => ?_) (fun zz14 => ?_)
      · exact absurd zz14 (by decide)
      · refine r_aload_n dX3_readNumber_17 rfl 3 rfl ?_
        refine r_aload_n dX3_readNumber_18 rfl 3 rfl ?_
        refine r_getI (ci := 5) (k := 2) dX3_readNumber_19 fr_X3_24 hx.1.t51 rfl ?_
        refine Wx.top (hx.1.i (f := 162) (by decide) (by decide)) ?_
        refine Wx.topN u2_s ?_
        refine r_fnV (M2 := m_X3_at) (As := [.int (nI (p + u))]) (rest := []) (v := some (.int (nI (cha t L (p + u))))) dX3_readNumber_22 cc_X3_readNumber_64 rfl rfl rfl (Nat.le_of_ble_eq_true rfl) hx.1.t51 rfl rfl (by decide) (x_at hx (EqC.tx ((EqC.up EqC.rfl (by omega))) hT) (i := p + u) (by (first | omega | (have hz9 : nzI t p u < 2 := nzI_lt; omega)))) rfl ?_
        refine r_bipush (v := nI 48) dX3_readNumber_25 (by decide) ?_
        refine r_icmp_ltN (tgt := 87) dX3_readNumber_27 (by decide) (by (first | omega | (have hz9 : nzI t p u < 2 := nzI_lt; omega))) (by (first | omega | (have hz9 : nzI t p u < 2 := nzI_lt; omega))) (fun h27 => ?_) (fun h27 => ?_)
        · exact absurd h27 (by omega)
        · refine r_aload_n dX3_readNumber_30 rfl 3 rfl ?_
          refine r_aload_n dX3_readNumber_31 rfl 3 rfl ?_
          refine r_getI (ci := 5) (k := 2) dX3_readNumber_32 fr_X3_24 hx.1.t51 rfl ?_
          refine Wx.top (hx.1.i (f := 162) (by decide) (by decide)) ?_
          refine Wx.topN u2_s ?_
          refine r_fnV (M2 := m_X3_at) (As := [.int (nI (p + u))]) (rest := []) (v := some (.int (nI (cha t L (p + u))))) dX3_readNumber_35 cc_X3_readNumber_64 rfl rfl rfl (Nat.le_of_ble_eq_true rfl) hx.1.t51 rfl rfl (by decide) (x_at hx (EqC.tx ((EqC.up EqC.rfl (by omega))) hT) (i := p + u) (by (first | omega | (have hz9 : nzI t p u < 2 := nzI_lt; omega)))) rfl ?_
          refine r_bipush (v := nI 57) dX3_readNumber_38 (by decide) ?_
          refine r_icmp_gtN (tgt := 87) dX3_readNumber_40 (by decide) (by (first | omega | (have hz9 : nzI t p u < 2 := nzI_lt; omega))) (by (first | omega | (have hz9 : nzI t p u < 2 := nzI_lt; omega))) (fun h40 => ?_) (fun h40 => ?_)
          · exact absurd h40 (by omega)
          · refine r_bipush (v := nI 10) dX3_readNumber_43 (by decide) ?_
            refine r_iload_n dX3_readNumber_45 rfl 0 rfl ?_
            refine r_imulN dX3_readNumber_46 ?_
            refine r_aload_n dX3_readNumber_47 rfl 3 rfl ?_
            refine r_aload_n dX3_readNumber_48 rfl 3 rfl ?_
            refine r_getI (ci := 5) (k := 2) dX3_readNumber_49 fr_X3_24 hx.1.t51 rfl ?_
            refine Wx.top (hx.1.i (f := 162) (by decide) (by decide)) ?_
            refine Wx.topN u2_s ?_
            refine r_fnV (M2 := m_X3_at) (As := [.int (nI (p + u))]) (rest := [.int (nI (10 * (numI t p u)))]) (v := some (.int (nI (cha t L (p + u))))) dX3_readNumber_52 cc_X3_readNumber_64 rfl rfl rfl (Nat.le_of_ble_eq_true rfl) hx.1.t51 rfl rfl (by decide) (x_at hx (EqC.tx ((EqC.up EqC.rfl (by omega))) hT) (i := p + u) (by (first | omega | (have hz9 : nzI t p u < 2 := nzI_lt; omega)))) rfl ?_
            refine r_iaddN dX3_readNumber_55 ?_
            refine r_bipush (v := nI 48) dX3_readNumber_56 (by decide) ?_
            refine r_isubN dX3_readNumber_58 (by (first | omega | (have hz9 : nzI t p u < 2 := nzI_lt; omega))) ?_
            rw [show 10 * numI t p u + cha t L (p + u) - 48 = numI t p (u + 1) from by rw [cha_t (by have := hnp.2.2.1; omega)] at hdg ⊢; show _ = 10 * numI t p u + (t (p + u) - 48); omega]
            refine r_istore_n (lv' := [(2, .int (nI (numI t p (u + 1)))), (3, .int (nI (u))), (4, .int (nI (0))), (0, .ref (x + 51)), (1, .int (nI (i)))]) dX3_readNumber_59 rfl (by decide) rfl ?_
            refine r_iload_n dX3_readNumber_60 rfl 0 rfl ?_
            refine r_if_neN (tgt := 68) dX3_readNumber_61 (by decide) (by (first | omega | (have hz9 : nzI t p u < 2 := nzI_lt; omega))) (fun h61 => ?_) (fun h61 => ?_)
            · refine r_iconst (v := nI 0) dX3_readNumber_68 (by decide) ?_
              refine r_istore (lv' := [(4, .int (nI (0))), (2, .int (nI (numI t p (u + 1)))), (3, .int (nI (u))), (0, .ref (x + 51)), (1, .int (nI (i)))]) dX3_readNumber_69 (by decide) rfl ?_
              refine r_iincN (k := 1) (lv' := [(3, .int (nI (u + 1))), (4, .int (nI (0))), (2, .int (nI (numI t p (u + 1)))), (0, .ref (x + 51)), (1, .int (nI (i)))]) dX3_readNumber_71 (by decide) 2 rfl (by decide) rfl ?_
              refine r_aload_n dX3_readNumber_74 rfl 3 rfl ?_
              refine r_dup dX3_readNumber_75 rfl ?_
              refine r_getI (ci := 5) (k := 2) dX3_readNumber_76 fr_X3_24 hx.1.t51 rfl ?_
              refine Wx.top (hx.1.i (f := 162) (by decide) (by decide)) ?_
              refine Wx.topN u2_s ?_
              refine r_iconst (v := nI 1) dX3_readNumber_79 (by decide) ?_
              refine r_iaddN dX3_readNumber_80 ?_
              refine r_putI (ci := 5) (k := 2) dX3_readNumber_81 fw_X3_readNumber_24 hx.1.t51 rfl rfl rfl ?_
              refine Wx.gp (fun T => XF F S0 T w x K (up2 (up2 E 162 51 (p + u)) 162 (51) (p + u + 1)) A c bx bu) (hx.I (f := 162) (by decide) (by decide) (by decide)) (fun T (hx : XF F S0 T w x K (up2 (up2 E 162 51 (p + u)) 162 (51) (p + u + 1)) A c bx bu) => ?_)
              refine r_goto (tgt := 7) dX3_readNumber_84 (by decide) ?_
              refine Wx.sub [2, 0, 1, 3, 4] rfl ?_
              refine nx _ _ (by omega) ⟨by rw [show p + (u + 1) = p + u + 1 from rfl]; rw [up2_up] at hx; exact hx, ?_⟩
              rw [show nzI t p (u + 1) = 0 from by unfold nzI; rw [if_neg (Nat.succ_ne_zero u), if_neg (by omega)]]
              rfl
            · refine r_iconst (v := nI 1) dX3_readNumber_64 (by decide) ?_
              refine r_goto (tgt := 69) dX3_readNumber_65 (by decide) ?_
              refine r_istore (lv' := [(4, .int (nI (1))), (2, .int (nI (numI t p (u + 1)))), (3, .int (nI (u))), (0, .ref (x + 51)), (1, .int (nI (i)))]) dX3_readNumber_69 (by decide) rfl ?_
              refine r_iincN (k := 1) (lv' := [(3, .int (nI (u + 1))), (4, .int (nI (1))), (2, .int (nI (numI t p (u + 1)))), (0, .ref (x + 51)), (1, .int (nI (i)))]) dX3_readNumber_71 (by decide) 2 rfl (by decide) rfl ?_
              refine r_aload_n dX3_readNumber_74 rfl 3 rfl ?_
              refine r_dup dX3_readNumber_75 rfl ?_
              refine r_getI (ci := 5) (k := 2) dX3_readNumber_76 fr_X3_24 hx.1.t51 rfl ?_
              refine Wx.top (hx.1.i (f := 162) (by decide) (by decide)) ?_
              refine Wx.topN u2_s ?_
              refine r_iconst (v := nI 1) dX3_readNumber_79 (by decide) ?_
              refine r_iaddN dX3_readNumber_80 ?_
              refine r_putI (ci := 5) (k := 2) dX3_readNumber_81 fw_X3_readNumber_24 hx.1.t51 rfl rfl rfl ?_
              refine Wx.gp (fun T => XF F S0 T w x K (up2 (up2 E 162 51 (p + u)) 162 (51) (p + u + 1)) A c bx bu) (hx.I (f := 162) (by decide) (by decide) (by decide)) (fun T_1 (hx_1 : XF F S0 T_1 w x K (up2 (up2 E 162 51 (p + u)) 162 (51) (p + u + 1)) A c bx bu) => ?_)
              refine r_goto (tgt := 7) dX3_readNumber_84 (by decide) ?_
              refine Wx.sub [2, 0, 1, 3, 4] rfl ?_
              refine nx _ _ (by omega) ⟨by rw [show p + (u + 1) = p + u + 1 from rfl]; rw [up2_up] at hx_1; exact hx_1, ?_⟩
              rw [show nzI t p (u + 1) = 1 from by unfold nzI; rw [if_neg (Nat.succ_ne_zero u), if_pos (by omega)]]
              rfl
  · obtain rfl : u = d := by omega
    refine r_iload_n dX3_readNumber_7 rfl 1 rfl ?_
    refine r_iconst (v := nI 5) dX3_readNumber_8 (by decide) ?_
    refine r_icmp_geN (tgt := 87) dX3_readNumber_9 (by decide) (by (first | omega | (have hz9 : nzI t p u < 2 := nzI_lt; omega))) (by (first | omega | (have hz9 : nzI t p u < 2 := nzI_lt; omega))) (fun h9_1 => ?_) (fun h9_1 => ?_)
    · refine r_aload_n dX3_readNumber_87 rfl 3 rfl ?_
      refine r_getR (ci := 5) (k := 6) (b := x + 53) dX3_readNumber_88 fr_X3_17 hx.1.t51 rfl hx.1.p166 ?_
      refine r_iload_n dX3_readNumber_91 rfl 4 rfl ?_
      refine r_iload_n dX3_readNumber_92 rfl 0 rfl ?_
      refine r_iast dX3_readNumber_93 hx.1.t53 (by rw [show zN T (x + 53) = 6 from hx.1.n53]; exact vp_in_nI (by (first | omega | (have hz9 : nzI t p u < 2 := nzI_lt; omega))) (by decide)) ?_
      refine Wx.st' (S' := uA T (x + 53) (i) (nI (numI t p u))) (by rw [nI_clamp (by (first | omega | (have hz9 : nzI t p u < 2 := nzI_lt; omega)))]) ?_
      refine Wx.gp (fun T => XF F S0 T w x K (up2 (up2 E 162 51 (p + u)) (1000 + i) (53) (numI t p u)) A c bx bu) (hx.AA (i := i) (by decide)) (fun T_2 (hx_2 : XF F S0 T_2 w x K (up2 (up2 E 162 51 (p + u)) (1000 + i) (53) (numI t p u)) A c bx bu) => ?_)
      refine r_iload_n dX3_readNumber_94 rfl 1 rfl ?_
      refine r_if_leN (tgt := 102) dX3_readNumber_95 (by decide) (by (first | omega | (have hz9 : nzI t p u < 2 := nzI_lt; omega))) (fun h95 => ?_) (fun h95 => ?_)
      · exact absurd h95 (by have := hnp.1; omega)
      · refine r_iconst (v := nI 1) dX3_readNumber_98 (by decide) ?_
        refine r_goto (tgt := 103) dX3_readNumber_99 (by decide) ?_
        exact r_iret (ty := .boolean) dX3_readNumber_103 rfl (by decide) ⟨rfl, hx_2⟩
    · refine r_iload dX3_readNumber_12 2 rfl ?_
      refine r_if_neN (tgt := 87) dX3_readNumber_14 (by decide) (by (first | omega | (have hz9 : nzI t p u < 2 := nzI_lt; omega))) (fun h14 => ?_) (fun h14 => ?_)
      · refine r_aload_n dX3_readNumber_87 rfl 3 rfl ?_
        refine r_getR (ci := 5) (k := 6) (b := x + 53) dX3_readNumber_88 fr_X3_17 hx.1.t51 rfl hx.1.p166 ?_
        refine r_iload_n dX3_readNumber_91 rfl 4 rfl ?_
        refine r_iload_n dX3_readNumber_92 rfl 0 rfl ?_
        refine r_iast dX3_readNumber_93 hx.1.t53 (by rw [show zN T (x + 53) = 6 from hx.1.n53]; exact vp_in_nI (by (first | omega | (have hz9 : nzI t p u < 2 := nzI_lt; omega))) (by decide)) ?_
        refine Wx.st' (S' := uA T (x + 53) (i) (nI (numI t p u))) (by rw [nI_clamp (by (first | omega | (have hz9 : nzI t p u < 2 := nzI_lt; omega)))]) ?_
        refine Wx.gp (fun T => XF F S0 T w x K (up2 (up2 E 162 51 (p + u)) (1000 + i) (53) (numI t p u)) A c bx bu) (hx.AA (i := i) (by decide)) (fun T_3 (hx_3 : XF F S0 T_3 w x K (up2 (up2 E 162 51 (p + u)) (1000 + i) (53) (numI t p u)) A c bx bu) => ?_)
        refine r_iload_n dX3_readNumber_94 rfl 1 rfl ?_
        refine r_if_leN (tgt := 102) dX3_readNumber_95 (by decide) (by (first | omega | (have hz9 : nzI t p u < 2 := nzI_lt; omega))) (fun h95_1 => ?_) (fun h95_1 => ?_)
        · exact absurd h95_1 (by have := hnp.1; omega)
        · refine r_iconst (v := nI 1) dX3_readNumber_98 (by decide) ?_
          refine r_goto (tgt := 103) dX3_readNumber_99 (by decide) ?_
          exact r_iret (ty := .boolean) dX3_readNumber_103 rfl (by decide) ⟨rfl, hx_3⟩
      · refine r_aload_n dX3_readNumber_17 rfl 3 rfl ?_
        refine r_aload_n dX3_readNumber_18 rfl 3 rfl ?_
        refine r_getI (ci := 5) (k := 2) dX3_readNumber_19 fr_X3_24 hx.1.t51 rfl ?_
        refine Wx.top (hx.1.i (f := 162) (by decide) (by decide)) ?_
        refine Wx.topN u2_s ?_
        refine r_fnV (M2 := m_X3_at) (As := [.int (nI (p + u))]) (rest := []) (v := some (.int (nI (cha t L (p + u))))) dX3_readNumber_22 cc_X3_readNumber_64 rfl rfl rfl (Nat.le_of_ble_eq_true rfl) hx.1.t51 rfl rfl (by decide) (x_at hx (EqC.tx ((EqC.up EqC.rfl (by omega))) hT) (i := p + u) (by (first | omega | (have hz9 : nzI t p u < 2 := nzI_lt; omega)))) rfl ?_
        refine r_bipush (v := nI 48) dX3_readNumber_25 (by decide) ?_
        refine r_icmp_ltN (tgt := 87) dX3_readNumber_27 (by decide) (by (first | omega | (have hz9 : nzI t p u < 2 := nzI_lt; omega))) (by (first | omega | (have hz9 : nzI t p u < 2 := nzI_lt; omega))) (fun h27_1 => ?_) (fun h27_1 => ?_)
        · refine r_aload_n dX3_readNumber_87 rfl 3 rfl ?_
          refine r_getR (ci := 5) (k := 6) (b := x + 53) dX3_readNumber_88 fr_X3_17 hx.1.t51 rfl hx.1.p166 ?_
          refine r_iload_n dX3_readNumber_91 rfl 4 rfl ?_
          refine r_iload_n dX3_readNumber_92 rfl 0 rfl ?_
          refine r_iast dX3_readNumber_93 hx.1.t53 (by rw [show zN T (x + 53) = 6 from hx.1.n53]; exact vp_in_nI (by (first | omega | (have hz9 : nzI t p u < 2 := nzI_lt; omega))) (by decide)) ?_
          refine Wx.st' (S' := uA T (x + 53) (i) (nI (numI t p u))) (by rw [nI_clamp (by (first | omega | (have hz9 : nzI t p u < 2 := nzI_lt; omega)))]) ?_
          refine Wx.gp (fun T => XF F S0 T w x K (up2 (up2 E 162 51 (p + u)) (1000 + i) (53) (numI t p u)) A c bx bu) (hx.AA (i := i) (by decide)) (fun T_4 (hx_4 : XF F S0 T_4 w x K (up2 (up2 E 162 51 (p + u)) (1000 + i) (53) (numI t p u)) A c bx bu) => ?_)
          refine r_iload_n dX3_readNumber_94 rfl 1 rfl ?_
          refine r_if_leN (tgt := 102) dX3_readNumber_95 (by decide) (by (first | omega | (have hz9 : nzI t p u < 2 := nzI_lt; omega))) (fun h95_2 => ?_) (fun h95_2 => ?_)
          · exact absurd h95_2 (by have := hnp.1; omega)
          · refine r_iconst (v := nI 1) dX3_readNumber_98 (by decide) ?_
            refine r_goto (tgt := 103) dX3_readNumber_99 (by decide) ?_
            exact r_iret (ty := .boolean) dX3_readNumber_103 rfl (by decide) ⟨rfl, hx_4⟩
        · refine r_aload_n dX3_readNumber_30 rfl 3 rfl ?_
          refine r_aload_n dX3_readNumber_31 rfl 3 rfl ?_
          refine r_getI (ci := 5) (k := 2) dX3_readNumber_32 fr_X3_24 hx.1.t51 rfl ?_
          refine Wx.top (hx.1.i (f := 162) (by decide) (by decide)) ?_
          refine Wx.topN u2_s ?_
          refine r_fnV (M2 := m_X3_at) (As := [.int (nI (p + u))]) (rest := []) (v := some (.int (nI (cha t L (p + u))))) dX3_readNumber_35 cc_X3_readNumber_64 rfl rfl rfl (Nat.le_of_ble_eq_true rfl) hx.1.t51 rfl rfl (by decide) (x_at hx (EqC.tx ((EqC.up EqC.rfl (by omega))) hT) (i := p + u) (by (first | omega | (have hz9 : nzI t p u < 2 := nzI_lt; omega)))) rfl ?_
          refine r_bipush (v := nI 57) dX3_readNumber_38 (by decide) ?_
          refine r_icmp_gtN (tgt := 87) dX3_readNumber_40 (by decide) (by (first | omega | (have hz9 : nzI t p u < 2 := nzI_lt; omega))) (by (first | omega | (have hz9 : nzI t p u < 2 := nzI_lt; omega))) (fun h40_1 => ?_) (fun h40_1 => ?_)
          · refine r_aload_n dX3_readNumber_87 rfl 3 rfl ?_
            refine r_getR (ci := 5) (k := 6) (b := x + 53) dX3_readNumber_88 fr_X3_17 hx.1.t51 rfl hx.1.p166 ?_
            refine r_iload_n dX3_readNumber_91 rfl 4 rfl ?_
            refine r_iload_n dX3_readNumber_92 rfl 0 rfl ?_
            refine r_iast dX3_readNumber_93 hx.1.t53 (by rw [show zN T (x + 53) = 6 from hx.1.n53]; exact vp_in_nI (by (first | omega | (have hz9 : nzI t p u < 2 := nzI_lt; omega))) (by decide)) ?_
            refine Wx.st' (S' := uA T (x + 53) (i) (nI (numI t p u))) (by rw [nI_clamp (by (first | omega | (have hz9 : nzI t p u < 2 := nzI_lt; omega)))]) ?_
            refine Wx.gp (fun T => XF F S0 T w x K (up2 (up2 E 162 51 (p + u)) (1000 + i) (53) (numI t p u)) A c bx bu) (hx.AA (i := i) (by decide)) (fun T_5 (hx_5 : XF F S0 T_5 w x K (up2 (up2 E 162 51 (p + u)) (1000 + i) (53) (numI t p u)) A c bx bu) => ?_)
            refine r_iload_n dX3_readNumber_94 rfl 1 rfl ?_
            refine r_if_leN (tgt := 102) dX3_readNumber_95 (by decide) (by (first | omega | (have hz9 : nzI t p u < 2 := nzI_lt; omega))) (fun h95_3 => ?_) (fun h95_3 => ?_)
            · exact absurd h95_3 (by have := hnp.1; omega)
            · refine r_iconst (v := nI 1) dX3_readNumber_98 (by decide) ?_
              refine r_goto (tgt := 103) dX3_readNumber_99 (by decide) ?_
              exact r_iret (ty := .boolean) dX3_readNumber_103 rfl (by decide) ⟨rfl, hx_5⟩
          · exact (hnp.2.2.2.2.2.elim (fun q => by omega) (fun q => q.elim (fun q => by unfold nzI at *; rw [if_neg (by have := hnp.1; omega), if_pos q] at *; omega) (fun q => q (digP_of (show dgP t L (p + u) from ⟨by omega, by omega⟩))))).elim
set_option maxRecDepth 4000 in
set_option maxHeartbeats 400000 in
theorem x_leaveOut {G : GI} {F : Nat → Prop} {S0 S : Hp} {w : Nat → Nat} {x : Nat} {K : Nat → Nat} {E : Nat → Nat → Nat} {A c : Nat → Nat → Nat} {bx bu : Nat} (h : XF F S0 S w x K E A c bx bu) {i : Nat} (hi : i ≤ 6) : Cn m_X3_leaveOut G [.ref (x + 51), .int (nI (i))] S (fun r T => r = .inl none ∧ ∃ E', XF F S0 T w x K E' A c bx bu ∧ (∀ f a, a ≠ 53 → E' f a = E f a) ∧ (∀ k, k < i → E' (1000 + k) 53 = E (1000 + k) 53) ∧ ∀ k, i ≤ k → k < 6 → E' (1000 + k) 53 = 4294967295) := by
  refine Cn.of rfl (by decide) (Nat.le_of_ble_eq_true rfl) (fun hN hM => ?_)
  show Wx _ G _ 0 [(0, .ref (x + 51)), (1, .int (nI (i)))] [] _
  refine r_iload_n dX3_leaveOut_0 rfl 1 rfl ?_
  refine r_istore_n (lv' := [(2, .int (nI (i))), (0, .ref (x + 51)), (1, .int (nI (i)))]) dX3_leaveOut_1 rfl (by decide) rfl ?_
  refine Wx.loopR (fun u T lv => (∃ E', XF F S0 T w x K E' A c bx bu ∧ (∀ f a, a ≠ 53 → E' f a = E f a) ∧ (∀ k, k < i → E' (1000 + k) 53 = E (1000 + k) 53) ∧ ∀ k, i ≤ k → k < u → E' (1000 + k) 53 = 4294967295) ∧ lv = [(2, .int (nI (u))), (0, .ref (x + 51)), (1, .int (nI (i)))]) 6 i (by omega) ⟨⟨E, h, fun _ _ _ => rfl, fun _ _ => rfl, fun k h1 h2 => absurd h2 (by omega)⟩, rfl⟩ (fun u T lv hu0 hu hI nx => ?_)
  obtain ⟨⟨E', hx, q1, q2, q3⟩, rfl⟩ := hI
  refine r_iload_n dX3_leaveOut_2 rfl 0 rfl ?_
  refine r_aload_n dX3_leaveOut_3 rfl 1 rfl ?_
  refine r_getR (ci := 5) (k := 6) (b := x + 53) dX3_leaveOut_4 fr_X3_17 hx.1.t51 rfl hx.1.p166 ?_
  refine r_alen101 dX3_leaveOut_7 hx.1.t53 ?_
  refine Wx.top (congrArg nI hx.1.n53) ?_
  refine r_icmp_geN (tgt := 24) dX3_leaveOut_8 (by decide) (by omega) (by omega) (fun h8 => ?_) (fun h8 => ?_)
  · exact r_vret dX3_leaveOut_24 rfl ⟨rfl, E', hx, q1, q2, fun k h1 h2 => q3 k h1 (by omega)⟩
  · refine r_aload_n dX3_leaveOut_11 rfl 1 rfl ?_
    refine r_getR (ci := 5) (k := 6) (b := x + 53) dX3_leaveOut_12 fr_X3_17 hx.1.t51 rfl hx.1.p166 ?_
    refine r_iload_n dX3_leaveOut_15 rfl 0 rfl ?_
    refine r_iconst (v := nI 4294967295) dX3_leaveOut_16 (by decide) ?_
    refine r_iast dX3_leaveOut_17 hx.1.t53 (by rw [show zN T (x + 53) = 6 from hx.1.n53]; exact vp_in_nI (by omega) (by decide)) ?_
    refine Wx.st' (S' := uA T (x + 53) (u) (nI (4294967295))) (by rw [nI_clamp (by omega)]) ?_
    refine Wx.gp (fun T => XF F S0 T w x K (up2 E' (1000 + u) (53) (4294967295)) A c bx bu) (hx.AA (i := u) (by decide)) (fun T (hx : XF F S0 T w x K (up2 E' (1000 + u) (53) (4294967295)) A c bx bu) => ?_)
    refine r_iincN (k := 1) (lv' := [(2, .int (nI (u + 1))), (0, .ref (x + 51)), (1, .int (nI (i)))]) dX3_leaveOut_18 (by decide) 0 rfl (by decide) rfl ?_
    refine r_goto (tgt := 2) dX3_leaveOut_21 (by decide) ?_
    exact nx _ _ (by omega) ⟨⟨_, hx, fun f a ha => (u2_n (by omega)).trans (q1 f a ha), fun k hk => (u2_n (by omega)).trans (q2 k hk), fun k h1 h2 => by
      by_cases e : k = u
      · rw [e]; exact u2_s
      · exact (u2_n (by omega)).trans (q3 k h1 (by omega))⟩, rfl⟩
set_option maxRecDepth 4000 in
set_option maxHeartbeats 400000 in
theorem x_spells {G : GI} {F : Nat → Prop} {S0 S : Hp} {w : Nat → Nat} {x : Nat} {K : Nat → Nat} {E : Nat → Nat → Nat} {A c : Nat → Nat → Nat} {bx bu : Nat} (h : XF F S0 S w x K E A c bx bu) {t : Nat → Nat} {L : Nat} (hT : TXc E t L) {p : Nat} (hp : E 162 51 = p) (hpL : p ≤ L) {e q : Nat} (hq9 : q < 9) (hpe : p ≤ e) (heL : e ≤ L) : Fn m_X3_spells G [.ref (x + 51), .ref (gK G 2 q), .int (nI (e))] S (some (.int (bI (WdP t p e q)))) S := by
  refine Cn.of rfl (by decide) (Nat.le_of_ble_eq_true rfl) (fun hN hM => ?_)
  show Wx _ G _ 0 [(0, .ref (x + 51)), (1, .ref (gK G 2 q)), (2, .int (nI (e)))] [] _
  have hL60 := hT.2.1
  have hsl := sBn_l q hq9
  refine r_iload_n dX3_spells_0 rfl 2 rfl ?_
  refine r_aload_n dX3_spells_1 rfl 0 rfl ?_
  refine r_getI (ci := 5) (k := 2) dX3_spells_2 fr_X3_24 h.1.t51 rfl ?_
  refine Wx.top (h.1.i (f := 162) (by decide) (by decide)) ?_
  refine Wx.topN hp ?_
  refine r_isubN dX3_spells_5 (by (first | omega | (have := sBn_l q hq9; omega) | (have := (sBn_l q hq9).2.2 u (by omega); omega) | (have := cha_lt (i := p + u) hT; omega))) ?_
  refine r_aload_n dX3_spells_6 rfl 1 rfl ?_
  refine r_fnVC (M2 := m_J0_length_8abf5) (As := []) (rest := [.int (nI (e - p))]) (v := some (.int (nI (strL.getD q 0)))) (fun U h => (h.2.2.2.1.1.1 q (by omega)).1) dX3_spells_7 cc_X3_spells_80 rfl rfl rfl (Nat.le_of_ble_eq_true rfl) (j_strLen (by omega)) rfl ?_
  refine r_icmp_eqN (tgt := 15) dX3_spells_10 (by decide) (by (first | omega | (have := sBn_l q hq9; omega) | (have := (sBn_l q hq9).2.2 u (by omega); omega) | (have := cha_lt (i := p + u) hT; omega))) (by (first | omega | (have := sBn_l q hq9; omega) | (have := (sBn_l q hq9).2.2 u (by omega); omega) | (have := cha_lt (i := p + u) hT; omega))) (fun h10 => ?_) (fun h10 => ?_)
  · refine r_iconst (v := nI 0) dX3_spells_15 (by decide) ?_
    refine r_istore_n (lv' := [(3, .int (nI (0))), (0, .ref (x + 51)), (1, .ref (gK G 2 q)), (2, .int (nI (e)))]) dX3_spells_16 rfl (by decide) rfl ?_
    refine Wx.loopR (fun u T lv => S = T ∧ (∀ k, k < u → t (p + k) = sBn q k) ∧ lv = [(3, .int (nI (u))), (0, .ref (x + 51)), (1, .ref (gK G 2 q)), (2, .int (nI (e)))]) (strL.getD q 0) 0 (Nat.zero_le _) ⟨rfl, fun k hk => absurd hk (Nat.not_lt_zero k), rfl⟩ (fun u T lv hu0 hu hI nx => ?_)
    obtain ⟨rfl, hm, rfl⟩ := hI
    refine r_iload_n dX3_spells_17 rfl 0 rfl ?_
    refine r_aload_n dX3_spells_18 rfl 2 rfl ?_
    refine r_fnVC (M2 := m_J0_length_8abf5) (As := []) (rest := [.int (nI (u))]) (v := some (.int (nI (strL.getD q 0)))) (fun U h => (h.2.2.2.1.1.1 q (by omega)).1) dX3_spells_19 cc_X3_spells_80 rfl rfl rfl (Nat.le_of_ble_eq_true rfl) (j_strLen (by omega)) rfl ?_
    refine r_icmp_geN (tgt := 51) dX3_spells_22 (by decide) (by (first | omega | (have := sBn_l q hq9; omega) | (have := (sBn_l q hq9).2.2 u (by omega); omega) | (have := cha_lt (i := p + u) hT; omega))) (by (first | omega | (have := sBn_l q hq9; omega) | (have := (sBn_l q hq9).2.2 u (by omega); omega) | (have := cha_lt (i := p + u) hT; omega))) (fun h22 => ?_) (fun h22 => ?_)
    · refine r_iconst (v := nI 1) dX3_spells_51 (by decide) ?_
      exact r_iret (ty := .boolean) dX3_spells_52 rfl (by decide) ⟨congrArg (fun z => Sum.inl (some (Value.int z))) (bI_t ⟨hq9, by omega, fun k hk => hm k (by omega)⟩).symm, rfl⟩
    · refine r_aload_n dX3_spells_25 rfl 2 rfl ?_
      refine r_iload_n dX3_spells_26 rfl 0 rfl ?_
      refine r_fnVC (M2 := m_J0_charAt_5068e) (As := [.int (nI (u))]) (rest := []) (v := some (.int (nI (sBn q u)))) (fun U h => (h.2.2.2.1.1.1 q (by omega)).1) dX3_spells_27 cc_X3_spells_85 rfl rfl rfl (Nat.le_of_ble_eq_true rfl) (j_strChar (by omega) (by omega)) rfl ?_
      refine r_aload_n dX3_spells_30 rfl 1 rfl ?_
      refine r_aload_n dX3_spells_31 rfl 1 rfl ?_
      refine r_getI (ci := 5) (k := 2) dX3_spells_32 fr_X3_24 h.1.t51 rfl ?_
      refine Wx.top (h.1.i (f := 162) (by decide) (by decide)) ?_
      refine Wx.topN hp ?_
      refine r_iload_n dX3_spells_35 rfl 0 rfl ?_
      refine r_iaddN dX3_spells_36 ?_
      refine r_fnV (M2 := m_X3_at) (As := [.int (nI (p + u))]) (rest := [.int (nI (sBn q u))]) (v := some (.int (nI (cha t L (p + u))))) dX3_spells_37 cc_X3_spells_64 rfl rfl rfl (Nat.le_of_ble_eq_true rfl) h.1.t51 rfl rfl (by decide) (x_at h hT (i := p + u) (by (first | omega | (have := sBn_l q hq9; omega) | (have := (sBn_l q hq9).2.2 u (by omega); omega) | (have := cha_lt (i := p + u) hT; omega)))) rfl ?_
      refine r_icmp_eqN (tgt := 45) dX3_spells_40 (by decide) (by (first | omega | (have := sBn_l q hq9; omega) | (have := (sBn_l q hq9).2.2 u (by omega); omega) | (have := cha_lt (i := p + u) hT; omega))) (by (first | omega | (have := sBn_l q hq9; omega) | (have := (sBn_l q hq9).2.2 u (by omega); omega) | (have := cha_lt (i := p + u) hT; omega))) (fun h40 => ?_) (fun h40 => ?_)
      · refine r_iincN (k := 1) (lv' := [(3, .int (nI (u + 1))), (0, .ref (x + 51)), (1, .ref (gK G 2 q)), (2, .int (nI (e)))]) dX3_spells_45 (by decide) 0 rfl (by decide) rfl ?_
        refine r_goto (tgt := 17) dX3_spells_48 (by decide) ?_
        exact nx _ _ (by omega) ⟨rfl, fun k hk => by
          by_cases e9 : k = u
          · rw [e9]; exact (cha_t (by omega)).symm.trans h40.symm
          · exact hm k (by omega), rfl⟩
      · refine r_iconst (v := nI 0) dX3_spells_43 (by decide) ?_
        exact r_iret (ty := .boolean) dX3_spells_44 rfl (by decide) ⟨congrArg (fun z => Sum.inl (some (Value.int z))) (bI_f (fun z => h40 (by rw [cha_t (by omega)]; exact (z.2.2 u (by omega)).symm))).symm, rfl⟩
  · refine r_iconst (v := nI 0) dX3_spells_13 (by decide) ?_
    exact r_iret (ty := .boolean) dX3_spells_14 rfl (by decide) ⟨congrArg (fun z => Sum.inl (some (Value.int z))) (bI_f (fun z => h10 (by have := z.2.1; omega))).symm, rfl⟩
