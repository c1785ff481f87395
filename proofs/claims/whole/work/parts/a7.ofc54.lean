/-! THE BITS of doubles and floats (class Bits) -/
theorem r_fconst2 {M : MI} {G : GI} {S : Hp} {pc : Nat} {lv : List (Nat × Value)} {st : List Value} {Q : OV → Hp → Prop} (hd : decode (mB M) pc = .ok (.fconst 2, 1)) (kk : Wx M G S (pc + 1) lv (.float FP.fconst2 :: st) Q) : Wx M G S pc lv st Q := by
  intro p e R s m args below meth c C0 H locs cells slots ls hW hc hs hl hlv
  obtain ⟨hx, hb, hml, hr, hown, hts, hlk, hin0, hK, hbase, hfr, hlo, htb⟩ := id C0
  exact lv_fconst2 hx hb hd (kk p e R s m args below meth c C0 H locs cells slots ls hW hc hs hl hlv)
theorem d2l_T {y : UInt64} {T : Nat} (h : okD y) (hv : vD y.toNat = T * 2 ^ 1074) (hT : T < 2 ^ 52) : FP.d2l y = lN T := by
  have h1 := FP.Core.d2l_val h.ne
  have hlt : y.toNat < 2 ^ 63 := by unfold okD at h; omega
  have hs := FP.Core.sgn_bits h.ne
  have hb := FP.Core.zmag_bits h.ne
  rw [hs, hb, decide_eq_false (by omega), Nat.mod_eq_of_lt hlt, show FP.Core.unitsOf FP.Core.b64 y.toNat = T * 2 ^ 1074 from hv, show FP.Core.one64 = 2 ^ 1074 from rfl, Nat.mul_div_cancel _ (Nat.two_pow_pos _)] at h1
  unfold FP.Core.signed at h1
  rw [if_neg (by decide)] at h1
  refine Int64.toInt_inj.mp ?_
  rw [show (lN T).toInt = (T : Int) from lg_ofNat_toInt (by omega)]
  show (FP.Core.d2l y).toInt = _
  rw [h1]; omega
theorem f2i_T {y : UInt32} {T : Nat} (h : okF y) (hv : vF y.toNat = T * 2 ^ 149) (hT : T < 2 ^ 23) : FP.f2i y = nI T := by
  have h1 := FP.Core.f2i_val h.ne
  have hlt : y.toNat < 2 ^ 31 := by unfold okF at h; omega
  have hs := FP.Core.sgn_bits32 h.ne
  have hb := FP.Core.zmag_toNat32 h.ne
  rw [hs, hb, decide_eq_false (by omega), Nat.mod_eq_of_lt hlt, show FP.Core.unitsOf FP.Core.b32 y.toNat = T * 2 ^ 149 from hv, show FP.Core.one32 = 2 ^ 149 from rfl, Nat.mul_div_cancel _ (Nat.two_pow_pos _)] at h1
  unfold FP.Core.signed at h1
  rw [if_neg (by decide)] at h1
  refine Int32.toInt_inj.mp ?_
  rw [nI_toInt (show T < 2 ^ 31 by omega)]
  show (FP.Core.f2i y).toInt = _
  rw [h1]; omega
theorem l_of {x : UInt64} {n : Nat} (h : n = x.toNat) : lN n = x.toInt64 := by
  subst h
  exact congrArg UInt64.toInt64 UInt64.ofNat_toNat
theorem i_of {x : UInt32} {n : Nat} (h : n = x.toNat) : nI n = x.toInt32 := by
  subst h
  exact congrArg UInt32.toInt32 UInt32.ofNat_toNat
theorem l_shl52 : ∀ e, e < 1024 → (lN e) <<< ((nI 52).toInt64 &&& 63) = lN (e * 2 ^ 52) := by decide +kernel
theorem l_cmp1 : ∀ e, e < 1024 → (lg_cmp (lN e) 1 ≤ 0 ↔ e ≤ 1) := by decide +kernel
theorem i_less1 : ∀ e, e < 128 → nI (e + 1) + (-1) = nI e := by decide +kernel
set_option maxRecDepth 4000 in
set_option maxHeartbeats 400000 in
theorem k_ofDouble {G : GI} {S : Hp} {x : UInt64} (h : x.toNat = 0 ∨ 4503599627370496 ≤ x.toNat) (h2 : x.toNat < 4611686018427387904) : Fn m_X1_ofDouble G [.double x] S (some (.long (x.toInt64))) S := by
  have hx : okD x := by unfold okD; omega
  have h0 : okD FP.dconst0 := by unfold okD; decide
  have h1 : okD FP.dconst1 := by unfold okD; decide
  have z0 : FP.dconst0.toNat = 0 := by decide
  have z1 : FP.dconst1.toNat = 4607182418800017408 := by decide
  refine Cn.of rfl (by decide) (Nat.le_of_ble_eq_true rfl) (fun hN hM => ?_)
  show Wx _ G _ 0 [(0, .double x)] [] _
  refine r_dload_n dX1_ofDouble_0 rfl 0 rfl ?_
  refine r_dconst0 dX1_ofDouble_1 ?_
  refine r_dcmp dX1_ofDouble_2 ?_
  refine Wx.top (cvD hx h0 .l) ?_
  refine r_if_gt (tgt := 8) dX1_ofDouble_3 (by decide) (fun hc => ?_) (fun hc => ?_)
  · have hp : 4503599627370496 ≤ x.toNat := by
      rcases h with h | h
      · rw [z0, if_neg (by omega), if_pos h] at hc; exact absurd hc (by decide)
      · exact h
    refine r_ldc2 (v := 1023) (sg5 11 rfl rfl) dX1_ofDouble_8 ?_
    refine r_lstore_n (lv' := [(2, .long 1023), (0, .double x)]) dX1_ofDouble_11 rfl (by decide) rfl ?_
    refine r_dload_n dX1_ofDouble_12 rfl 1 rfl ?_
    refine r_dstore (lv' := [(4, .double x), (2, .long 1023), (0, .double x)]) dX1_ofDouble_13 (by decide) rfl ?_
    refine Wx.loopR (fun u T lv => S = T ∧ ∃ r : UInt64, r.toNat = x.toNat + u * 4503599627370496 ∧ r.toNat < 4611686018427387904 ∧ lv = [(4, .double r), (2, .long (lN (1023 - u))), (0, .double x)]) 1022 0 (Nat.zero_le _) ⟨rfl, x, by omega, h2, rfl⟩ (fun u T lv hu0 hu hI nx => ?_)
    obtain ⟨rfl, r, hr, hr2, rfl⟩ := hI
    have hro : okD r := by unfold okD; omega
    refine r_dload dX1_ofDouble_15 0 rfl ?_
    refine r_dconst1 dX1_ofDouble_17 ?_
    refine r_dcmp dX1_ofDouble_18 ?_
    refine Wx.top (cvD hro h1 .g) ?_
    refine r_if_ge (tgt := 43) dX1_ofDouble_19 (by decide) (fun hg => ?_) (fun hg => ?_)
    · have hr3 : 4607182418800017408 ≤ r.toNat := by
        refine Nat.le_of_not_lt fun q => ?_
        rw [z1, if_pos q] at hg; exact absurd hg (by decide)
      have hs := subD (x := r) (by omega) (by omega)
      have hm := mulBD hs.1 hs.2 (by omega)
      refine r_lload_n dX1_ofDouble_43 rfl 1 rfl ?_
      refine r_bipush (v := nI 52) dX1_ofDouble_44 (by decide) ?_
      refine r_lshl dX1_ofDouble_46 ?_
      refine r_dload dX1_ofDouble_47 0 rfl ?_
      refine r_dconst1 dX1_ofDouble_49 ?_
      refine r_dsub dX1_ofDouble_50 hs.1.nn ?_
      refine r_ldc2d (v := 4841369599423283200) (sg5 13 rfl rfl) dX1_ofDouble_51 ?_
      refine r_dmul dX1_ofDouble_54 hm.1.nn ?_
      refine r_d2l dX1_ofDouble_55 ?_
      refine r_ladd dX1_ofDouble_56 ?_
      refine r_lret dX1_ofDouble_57 rfl ⟨congrArg (fun z => Sum.inl (some (Value.long z))) ?_, rfl⟩
      rw [l_shl52 _ (by omega)]
      refine Eq.trans (congrArg (fun z => lN ((1023 - u) * 2 ^ 52) + z) (d2l_T hm.1 hm.2 (by omega))) ?_
      show _ + _ = _
      rw [lN_add]
      exact l_of (by omega)
    · have hr3 : r.toNat < 4607182418800017408 := by
        refine Nat.lt_of_not_le fun q => hg ?_
        rw [z1, if_neg (by omega)]
        split <;> decide
      have hd := dblD (x := r) (by omega) (by omega)
      refine r_lload_n dX1_ofDouble_22 rfl 1 rfl ?_
      refine r_lconst (v := 1) dX1_ofDouble_23 (by decide) ?_
      refine r_lcmp dX1_ofDouble_24 ?_
      refine r_if_le (tgt := 43) dX1_ofDouble_25 (by decide) (fun hl => ?_) (fun hl => ?_)
      · have := (l_cmp1 (1023 - u) (by omega)).mp hl
        omega
      · have hl2 : ¬ 1023 - u ≤ 1 := fun q => hl ((l_cmp1 (1023 - u) (by omega)).mpr q)
        refine r_dload dX1_ofDouble_28 0 rfl ?_
        refine r_ldc2d (v := 4611686018427387904) (sg5 12 rfl rfl) dX1_ofDouble_30 ?_
        refine r_dmul dX1_ofDouble_33 hd.1.nn ?_
        refine r_dstore (lv' := [(4, .double (FP.dmul r 4611686018427387904)), (2, .long (lN (1023 - u))), (0, .double x)]) dX1_ofDouble_34 (by decide) rfl ?_
        refine r_lload_n dX1_ofDouble_36 rfl 1 rfl ?_
        refine r_lconst (v := 1) dX1_ofDouble_37 (by decide) ?_
        refine r_lsub dX1_ofDouble_38 ?_
        refine r_lstore_n (lv' := [(2, .long (lN (1023 - u) - 1)), (4, .double (FP.dmul r 4611686018427387904)), (0, .double x)]) dX1_ofDouble_39 rfl (by decide) rfl ?_
        refine r_goto (tgt := 15) dX1_ofDouble_40 (by decide) ?_
        refine Wx.sub [1, 0, 2] rfl ?_
        exact nx _ _ (by omega) ⟨rfl, _, by rw [hd.2]; omega, by rw [hd.2]; omega, by rw [show lN (1023 - u) - 1 = lN (1023 - (u + 1)) from (lN_sub (a := 1023 - u) (b := 1) (by omega)).trans (congrArg lN (by omega))]; rfl⟩
  · have hz : x.toNat = 0 := by
      rcases h with h | h
      · exact h
      · exact absurd (show (0 : Int32) < _ from by rw [z0, if_neg (by omega), if_neg (by omega)]; decide) hc
    refine r_lconst (v := 0) dX1_ofDouble_6 (by decide) ?_
    exact r_lret dX1_ofDouble_7 rfl ⟨congrArg (fun z => Sum.inl (some (Value.long z))) (l_of (n := 0) hz.symm), rfl⟩
set_option maxRecDepth 4000 in
set_option maxHeartbeats 400000 in
theorem k_ofFloat {G : GI} {S : Hp} {x : UInt32} (h : x.toNat = 0 ∨ 8388608 ≤ x.toNat) (h2 : x.toNat < 1073741824) : Fn m_X1_ofFloat G [.float x] S (some (.int (x.toInt32))) S := by
  have hx : okF x := by unfold okF; omega
  have h0 : okF FP.fconst0 := by unfold okF; decide
  have h1 : okF FP.fconst1 := by unfold okF; decide
  have z0 : FP.fconst0.toNat = 0 := by decide
  have z1 : FP.fconst1.toNat = 1065353216 := by decide
  refine Cn.of rfl (by decide) (Nat.le_of_ble_eq_true rfl) (fun hN hM => ?_)
  show Wx _ G _ 0 [(0, .float x)] [] _
  refine r_fload_n dX1_ofFloat_0 rfl 0 rfl ?_
  refine r_fconst0 dX1_ofFloat_1 ?_
  refine r_fcmp dX1_ofFloat_2 ?_
  refine Wx.top (cvF hx h0 .l) ?_
  refine r_if_gt (tgt := 8) dX1_ofFloat_3 (by decide) (fun hc => ?_) (fun hc => ?_)
  · have hp : 8388608 ≤ x.toNat := by
      rcases h with h | h
      · rw [z0, if_neg (by omega), if_pos h] at hc; exact absurd hc (by decide)
      · exact h
    refine r_bipush (v := nI 127) dX1_ofFloat_8 (by decide) ?_
    refine r_istore_n (lv' := [(1, .int (nI 127)), (0, .float x)]) dX1_ofFloat_10 rfl (by decide) rfl ?_
    refine r_fload_n dX1_ofFloat_11 rfl 1 rfl ?_
    refine r_fstore_n (lv' := [(2, .float x), (1, .int (nI 127)), (0, .float x)]) dX1_ofFloat_12 rfl (by decide) rfl ?_
    refine Wx.loopR (fun u T lv => S = T ∧ ∃ r : UInt32, r.toNat = x.toNat + u * 8388608 ∧ r.toNat < 1073741824 ∧ lv = [(2, .float r), (1, .int (nI (127 - u))), (0, .float x)]) 126 0 (Nat.zero_le _) ⟨rfl, x, by omega, h2, rfl⟩ (fun u T lv hu0 hu hI nx => ?_)
    obtain ⟨rfl, r, hr, hr2, rfl⟩ := hI
    have hro : okF r := by unfold okF; omega
    refine r_fload_n dX1_ofFloat_13 rfl 0 rfl ?_
    refine r_fconst1 dX1_ofFloat_14 ?_
    refine r_fcmp dX1_ofFloat_15 ?_
    refine Wx.top (cvF hro h1 .g) ?_
    refine r_if_ge (tgt := 34) dX1_ofFloat_16 (by decide) (fun hg => ?_) (fun hg => ?_)
    · have hr3 : 1065353216 ≤ r.toNat := by
        refine Nat.le_of_not_lt fun q => ?_
        rw [z1, if_pos q] at hg; exact absurd hg (by decide)
      have hs := subF (x := r) (by omega) (by omega)
      have hm := mulBF hs.1 hs.2 (by omega)
      refine r_iload_n dX1_ofFloat_34 rfl 1 rfl ?_
      refine r_bipush (v := nI 23) dX1_ofFloat_35 (by decide) ?_
      refine r_ishl dX1_ofFloat_37 ?_
      refine r_fload_n dX1_ofFloat_38 rfl 0 rfl ?_
      refine r_fconst1 dX1_ofFloat_39 ?_
      refine r_fsub dX1_ofFloat_40 hs.1.nn ?_
      refine r_ldcf (v := 1258291200) (sg5 141 rfl rfl) dX1_ofFloat_41 ?_
      refine r_fmul dX1_ofFloat_43 hm.1.nn ?_
      refine r_f2i dX1_ofFloat_44 ?_
      refine r_iadd dX1_ofFloat_45 ?_
      refine r_iret (ty := .int) dX1_ofFloat_46 rfl rfl ⟨congrArg (fun z => Sum.inl (some (Value.int z))) ?_, rfl⟩
      rw [nI_shl (by omega) (by omega)]
      refine Eq.trans (congrArg (fun z => nI ((127 - u) * 2 ^ 23) + z) (f2i_T hm.1 hm.2 (by omega))) ?_
      show _ + _ = _
      rw [nI_add]
      exact i_of (by omega)
    · have hr3 : r.toNat < 1065353216 := by
        refine Nat.lt_of_not_le fun q => hg ?_
        rw [z1, if_neg (by omega)]
        split <;> decide
      have hd := dblF (x := r) (by omega) (by omega)
      refine r_iload_n dX1_ofFloat_19 rfl 1 rfl ?_
      refine r_iconst (v := nI 1) dX1_ofFloat_20 (by decide) ?_
      refine r_icmp_leN (tgt := 34) dX1_ofFloat_21 (by decide) (by omega) (by omega) (fun hl => ?_) (fun hl => ?_)
      · omega
      · refine r_fload_n dX1_ofFloat_24 rfl 0 rfl ?_
        refine r_fconst2 dX1_ofFloat_25 ?_
        refine r_fmul dX1_ofFloat_26 hd.1.nn ?_
        refine r_fstore_n (lv' := [(2, .float (FP.fmul r FP.fconst2)), (1, .int (nI (127 - u))), (0, .float x)]) dX1_ofFloat_27 rfl (by decide) rfl ?_
        refine r_iinc (v := nI (127 - u) + (-1)) (lv' := [(1, .int (nI (127 - u) + (-1))), (2, .float (FP.fmul r FP.fconst2)), (0, .float x)]) dX1_ofFloat_28 1 rfl (by rfl) (by decide) rfl ?_
        refine r_goto (tgt := 13) dX1_ofFloat_31 (by decide) ?_
        refine Wx.sub [1, 0, 2] rfl ?_
        have e9 : nI (127 - u) + (-1) = nI (127 - (u + 1)) := by rw [show 127 - u = (127 - (u + 1)) + 1 by omega]; exact i_less1 _ (by omega)
        exact nx _ _ (by omega) ⟨rfl, _, hd.2.trans (by omega), by have := hd.2; exact Nat.lt_of_le_of_lt (Nat.le_of_eq this) (by omega), by rw [e9]; rfl⟩
  · have hz : x.toNat = 0 := by
      rcases h with h | h
      · exact h
      · exact absurd (show (0 : Int32) < _ from by rw [z0, if_neg (by omega), if_neg (by omega)]; decide) hc
    refine r_iconst (v := nI 0) dX1_ofFloat_6 (by decide) ?_
    exact r_iret (ty := .int) dX1_ofFloat_7 rfl rfl ⟨congrArg (fun z => Sum.inl (some (Value.int z))) (i_of (n := 0) hz.symm), rfl⟩
