/-! SHARES -/
theorem lowD : vD 4503599627370496 = 2 ^ 52 := by decide +kernel
theorem unoD' : vD 4607182418800017408 = 2 ^ 1074 := by decide +kernel
/-- a share -/
theorem shD {a b : Nat} (hab : a ≤ b) (hb0 : 0 < b) (hN : b ≤ 16777216) : okD (FP.ddiv (FP.i2d (nI a)) (FP.i2d (nI b))) ∧ (FP.ddiv (FP.i2d (nI a)) (FP.i2d (nI b))).toNat < 4611686018427387904 ∧ ((FP.ddiv (FP.i2d (nI a)) (FP.i2d (nI b))).toNat = 0 ∨ 4503599627370496 ≤ (FP.ddiv (FP.i2d (nI a)) (FP.i2d (nI b))).toNat) := by
  obtain ⟨a1, a2⟩ := intD (k := a) (by omega)
  obtain ⟨b1, b2⟩ := intD (k := b) (by omega)
  have hu := unoD'
  have hl := lowD
  have ho : 2 ^ 52 * 2 ^ 24 ≤ 2 ^ 1074 := by rw [← Nat.pow_add]; exact Nat.pow_le_pow_right (by decide) (by decide)
  have hop : 0 < 2 ^ 1074 := Nat.two_pow_pos _
  have hle : vD (FP.i2d (nI a)).toNat * 2 ^ 1074 ≤ vD 4607182418800017408 * vD (FP.i2d (nI b)).toNat := by
    rw [a2, b2, hu]
    generalize (2 : Nat) ^ 1074 = o
    rw [Nat.mul_comm o]
    exact Nat.mul_le_mul_right o (Nat.mul_le_mul_right o hab)
  have h := divD a1 b1 (by rw [b2]; exact Nat.mul_pos hb0 hop) (m0 := 4607182418800017408) (by decide) hle
  have h1 := (h.2.2.2 4607182418800017408 (infD (by decide))).1 hle
  refine ⟨h.1, by omega, ?_⟩
  by_cases h0 : a = 0
  · refine Or.inl (h.2.1 ?_)
    have z : a * 2 ^ 1074 = 0 := (congrArg (fun z => z * 2 ^ 1074) h0).trans (Nat.zero_mul _)
    exact (congrArg (fun z => z * 2 ^ 1074) (a2.trans z)).trans (Nat.zero_mul _)
  · refine Or.inr ((h.2.2.2 4503599627370496 (infD (by decide))).2 ?_)
    show vD 4503599627370496 * _ ≤ _
    rw [a2, b2, hl]
    generalize (2 : Nat) ^ 1074 = o at *
    have e1 : 2 ^ 52 * b ≤ o := Nat.le_trans (Nat.mul_le_mul_left _ hN) ho
    have e2 : 1 * o * o ≤ a * o * o := Nat.mul_le_mul_right o (Nat.mul_le_mul_right o (by omega))
    have e3 := Nat.mul_le_mul_right o e1
    rw [← Nat.mul_assoc]
    rw [Nat.one_mul] at e2
    exact Nat.le_trans e3 e2
theorem lowF : vF 8388608 = 2 ^ 23 := by decide +kernel
theorem unoF' : vF 1065353216 = 2 ^ 149 := by decide +kernel
/-- a share -/
theorem shF {a b : Nat} (hab : a ≤ b) (hb0 : 0 < b) (hN : b ≤ 16777216) : okF (FP.fdiv (FP.i2f (nI a)) (FP.i2f (nI b))) ∧ (FP.fdiv (FP.i2f (nI a)) (FP.i2f (nI b))).toNat < 1073741824 ∧ ((FP.fdiv (FP.i2f (nI a)) (FP.i2f (nI b))).toNat = 0 ∨ 8388608 ≤ (FP.fdiv (FP.i2f (nI a)) (FP.i2f (nI b))).toNat) := by
  obtain ⟨a1, a2⟩ := intF (k := a) (by omega)
  obtain ⟨b1, b2⟩ := intF (k := b) (by omega)
  have hu := unoF'
  have hl := lowF
  have ho : 2 ^ 23 * 2 ^ 24 ≤ 2 ^ 149 := by rw [← Nat.pow_add]; exact Nat.pow_le_pow_right (by decide) (by decide)
  have hop : 0 < 2 ^ 149 := Nat.two_pow_pos _
  have hle : vF (FP.i2f (nI a)).toNat * 2 ^ 149 ≤ vF 1065353216 * vF (FP.i2f (nI b)).toNat := by
    rw [a2, b2, hu]
    generalize (2 : Nat) ^ 149 = o
    rw [Nat.mul_comm o]
    exact Nat.mul_le_mul_right o (Nat.mul_le_mul_right o hab)
  have h := divF a1 b1 (by rw [b2]; exact Nat.mul_pos hb0 hop) (m0 := 1065353216) (by decide) hle
  have h1 := (h.2.2.2 1065353216 (infF (by decide))).1 hle
  refine ⟨h.1, by omega, ?_⟩
  by_cases h0 : a = 0
  · refine Or.inl (h.2.1 ?_)
    have z : a * 2 ^ 149 = 0 := (congrArg (fun z => z * 2 ^ 149) h0).trans (Nat.zero_mul _)
    exact (congrArg (fun z => z * 2 ^ 149) (a2.trans z)).trans (Nat.zero_mul _)
  · refine Or.inr ((h.2.2.2 8388608 (infF (by decide))).2 ?_)
    show vF 8388608 * _ ≤ _
    rw [a2, b2, hl]
    generalize (2 : Nat) ^ 149 = o at *
    have e1 : 2 ^ 23 * b ≤ o := Nat.le_trans (Nat.mul_le_mul_left _ hN) ho
    have e2 : 1 * o * o ≤ a * o * o := Nat.mul_le_mul_right o (Nat.mul_le_mul_right o (by omega))
    have e3 := Nat.mul_le_mul_right o e1
    rw [← Nat.mul_assoc]
    rw [Nat.one_mul] at e2
    exact Nat.le_trans e3 e2
theorem sumN_mono {f h : Nat → Nat} : ∀ {n : Nat}, (∀ i, i < n → f i ≤ h i) → sumN f n ≤ sumN h n
  | 0, _ => Nat.le_refl _
  | n + 1, q => Nat.add_le_add (sumN_mono fun i hi => q i (by omega)) (q n (by omega))
theorem bds_le {g : Nat → Nat} {p n : Nat} : sumN (bdsN g p) n ≤ sumN (shpN g p) n := sumN_mono fun _ _ => cnt_imp fun _ _ h => ⟨h.1, h.2.1⟩
theorem shp_le {g : Nat → Nat} {p n : Nat} (h : ∀ i, i < n → g (90 + 13 * i + 1) ≤ 200) : sumN (shpN g p) n ≤ 200 * n := sumN_le fun i hi => Nat.le_trans (cnt_le _ _) (h i hi)
set_option maxRecDepth 4000 in
set_option maxHeartbeats 400000 in
theorem f_found_1 {G : GI} {S : Hp} {w : Nat → Nat} {k o : Nat} {A c g : Nat → Nat} {N : Nat} {x : Nat} (hxt : zT S x = 14) (hxo : zP S 416 x = some o) (h : OR S w k o A c) (hr : Rel c g N) (hal : ∀ l, l < g 0 → A l ≠ 0) (hc1 : zX S + 1 ≤ gN G) (hu6 : zU S + 6 ≤ gM G) {y : Int32} (hno : ¬ vp_in y 4) : FT m_X12_foundShare G [.ref (x), .int (y)] S "java/lang/IndexOutOfBoundsException" := by
  refine Cn.of rfl (by decide) (Nat.le_of_ble_eq_true rfl) (fun hN hM => ?_)
  show Wx _ G _ 0 [(0, .ref (x)), (1, .int (y))] [] _
  have hx := OX.refl h
  have h24 := hr.n24
  refine r_aload_n dX12_foundShare_0 rfl 0 rfl ?_
  refine r_iload_n dX12_foundShare_1 rfl 1 rfl ?_
  exact r_ftV (M2 := m_X12_existingProduct) (As := [.int (y)]) (rest := []) dX12_foundShare_2 cc_X12_foundShare_96 rfl rfl rfl (Nat.le_of_ble_eq_true rfl) hxt rfl rfl (by decide) (f_prod_no hxt hxo h hr hal hc1 hu6 hno) rfl (fun y u h1 h2 => ⟨rfl, y, u, h1, h2, rfl⟩)
set_option maxRecDepth 4000 in
set_option maxHeartbeats 400000 in
theorem f_found_2 {G : GI} {S : Hp} {w : Nat → Nat} {k o : Nat} {A c g : Nat → Nat} {N : Nat} {x : Nat} (hxt : zT S x = 14) (hxo : zP S 416 x = some o) (h : OR S w k o A c) (hr : Rel c g N) (hal : ∀ l, l < g 0 → A l ≠ 0) (hc1 : zX S + 1 ≤ gN G) (hu6 : zU S + 6 ≤ gM G) {p : Nat} (hp : p < 4) (hNb : N < 2147483648) (h0 : g (22 + 10 * p + 8) = 0) : FT m_X12_foundShare G [.ref (x), .int (nI (p))] S "java/lang/ArithmeticException" := by
  refine Cn.of rfl (by decide) (Nat.le_of_ble_eq_true rfl) (fun hN hM => ?_)
  show Wx _ G _ 0 [(0, .ref (x)), (1, .int (nI (p)))] [] _
  have hx := OX.refl h
  have h24 := hr.n24
  have hP := hr.p hp
  have hPb := hP.b
  have hPm := hP.m
  have hPs := hP.s
  refine r_aload_n dX12_foundShare_0 rfl 0 rfl ?_
  refine r_iload_n dX12_foundShare_1 rfl 1 rfl ?_
  refine r_fnV (M2 := m_X12_existingProduct) (As := [.int (nI (p))]) (rest := []) (v := some (.ref (o + 12 + p))) dX12_foundShare_2 cc_X12_foundShare_96 rfl rfl rfl (Nat.le_of_ble_eq_true rfl) hxt rfl rfl (by decide) (f_prod hxt hxo h hr hal (by omega)) rfl ?_
  refine r_astore_n (lv' := [(2, .ref (o + 12 + p)), (0, .ref (x)), (1, .int (nI (p)))]) dX12_foundShare_5 rfl (by decide) rfl ?_
  refine r_aload_n dX12_foundShare_6 rfl 0 rfl ?_
  refine r_getI (ci := 10) (k := 7) dX12_foundShare_7 fr_X12_256 (hx.1.1.2.2.2.2.2.2.2.2 p (by omega)).2 rfl ?_
  refine Wx.top (hx.1.p7 (i := p) (by omega)) ?_
  refine Wx.topN (hr.p (p := p) (by omega)).c8 ?_
  refine r_if_neN (tgt := 21) dX12_foundShare_10 (by decide) (by omega) (fun h10 => ?_) (fun h10 => ?_)
  · exact absurd h0 h10
  · exact r_throw (ft_AR (by decide)) rfl dX12_foundShare_13 dX12_foundShare_16 dX12_foundShare_17 dX12_foundShare_20 (by decide) (by first | exact hc1 | omega) (by first | exact hu6 | omega) (fun y u h1 h2 h3 h4 => ⟨rfl, y, u, ⟨h1, h2⟩, ⟨h3, h4⟩, rfl⟩)
set_option maxRecDepth 4000 in
set_option maxHeartbeats 400000 in
theorem f_found_0 {G : GI} {S : Hp} {w : Nat → Nat} {k o : Nat} {A c g : Nat → Nat} {N : Nat} {x : Nat} (hxt : zT S x = 14) (hxo : zP S 416 x = some o) (h : OR S w k o A c) (hr : Rel c g N) (hal : ∀ l, l < g 0 → A l ≠ 0) {p : Nat} (hp : p < 4) (hNb : N ≤ 16777216) (h0 : ¬ g (22 + 10 * p + 8) = 0) : Fn m_X12_foundShare G [.ref (x), .int (nI (p))] S (some (.long ((FP.ddiv (FP.i2d (nI (g (22 + 10 * p + 9)))) (FP.i2d (nI (g (22 + 10 * p + 8))))).toInt64))) S := by
  refine Cn.of rfl (by decide) (Nat.le_of_ble_eq_true rfl) (fun hN hM => ?_)
  show Wx _ G _ 0 [(0, .ref (x)), (1, .int (nI (p)))] [] _
  have hx := OX.refl h
  have h24 := hr.n24
  have hP := hr.p hp
  have hPb := hP.b
  have hPm := hP.m
  have hPs := hP.s
  have hsh := shD (a := g (22 + 10 * p + 9)) (b := g (22 + 10 * p + 8)) hPs.1 (by omega) (by omega)
  refine r_aload_n dX12_foundShare_0 rfl 0 rfl ?_
  refine r_iload_n dX12_foundShare_1 rfl 1 rfl ?_
  refine r_fnV (M2 := m_X12_existingProduct) (As := [.int (nI (p))]) (rest := []) (v := some (.ref (o + 12 + p))) dX12_foundShare_2 cc_X12_foundShare_96 rfl rfl rfl (Nat.le_of_ble_eq_true rfl) hxt rfl rfl (by decide) (f_prod hxt hxo h hr hal (by omega)) rfl ?_
  refine r_astore_n (lv' := [(2, .ref (o + 12 + p)), (0, .ref (x)), (1, .int (nI (p)))]) dX12_foundShare_5 rfl (by decide) rfl ?_
  refine r_aload_n dX12_foundShare_6 rfl 0 rfl ?_
  refine r_getI (ci := 10) (k := 7) dX12_foundShare_7 fr_X12_256 (hx.1.1.2.2.2.2.2.2.2.2 p (by omega)).2 rfl ?_
  refine Wx.top (hx.1.p7 (i := p) (by omega)) ?_
  refine Wx.topN (hr.p (p := p) (by omega)).c8 ?_
  refine r_if_neN (tgt := 21) dX12_foundShare_10 (by decide) (by omega) (fun h10 => ?_) (fun h10 => ?_)
  · refine r_aload_n dX12_foundShare_21 rfl 0 rfl ?_
    refine r_getI (ci := 10) (k := 8) dX12_foundShare_22 fr_X12_259 (hx.1.1.2.2.2.2.2.2.2.2 p (by omega)).2 rfl ?_
    refine Wx.top (hx.1.p8 (i := p) (by omega)) ?_
    refine Wx.topN (hr.p (p := p) (by omega)).c9 ?_
    refine r_i2d dX12_foundShare_25 ?_
    refine r_aload_n dX12_foundShare_26 rfl 0 rfl ?_
    refine r_getI (ci := 10) (k := 7) dX12_foundShare_27 fr_X12_256 (hx.1.1.2.2.2.2.2.2.2.2 p (by omega)).2 rfl ?_
    refine Wx.top (hx.1.p7 (i := p) (by omega)) ?_
    refine Wx.topN (hr.p (p := p) (by omega)).c8 ?_
    refine r_i2d dX12_foundShare_30 ?_
    refine r_ddiv dX12_foundShare_31 hsh.1.nn ?_
    refine r_fnS (M2 := m_X1_ofDouble) (As := [.double (FP.ddiv (FP.i2d (nI (g (22 + 10 * p + 9)))) (FP.i2d (nI (g (22 + 10 * p + 8)))))]) (rest := []) (v := some (.long ((FP.ddiv (FP.i2d (nI (g (22 + 10 * p + 9)))) (FP.i2d (nI (g (22 + 10 * p + 8))))).toInt64))) dX12_foundShare_32 cc_X12_foundShare_200 rfl rfl rfl (Nat.le_of_ble_eq_true rfl) (k_ofDouble hsh.2.2 hsh.2.1) rfl ?_
    exact r_lret dX12_foundShare_35 rfl ⟨rfl, rfl⟩
  · exact absurd h10 h0
set_option maxRecDepth 4000 in
set_option maxHeartbeats 400000 in
theorem f_outgo_1 {G : GI} {S : Hp} {w : Nat → Nat} {k o : Nat} {A c g : Nat → Nat} {N : Nat} {x : Nat} (hxt : zT S x = 14) (hxo : zP S 416 x = some o) (h : OR S w k o A c) (hr : Rel c g N) (hal : ∀ l, l < g 0 → A l ≠ 0) (hc1 : zX S + 1 ≤ gN G) (hu6 : zU S + 6 ≤ gM G) {y : Int32} (hno : ¬ vp_in y 4) : FT m_X12_outgoing G [.ref (x), .int (y)] S "java/lang/IndexOutOfBoundsException" := by
  refine Cn.of rfl (by decide) (Nat.le_of_ble_eq_true rfl) (fun hN hM => ?_)
  show Wx _ G _ 0 [(0, .ref (x)), (1, .int (y))] [] _
  have hx := OX.refl h
  have h24 := hr.n24
  refine r_aload_n dX12_outgoing_0 rfl 0 rfl ?_
  refine r_iload_n dX12_outgoing_1 rfl 1 rfl ?_
  exact r_ftV (M2 := m_X12_existingProduct) (As := [.int (y)]) (rest := []) dX12_outgoing_2 cc_X12_outgoing_96 rfl rfl rfl (Nat.le_of_ble_eq_true rfl) hxt rfl rfl (by decide) (f_prod_no hxt hxo h hr hal hc1 hu6 hno) rfl (fun y u h1 h2 => ⟨rfl, y, u, h1, h2, rfl⟩)
set_option maxRecDepth 4000 in
set_option maxHeartbeats 400000 in
theorem f_outgo_2 {G : GI} {S : Hp} {w : Nat → Nat} {k o : Nat} {A c g : Nat → Nat} {N : Nat} {x : Nat} (hxt : zT S x = 14) (hxo : zP S 416 x = some o) (h : OR S w k o A c) (hr : Rel c g N) (hal : ∀ l, l < g 0 → A l ≠ 0) (hc1 : zX S + 1 ≤ gN G) (hu6 : zU S + 6 ≤ gM G) {p : Nat} (hp : p < 4) (h0 : sumN (shpN g p) (g 0) = 0) : FT m_X12_outgoing G [.ref (x), .int (nI (p))] S "java/lang/ArithmeticException" := by
  refine Cn.of rfl (by decide) (Nat.le_of_ble_eq_true rfl) (fun hN hM => ?_)
  show Wx _ G _ 0 [(0, .ref (x)), (1, .int (nI (p)))] [] _
  have hx := OX.refl h
  have h24 := hr.n24
  have hP := hr.p hp
  have hPb := hP.b
  have hPm := hP.m
  have hPs := hP.s
  have h24 := hr.n24
  have hsz := shp_le (g := g) (p := p) (n := g 0) (fun i hi => (hr.lot hi).z)
  have hbl := bds_le (g := g) (p := p) (n := g 0)
  refine r_aload_n dX12_outgoing_0 rfl 0 rfl ?_
  refine r_iload_n dX12_outgoing_1 rfl 1 rfl ?_
  refine r_fnV (M2 := m_X12_existingProduct) (As := [.int (nI (p))]) (rest := []) (v := some (.ref (o + 12 + p))) dX12_outgoing_2 cc_X12_outgoing_96 rfl rfl rfl (Nat.le_of_ble_eq_true rfl) hxt rfl rfl (by decide) (f_prod hxt hxo h hr hal (by omega)) rfl ?_
  refine r_astore_n (lv' := [(2, .ref (o + 12 + p)), (0, .ref (x)), (1, .int (nI (p)))]) dX12_outgoing_5 rfl (by decide) rfl ?_
  refine r_aload_n dX12_outgoing_6 rfl 1 rfl ?_
  refine r_getR (ci := 13) (k := 0) (b := o) dX12_outgoing_7 fr_X12_10 hxt rfl hxo ?_
  refine r_iload_n dX12_outgoing_10 rfl 2 rfl ?_
  refine r_fnV (M2 := m_X7_shippedOf) (As := [.int (nI (p))]) (rest := []) (v := some (.int (nI (sumN (shpN g p) (g 0))))) dX12_outgoing_11 cc_X12_outgoing_243 rfl rfl rfl (Nat.le_of_ble_eq_true rfl) hx.1.1.1 rfl rfl (by decide) (o_shippedOf hx.1 hr hal hp) rfl ?_
  refine r_istore_n (lv' := [(3, .int (nI (sumN (shpN g p) (g 0)))), (2, .ref (o + 12 + p)), (0, .ref (x)), (1, .int (nI (p)))]) dX12_outgoing_14 rfl (by decide) rfl ?_
  refine r_iload_n dX12_outgoing_15 rfl 0 rfl ?_
  refine r_if_neN (tgt := 27) dX12_outgoing_16 (by decide) (by omega) (fun h16 => ?_) (fun h16 => ?_)
  · exact absurd h0 h16
  · exact r_throw (ft_AR (by decide)) rfl dX12_outgoing_19 dX12_outgoing_22 dX12_outgoing_23 dX12_outgoing_26 (by decide) (by first | exact hc1 | omega) (by first | exact hu6 | omega) (fun y u h1 h2 h3 h4 => ⟨rfl, y, u, ⟨h1, h2⟩, ⟨h3, h4⟩, rfl⟩)
set_option maxRecDepth 4000 in
set_option maxHeartbeats 400000 in
theorem f_outgo_0 {G : GI} {S : Hp} {w : Nat → Nat} {k o : Nat} {A c g : Nat → Nat} {N : Nat} {x : Nat} (hxt : zT S x = 14) (hxo : zP S 416 x = some o) (h : OR S w k o A c) (hr : Rel c g N) (hal : ∀ l, l < g 0 → A l ≠ 0) {p : Nat} (hp : p < 4) (h0 : ¬ sumN (shpN g p) (g 0) = 0) : Fn m_X12_outgoing G [.ref (x), .int (nI (p))] S (some (.int ((FP.fdiv (FP.i2f (nI (sumN (bdsN g p) (g 0)))) (FP.i2f (nI (sumN (shpN g p) (g 0))))).toInt32))) S := by
  refine Cn.of rfl (by decide) (Nat.le_of_ble_eq_true rfl) (fun hN hM => ?_)
  show Wx _ G _ 0 [(0, .ref (x)), (1, .int (nI (p)))] [] _
  have hx := OX.refl h
  have h24 := hr.n24
  have hP := hr.p hp
  have hPb := hP.b
  have hPm := hP.m
  have hPs := hP.s
  have h24 := hr.n24
  have hsz := shp_le (g := g) (p := p) (n := g 0) (fun i hi => (hr.lot hi).z)
  have hbl := bds_le (g := g) (p := p) (n := g 0)
  have hsh := shF (a := sumN (bdsN g p) (g 0)) (b := sumN (shpN g p) (g 0)) hbl (by omega) (by omega)
  refine r_aload_n dX12_outgoing_0 rfl 0 rfl ?_
  refine r_iload_n dX12_outgoing_1 rfl 1 rfl ?_
  refine r_fnV (M2 := m_X12_existingProduct) (As := [.int (nI (p))]) (rest := []) (v := some (.ref (o + 12 + p))) dX12_outgoing_2 cc_X12_outgoing_96 rfl rfl rfl (Nat.le_of_ble_eq_true rfl) hxt rfl rfl (by decide) (f_prod hxt hxo h hr hal (by omega)) rfl ?_
  refine r_astore_n (lv' := [(2, .ref (o + 12 + p)), (0, .ref (x)), (1, .int (nI (p)))]) dX12_outgoing_5 rfl (by decide) rfl ?_
  refine r_aload_n dX12_outgoing_6 rfl 1 rfl ?_
  refine r_getR (ci := 13) (k := 0) (b := o) dX12_outgoing_7 fr_X12_10 hxt rfl hxo ?_
  refine r_iload_n dX12_outgoing_10 rfl 2 rfl ?_
  refine r_fnV (M2 := m_X7_shippedOf) (As := [.int (nI (p))]) (rest := []) (v := some (.int (nI (sumN (shpN g p) (g 0))))) dX12_outgoing_11 cc_X12_outgoing_243 rfl rfl rfl (Nat.le_of_ble_eq_true rfl) hx.1.1.1 rfl rfl (by decide) (o_shippedOf hx.1 hr hal hp) rfl ?_
  refine r_istore_n (lv' := [(3, .int (nI (sumN (shpN g p) (g 0)))), (2, .ref (o + 12 + p)), (0, .ref (x)), (1, .int (nI (p)))]) dX12_outgoing_14 rfl (by decide) rfl ?_
  refine r_iload_n dX12_outgoing_15 rfl 0 rfl ?_
  refine r_if_neN (tgt := 27) dX12_outgoing_16 (by decide) (by omega) (fun h16 => ?_) (fun h16 => ?_)
  · refine r_aload_n dX12_outgoing_27 rfl 2 rfl ?_
    refine r_getR (ci := 13) (k := 0) (b := o) dX12_outgoing_28 fr_X12_10 hxt rfl hxo ?_
    refine r_iload_n dX12_outgoing_31 rfl 3 rfl ?_
    refine r_aload_n dX12_outgoing_32 rfl 1 rfl ?_
    refine r_getI (ci := 10) (k := 1) dX12_outgoing_33 fr_X12_193 (hx.1.1.2.2.2.2.2.2.2.2 p (by omega)).2 rfl ?_
    refine Wx.top (hx.1.p1 (i := p) (by omega)) ?_
    refine Wx.topN ((hr.p (p := p) (by omega)).cf (f := 1) (by decide)) ?_
    refine r_fnV (M2 := m_X7_badShippedOf) (As := [.int (nI (p)), .int (nI (g (22 + 10 * p + 1)))]) (rest := []) (v := some (.int (nI (sumN (bdsN g p) (g 0))))) dX12_outgoing_36 cc_X12_outgoing_249 rfl rfl rfl (Nat.le_of_ble_eq_true rfl) hx.1.1.1 rfl rfl (by decide) (o_badShippedOf hx.1 hr hal hp hPb.2.1) rfl ?_
    refine r_istore (lv' := [(4, .int (nI (sumN (bdsN g p) (g 0)))), (3, .int (nI (sumN (shpN g p) (g 0)))), (2, .ref (o + 12 + p)), (0, .ref (x)), (1, .int (nI (p)))]) dX12_outgoing_39 (by decide) rfl ?_
    refine r_iload dX12_outgoing_41 0 rfl ?_
    refine r_i2f dX12_outgoing_43 ?_
    refine r_iload_n dX12_outgoing_44 rfl 1 rfl ?_
    refine r_i2f dX12_outgoing_45 ?_
    refine r_fdiv dX12_outgoing_46 hsh.1.nn ?_
    refine r_fnS (M2 := m_X1_ofFloat) (As := [.float (FP.fdiv (FP.i2f (nI (sumN (bdsN g p) (g 0)))) (FP.i2f (nI (sumN (shpN g p) (g 0)))))]) (rest := []) (v := some (.int ((FP.fdiv (FP.i2f (nI (sumN (bdsN g p) (g 0)))) (FP.i2f (nI (sumN (shpN g p) (g 0))))).toInt32))) dX12_outgoing_47 cc_X12_outgoing_252 rfl rfl rfl (Nat.le_of_ble_eq_true rfl) (k_ofFloat hsh.2.2 hsh.2.1) rfl ?_
    exact r_iret (ty := .int) dX12_outgoing_50 rfl rfl ⟨rfl, rfl⟩
  · exact absurd h16 h0
