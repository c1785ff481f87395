/-! A StringBuilder at b, its row of bytes at v: cap places, n in use, what they hold is y; since S0 nothing else changed -/
def okC (c : Nat) : Prop := c = 16 ∨ c = 34 ∨ c = 70 ∨ c = 142
def fX (c : Nat) : Nat := if c = 16 then 3 else if c = 34 then 2 else if c = 70 then 1 else 0
def fU (c : Nat) : Nat := if c = 16 then 246 else if c = 34 then 212 else if c = 70 then 142 else 0
def JB (S0 : Hp) (b v0 cap0 : Nat) (S : Hp) (v cap n : Nat) (y : Nat → Nat) : Prop :=
  (zT S b = 2 ∧ zP S 32 b = some v ∧ (zT S v = 104 ∧ zN S v = cap) ∧ zI S 33 b = nI 0 ∧ zI S 35 b = nI n) ∧ (okC cap ∧ n ≤ cap) ∧ ((zA S v = fun i => nI (y i)) ∧ ∀ i, y i < 128) ∧ (FS S0 ∧ FS S) ∧
  (∀ a, zT S0 a ≠ 0 → (zT S a = zT S0 a ∧ zN S a = zN S0 a) ∧ (a ≠ b → a ≠ v0 → Same S0 S a)) ∧ ((v = v0 ∨ zX S0 ≤ v) ∧ zX S0 ≤ zX S) ∧ zX S + fX cap = zX S0 + fX cap0 ∧ zU S + fU cap = zU S0 + fU cap0
theorem jFS_lt {S : Hp} {a : Nat} (h : FS S) (ha : zT S a ≠ 0) : a < zX S := Nat.not_le.mp fun q => ha (h a q)
section JbRules
variable {S0 S : Hp} {b v0 cap0 v cap n : Nat} {y : Nat → Nat}
theorem JB.start (h1 : zT S b = 2) (h2 : zP S 32 b = some v) (h3 : zT S v = 104) (h4 : zN S v = cap) (h5 : zI S 33 b = nI 0) (h6 : zI S 35 b = nI n) (h7 : okC cap) (h8 : n ≤ cap) (h9 : zA S v = fun i => nI (y i)) (hy : ∀ i, y i < 128) (hF : FS S) : JB S b v cap S v cap n y :=
  ⟨⟨h1, h2, ⟨h3, h4⟩, h5, h6⟩, ⟨h7, h8⟩, ⟨h9, hy⟩, ⟨hF, hF⟩, fun _ _ => ⟨⟨rfl, rfl⟩, fun _ _ => Same.rfl⟩, ⟨Or.inl rfl, Nat.le_refl _⟩, rfl, rfl⟩
theorem JB.tb (h : JB S0 b v0 cap0 S v cap n y) : zT S b = 2 := h.1.1
theorem JB.pv (h : JB S0 b v0 cap0 S v cap n y) : zP S 32 b = some v := h.1.2.1
theorem JB.tv (h : JB S0 b v0 cap0 S v cap n y) : zT S v = 104 := h.1.2.2.1.1
theorem JB.nv (h : JB S0 b v0 cap0 S v cap n y) : zN S v = cap := h.1.2.2.1.2
theorem JB.co (h : JB S0 b v0 cap0 S v cap n y) : zI S 33 b = nI 0 := h.1.2.2.2.1
theorem JB.cn (h : JB S0 b v0 cap0 S v cap n y) : zI S 35 b = nI n := h.1.2.2.2.2
theorem JB.ok (h : JB S0 b v0 cap0 S v cap n y) : okC cap := h.2.1.1
theorem JB.le (h : JB S0 b v0 cap0 S v cap n y) : n ≤ cap := h.2.1.2
theorem JB.c142 (h : JB S0 b v0 cap0 S v cap n y) : 16 ≤ cap ∧ cap ≤ 142 := by rcases h.ok with q | q | q | q <;> omega
theorem JB.yv (h : JB S0 b v0 cap0 S v cap n y) (i : Nat) : zA S v i = nI (y i) := congrFun h.2.2.1.1 i
theorem JB.lt (h : JB S0 b v0 cap0 S v cap n y) (i : Nat) : y i < 128 := h.2.2.1.2 i
theorem JB.vb (h : JB S0 b v0 cap0 S v cap n y) : v ≠ b := fun e => by have h1 := h.tb; rw [← e, h.tv] at h1; exact absurd h1 (by decide)
theorem JB.vn {a : Nat} (h : JB S0 b v0 cap0 S v cap n y) (ha : zT S0 a ≠ 0) (hv : a ≠ v0) : a ≠ v := fun e => by
  have := jFS_lt h.2.2.2.1.1 ha
  rcases h.2.2.2.2.2.1.1 with q | q
  · exact hv (e.trans q)
  · omega
theorem JB.cnt (h : JB S0 b v0 cap0 S v cap n y) {n' : Nat} (hn : n' ≤ cap) : JB S0 b v0 cap0 (uI S 35 b (nI n')) v cap n' y :=
  ⟨⟨h.tb, h.pv, h.1.2.2.1, (zI_un (Or.inl (by decide))).trans h.co, zI_us⟩, ⟨h.ok, hn⟩, h.2.2.1, h.2.2.2.1, fun a ha => ⟨(h.2.2.2.2.1 a ha).1, fun h1 h2 => ((h.2.2.2.2.1 a ha).2 h1 h2).trans (same_uI h1)⟩, h.2.2.2.2.2.1, h.2.2.2.2.2.2⟩
theorem JB.may (h : JB S0 b v0 cap0 S v cap n y) {z : Int32} : JB S0 b v0 cap0 (uI S 34 b z) v cap n y :=
  ⟨⟨h.tb, h.pv, h.1.2.2.1, (zI_un (Or.inl (by decide))).trans h.co, (zI_un (Or.inl (by decide))).trans h.cn⟩, h.2.1, h.2.2.1, h.2.2.2.1, fun a ha => ⟨(h.2.2.2.2.1 a ha).1, fun h1 h2 => ((h.2.2.2.2.1 a ha).2 h1 h2).trans (same_uI h1)⟩, h.2.2.2.2.2.1, h.2.2.2.2.2.2⟩
theorem JB.set (h : JB S0 b v0 cap0 S v cap n y) {i x : Nat} (hx : x < 128) : JB S0 b v0 cap0 (uA S v i (nI x)) v cap n (up1 y i x) :=
  ⟨h.1, h.2.1, ⟨funext fun j => by
    by_cases e : j = i
    · subst e; rw [zA_us, up1_s]
    · rw [zA_un (Or.inr e), up1_n e]; exact h.yv j, fun j => by
    by_cases e : j = i
    · rw [e, up1_s]; exact hx
    · rw [up1_n e]; exact h.lt j⟩, h.2.2.2.1, fun a ha => ⟨(h.2.2.2.2.1 a ha).1, fun h1 h2 => ((h.2.2.2.2.1 a ha).2 h1 h2).trans (same_uA (h.vn ha h2))⟩, h.2.2.2.2.2.1, h.2.2.2.2.2.2⟩
theorem JB.row (h : JB S0 b v0 cap0 S v cap n y) {f : Nat → Int32} {y' : Nat → Nat} (hf : f = fun i => nI (y' i)) (hy : ∀ i, y' i < 128) : JB S0 b v0 cap0 (uR S v f) v cap n y' :=
  ⟨h.1, h.2.1, ⟨(up1_s).trans hf, hy⟩, h.2.2.2.1, fun a ha => ⟨(h.2.2.2.2.1 a ha).1, fun h1 h2 => ((h.2.2.2.2.1 a ha).2 h1 h2).trans (same_uR (h.vn ha h2))⟩, h.2.2.2.2.2.1, h.2.2.2.2.2.2⟩
/-- a greater row instead -/
theorem JB.grow (h : JB S0 b v0 cap0 S v cap n y) (hc : cap < 142) {f : Nat → Int32} {y' : Nat → Nat} (hf : f = fun i => nI (y' i)) (hy : ∀ i, y' i < 128) : JB S0 b v0 cap0 (uP (uR (nA S 104 (2 * cap + 2)) (zX S) f) 32 b (some (zX S))) (zX S) (2 * cap + 2) n y' := by
  have hb : b < zX S := jFS_lt h.2.2.2.1.2 (by rw [h.tb]; decide)
  have hX := h.2.2.2.2.2.1.2
  refine ⟨⟨(up1_n (by omega)).trans h.tb, if_pos ⟨rfl, rfl⟩, ⟨up1_s, up1_s⟩, h.co, h.cn⟩, ⟨?_, by have := h.le; omega⟩, ⟨(up1_s).trans hf, hy⟩, ⟨h.2.2.2.1.1, fun a ha => ?_⟩, fun a ha => ⟨⟨?_, ?_⟩, fun h1 h2 => ?_⟩, ⟨Or.inr hX, Nat.le_succ_of_le hX⟩, ?_, ?_⟩
  · rcases h.ok with q | q | q | q <;> subst q <;> first | (exact Or.inr (Or.inl rfl)) | (exact Or.inr (Or.inr (Or.inl rfl))) | (exact Or.inr (Or.inr (Or.inr rfl))) | omega
  · have ha2 : zX S + 1 ≤ a := ha
    exact (up1_n (by omega)).trans (h.2.2.2.1.2 a (by omega))
  · have := jFS_lt h.2.2.2.1.1 ha
    exact (up1_n (by omega)).trans (h.2.2.2.2.1 a ha).1.1
  · have := jFS_lt h.2.2.2.1.1 ha
    exact (up1_n (by omega)).trans (h.2.2.2.2.1 a ha).1.2
  · have := jFS_lt h.2.2.2.1.1 ha
    have hne : a ≠ zX S := by omega
    exact ((h.2.2.2.2.1 a ha).2 h1 h2).trans ⟨fun _ => rfl, fun _ => if_neg (by omega), (up1_n hne).trans (up1_n hne), up1_n hne, up1_n hne, up1_n hne⟩
  · have e : zX (uP (uR (nA S 104 (2 * cap + 2)) (zX S) f) 32 b (some (zX S))) = zX S + 1 := rfl
    have h2 := h.2.2.2.2.2.2.1
    rw [e, ← h2]
    rcases h.ok with q | q | q | q <;> subst q <;> first | rfl | omega | (unfold fX; omega)
  · have e : zU (uP (uR (nA S 104 (2 * cap + 2)) (zX S) f) 32 b (some (zX S))) = zU S + (2 * cap + 2) := rfl
    have h2 := h.2.2.2.2.2.2.2
    rw [e, ← h2]
    rcases h.ok with q | q | q | q <;> subst q <;> first | rfl | omega | (unfold fU; omega)
end JbRules
/-- len more bytes s are there -/
def AP (S0 : Hp) (b v0 cap0 n : Nat) (y : Nat → Nat) (len : Nat) (s : Nat → Nat) (T : Hp) : Prop := ∃ v cap y', JB S0 b v0 cap0 T v cap (n + len) y' ∧ (∀ i, i < n → y' i = y i) ∧ ∀ i, i < len → y' (n + i) = s i
theorem sub_neg : ∀ c, c < 143 → ∀ m, m < c + 1 → nI m - nI c ≤ 0 := by decide +kernel
theorem ng_le : ∀ i, i < 1000 → (-(nI i) ≤ (-10) ↔ 10 ≤ i) ∧ (-(nI i) ≤ (-100) ↔ 100 ≤ i) ∧ ((-100) < -(nI i) ↔ i < 100) ∧ ((-9) ≤ -(nI i) ↔ i < 10) ∧ ¬ -(nI i) ≤ (-1000) ∧ -(-(nI i)) = nI i := by decide +kernel
theorem ng_q : ∀ i, i < 1000 → (-(nI i)) / (nI 100) = -(nI (i / 100)) ∧ -(nI (i / 100)) * (nI 100) - -(nI i) = nI (i % 100) := by decide +kernel
theorem dec_n {e : Nat} (h : 0 < e) : nI e + Int32.ofInt (-1) = nI (e - 1) := by
  have h2 : nI e - nI 1 = nI (e - 1) := pk_sub h
  rw [← h2, Int32.sub_eq_add_neg]
  exact congrArg (nI e + ·) (by decide)
def szN (i : Nat) : Nat := if i < 10 then 1 else if i < 100 then 2 else 3
def dgt (i k : Nat) : Nat := if i < 10 then 48 + i else if i < 100 then (if k = 0 then 48 + i / 10 else 48 + i % 10) else if k = 0 then 48 + i / 100 % 10 else if k = 1 then 48 + i % 100 / 10 else 48 + i % 100 % 10
theorem by_n {x : Nat} (h : x < 128) : vp_nar .byte (nI x) = nI x := (by decide +kernel : ∀ x, x < 128 → vp_nar .byte (nI x) = nI x) x h
theorem i2b_n {x : Nat} (h : x < 128) : (nI x).toInt8.toInt32 = nI x := (by decide +kernel : ∀ x, x < 128 → (nI x).toInt8.toInt32 = nI x) x h
theorem fit_n {x : Nat} (h : x < 128) : fits .byte (.int (nI x)) = true := (by decide +kernel : ∀ x, x < 128 → fits .byte (.int (nI x)) = true) x h
theorem r_getsQ {M : MI} {G : GI} {S : Hp} {pc : Nat} {lv : List (Nat × Value)} {st : List Value} {Q : OV → Hp → Prop} {C n d : String} {idx : Nat} (hZ : ∀ U, KF G U → va_Zq C n d (gA G) U (gH G)) (hd : decode (mB M) pc = .ok (.getstatic idx, 3)) (hw : Cond.fieldLink (mY M).cls idx C n d ∈ BIG) (kk : ∀ v, Wx M G S (pc + 3) lv (va_rf v :: st) Q) : Wx M G S pc lv st Q := by
  intro p e R s m args below meth c C0 H locs cells slots ls hW hc hs hl hlv
  obtain ⟨hx, hb, hml, hr, hown, hts, hlk, hin0, hK, hbase, hfr, hlo, htb⟩ := id C0
  rcases hZ s hK.2.1 with h | ⟨t, h⟩
  · exact va_gets hx hb (h.kept (base_kept hbase)) (base_S hW hc hbase hl) hown (hts _ hw) (fun _ h => h) hd (kk none p e R s m args below meth c C0 H locs cells slots ls hW hc hs hl hlv)
  · exact va_gets hx hb (h.kept (base_kept hbase)) (base_S hW hc hbase hl) hown (hts _ hw) (fun _ h => h) hd (kk (some t) p e R s m args below meth c C0 H locs cells slots ls hW hc hs hl hlv)
set_option maxRecDepth 4000 in
set_option maxHeartbeats 400000 in
theorem j_latin {G : GI} {S0 S : Hp} {b v0 cap0 v cap n : Nat} {y : Nat → Nat} (h : JB S0 b v0 cap0 S v cap n y) : Fn m_J5_isLatin1_aae02 G [.ref (b)] S (some (.int (nI (1)))) S := by
  refine Cn.of rfl (by decide) (Nat.le_of_ble_eq_true rfl) (fun hN hM => ?_)
  show Wx _ G _ 0 [(0, .ref (b))] [] _
  refine r_gets (C := "java/lang/String") (n := "COMPACT_STRINGS") (d := "Z") (v := .int 1) (fun U h => h.2.2.2.2.1) dJ5_isLatin1_aae02_0 (sg1 207 rfl rfl) ?_
  refine Wx.top (y := nI 1) (by decide) ?_
  refine r_if_eqN (tgt := 17) dJ5_isLatin1_aae02_3 (by decide) (by omega) (fun zz3 => ?_) (fun zz3 => ?_)
  · exact absurd zz3 (by decide)
  · refine r_aload_n dJ5_isLatin1_aae02_6 rfl 0 rfl ?_
    refine r_getI (ci := 1) (k := 1) dJ5_isLatin1_aae02_7 fr_J5_22 h.tb rfl ?_
    refine Wx.top h.co ?_
    refine r_if_neN (tgt := 17) dJ5_isLatin1_aae02_10 (by decide) (by omega) (fun zz10 => ?_) (fun zz10 => ?_)
    · exact absurd zz10 (by decide)
    · refine r_iconst (v := nI 1) dJ5_isLatin1_aae02_13 (by decide) ?_
      refine r_goto (tgt := 18) dJ5_isLatin1_aae02_14 (by decide) ?_
      exact r_iret (ty := .boolean) dJ5_isLatin1_aae02_18 rfl (by decide) ⟨rfl, rfl⟩
set_option maxRecDepth 4000 in
set_option maxHeartbeats 400000 in
theorem j_len5 {G : GI} {S0 S : Hp} {b v0 cap0 v cap n : Nat} {y : Nat → Nat} (h : JB S0 b v0 cap0 S v cap n y) : Fn m_J5_length_8abf5 G [.ref (b)] S (some (.int (nI (n)))) S := by
  refine Cn.of rfl (by decide) (Nat.le_of_ble_eq_true rfl) (fun hN hM => ?_)
  show Wx _ G _ 0 [(0, .ref (b))] [] _
  refine r_aload_n dJ5_length_8abf5_0 rfl 0 rfl ?_
  refine r_getI (ci := 1) (k := 3) dJ5_length_8abf5_1 fr_J5_79 h.tb rfl ?_
  refine Wx.top h.cn ?_
  exact r_iret (ty := .int) dJ5_length_8abf5_4 rfl rfl ⟨rfl, rfl⟩
set_option maxRecDepth 4000 in
set_option maxHeartbeats 400000 in
theorem j_len {G : GI} {S0 S : Hp} {b v0 cap0 v cap n : Nat} {y : Nat → Nat} (h : JB S0 b v0 cap0 S v cap n y) : Fn m_J4_length_8abf5 G [.ref (b)] S (some (.int (nI (n)))) S := by
  refine Cn.of rfl (by decide) (Nat.le_of_ble_eq_true rfl) (fun hN hM => ?_)
  show Wx _ G _ 0 [(0, .ref (b))] [] _
  refine r_aload_n dJ4_length_8abf5_0 rfl 0 rfl ?_
  refine r_fnSU (M2 := m_J5_length_8abf5) (As := []) (rest := []) (v := some (.int (nI (n)))) dJ4_length_8abf5_1 cu_J4_length_8abf5_343 rfl rfl rfl (Nat.le_of_ble_eq_true rfl) h.tb rfl (by decide) (j_len5 h) rfl ?_
  exact r_iret (ty := .int) dJ4_length_8abf5_4 rfl rfl ⟨rfl, rfl⟩
set_option maxRecDepth 4000 in
set_option maxHeartbeats 400000 in
theorem j_newLength {G : GI} {S : Hp} {o g p : Nat} (hgp : g ≤ p) (ho : 0 < o) (hop : o + p < 1000000) : Fn m_J8_newLength_cabcc G [.int (nI (o)), .int (nI (g)), .int (nI (p))] S (some (.int (nI (o + p)))) S := by
  refine Cn.of rfl (by decide) (Nat.le_of_ble_eq_true rfl) (fun hN hM => ?_)
  show Wx _ G _ 0 [(0, .int (nI (o))), (1, .int (nI (g))), (2, .int (nI (p)))] [] _
  refine r_iload_n dJ8_newLength_cabcc_0 rfl 0 rfl ?_
  refine r_iload_n dJ8_newLength_cabcc_1 rfl 1 rfl ?_
  refine r_iload_n dJ8_newLength_cabcc_2 rfl 2 rfl ?_
  refine r_fnS (M2 := m_J9_max_7cf53) (As := [.int (nI (g)), .int (nI (p))]) (rest := [.int (nI (o))]) (v := some (.int (nI (p)))) dJ8_newLength_cabcc_3 cc_J8_newLength_cabcc_194 rfl rfl rfl (Nat.le_of_ble_eq_true rfl) (by have q9 := j_max (G := G) (S := S) (x := g) (y := p) (by omega) (by omega); rw [show Nat.max g p = p from Nat.max_eq_right hgp] at q9; exact q9) rfl ?_
  refine r_iaddN dJ8_newLength_cabcc_6 ?_
  refine r_istore_n (lv' := [(3, .int (nI (o + p))), (0, .int (nI (o))), (1, .int (nI (g))), (2, .int (nI (p)))]) dJ8_newLength_cabcc_7 rfl (by decide) rfl ?_
  refine r_iconst (v := nI 0) dJ8_newLength_cabcc_8 (by decide) ?_
  refine r_iload_n dJ8_newLength_cabcc_9 rfl 0 rfl ?_
  refine r_icmp_geN (tgt := 21) dJ8_newLength_cabcc_10 (by decide) (by omega) (by omega) (fun h10 => ?_) (fun h10 => ?_)
  · exact absurd h10 (by omega)
  · refine r_iload_n dJ8_newLength_cabcc_13 rfl 0 rfl ?_
    refine r_ldc (v := 2147483639) (sg6 143 rfl rfl) dJ8_newLength_cabcc_14 ?_
    refine Wx.top (y := nI 2147483639) (by decide) ?_
    refine r_icmp_gtN (tgt := 21) dJ8_newLength_cabcc_16 (by decide) (by omega) (by omega) (fun h16 => ?_) (fun h16 => ?_)
    · exact absurd h16 (by omega)
    · refine r_iload_n dJ8_newLength_cabcc_19 rfl 0 rfl ?_
      exact r_iret (ty := .int) dJ8_newLength_cabcc_20 rfl rfl ⟨rfl, rfl⟩
set_option maxRecDepth 4000 in
set_option maxHeartbeats 400000 in
theorem j_newCap {G : GI} {S0 S : Hp} {b v0 cap0 v cap n : Nat} {y : Nat → Nat} (h : JB S0 b v0 cap0 S v cap n y) {m : Nat} (h1 : cap < m) (h2 : m ≤ cap + 14) : Fn m_J5_newCapacity_0f7a4 G [.ref (b), .int (nI (m))] S (some (.int (nI (2 * cap + 2)))) S := by
  refine Cn.of rfl (by decide) (Nat.le_of_ble_eq_true rfl) (fun hN hM => ?_)
  show Wx _ G _ 0 [(0, .ref (b)), (1, .int (nI (m)))] [] _
  have hc := h.c142
  have hle := h.le
  refine r_aload_n dJ5_newCapacity_0f7a4_0 rfl 0 rfl ?_
  refine r_getR (ci := 1) (k := 0) (b := v) dJ5_newCapacity_0f7a4_1 fr_J5_15 h.tb rfl h.pv ?_
  refine r_alen104 dJ5_newCapacity_0f7a4_4 h.tv ?_
  refine Wx.top (congrArg nI h.nv) ?_
  refine r_istore_n (lv' := [(2, .int (nI (cap))), (0, .ref (b)), (1, .int (nI (m)))]) dJ5_newCapacity_0f7a4_5 rfl (by decide) rfl ?_
  refine r_iload_n dJ5_newCapacity_0f7a4_6 rfl 2 rfl ?_
  refine r_aload_n dJ5_newCapacity_0f7a4_7 rfl 1 rfl ?_
  refine r_getI (ci := 1) (k := 1) dJ5_newCapacity_0f7a4_8 fr_J5_22 h.tb rfl ?_
  refine Wx.top h.co ?_
  refine r_ishlN dJ5_newCapacity_0f7a4_11 (by omega) (by omega) ?_
  refine r_istore_n (lv' := [(3, .int (nI (m * 2 ^ 0))), (2, .int (nI (cap))), (0, .ref (b)), (1, .int (nI (m)))]) dJ5_newCapacity_0f7a4_12 rfl (by decide) rfl ?_
  refine r_iload_n dJ5_newCapacity_0f7a4_13 rfl 0 rfl ?_
  refine r_iload_n dJ5_newCapacity_0f7a4_14 rfl 1 rfl ?_
  refine r_isubN dJ5_newCapacity_0f7a4_15 (by omega) ?_
  refine r_istore (lv' := [(4, .int (nI ((m * 2 ^ 0) - cap))), (3, .int (nI (m * 2 ^ 0))), (2, .int (nI (cap))), (0, .ref (b)), (1, .int (nI (m)))]) dJ5_newCapacity_0f7a4_16 (by decide) rfl ?_
  refine r_iload_n dJ5_newCapacity_0f7a4_18 rfl 2 rfl ?_
  refine r_iload dJ5_newCapacity_0f7a4_19 0 rfl ?_
  refine r_iload_n dJ5_newCapacity_0f7a4_21 rfl 2 rfl ?_
  refine r_iconst (v := nI 2) dJ5_newCapacity_0f7a4_22 (by decide) ?_
  refine r_aload_n dJ5_newCapacity_0f7a4_23 rfl 3 rfl ?_
  refine r_getI (ci := 1) (k := 1) dJ5_newCapacity_0f7a4_24 fr_J5_22 h.tb rfl ?_
  refine Wx.top h.co ?_
  refine r_ishlN dJ5_newCapacity_0f7a4_27 (by omega) (by omega) ?_
  refine r_iaddN dJ5_newCapacity_0f7a4_28 ?_
  refine r_fnS (M2 := m_J8_newLength_cabcc) (As := [.int (nI (cap)), .int (nI ((m * 2 ^ 0) - cap)), .int (nI (cap + (2 * 2 ^ 0)))]) (rest := []) (v := some (.int (nI (cap + (cap + (2 * 2 ^ 0)))))) dJ5_newCapacity_0f7a4_29 cc_J5_newCapacity_0f7a4_114 rfl rfl rfl (Nat.le_of_ble_eq_true rfl) (j_newLength (o := cap) (g := (m * 2 ^ 0) - cap) (p := cap + (2 * 2 ^ 0)) (by omega) (by omega) (by omega)) rfl ?_
  refine r_istore (lv' := [(5, .int (nI (cap + (cap + (2 * 2 ^ 0))))), (4, .int (nI ((m * 2 ^ 0) - cap))), (3, .int (nI (m * 2 ^ 0))), (2, .int (nI (cap))), (0, .ref (b)), (1, .int (nI (m)))]) dJ5_newCapacity_0f7a4_32 (by decide) rfl ?_
  refine r_iload dJ5_newCapacity_0f7a4_34 0 rfl ?_
  refine r_ldc (v := 2147483647) (sg6 147 rfl rfl) dJ5_newCapacity_0f7a4_36 ?_
  refine Wx.top (y := nI 2147483647) (by decide) ?_
  refine r_icmp_neN (tgt := 51) dJ5_newCapacity_0f7a4_38 (by decide) (by omega) (by omega) (fun h38 => ?_) (fun h38 => ?_)
  · refine r_iload dJ5_newCapacity_0f7a4_51 0 rfl ?_
    refine r_aload_n dJ5_newCapacity_0f7a4_53 rfl 4 rfl ?_
    refine r_getI (ci := 1) (k := 1) dJ5_newCapacity_0f7a4_54 fr_J5_22 h.tb rfl ?_
    refine Wx.top h.co ?_
    refine r_ishrN dJ5_newCapacity_0f7a4_57 (by omega) (by omega) ?_
    exact r_iret (ty := .int) dJ5_newCapacity_0f7a4_58 rfl rfl ⟨congrArg (fun z => Sum.inl (some (Value.int (nI z)))) (show (cap + (cap + (2 * 2 ^ 0))) / 2 ^ 0 = 2 * cap + 2 by omega), rfl⟩
  · exact absurd h38 (by omega)
set_option maxRecDepth 4000 in
set_option maxHeartbeats 400000 in
theorem j_copyOf {G : GI} {S0 S : Hp} {b v0 cap0 v cap n : Nat} {y : Nat → Nat} (h : JB S0 b v0 cap0 S v cap n y) {m : Nat} (h1 : cap < m) (h2 : m ≤ 142) (g1 : zX S + 1 ≤ gN G) (g2 : zU S + m ≤ gM G) : Fn m_J7_copyOf_9075b G [.ref (v), .int (nI (m))] S (some (.ref (zX S))) (uR (nA S 104 m) (zX S) (fun i => nI (if i < cap then y i else 0))) := by
  refine Cn.of rfl (by decide) (Nat.le_of_ble_eq_true rfl) (fun hN hM => ?_)
  show Wx _ G _ 0 [(0, .ref (v)), (1, .int (nI (m)))] [] _
  have hc := h.c142
  have hle := h.le
  refine r_iload_n dJ7_copyOf_9075b_0 rfl 1 rfl ?_
  refine r_aload_n dJ7_copyOf_9075b_1 rfl 0 rfl ?_
  refine r_alen104 dJ7_copyOf_9075b_2 h.tv ?_
  refine Wx.top (congrArg nI h.nv) ?_
  refine r_icmp_neN (tgt := 14) dJ7_copyOf_9075b_3 (by decide) (by omega) (by omega) (fun h3 => ?_) (fun h3 => ?_)
  · refine r_iload_n dJ7_copyOf_9075b_14 rfl 1 rfl ?_
    refine r_new_byte (N := m) dJ7_copyOf_9075b_15 (sg1 230 rfl rfl) (nI_nn (by omega)) (nI_clamp (by omega)) (by omega) (by omega) (by omega) ?_
    have hvx : v ≠ zX S := by have := jFS_lt h.2.2.2.1.2 (show zT S v ≠ 0 by rw [h.tv]; decide); omega
    refine r_astore_n (lv' := [(2, .ref (zX S)), (0, .ref (v)), (1, .int (nI (m)))]) dJ7_copyOf_9075b_17 rfl (by decide) rfl ?_
    refine r_aload_n dJ7_copyOf_9075b_18 rfl 1 rfl ?_
    refine r_iconst (v := nI 0) dJ7_copyOf_9075b_19 (by decide) ?_
    refine r_aload_n dJ7_copyOf_9075b_20 rfl 0 rfl ?_
    refine r_iconst (v := nI 0) dJ7_copyOf_9075b_21 (by decide) ?_
    refine r_aload_n dJ7_copyOf_9075b_22 rfl 1 rfl ?_
    refine r_alen104 dJ7_copyOf_9075b_23 (show zT (nA S 104 m) v = 104 from (up1_n hvx).trans h.tv) ?_
    refine Wx.top (congrArg nI (show zN (nA S 104 m) v = cap from (up1_n hvx).trans h.nv)) ?_
    refine r_iload_n dJ7_copyOf_9075b_24 rfl 2 rfl ?_
    refine r_fnS (M2 := m_J9_min_7cf53) (As := [.int (nI (cap)), .int (nI (m))]) (rest := [.int (nI (0)), .ref (zX S), .int (nI (0)), .ref (v)]) (v := some (.int (nI (cap)))) dJ7_copyOf_9075b_25 cc_J7_copyOf_9075b_304 rfl rfl rfl (Nat.le_of_ble_eq_true rfl) (by have q9 := j_min (G := G) (S := nA S 104 m) (x := cap) (y := m) (by omega) (by omega); rw [show Nat.min cap m = cap from Nat.min_eq_left (by omega)] at q9; exact q9) rfl ?_
    have c0 : (nI 0).toNatClampNeg = 0 := nI_clamp (by decide)
    have cc : (nI cap).toNatClampNeg = cap := nI_clamp (by omega)
    refine r_copy (t := 104) dJ7_copyOf_9075b_28 (sg6 159 rfl rfl) (sg2 210 rfl rfl) (sg2 209 rfl rfl) (sg1 21 rfl rfl) (Or.inr (Or.inl rfl)) ((up1_n hvx).trans h.tv) up1_s (by decide) (by decide) (nI_nn (by omega)) (by rw [c0, cc]; show _ ≤ up1 (zN S) (zX S) m v; rw [up1_n hvx, h.nv]; omega) (by rw [c0, cc]; show _ ≤ up1 (zN S) (zX S) m (zX S); rw [up1_s]; omega) (fun i hi => by show fits .byte (.int (up1 (zA S) (zX S) (fun _ => 0) v _)) = true; rw [up1_n hvx, h.yv]; exact fit_n (h.lt _)) (by decide) (Nat.le_of_ble_eq_true rfl) ?_
    refine r_aload_n dJ7_copyOf_9075b_31 rfl 0 rfl ?_
    refine Wx.st' (S' := uR (nA S 104 m) (zX S) (fun i => nI (if i < cap then y i else 0))) ?_ ?_
    · refine congrArg (uR (nA S 104 m) (zX S)) (funext fun i => ?_)
      rw [c0, cc]
      show (if 0 ≤ i ∧ i < 0 + cap then up1 (zA S) (zX S) (fun _ => 0) v (0 + (i - 0)) else up1 (zA S) (zX S) (fun _ => 0) (zX S) i) = _
      by_cases e : i < cap
      · rw [if_pos ⟨Nat.zero_le _, by omega⟩, if_pos e, up1_n hvx, h.yv, Nat.zero_add, Nat.sub_zero]
      · rw [if_neg (by omega), if_neg e, up1_s]; rfl
    · exact r_aret (v := some (zX S)) dJ7_copyOf_9075b_32 rfl (Or.inr ⟨_, rfl⟩) ⟨rfl, rfl⟩
  · exact absurd h3 (by omega)
