/-! DRAWING -/
theorem cnt_lt {p : Nat → Prop} {a b : Nat} (h : p a) (hab : a < b) : cnt p a < cnt p b := by
  have h1 : cnt p (a + 1) ≤ cnt p b := cnt_mono (by omega)
  rw [cnt_t h] at h1
  omega
theorem cnt_inj {p : Nat → Prop} {a b : Nat} (ha : p a) (hb : p b) (e : cnt p a = cnt p b) : a = b := by
  rcases Nat.lt_trichotomy a b with h | h | h
  · have := cnt_lt ha h; omega
  · exact h
  · have := cnt_lt hb h; omega
theorem cnt_ex {p : Nat → Prop} {k : Nat} : ∀ {n : Nat}, k < cnt p n → ∃ a, a < n ∧ p a ∧ cnt p a = k
  | 0, h => absurd h (Nat.not_lt_zero _)
  | n + 1, h => by
    by_cases c : p n
    · rw [cnt_t c] at h
      by_cases d : k < cnt p n
      · obtain ⟨a, h1, h2, h3⟩ := cnt_ex d
        exact ⟨a, by omega, h2, h3⟩
      · exact ⟨n, by omega, c, by omega⟩
    · rw [cnt_f c] at h
      obtain ⟨a, h1, h2, h3⟩ := cnt_ex h
      exact ⟨a, by omega, h2, h3⟩
theorem cnt_del {p : Nat → Prop} {a : Nat} (ha : p a) : ∀ m, cnt (fun v => p v ∧ ¬ v = a) m + (if a < m then 1 else 0) = cnt p m
  | 0 => rfl
  | m + 1 => by
    have ih := cnt_del ha m
    by_cases e : m = a
    · rw [cnt_f (p := fun v => p v ∧ ¬ v = a) (fun q => q.2 e), cnt_t (by rw [e]; exact ha), if_pos (by omega)]
      rw [if_neg (by omega)] at ih
      omega
    · have e2 : (if a < m + 1 then 1 else 0) = (if a < m then 1 else 0) := by
        by_cases c : a < m
        · rw [if_pos c, if_pos (by omega)]
        · rw [if_neg c, if_neg (by omega)]
      rw [e2]
      by_cases c : p m
      · rw [cnt_t (p := fun v => p v ∧ ¬ v = a) ⟨c, e⟩, cnt_t c]; omega
      · rw [cnt_f (p := fun v => p v ∧ ¬ v = a) (fun q => c q.1), cnt_f c]; exact ih
/-- the office's list of units: the j-th of those of which p holds -/
def LD (p : Nat → Prop) (c : Nat → Nat) (n z : Nat) : Prop := ∀ j, j < n → c (60000 + j) < z ∧ p (c (60000 + j)) ∧ cnt p (c (60000 + j)) = j
def dwC (c : Nat → Nat) (m i : Nat) : Nat → Nat := fun j => if j = 3 then sdN (c 3) else if 60000 + i ≤ j ∧ j < 60000 + (m - 1) then c (j + 1) else c j
theorem LD.draw {p : Nat → Prop} {c : Nat → Nat} {m z i : Nat} (hi : i < m) (h : LD p c m z) : LD (fun v => p v ∧ ¬ v = c (60000 + i)) (dwC c m i) (m - 1) z := by
  obtain ⟨x1, x2, x3⟩ := h i hi
  intro j hj
  have key : ∀ j', j' < m → j' ≠ i → j = (if j' < i then j' else j' - 1) → c (60000 + j') < z ∧ (p (c (60000 + j')) ∧ ¬ c (60000 + j') = c (60000 + i)) ∧ cnt (fun v => p v ∧ ¬ v = c (60000 + i)) (c (60000 + j')) = j := fun j' h1 h2 h3 => by
    obtain ⟨y1, y2, y3⟩ := h j' h1
    have hd := cnt_del x2 (c (60000 + j'))
    have hne : ¬ c (60000 + j') = c (60000 + i) := fun q => h2 (by rw [← y3, ← x3, q])
    refine ⟨y1, ⟨y2, hne⟩, ?_⟩
    by_cases c1 : c (60000 + i) < c (60000 + j')
    · have := cnt_lt x2 c1
      rw [if_pos c1] at hd
      rw [if_neg (by omega)] at h3
      omega
    · have : c (60000 + j') < c (60000 + i) := by omega
      have := cnt_lt y2 this
      rw [if_neg c1] at hd
      rw [if_pos (by omega)] at h3
      omega
  by_cases c1 : 60000 + i ≤ 60000 + j ∧ 60000 + j < 60000 + (m - 1)
  · have e : dwC c m i (60000 + j) = c (60000 + (j + 1)) := by
      unfold dwC
      rw [if_neg (by omega), if_pos c1]
      rfl
    rw [e]
    exact key (j + 1) (by omega) (by omega) (by rw [if_neg (by omega)]; omega)
  · have e : dwC c m i (60000 + j) = c (60000 + j) := by
      unfold dwC
      rw [if_neg (by omega), if_neg c1]
    rw [e]
    exact key j (by omega) (by omega) (by rw [if_pos (by omega)])
set_option maxRecDepth 4000 in
set_option maxHeartbeats 400000 in
theorem o_list {G : GI} {S : Hp} {w : Nat → Nat} {k o : Nat} {A c g : Nat → Nat} {N : Nat} (h : OR S w k o A c) (hr : Rel c g N) (hal : ∀ l, l < g 0 → A l ≠ 0) {l : Nat} (hl : l < g 0) : OEx m_X7_listDrawable G [.ref (o), .ref (A l)] S w k o A (some (.int (nI (inS g l 0)))) (fun c' => (∀ i, i < 60000 → c' i = c i) ∧ LD (fun v => sW (g (402 + 2 * (200 * l + v))) = 0) c' (inS g l 0) (g (90 + 13 * l + 1))) := by
  refine Cn.of rfl (by decide) (Nat.le_of_ble_eq_true rfl) (fun hN hM => ?_)
  show Wx _ G _ 0 [(0, .ref (o)), (1, .ref (A l))] [] _
  have hx := OX.refl h
  have h24 := hr.n24
  have hl24 : l < 24 := by omega
  have hAl := hal l hl
  have hL := hr.lot hl
  have hz := hL.z
  refine r_iconst (v := nI 0) dX7_listDrawable_0 (by decide) ?_
  refine r_istore_n (lv' := [(2, .int (nI (0))), (0, .ref (o)), (1, .ref (A l))]) dX7_listDrawable_1 rfl (by decide) rfl ?_
  refine r_iconst (v := nI 0) dX7_listDrawable_2 (by decide) ?_
  refine r_istore_n (lv' := [(3, .int (nI (0))), (2, .int (nI (0))), (0, .ref (o)), (1, .ref (A l))]) dX7_listDrawable_3 rfl (by decide) rfl ?_
  refine Wx.sub [2, 3, 1, 0] rfl ?_
  refine Wx.loopR (fun u T lv => ∃ c9, OX S w A T w k o A c9 ∧ ((∀ i, i < 60000 → c9 i = c i) ∧ LD (fun v => sW (g (402 + 2 * (200 * l + v))) = 0) c9 (cnt (fun v => sW (g (402 + 2 * (200 * l + v))) = 0) u) u) ∧ lv = [(0, .ref (o)), (1, .ref (A l)), (2, .int (nI (cnt (fun v => sW (g (402 + 2 * (200 * l + v))) = 0) u))), (3, .int (nI (u)))]) (g (90 + 13 * l + 1)) (0) (Nat.zero_le _) ⟨_, hx, ⟨fun _ _ => rfl, fun j hj => absurd hj (Nat.not_lt_zero j)⟩, rfl⟩ (fun u T lv hge hle hI9 next => ?_)
  obtain ⟨c9, hx, hP, rfl⟩ := hI9
  have hr1 : Rel c9 g N := Rel.dr hP.1 hr
  have hL1 := hr1.lot hl
  have hcu : cnt (fun v => sW (g (402 + 2 * (200 * l + v))) = 0) u ≤ u := cnt_le _ u
  refine r_iload_n dX7_listDrawable_4 rfl 3 rfl ?_
  refine r_aload_n dX7_listDrawable_5 rfl 1 rfl ?_
  refine r_getI (ci := 7) (k := 2) dX7_listDrawable_6 fr_X7_134 (hx.1.lo hl24 hAl).2.1 rfl ?_
  refine Wx.top (hx.1.l2 hl24 hAl) ?_
  refine Wx.topN (hL1.h (f := 1) (by decide)) ?_
  refine r_icmp_geN (tgt := 46) dX7_listDrawable_9 (by decide) (by (first | omega | (have := sW_lt (g (402 + 2 * (200 * l + u))); omega))) (by (first | omega | (have := sW_lt (g (402 + 2 * (200 * l + u))); omega))) (fun h9 => ?_) (fun h9 => ?_)
  · refine r_iload_n dX7_listDrawable_46 rfl 2 rfl ?_
    obtain rfl : u = g (90 + 13 * l + 1) := by omega
    exact r_iret (ty := .int) dX7_listDrawable_47 rfl rfl ⟨rfl, _, hx, hP⟩
  · refine r_iload_n dX7_listDrawable_12 rfl 2 rfl ?_
    refine r_aload_n dX7_listDrawable_13 rfl 0 rfl ?_
    refine r_getR (ci := 9) (k := 4) (b := o + 5) dX7_listDrawable_14 fr_X7_33 hx.1.1.1 rfl hx.1.1.2.1.2.2.2.2 ?_
    refine r_alen101 dX7_listDrawable_17 hx.1.1.2.2.2.2.2.2.1.1 ?_
    refine Wx.top (congrArg nI hx.1.1.2.2.2.2.2.2.1.2) ?_
    refine r_icmp_geN (tgt := 46) dX7_listDrawable_18 (by decide) (by (first | omega | (have := sW_lt (g (402 + 2 * (200 * l + u))); omega))) (by (first | omega | (have := sW_lt (g (402 + 2 * (200 * l + u))); omega))) (fun h18 => ?_) (fun h18 => ?_)
    · exact absurd h18 (by omega)
    · refine r_aload_n dX7_listDrawable_21 rfl 1 rfl ?_
      refine r_getR (ci := 7) (k := 11) (b := A l + 2) dX7_listDrawable_22 fr_X7_137 (hx.1.lo hl24 hAl).2.1 rfl (hx.1.lo hl24 hAl).2.2.1.2.1 ?_
      refine r_iload_n dX7_listDrawable_25 rfl 3 rfl ?_
      refine r_iald dX7_listDrawable_26 (hx.1.lo hl24 hAl).2.2.2.2.1.1 (by rw [show zN T (A l + 2) = 200 from (hx.1.lo hl24 hAl).2.2.2.2.1.2]; exact vp_in_nI (by (first | omega | (have := sW_lt (g (402 + 2 * (200 * l + u))); omega))) (by decide)) ?_
      refine Wx.top (congrArg (zA _ _) (nI_clamp (by (first | omega | (have := sW_lt (g (402 + 2 * (200 * l + u))); omega))))) ?_
      refine Wx.top (hx.1.u0 (u := u) hl24 hAl (by (first | omega | (have := sW_lt (g (402 + 2 * (200 * l + u))); omega)))) ?_
      refine Wx.topN (hL1.u0 (u := u) (by (first | omega | (have := sW_lt (g (402 + 2 * (200 * l + u))); omega)))) ?_
      refine r_if_neN (tgt := 40) dX7_listDrawable_27 (by decide) (by (first | omega | (have := sW_lt (g (402 + 2 * (200 * l + u))); omega))) (fun h27 => ?_) (fun h27 => ?_)
      · refine r_iincN (k := 1) (lv' := [(3, .int (nI (u + 1))), (0, .ref (o)), (1, .ref (A l)), (2, .int (nI (cnt (fun v => sW (g (402 + 2 * (200 * l + v))) = 0) u)))]) dX7_listDrawable_40 (by decide) 3 rfl (by decide) rfl ?_
        refine r_goto (tgt := 4) dX7_listDrawable_43 (by decide) ?_
        refine Wx.sub [1, 2, 3, 0] rfl ?_
        have hcn : cnt (fun v => sW (g (402 + 2 * (200 * l + v))) = 0) (u + 1) = cnt (fun v => sW (g (402 + 2 * (200 * l + v))) = 0) u := cnt_f (p := fun v => sW (g (402 + 2 * (200 * l + v))) = 0) h27
        refine Wx.loc (show _ = [(0, .ref (o)), (1, .ref (A l)), (2, .int (nI (cnt (fun v => sW (g (402 + 2 * (200 * l + v))) = 0) (u + 1)))), (3, .int (nI (u + 1)))] from by rw [hcn]; rfl) ?_
        exact next _ _ (by omega) ⟨_, hx, ⟨hP.1, fun j hj => by rw [hcn] at hj; obtain ⟨z1, z2, z3⟩ := hP.2 j hj; exact ⟨by omega, z2, z3⟩⟩, rfl⟩
      · refine r_aload_n dX7_listDrawable_30 rfl 0 rfl ?_
        refine r_getR (ci := 9) (k := 4) (b := o + 5) dX7_listDrawable_31 fr_X7_33 hx.1.1.1 rfl hx.1.1.2.1.2.2.2.2 ?_
        refine r_iload_n dX7_listDrawable_34 rfl 2 rfl ?_
        refine r_iload_n dX7_listDrawable_35 rfl 3 rfl ?_
        refine r_iast dX7_listDrawable_36 hx.1.1.2.2.2.2.2.2.1.1 (by rw [show zN T (o + 5) = 200 from hx.1.1.2.2.2.2.2.2.1.2]; exact vp_in_nI (by (first | omega | (have := sW_lt (g (402 + 2 * (200 * l + u))); omega))) (by decide)) ?_
        refine Wx.st' (S' := uA T (o + 5) (cnt (fun v => sW (g (402 + 2 * (200 * l + v))) = 0) u) (nI (u))) (by rw [nI_clamp (by (first | omega | (have := sW_lt (g (402 + 2 * (200 * l + u))); omega)))]) ?_
        refine Wx.gx ((hx.D (j := cnt (fun v => sW (g (402 + 2 * (200 * l + v))) = 0) u) (by (first | omega | (have := sW_lt (g (402 + 2 * (200 * l + u))); omega))))) (fun T_1 (hx_1 : OX S w A T_1 w k o A (up1 c9 (60000 + (cnt (fun v => sW (g (402 + 2 * (200 * l + v))) = 0) u)) (u))) => ?_)
        refine r_iincN (k := 1) (lv' := [(2, .int (nI (cnt (fun v => sW (g (402 + 2 * (200 * l + v))) = 0) u + 1))), (0, .ref (o)), (1, .ref (A l)), (3, .int (nI (u)))]) dX7_listDrawable_37 (by decide) 2 rfl (by decide) rfl ?_
        refine r_iincN (k := 1) (lv' := [(3, .int (nI (u + 1))), (2, .int (nI (cnt (fun v => sW (g (402 + 2 * (200 * l + v))) = 0) u + 1))), (0, .ref (o)), (1, .ref (A l))]) dX7_listDrawable_40 (by decide) 3 rfl (by decide) rfl ?_
        refine r_goto (tgt := 4) dX7_listDrawable_43 (by decide) ?_
        refine Wx.sub [2, 3, 1, 0] rfl ?_
        have hcn : cnt (fun v => sW (g (402 + 2 * (200 * l + v))) = 0) (u + 1) = cnt (fun v => sW (g (402 + 2 * (200 * l + v))) = 0) u + 1 := cnt_t (p := fun v => sW (g (402 + 2 * (200 * l + v))) = 0) h27
        refine Wx.loc (show _ = [(0, .ref (o)), (1, .ref (A l)), (2, .int (nI (cnt (fun v => sW (g (402 + 2 * (200 * l + v))) = 0) (u + 1)))), (3, .int (nI (u + 1)))] from by rw [hcn]; rfl) ?_
        exact next _ _ (by omega) ⟨_, hx_1, ⟨fun i hi => by rw [up1_n (by omega)]; exact hP.1 i hi, fun j hj => by
          by_cases q9 : j = cnt (fun v => sW (g (402 + 2 * (200 * l + v))) = 0) u
          · rw [q9, up1_s]; exact ⟨by omega, h27, rfl⟩
          · rw [hcn] at hj; rw [up1_n (by omega)]; obtain ⟨z1, z2, z3⟩ := hP.2 j (by omega); exact ⟨by omega, z2, z3⟩⟩, rfl⟩
theorem nI_nn {n : Nat} (h : n < 2 ^ 31) : ¬ nI n < 0 := by
  rw [← nI_0]
  exact nI_nlt (Nat.zero_le _) h
set_option maxRecDepth 4000 in
set_option maxHeartbeats 400000 in
theorem o_draw {G : GI} {S : Hp} {w : Nat → Nat} {k o : Nat} {A c : Nat → Nat} (h : OR S w k o A c) (h3 : c 3 < 2147483648) {m : Nat} (hm0 : 0 < m) (hm : m ≤ 200) : OFn m_X7_drawUnit G [.ref (o), .int (nI m)] S w k o A (some (.int (nI (c (60000 + (sdN (c 3) / 65536 % m)))))) (dwC c m (sdN (c 3) / 65536 % m)) := by
  refine Cn.of rfl (by decide) (Nat.le_of_ble_eq_true rfl) (fun hN hM => ?_)
  show Wx _ G _ 0 [(0, .ref (o)), (1, .int (nI (m)))] [] _
  have hx := OX.refl h
  have hsd : sdN (c 3) < 2147483648 := Nat.mod_lt _ (by decide)
  have hix : sdN (c 3) / 65536 % m < m := Nat.mod_lt _ hm0
  refine r_aload_n dX7_drawUnit_0 rfl 0 rfl ?_
  refine r_aload_n dX7_drawUnit_1 rfl 0 rfl ?_
  refine r_getI (ci := 9) (k := 8) dX7_drawUnit_2 fr_X7_36 hx.1.1.1 rfl ?_
  refine Wx.top hx.1.o3 ?_
  refine r_i2l dX7_drawUnit_5 ?_
  refine r_ldc2 (v := 1103515245) (sg4 109 rfl rfl) dX7_drawUnit_6 ?_
  refine r_lmul dX7_drawUnit_9 ?_
  refine r_ldc2 (v := 12345) (sg4 110 rfl rfl) dX7_drawUnit_10 ?_
  refine r_ladd dX7_drawUnit_13 ?_
  refine r_ldc2 (v := 2147483648) (sg4 111 rfl rfl) dX7_drawUnit_14 ?_
  refine r_lrem dX7_drawUnit_17 (by decide) ?_
  refine r_l2i dX7_drawUnit_18 ?_
  refine Wx.top (seed_n h3) ?_
  refine r_putI (ci := 9) (k := 8) dX7_drawUnit_19 fw_X7_drawUnit_36 hx.1.1.1 rfl rfl rfl ?_
  refine Wx.gx (hx.O3) (fun T (hx : OX S w A T w k o A (up1 c (3) (sdN (c 3)))) => ?_)
  refine r_iload_n dX7_drawUnit_22 rfl 1 rfl ?_
  refine r_iconst (v := nI 1) dX7_drawUnit_23 (by decide) ?_
  refine r_icmp_ltN (tgt := 36) dX7_drawUnit_24 (by decide) (by (first | omega | exact Nat.mod_lt _ hm0)) (by (first | omega | exact Nat.mod_lt _ hm0)) (fun h24 => ?_) (fun h24 => ?_)
  · exact absurd h24 (by omega)
  · refine r_iload_n dX7_drawUnit_27 rfl 1 rfl ?_
    refine r_aload_n dX7_drawUnit_28 rfl 0 rfl ?_
    refine r_getR (ci := 9) (k := 4) (b := o + 5) dX7_drawUnit_29 fr_X7_33 hx.1.1.1 rfl hx.1.1.2.1.2.2.2.2 ?_
    refine r_alen101 dX7_drawUnit_32 hx.1.1.2.2.2.2.2.2.1.1 ?_
    refine Wx.top (congrArg nI hx.1.1.2.2.2.2.2.2.1.2) ?_
    refine r_icmp_leN (tgt := 38) dX7_drawUnit_33 (by decide) (by (first | omega | exact Nat.mod_lt _ hm0)) (by (first | omega | exact Nat.mod_lt _ hm0)) (fun h33 => ?_) (fun h33 => ?_)
    · refine r_aload_n dX7_drawUnit_38 rfl 0 rfl ?_
      refine r_getI (ci := 9) (k := 8) dX7_drawUnit_39 fr_X7_36 hx.1.1.1 rfl ?_
      refine Wx.top hx.1.o3 ?_
      refine Wx.topN up1_s ?_
      refine r_ldc (v := 65536) (sg4 112 rfl rfl) dX7_drawUnit_42 ?_
      refine Wx.top (y := nI 65536) (by decide) ?_
      refine r_idivN dX7_drawUnit_44 (by (first | omega | exact Nat.mod_lt _ hm0)) (by (first | omega | exact Nat.mod_lt _ hm0)) (by (first | omega | exact Nat.mod_lt _ hm0)) ?_
      refine r_iload_n dX7_drawUnit_45 rfl 1 rfl ?_
      refine r_iremN dX7_drawUnit_46 (by (first | omega | exact Nat.mod_lt _ hm0)) (by (first | omega | exact Nat.mod_lt _ hm0)) (by (first | omega | exact Nat.mod_lt _ hm0)) ?_
      refine r_istore_n (lv' := [(2, .int (nI (((sdN (c 3)) / 65536) % m))), (0, .ref (o)), (1, .int (nI (m)))]) dX7_drawUnit_47 rfl (by decide) rfl ?_
      refine r_aload_n dX7_drawUnit_48 rfl 1 rfl ?_
      refine r_getR (ci := 9) (k := 4) (b := o + 5) dX7_drawUnit_49 fr_X7_33 hx.1.1.1 rfl hx.1.1.2.1.2.2.2.2 ?_
      refine r_iload_n dX7_drawUnit_52 rfl 0 rfl ?_
      refine r_iald dX7_drawUnit_53 hx.1.1.2.2.2.2.2.2.1.1 (by rw [show zN T (o + 5) = 200 from hx.1.1.2.2.2.2.2.2.1.2]; exact vp_in_nI (by (first | omega | exact Nat.mod_lt _ hm0)) (by decide)) ?_
      refine Wx.top (congrArg (zA _ _) (nI_clamp (by (first | omega | exact Nat.mod_lt _ hm0)))) ?_
      refine Wx.top (hx.1.d (j := ((sdN (c 3)) / 65536) % m) (by (first | omega | exact Nat.mod_lt _ hm0))) ?_
      refine Wx.topN (up1_n (by omega)) ?_
      refine r_istore_n (lv' := [(3, .int (nI (c (60000 + (((sdN (c 3)) / 65536) % m))))), (2, .int (nI (((sdN (c 3)) / 65536) % m))), (0, .ref (o)), (1, .int (nI (m)))]) dX7_drawUnit_54 rfl (by decide) rfl ?_
      refine r_aload_n dX7_drawUnit_55 rfl 2 rfl ?_
      refine r_getR (ci := 9) (k := 4) (b := o + 5) dX7_drawUnit_56 fr_X7_33 hx.1.1.1 rfl hx.1.1.2.1.2.2.2.2 ?_
      refine r_iload_n dX7_drawUnit_59 rfl 1 rfl ?_
      refine r_iconst (v := nI 1) dX7_drawUnit_60 (by decide) ?_
      refine r_iaddN dX7_drawUnit_61 ?_
      refine r_aload_n dX7_drawUnit_62 rfl 2 rfl ?_
      refine r_getR (ci := 9) (k := 4) (b := o + 5) dX7_drawUnit_63 fr_X7_33 hx.1.1.1 rfl hx.1.1.2.1.2.2.2.2 ?_
      refine r_iload_n dX7_drawUnit_66 rfl 1 rfl ?_
      refine r_iload_n dX7_drawUnit_67 rfl 3 rfl ?_
      refine r_iload_n dX7_drawUnit_68 rfl 1 rfl ?_
      refine r_isubN dX7_drawUnit_69 (by (first | omega | exact Nat.mod_lt _ hm0)) ?_
      refine r_iconst (v := nI 1) dX7_drawUnit_70 (by decide) ?_
      refine r_isubN dX7_drawUnit_71 (by (first | omega | exact Nat.mod_lt _ hm0)) ?_
      refine r_copy (t := 101) dX7_drawUnit_72 (sg2 211 rfl rfl) (sg2 210 rfl rfl) (sg2 209 rfl rfl) (sg1 21 rfl rfl) (Or.inl rfl) hx.1.1.2.2.2.2.2.2.1.1 hx.1.1.2.2.2.2.2.2.1.1 (nI_nn (by omega)) (nI_nn (by omega)) (nI_nn (by omega)) (by rw [nI_clamp (by omega), nI_clamp (by omega)]; show _ ≤ zN T (o + 5); rw [hx.1.1.2.2.2.2.2.2.1.2]; omega) (by rw [nI_clamp (by omega), nI_clamp (by omega)]; show _ ≤ zN T (o + 5); rw [hx.1.1.2.2.2.2.2.2.1.2]; omega) (fun _ _ => rfl) (by decide) (by decide) ?_
      rw [nI_clamp (by omega), nI_clamp (by omega), nI_clamp (by omega)]
      refine Wx.gx (OX.WD (c' := dwC c m (sdN (c 3) / 65536 % m)) hx (fun j hj => ?_) (fun z hz => ?_)) (fun T_1 (hx_1 : OX S w A T_1 w k o A (dwC c m (sdN (c 3) / 65536 % m))) => ?_)
      · unfold va_cpy dwC
        rw [if_neg (show ¬ 60000 + j = 3 by omega)]
        by_cases q9 : sdN (c 3) / 65536 % m ≤ j ∧ j < sdN (c 3) / 65536 % m + (m - (sdN (c 3) / 65536 % m) - 1)
        · rw [if_pos q9, if_pos (by omega), hx.1.d (by omega), up1_n (by omega), show sdN (c 3) / 65536 % m + 1 + (j - (sdN (c 3) / 65536 % m)) = j + 1 by omega]; rfl
        · rw [if_neg q9, if_neg (by omega), hx.1.d hj, up1_n (by omega)]
      · unfold dwC
        by_cases q8 : z = 3
        · rw [if_pos q8, q8, up1_s]
        · rw [if_neg q8, up1_n q8, if_neg (fun q9 => hz (z - 60000) (by omega) (by omega))]
      refine r_iload_n dX7_drawUnit_75 rfl 0 rfl ?_
      exact r_iret (ty := .int) dX7_drawUnit_76 rfl rfl ⟨rfl, hx_1⟩
    · exact absurd (show m ≤ 200 by omega) h33
