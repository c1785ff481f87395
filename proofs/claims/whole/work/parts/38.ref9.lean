theorem cnt_mono {p : Nat → Prop} {a : Nat} : ∀ {b : Nat}, a ≤ b → cnt p a ≤ cnt p b
  | 0, h => by
    obtain rfl : a = 0 := by omega
    exact Nat.le_refl _
  | b + 1, h => by
    by_cases e : a = b + 1
    · rw [e]; exact Nat.le_refl _
    · have ih := cnt_mono (p := p) (b := b) (by omega : a ≤ b)
      show cnt p a ≤ cnt p b + _
      omega
set_option maxRecDepth 4000 in
theorem g_drawable {G : GI} {T : Hp} {m : Nat} {V : RVal} {g : Nat → Nat} {od : Nat → UInt64} (hs : RS T m)  (hb : WB g) {l k e : Nat} (hl : l < 24) (he : e < 200) (h0e : sW (g (402 + 2 * (200 * l + e))) = 0) (hd : V 5 e = 0) (hk : cnt (fun v => sW (g (402 + 2 * (200 * l + v))) = 0 ∧ V 5 v = 0) e = k) : Fn m_X13_drawable G [.ref (m), .int (nI (l)), .int (nI (k))] (rput T m (sg V g) od) (some (.int (nI (e)))) (rput T m (sg V g) od) := by
  refine Cn.of rfl (by decide) (Nat.le_of_ble_eq_true rfl) (fun hN hM => ?_)
  show Wx _ G _ 0 [(0, .ref (m)), (1, .int (nI (l))), (2, .int (nI (k)))] [] _
  refine r_iload_n dX13_drawable_0 rfl 2 rfl ?_
  refine r_istore_n (lv' := [(3, .int (nI (k))), (0, .ref (m)), (1, .int (nI (l))), (2, .int (nI (k)))]) dX13_drawable_1 rfl (by decide) rfl ?_
  refine r_iconst (v := nI 0) dX13_drawable_2 (by decide) ?_
  refine r_istore (lv' := [(4, .int (nI (0))), (3, .int (nI (k))), (0, .ref (m)), (1, .int (nI (l))), (2, .int (nI (k)))]) dX13_drawable_3 (by decide) rfl ?_
  refine Wx.sub [2, 3, 4, 1, 0] rfl ?_
  refine Wx.loop (fun u => (rput T m (sg V g) od)) (fun u => [(0, .ref (m)), (1, .int (nI (l))), (2, .int (nI (k))), (3, .int (nI (k - cnt (fun v => sW (g (402 + 2 * (200 * l + v))) = 0 ∧ V 5 v = 0) u))), (4, .int (nI (u)))]) (e) (0) (Nat.zero_le _) (fun u hge hle next => ?_)
  show Wx _ G ((rput T m (sg V g) od)) 5 [(0, .ref (m)), (1, .int (nI (l))), (2, .int (nI (k))), (3, .int (nI (k - cnt (fun v => sW (g (402 + 2 * (200 * l + v))) = 0 ∧ V 5 v = 0) u))), (4, .int (nI (u)))] [] _
  refine r_aload_n dX13_drawable_5 rfl 0 rfl ?_
  refine r_iload_n dX13_drawable_6 rfl 1 rfl ?_
  refine r_iload dX13_drawable_7 4 rfl ?_
  refine r_fnV (M2 := m_X13_state) (As := [.int (nI (l)), .int (nI (u))]) (rest := []) (v := some (.int (nI (sW (g (402 + 2 * (200 * l + u))))))) dX13_drawable_9 cc_X13_drawable_93 rfl rfl rfl (Nat.le_of_ble_eq_true rfl) hs.1 rfl rfl (by decide) (g_state hs hb (by (first | omega | (have := sW_lt (g (402 + 2 * (200 * l + u))); omega) | (have := cnt_le (fun v => sW (g (402 + 2 * (200 * l + v))) = 0 ∧ V 5 v = 0) e; omega))) (by (first | omega | (have := sW_lt (g (402 + 2 * (200 * l + u))); omega) | (have := cnt_le (fun v => sW (g (402 + 2 * (200 * l + v))) = 0 ∧ V 5 v = 0) e; omega)))) rfl ?_
  refine r_if_neN (tgt := 29) dX13_drawable_12 (by decide) (by (first | omega | (have := sW_lt (g (402 + 2 * (200 * l + u))); omega) | (have := cnt_le (fun v => sW (g (402 + 2 * (200 * l + v))) = 0 ∧ V 5 v = 0) e; omega))) (fun h12 => ?_) (fun h12 => ?_)
  · refine r_iload_n dX13_drawable_29 rfl 3 rfl ?_
    refine r_aload_n dX13_drawable_30 rfl 0 rfl ?_
    refine r_iload_n dX13_drawable_31 rfl 1 rfl ?_
    refine r_iload dX13_drawable_32 4 rfl ?_
    refine r_fnV (M2 := m_X13_state) (As := [.int (nI (l)), .int (nI (u))]) (rest := [.int (nI (k - cnt (fun v => sW (g (402 + 2 * (200 * l + v))) = 0 ∧ V 5 v = 0) u))]) (v := some (.int (nI (sW (g (402 + 2 * (200 * l + u))))))) dX13_drawable_34 cc_X13_drawable_93 rfl rfl rfl (Nat.le_of_ble_eq_true rfl) hs.1 rfl rfl (by decide) (g_state hs hb (by (first | omega | (have := sW_lt (g (402 + 2 * (200 * l + u))); omega) | (have := cnt_le (fun v => sW (g (402 + 2 * (200 * l + v))) = 0 ∧ V 5 v = 0) e; omega))) (by (first | omega | (have := sW_lt (g (402 + 2 * (200 * l + u))); omega) | (have := cnt_le (fun v => sW (g (402 + 2 * (200 * l + v))) = 0 ∧ V 5 v = 0) e; omega)))) rfl ?_
    refine r_if_neN (tgt := 54) dX13_drawable_37 (by decide) (by (first | omega | (have := sW_lt (g (402 + 2 * (200 * l + u))); omega) | (have := cnt_le (fun v => sW (g (402 + 2 * (200 * l + v))) = 0 ∧ V 5 v = 0) e; omega))) (fun h37 => ?_) (fun h37 => ?_)
    · refine r_iconst (v := nI 0) dX13_drawable_54 (by decide) ?_
      refine r_isubN dX13_drawable_55 (by (first | omega | (have := sW_lt (g (402 + 2 * (200 * l + u))); omega) | (have := cnt_le (fun v => sW (g (402 + 2 * (200 * l + v))) = 0 ∧ V 5 v = 0) e; omega))) ?_
      refine r_istore_n (lv' := [(3, .int (nI ((k - cnt (fun v => sW (g (402 + 2 * (200 * l + v))) = 0 ∧ V 5 v = 0) u) - 0))), (0, .ref (m)), (1, .int (nI (l))), (2, .int (nI (k))), (4, .int (nI (u)))]) dX13_drawable_56 rfl (by decide) rfl ?_
      refine r_iincN (k := 1) (lv' := [(4, .int (nI (u + 1))), (3, .int (nI ((k - cnt (fun v => sW (g (402 + 2 * (200 * l + v))) = 0 ∧ V 5 v = 0) u) - 0))), (0, .ref (m)), (1, .int (nI (l))), (2, .int (nI (k)))]) dX13_drawable_57 (by decide) 4 rfl (by decide) rfl ?_
      refine r_goto (tgt := 5) dX13_drawable_60 (by decide) ?_
      refine Wx.sub [2, 3, 4, 1, 0] rfl ?_
      have n2 := next (by have : u ≠ e := fun q => h12 (by rw [q]; exact h0e); omega)
      rw [cnt_f (p := fun v => sW (g (402 + 2 * (200 * l + v))) = 0 ∧ V 5 v = 0) (fun q => h12 q.1)] at n2
      exact n2
    · exact absurd h37 h12
  · refine r_aload_n dX13_drawable_15 rfl 0 rfl ?_
    refine m_ref (k := 9) (j := 5) hs hs.2.1.2.2.2.2.1 dX13_drawable_16 fr_X13_23 rfl ?_
    refine r_iload dX13_drawable_19 4 rfl ?_
    refine o_zald (j := 5) (n := 200) (i := u) (by decide) hs rw5 dX13_drawable_21 (by (first | omega | (have := sW_lt (g (402 + 2 * (200 * l + u))); omega) | (have := cnt_le (fun v => sW (g (402 + 2 * (200 * l + v))) = 0 ∧ V 5 v = 0) e; omega))) (by decide) ?_
    refine r_if_ne (tgt := 29) dX13_drawable_22 (by decide) (fun h22 => ?_) (fun h22 => ?_)
    · refine r_iload_n dX13_drawable_29 rfl 3 rfl ?_
      refine r_aload_n dX13_drawable_30 rfl 0 rfl ?_
      refine r_iload_n dX13_drawable_31 rfl 1 rfl ?_
      refine r_iload dX13_drawable_32 4 rfl ?_
      refine r_fnV (M2 := m_X13_state) (As := [.int (nI (l)), .int (nI (u))]) (rest := [.int (nI (k - cnt (fun v => sW (g (402 + 2 * (200 * l + v))) = 0 ∧ V 5 v = 0) u))]) (v := some (.int (nI (sW (g (402 + 2 * (200 * l + u))))))) dX13_drawable_34 cc_X13_drawable_93 rfl rfl rfl (Nat.le_of_ble_eq_true rfl) hs.1 rfl rfl (by decide) (g_state hs hb (by (first | omega | (have := sW_lt (g (402 + 2 * (200 * l + u))); omega) | (have := cnt_le (fun v => sW (g (402 + 2 * (200 * l + v))) = 0 ∧ V 5 v = 0) e; omega))) (by (first | omega | (have := sW_lt (g (402 + 2 * (200 * l + u))); omega) | (have := cnt_le (fun v => sW (g (402 + 2 * (200 * l + v))) = 0 ∧ V 5 v = 0) e; omega)))) rfl ?_
      refine r_if_neN (tgt := 54) dX13_drawable_37 (by decide) (by (first | omega | (have := sW_lt (g (402 + 2 * (200 * l + u))); omega) | (have := cnt_le (fun v => sW (g (402 + 2 * (200 * l + v))) = 0 ∧ V 5 v = 0) e; omega))) (fun h37_1 => ?_) (fun h37_1 => ?_)
      · exact absurd h12 h37_1
      · refine r_aload_n dX13_drawable_40 rfl 0 rfl ?_
        refine m_ref (k := 9) (j := 5) hs hs.2.1.2.2.2.2.1 dX13_drawable_41 fr_X13_23 rfl ?_
        refine r_iload dX13_drawable_44 4 rfl ?_
        refine o_zald (j := 5) (n := 200) (i := u) (by decide) hs rw5 dX13_drawable_46 (by (first | omega | (have := sW_lt (g (402 + 2 * (200 * l + u))); omega) | (have := cnt_le (fun v => sW (g (402 + 2 * (200 * l + v))) = 0 ∧ V 5 v = 0) e; omega))) (by decide) ?_
        refine r_if_ne (tgt := 54) dX13_drawable_47 (by decide) (fun h47 => ?_) (fun h47 => ?_)
        · refine r_iconst (v := nI 0) dX13_drawable_54 (by decide) ?_
          refine r_isubN dX13_drawable_55 (by (first | omega | (have := sW_lt (g (402 + 2 * (200 * l + u))); omega) | (have := cnt_le (fun v => sW (g (402 + 2 * (200 * l + v))) = 0 ∧ V 5 v = 0) e; omega))) ?_
          refine r_istore_n (lv' := [(3, .int (nI ((k - cnt (fun v => sW (g (402 + 2 * (200 * l + v))) = 0 ∧ V 5 v = 0) u) - 0))), (0, .ref (m)), (1, .int (nI (l))), (2, .int (nI (k))), (4, .int (nI (u)))]) dX13_drawable_56 rfl (by decide) rfl ?_
          refine r_iincN (k := 1) (lv' := [(4, .int (nI (u + 1))), (3, .int (nI ((k - cnt (fun v => sW (g (402 + 2 * (200 * l + v))) = 0 ∧ V 5 v = 0) u) - 0))), (0, .ref (m)), (1, .int (nI (l))), (2, .int (nI (k)))]) dX13_drawable_57 (by decide) 4 rfl (by decide) rfl ?_
          refine r_goto (tgt := 5) dX13_drawable_60 (by decide) ?_
          refine Wx.sub [2, 3, 4, 1, 0] rfl ?_
          have n2 := next (by have : u ≠ e := fun q => h22 (by rw [q]; exact hd); omega)
          rw [cnt_f (p := fun v => sW (g (402 + 2 * (200 * l + v))) = 0 ∧ V 5 v = 0) (fun q => h22 q.2)] at n2
          exact n2
        · exact absurd h47 h22
    · refine r_iload_n dX13_drawable_25 rfl 3 rfl ?_
      refine r_if_leN (tgt := 63) dX13_drawable_26 (by decide) (by (first | omega | (have := sW_lt (g (402 + 2 * (200 * l + u))); omega) | (have := cnt_le (fun v => sW (g (402 + 2 * (200 * l + v))) = 0 ∧ V 5 v = 0) e; omega))) (fun h26 => ?_) (fun h26 => ?_)
      · refine r_iload dX13_drawable_63 4 rfl ?_
        obtain rfl : u = e := Nat.le_antisymm hle (Nat.le_of_not_lt fun hq => by
          have h1 := cnt_mono (p := fun v => sW (g (402 + 2 * (200 * l + v))) = 0 ∧ V 5 v = 0) (show u + 1 ≤ e by omega)
          rw [cnt_t (p := fun v => sW (g (402 + 2 * (200 * l + v))) = 0 ∧ V 5 v = 0) ⟨h12, h22⟩, hk] at h1
          have h2 := h26
          omega)
        exact r_iret (ty := .int) dX13_drawable_65 rfl rfl ⟨rfl, rfl⟩
      · refine r_iload_n dX13_drawable_29 rfl 3 rfl ?_
        refine r_aload_n dX13_drawable_30 rfl 0 rfl ?_
        refine r_iload_n dX13_drawable_31 rfl 1 rfl ?_
        refine r_iload dX13_drawable_32 4 rfl ?_
        refine r_fnV (M2 := m_X13_state) (As := [.int (nI (l)), .int (nI (u))]) (rest := [.int (nI (k - cnt (fun v => sW (g (402 + 2 * (200 * l + v))) = 0 ∧ V 5 v = 0) u))]) (v := some (.int (nI (sW (g (402 + 2 * (200 * l + u))))))) dX13_drawable_34 cc_X13_drawable_93 rfl rfl rfl (Nat.le_of_ble_eq_true rfl) hs.1 rfl rfl (by decide) (g_state hs hb (by (first | omega | (have := sW_lt (g (402 + 2 * (200 * l + u))); omega) | (have := cnt_le (fun v => sW (g (402 + 2 * (200 * l + v))) = 0 ∧ V 5 v = 0) e; omega))) (by (first | omega | (have := sW_lt (g (402 + 2 * (200 * l + u))); omega) | (have := cnt_le (fun v => sW (g (402 + 2 * (200 * l + v))) = 0 ∧ V 5 v = 0) e; omega)))) rfl ?_
        refine r_if_neN (tgt := 54) dX13_drawable_37 (by decide) (by (first | omega | (have := sW_lt (g (402 + 2 * (200 * l + u))); omega) | (have := cnt_le (fun v => sW (g (402 + 2 * (200 * l + v))) = 0 ∧ V 5 v = 0) e; omega))) (fun h37_2 => ?_) (fun h37_2 => ?_)
        · exact absurd h12 h37_2
        · refine r_aload_n dX13_drawable_40 rfl 0 rfl ?_
          refine m_ref (k := 9) (j := 5) hs hs.2.1.2.2.2.2.1 dX13_drawable_41 fr_X13_23 rfl ?_
          refine r_iload dX13_drawable_44 4 rfl ?_
          refine o_zald (j := 5) (n := 200) (i := u) (by decide) hs rw5 dX13_drawable_46 (by (first | omega | (have := sW_lt (g (402 + 2 * (200 * l + u))); omega) | (have := cnt_le (fun v => sW (g (402 + 2 * (200 * l + v))) = 0 ∧ V 5 v = 0) e; omega))) (by decide) ?_
          refine r_if_ne (tgt := 54) dX13_drawable_47 (by decide) (fun h47_1 => ?_) (fun h47_1 => ?_)
          · exact absurd h22 h47_1
          · refine r_iconst (v := nI 1) dX13_drawable_50 (by decide) ?_
            refine r_goto (tgt := 55) dX13_drawable_51 (by decide) ?_
            refine r_isubN dX13_drawable_55 (by (first | omega | (have := sW_lt (g (402 + 2 * (200 * l + u))); omega) | (have := cnt_le (fun v => sW (g (402 + 2 * (200 * l + v))) = 0 ∧ V 5 v = 0) e; omega))) ?_
            refine r_istore_n (lv' := [(3, .int (nI ((k - cnt (fun v => sW (g (402 + 2 * (200 * l + v))) = 0 ∧ V 5 v = 0) u) - 1))), (0, .ref (m)), (1, .int (nI (l))), (2, .int (nI (k))), (4, .int (nI (u)))]) dX13_drawable_56 rfl (by decide) rfl ?_
            refine r_iincN (k := 1) (lv' := [(4, .int (nI (u + 1))), (3, .int (nI ((k - cnt (fun v => sW (g (402 + 2 * (200 * l + v))) = 0 ∧ V 5 v = 0) u) - 1))), (0, .ref (m)), (1, .int (nI (l))), (2, .int (nI (k)))]) dX13_drawable_57 (by decide) 4 rfl (by decide) rfl ?_
            refine r_goto (tgt := 5) dX13_drawable_60 (by decide) ?_
            refine Wx.sub [2, 3, 4, 1, 0] rfl ?_
            have n2 := next (by have hne : u ≠ e := fun q => (by rw [q, hk] at h26; omega); omega)
            rw [cnt_t (p := fun v => sW (g (402 + 2 * (200 * l + v))) = 0 ∧ V 5 v = 0) ⟨h12, h22⟩, ← Nat.sub_sub] at n2
            exact n2
noncomputable def drV (V : RVal) (n : Nat) (e : Nat → Nat) (k : Nat) : RVal := fun j i => if j = 5 ∧ i < n then bI (∃ q, q < k ∧ i = e q) else V j i
theorem drV_0 {V : RVal} {e : Nat → Nat} {k : Nat} : drV V 0 e k = V := by
  funext j i; unfold drV; rw [if_neg (by omega)]
theorem drV_z {V : RVal} {e : Nat → Nat} {u : Nat} : up2 (drV V u e 0) 5 u (nI 0) = drV V (u + 1) e 0 := by
  funext j i
  unfold up2 drV
  by_cases h : j = 5 ∧ i = u
  · rw [if_pos h, if_pos (by omega), bI_f (by rintro ⟨q, hq, -⟩; omega)]
  · rw [if_neg h]
    by_cases h2 : j = 5 ∧ i < u
    · rw [if_pos h2, if_pos (by omega)]
    · rw [if_neg h2, if_neg (by omega)]
theorem drV_s {V : RVal} {e : Nat → Nat} {n k : Nat} (hk : e k < n) : up2 (drV V n e k) 5 (e k) (nI 1) = drV V n e (k + 1) := by
  funext j i
  unfold up2 drV
  by_cases h : j = 5 ∧ i = e k
  · obtain ⟨rfl, rfl⟩ := h
    rw [if_pos ⟨rfl, rfl⟩, if_pos ⟨rfl, hk⟩, bI_t ⟨k, by omega, rfl⟩]
  · rw [if_neg h]
    by_cases h2 : j = 5 ∧ i < n
    · rw [if_pos h2, if_pos h2]
      refine bI_iff ⟨fun ⟨q, q1, q2⟩ => ⟨q, by omega, q2⟩, fun ⟨q, q1, q2⟩ => ⟨q, ?_, q2⟩⟩
      have : q ≠ k := fun z => h ⟨h2.1, by rw [q2, z]⟩
      omega
    · rw [if_neg h2, if_neg h2]
theorem drV_r {V : RVal} {e : Nat → Nat} {n k i : Nat} (hi : i < n) : drV V n e k 5 i = bI (∃ q, q < k ∧ i = e q) := by
  unfold drV; rw [if_pos ⟨rfl, hi⟩]
/-- the seed after k draws -/
def sdI (g : Nat → Nat) : Nat → Nat
  | 0 => g 3
  | k + 1 => sdN (sdI g k)
/-- e tells the units drawn -/
def DrawE (g : Nat → Nat) (l n s : Nat) (e : Nat → Nat) : Prop := ∀ k, k < s → e k < g (90 + 13 * l + 1) ∧ sW (g (402 + 2 * (200 * l + e k))) = 0 ∧ (¬ ∃ q, q < k ∧ e k = e q) ∧ cnt (fun v => sW (g (402 + 2 * (200 * l + v))) = 0 ∧ ¬ ∃ q, q < k ∧ v = e q) (e k) = sdI g (k + 1) / 65536 % (n - k)
def drw (e : Nat → Nat) (s u : Nat) : Prop := ∃ q, q < s ∧ u = e q
noncomputable def insS (g s : Nat → Nat) (l u : Nat) (c : Nat → Nat → Nat) (P : Prop) : Nat → Nat := @ite _ P (Classical.propDecidable P) (if badV g l u = 0 then s else becG (blmS g s l u c) l u 1) s
noncomputable def insI (g : Nat → Nat) (l : Nat) (c : Nat → Nat → Nat) (e : Nat → Nat) (k : Nat) : Nat → Nat → Nat
  | 0 => up1 g 3 (sdI g k)
  | u + 1 => insS g (insI g l c e k u) l u c (drw e k u)
theorem insS_n {g s : Nat → Nat} {l u : Nat} {c : Nat → Nat → Nat} {P : Prop} (hc6 : ∀ u q, c u q ≤ 6) {i : Nat} (hi : i < 62 ∨ 90 ≤ i) (h : i ≠ 402 + 2 * (200 * l + u)) : insS g s l u c P i = s i := by
  unfold insS
  by_cases hp : P
  · rw [if_pos hp]
    split
    · rfl
    · rw [becG_n h]; exact blmG_n (hc6 u) hi
  · rw [if_neg hp]
theorem insI_n {g : Nat → Nat} {l : Nat} {c : Nat → Nat → Nat} {e : Nat → Nat} {k : Nat} (hc6 : ∀ u q, c u q ≤ 6) {i : Nat} (h3 : i ≠ 3) (hi : i < 62 ∨ 90 ≤ i) : ∀ {u : Nat}, (i < 402 + 2 * (200 * l) ∨ 402 + 2 * (200 * l + u) ≤ i) → insI g l c e k u i = g i
  | 0, _ => up1_n h3
  | u + 1, h => by
    show insS _ _ _ _ _ _ _ = _
    rw [insS_n hc6 hi (by omega)]
    exact insI_n hc6 h3 hi (by omega)
theorem WB.ins {g : Nat → Nat} {l : Nat} {c : Nat → Nat → Nat} {e : Nat → Nat} {k : Nat} (hc6 : ∀ u q, c u q ≤ 6) (hb : WB g) : ∀ u, WB (insI g l c e k u)
  | 0 => WB.lo (by omega) hb
  | u + 1 => by
    have ih := WB.ins (l := l) (e := e) (k := k) hc6 hb u
    show WB (insS _ _ _ _ _ _)
    unfold insS
    by_cases hp : drw e k u
    · rw [if_pos hp]
      split
      · exact ih
      · exact WB.bec (by decide) (WB.blm (hc6 u) ih)
    · rw [if_neg hp]; exact ih
theorem swtG_n {g : Nat → Nat} {e f a i : Nat} (h : i < e + 3 ∨ e + 7 < i) : swtG g e f a i = g i := by
  unfold swtG updG fgtG
  (repeat' split) <;> (repeat rw [up1_n (by omega)])
set_option maxRecDepth 4000 in
theorem g_inspect1 {G : GI} {T : Hp} {m : Nat} {V : RVal} {g : Nat → Nat} {od : Nat → UInt64} (hs : RS T m)  (hb : WB g) {l : Nat} {c : Nat → Nat → Nat} {e : Nat → Nat} {n s a v : Nat} (hl : l < 24) (hz : g (90 + 13 * l + 1) ≤ 200) (hp : g (90 + 13 * l + 0) < 4) (hk1 : g (22 + 10 * g (90 + 13 * l + 0) + 1) < 16) (hF : g (90 + 13 * l + 3) = 0) (hlim : g (22 + 10 * g (90 + 13 * l + 0)) ≤ 30) (hv : g (22 + 10 * g (90 + 13 * l + 0) + 3) = v) (hv3 : v ≤ 3) (h4 : g (22 + 10 * g (90 + 13 * l + 0) + 4) ≤ 15) (h5 : g (22 + 10 * g (90 + 13 * l + 0) + 5) < 2147470000) (h6 : g (22 + 10 * g (90 + 13 * l + 0) + 6) < 2147470000) (h7 : g (22 + 10 * g (90 + 13 * l + 0) + 7) < 32) (hn : inS g l 0 = n) (hn200 : n ≤ 200) (hsm : smpN n v = s) (hsn : s ≤ n) (hs32 : s ≤ 32) (hal : alwN s (g (22 + 10 * g (90 + 13 * l + 0))) v = a) (ha200 : a ≤ 200) (hD : DrawE g l n s e) (hi3 : g (90 + 13 * l + 3) < 2147470000) (hcc : CauA g l (g (90 + 13 * l + 1)) (g (22 + 10 * g (90 + 13 * l + 0) + 1)) c) : Fx m_X13_inspectNow G [.ref (m), .int (nI (l))] (rput T m (sg V g) od) (some (.int (nI (cnt (fun z => drw e s z ∧ ¬ badV g l z = 0) (g (90 + 13 * l + 1)))))) (fun x y => rput T m (sg (l78 (drV V (g (90 + 13 * l + 1)) e s) x y) (up1 (swtG (up1 (up1 (up1 (up1 (up1 (up1 (up1 (insI g l c e s (g (90 + 13 * l + 1))) (90 + 13 * l + 2) (if a < cnt (fun z => drw e s z ∧ ¬ badV g l z = 0) (g (90 + 13 * l + 1)) then 2 else 1)) (90 + 13 * l + 4) (v)) (90 + 13 * l + 5) (s)) (90 + 13 * l + 6) (a)) (90 + 13 * l + 7) (cnt (fun z => drw e s z ∧ ¬ badV g l z = 0) (g (90 + 13 * l + 1)))) (22 + 10 * g (90 + 13 * l + 0) + 8) (g (22 + 10 * g (90 + 13 * l + 0) + 8) + s)) (22 + 10 * g (90 + 13 * l + 0) + 9) (g (22 + 10 * g (90 + 13 * l + 0) + 9) + (cnt (fun z => drw e s z ∧ ¬ badV g l z = 0) (g (90 + 13 * l + 1))))) (22 + 10 * g (90 + 13 * l + 0)) (cnt (fun z => drw e s z ∧ ¬ badV g l z = 0) (g (90 + 13 * l + 1))) a) (90 + 13 * l + 3) (g (90 + 13 * l + 3) + 1))) od) := by
  refine Cn.of rfl (by decide) (Nat.le_of_ble_eq_true rfl) (fun hN hM => ?_)
  show Wx _ G _ 0 [(0, .ref (m)), (1, .int (nI (l)))] [] _
  obtain ⟨hc6, hca⟩ := hcc
  refine r_aload_n dX13_inspectNow_0 rfl 0 rfl ?_
  refine r_iload_n dX13_inspectNow_1 rfl 1 rfl ?_
  refine r_fnV (M2 := m_X13_productOf) (As := [.int (nI (l))]) (rest := []) (v := some (.int (nI (22 + 10 * (g (90 + 13 * l + 0)))))) dX13_inspectNow_2 cc_X13_inspectNow_90 rfl rfl rfl (Nat.le_of_ble_eq_true rfl) hs.1 rfl rfl (by decide) (g_productOf hs (by (first | omega | (have := sW_lt (g (402 + 2 * (200 * l + u))); omega)))) rfl ?_
  refine r_istore_n (lv' := [(2, .int (nI (22 + 10 * (g (90 + 13 * l + 0))))), (0, .ref (m)), (1, .int (nI (l)))]) dX13_inspectNow_5 rfl (by decide) rfl ?_
  refine r_aload_n dX13_inspectNow_6 rfl 1 rfl ?_
  refine m_ref (k := 0) (j := 1) hs hs.2.1.1 dX13_inspectNow_7 fr_X13_7 rfl ?_
  refine r_iload_n dX13_inspectNow_10 rfl 2 rfl ?_
  refine r_iconst (v := nI 3) dX13_inspectNow_11 (by decide) ?_
  refine r_fnS (M2 := m_X13_at) (As := [.int (nI (l)), .int (nI (3))]) (rest := [.ref (m + 1)]) (v := some (.int (nI (90 + 13 * l + 3)))) dX13_inspectNow_12 cc_X13_inspectNow_72 rfl rfl rfl (Nat.le_of_ble_eq_true rfl) f_at rfl ?_
  refine g_iald (i := 90 + 13 * l + 3) hs dX13_inspectNow_15 (by (first | omega | (have := sW_lt (g (402 + 2 * (200 * l + u))); omega))) ?_
  refine r_if_neN (tgt := 30) dX13_inspectNow_16 (by decide) (by (first | omega | (have := sW_lt (g (402 + 2 * (200 * l + u))); omega))) (fun h16 => ?_) (fun h16 => ?_)
  · exact absurd hF h16
  · refine r_aload_n dX13_inspectNow_19 rfl 1 rfl ?_
    refine m_ref (k := 0) (j := 1) hs hs.2.1.1 dX13_inspectNow_20 fr_X13_7 rfl ?_
    refine r_iload_n dX13_inspectNow_23 rfl 0 rfl ?_
    refine r_iconst (v := nI 3) dX13_inspectNow_24 (by decide) ?_
    refine r_iaddN dX13_inspectNow_25 ?_
    refine g_iald (i := 22 + 10 * (g (90 + 13 * l + 0)) + 3) hs dX13_inspectNow_26 (by (first | omega | (have := sW_lt (g (402 + 2 * (200 * l + u))); omega))) ?_
    refine r_goto (tgt := 31) dX13_inspectNow_27 (by decide) ?_
    refine Wx.topN hv ?_
    refine r_istore_n (lv' := [(3, .int (nI (v))), (2, .int (nI (22 + 10 * (g (90 + 13 * l + 0))))), (0, .ref (m)), (1, .int (nI (l)))]) dX13_inspectNow_31 rfl (by decide) rfl ?_
    refine r_aload_n dX13_inspectNow_32 rfl 2 rfl ?_
    refine r_iload_n dX13_inspectNow_33 rfl 3 rfl ?_
    refine r_iconst (v := nI 0) dX13_inspectNow_34 (by decide) ?_
    refine r_fnV (M2 := m_X13_inState) (As := [.int (nI (l)), .int (nI (0))]) (rest := []) (v := some (.int (nI (inS g l 0)))) dX13_inspectNow_35 cc_X13_inspectNow_175 rfl rfl rfl (Nat.le_of_ble_eq_true rfl) hs.1 rfl rfl (by decide) (g_inState hs hb (by (first | omega | (have := sW_lt (g (402 + 2 * (200 * l + u))); omega))) (by (first | omega | (have := sW_lt (g (402 + 2 * (200 * l + u))); omega))) (by (first | omega | (have := sW_lt (g (402 + 2 * (200 * l + u))); omega)))) rfl ?_
    refine Wx.topN hn ?_
    refine r_istore (lv' := [(4, .int (nI (n))), (3, .int (nI (v))), (2, .int (nI (22 + 10 * (g (90 + 13 * l + 0))))), (0, .ref (m)), (1, .int (nI (l)))]) dX13_inspectNow_38 (by decide) rfl ?_
    refine r_iload dX13_inspectNow_40 0 rfl ?_
    refine r_iload_n dX13_inspectNow_42 rfl 1 rfl ?_
    refine r_fnS (M2 := m_X13_sample) (As := [.int (nI (n)), .int (nI (v))]) (rest := []) (v := some (.int (nI (smpN n v)))) dX13_inspectNow_43 cc_X13_inspectNow_134 rfl rfl rfl (Nat.le_of_ble_eq_true rfl) (f_sample (by (first | omega | (have := sW_lt (g (402 + 2 * (200 * l + u))); omega))) (by (first | omega | (have := sW_lt (g (402 + 2 * (200 * l + u))); omega)))) rfl ?_
    refine Wx.topN hsm ?_
    refine r_istore (lv' := [(5, .int (nI (s))), (4, .int (nI (n))), (3, .int (nI (v))), (2, .int (nI (22 + 10 * (g (90 + 13 * l + 0))))), (0, .ref (m)), (1, .int (nI (l)))]) dX13_inspectNow_46 (by decide) rfl ?_
    refine r_iload dX13_inspectNow_48 0 rfl ?_
    refine r_aload_n dX13_inspectNow_50 rfl 4 rfl ?_
    refine m_ref (k := 0) (j := 1) hs hs.2.1.1 dX13_inspectNow_51 fr_X13_7 rfl ?_
    refine r_iload_n dX13_inspectNow_54 rfl 3 rfl ?_
    refine g_iald (i := 22 + 10 * (g (90 + 13 * l + 0))) hs dX13_inspectNow_55 (by (first | omega | (have := sW_lt (g (402 + 2 * (200 * l + u))); omega))) ?_
    refine r_iload_n dX13_inspectNow_56 rfl 2 rfl ?_
    refine r_fnS (M2 := m_X13_allowed) (As := [.int (nI (s)), .int (nI (g (22 + 10 * (g (90 + 13 * l + 0))))), .int (nI (v))]) (rest := []) (v := some (.int (nI (alwN s (g (22 + 10 * (g (90 + 13 * l + 0)))) v)))) dX13_inspectNow_57 cc_X13_inspectNow_137 rfl rfl rfl (Nat.le_of_ble_eq_true rfl) (f_allowed (by (first | omega | (have := sW_lt (g (402 + 2 * (200 * l + u))); omega))) (by (first | omega | (have := sW_lt (g (402 + 2 * (200 * l + u))); omega))) (by (first | omega | (have := sW_lt (g (402 + 2 * (200 * l + u))); omega)))) rfl ?_
    refine Wx.topN hal ?_
    refine r_istore (lv' := [(6, .int (nI (a))), (5, .int (nI (s))), (4, .int (nI (n))), (3, .int (nI (v))), (2, .int (nI (22 + 10 * (g (90 + 13 * l + 0))))), (0, .ref (m)), (1, .int (nI (l)))]) dX13_inspectNow_60 (by decide) rfl ?_
    refine r_iconst (v := nI 0) dX13_inspectNow_62 (by decide) ?_
    refine r_istore (lv' := [(7, .int (nI (0))), (6, .int (nI (a))), (5, .int (nI (s))), (4, .int (nI (n))), (3, .int (nI (v))), (2, .int (nI (22 + 10 * (g (90 + 13 * l + 0))))), (0, .ref (m)), (1, .int (nI (l)))]) dX13_inspectNow_63 (by decide) rfl ?_
    refine Wx.st' (S' := rput T m (sg (drV V 0 e 0) g) od) (by rw [drV_0]) ?_
    refine Wx.sub [6, 7, 5, 4, 3, 2, 1, 0] rfl ?_
    refine Wx.loop (fun u => rput T m (sg (drV V u e 0) g) od) (fun u => [(0, .ref (m)), (1, .int (nI (l))), (2, .int (nI (22 + 10 * g (90 + 13 * l + 0)))), (3, .int (nI (v))), (4, .int (nI (n))), (5, .int (nI (s))), (6, .int (nI (a))), (7, .int (nI (u)))]) (g (90 + 13 * l + 1)) (0) (Nat.zero_le _) (fun u hge hle next => ?_)
    show Wx _ G (rput T m (sg (drV V u e 0) g) od) 65 [(0, .ref (m)), (1, .int (nI (l))), (2, .int (nI (22 + 10 * g (90 + 13 * l + 0)))), (3, .int (nI (v))), (4, .int (nI (n))), (5, .int (nI (s))), (6, .int (nI (a))), (7, .int (nI (u)))] [] _
    refine r_iload dX13_inspectNow_65 7 rfl ?_
    refine r_aload_n dX13_inspectNow_67 rfl 0 rfl ?_
    refine r_iload_n dX13_inspectNow_68 rfl 1 rfl ?_
    refine r_fnV (M2 := m_X13_size) (As := [.int (nI (l))]) (rest := [.int (nI (u))]) (v := some (.int (nI (g (90 + 13 * l + 1))))) dX13_inspectNow_69 cc_X13_inspectNow_80 rfl rfl rfl (Nat.le_of_ble_eq_true rfl) hs.1 rfl rfl (by decide) (g_size hs (by (first | omega | (have := sW_lt (g (402 + 2 * (200 * l + u))); omega)))) rfl ?_
    refine r_icmp_geN (tgt := 89) dX13_inspectNow_72 (by decide) (by (first | omega | (have := sW_lt (g (402 + 2 * (200 * l + u))); omega))) (by (first | omega | (have := sW_lt (g (402 + 2 * (200 * l + u))); omega))) (fun h72 => ?_) (fun h72 => ?_)
    · refine r_iconst (v := nI 0) dX13_inspectNow_89 (by decide) ?_
      refine r_istore (lv' := [(7, .int (nI (0))), (0, .ref (m)), (1, .int (nI (l))), (2, .int (nI (22 + 10 * g (90 + 13 * l + 0)))), (3, .int (nI (v))), (4, .int (nI (n))), (5, .int (nI (s))), (6, .int (nI (a)))]) dX13_inspectNow_90 (by decide) rfl ?_
      obtain rfl : u = g (90 + 13 * l + 1) := by omega
      refine Wx.st' (S' := rput T m (sg (drV V (g (90 + 13 * l + 1)) e 0) (up1 g 3 (sdI g 0))) od) (congrArg (fun g => rput T m (sg _ g) od) up1_self.symm) ?_
      refine Wx.sub [1, 2, 3, 4, 5, 6, 7, 0] rfl ?_
      refine Wx.loop (fun k => rput T m (sg (drV V (g (90 + 13 * l + 1)) e k) (up1 g 3 (sdI g k))) od) (fun k => [(0, .ref (m)), (1, .int (nI (l))), (2, .int (nI (22 + 10 * g (90 + 13 * l + 0)))), (3, .int (nI (v))), (4, .int (nI (n))), (5, .int (nI (s))), (6, .int (nI (a))), (7, .int (nI (k)))]) (s) (0) (Nat.zero_le _) (fun k hge_1 hle_1 next_1 => ?_)
      show Wx _ G (rput T m (sg (drV V (g (90 + 13 * l + 1)) e k) (up1 g 3 (sdI g k))) od) 92 [(0, .ref (m)), (1, .int (nI (l))), (2, .int (nI (22 + 10 * g (90 + 13 * l + 0)))), (3, .int (nI (v))), (4, .int (nI (n))), (5, .int (nI (s))), (6, .int (nI (a))), (7, .int (nI (k)))] [] _
      refine r_iload dX13_inspectNow_92 7 rfl ?_
      refine r_iload dX13_inspectNow_94 5 rfl ?_
      refine r_icmp_geN (tgt := 125) dX13_inspectNow_96 (by decide) (by (first | omega | (have := sW_lt (g (402 + 2 * (200 * l + u))); omega))) (by (first | omega | (have := sW_lt (g (402 + 2 * (200 * l + u))); omega))) (fun h96 => ?_) (fun h96 => ?_)
      · refine r_iconst (v := nI 0) dX13_inspectNow_125 (by decide) ?_
        refine r_istore (lv' := [(7, .int (nI (0))), (0, .ref (m)), (1, .int (nI (l))), (2, .int (nI (22 + 10 * g (90 + 13 * l + 0)))), (3, .int (nI (v))), (4, .int (nI (n))), (5, .int (nI (s))), (6, .int (nI (a)))]) dX13_inspectNow_126 (by decide) rfl ?_
        refine r_iconst (v := nI 0) dX13_inspectNow_128 (by decide) ?_
        refine r_istore (lv' := [(8, .int (nI (0))), (7, .int (nI (0))), (0, .ref (m)), (1, .int (nI (l))), (2, .int (nI (22 + 10 * g (90 + 13 * l + 0)))), (3, .int (nI (v))), (4, .int (nI (n))), (5, .int (nI (s))), (6, .int (nI (a)))]) dX13_inspectNow_129 (by decide) rfl ?_
        obtain rfl : k = s := by omega
        refine Wx.sub [2, 3, 4, 5, 6, 7, 8, 1, 0] rfl ?_
        refine Wx.loopR (fun u S lv => ∃ x y, S = rput T m (sg (l78 (drV V (g (90 + 13 * l + 1)) e k) x y) (insI g l c e k u)) od ∧ lv = [(0, .ref (m)), (1, .int (nI (l))), (2, .int (nI (22 + 10 * g (90 + 13 * l + 0)))), (3, .int (nI (v))), (4, .int (nI (n))), (5, .int (nI (k))), (6, .int (nI (a))), (7, .int (nI (cnt (fun z => drw e k z ∧ ¬ badV g l z = 0) u))), (8, .int (nI (u)))]) (g (90 + 13 * l + 1)) (0) (Nat.zero_le _) ⟨((drV V (g (90 + 13 * l + 1)) e k) 0 7), ((drV V (g (90 + 13 * l + 1)) e k) 0 8), congrArg (fun V => rput T m (sg V _) od) l78_self.symm, rfl⟩ (fun u S lv hge_2 hle_2 hI9 next_2 => ?_)
        obtain ⟨x, y, rfl, rfl⟩ := hI9
        have hwb := WB.ins (l := l) (c := c) (e := e) (k := k) hc6 hb u
        have hI : ∀ i, (i ≠ 3 ∧ (i < 62 ∨ 90 ≤ i) ∧ (i < 402 + 2 * (200 * l) ∨ 402 + 2 * (200 * l + u) ≤ i)) → insI g l c e k u i = g i := fun i hi => insI_n hc6 hi.1 hi.2.1 hi.2.2
        have eP := hI (90 + 13 * l + 0) (by omega)
        have eI := hI (22 + 10 * g (90 + 13 * l + 0) + 1) (by omega)
        have eW := hI (402 + 2 * (200 * l + u)) (by omega)
        refine r_iload dX13_inspectNow_131 8 rfl ?_
        refine r_aload_n dX13_inspectNow_133 rfl 0 rfl ?_
        refine r_iload_n dX13_inspectNow_134 rfl 1 rfl ?_
        refine r_fnV (M2 := m_X13_size) (As := [.int (nI (l))]) (rest := [.int (nI (u))]) (v := some (.int (nI ((insI g l c e k u) (90 + 13 * l + 1))))) dX13_inspectNow_135 cc_X13_inspectNow_80 rfl rfl rfl (Nat.le_of_ble_eq_true rfl) hs.1 rfl rfl (by decide) (g_size hs (by (first | omega | (have := sW_lt (g (402 + 2 * (200 * l + u))); omega)))) rfl ?_
        refine Wx.topN (hI _ (by (first | omega | (have := sW_lt (g (402 + 2 * (200 * l + u))); omega)))) ?_
        refine r_icmp_geN (tgt := 193) dX13_inspectNow_138 (by decide) (by (first | omega | (have := sW_lt (g (402 + 2 * (200 * l + u))); omega))) (by (first | omega | (have := sW_lt (g (402 + 2 * (200 * l + u))); omega))) (fun h138 => ?_) (fun h138 => ?_)
        · obtain rfl : u = g (90 + 13 * l + 1) := by omega
          have hF9 := cnt_le (fun z => drw e k z ∧ ¬ badV g l z = 0) (g (90 + 13 * l + 1))
          refine r_aload_n dX13_inspectNow_193 rfl 0 rfl ?_
          refine m_ref (k := 0) (j := 1) hs hs.2.1.1 dX13_inspectNow_194 fr_X13_7 rfl ?_
          refine r_iload_n dX13_inspectNow_197 rfl 1 rfl ?_
          refine r_iconst (v := nI 2) dX13_inspectNow_198 (by decide) ?_
          refine r_fnS (M2 := m_X13_at) (As := [.int (nI (l)), .int (nI (2))]) (rest := [.ref (m + 1)]) (v := some (.int (nI (90 + 13 * l + 2)))) dX13_inspectNow_199 cc_X13_inspectNow_72 rfl rfl rfl (Nat.le_of_ble_eq_true rfl) f_at rfl ?_
          refine r_iload dX13_inspectNow_202 7 rfl ?_
          refine r_iload dX13_inspectNow_204 6 rfl ?_
          refine r_icmp_leN (tgt := 213) dX13_inspectNow_206 (by decide) (by omega) (by omega) (fun h206 => ?_) (fun h206 => ?_)
          · refine r_iconst (v := nI 1) dX13_inspectNow_213 (by decide) ?_
            refine Wx.topN (show 1 = (if a < cnt (fun z => drw e k z ∧ ¬ badV g l z = 0) (g (90 + 13 * l + 1)) then 2 else 1) from (if_neg (by omega)).symm) ?_
            refine g_iast (i := 90 + 13 * l + 2) (x := if a < cnt (fun z => drw e k z ∧ ¬ badV g l z = 0) (g (90 + 13 * l + 1)) then 2 else 1) hs dX13_inspectNow_214 (by omega) ?_
            refine r_aload_n dX13_inspectNow_215 rfl 0 rfl ?_
            refine m_ref (k := 0) (j := 1) hs hs.2.1.1 dX13_inspectNow_216 fr_X13_7 rfl ?_
            refine r_iload_n dX13_inspectNow_219 rfl 1 rfl ?_
            refine r_iconst (v := nI 4) dX13_inspectNow_220 (by decide) ?_
            refine r_fnS (M2 := m_X13_at) (As := [.int (nI (l)), .int (nI (4))]) (rest := [.ref (m + 1)]) (v := some (.int (nI (90 + 13 * l + 4)))) dX13_inspectNow_221 cc_X13_inspectNow_72 rfl rfl rfl (Nat.le_of_ble_eq_true rfl) f_at rfl ?_
            refine r_iload_n dX13_inspectNow_224 rfl 3 rfl ?_
            refine g_iast (i := 90 + 13 * l + 4) (x := v) hs dX13_inspectNow_225 (by omega) ?_
            refine r_aload_n dX13_inspectNow_226 rfl 0 rfl ?_
            refine m_ref (k := 0) (j := 1) hs hs.2.1.1 dX13_inspectNow_227 fr_X13_7 rfl ?_
            refine r_iload_n dX13_inspectNow_230 rfl 1 rfl ?_
            refine r_iconst (v := nI 5) dX13_inspectNow_231 (by decide) ?_
            refine r_fnS (M2 := m_X13_at) (As := [.int (nI (l)), .int (nI (5))]) (rest := [.ref (m + 1)]) (v := some (.int (nI (90 + 13 * l + 5)))) dX13_inspectNow_232 cc_X13_inspectNow_72 rfl rfl rfl (Nat.le_of_ble_eq_true rfl) f_at rfl ?_
            refine r_iload dX13_inspectNow_235 5 rfl ?_
            refine g_iast (i := 90 + 13 * l + 5) (x := k) hs dX13_inspectNow_237 (by omega) ?_
            refine r_aload_n dX13_inspectNow_238 rfl 0 rfl ?_
            refine m_ref (k := 0) (j := 1) hs hs.2.1.1 dX13_inspectNow_239 fr_X13_7 rfl ?_
            refine r_iload_n dX13_inspectNow_242 rfl 1 rfl ?_
            refine r_bipush (v := nI 6) dX13_inspectNow_243 (by decide) ?_
            refine r_fnS (M2 := m_X13_at) (As := [.int (nI (l)), .int (nI (6))]) (rest := [.ref (m + 1)]) (v := some (.int (nI (90 + 13 * l + 6)))) dX13_inspectNow_245 cc_X13_inspectNow_72 rfl rfl rfl (Nat.le_of_ble_eq_true rfl) f_at rfl ?_
            refine r_iload dX13_inspectNow_248 6 rfl ?_
            refine g_iast (i := 90 + 13 * l + 6) (x := a) hs dX13_inspectNow_250 (by omega) ?_
            refine r_aload_n dX13_inspectNow_251 rfl 0 rfl ?_
            refine m_ref (k := 0) (j := 1) hs hs.2.1.1 dX13_inspectNow_252 fr_X13_7 rfl ?_
            refine r_iload_n dX13_inspectNow_255 rfl 1 rfl ?_
            refine r_bipush (v := nI 7) dX13_inspectNow_256 (by decide) ?_
            refine r_fnS (M2 := m_X13_at) (As := [.int (nI (l)), .int (nI (7))]) (rest := [.ref (m + 1)]) (v := some (.int (nI (90 + 13 * l + 7)))) dX13_inspectNow_258 cc_X13_inspectNow_72 rfl rfl rfl (Nat.le_of_ble_eq_true rfl) f_at rfl ?_
            refine r_iload dX13_inspectNow_261 7 rfl ?_
            refine g_iast (i := 90 + 13 * l + 7) (x := cnt (fun z => drw e k z ∧ ¬ badV g l z = 0) (g (90 + 13 * l + 1))) hs dX13_inspectNow_263 (by omega) ?_
            refine r_aload_n dX13_inspectNow_264 rfl 0 rfl ?_
            refine m_ref (k := 0) (j := 1) hs hs.2.1.1 dX13_inspectNow_265 fr_X13_7 rfl ?_
            refine r_iload_n dX13_inspectNow_268 rfl 1 rfl ?_
            refine r_iconst (v := nI 3) dX13_inspectNow_269 (by decide) ?_
            refine r_fnS (M2 := m_X13_at) (As := [.int (nI (l)), .int (nI (3))]) (rest := [.ref (m + 1)]) (v := some (.int (nI (90 + 13 * l + 3)))) dX13_inspectNow_270 cc_X13_inspectNow_72 rfl rfl rfl (Nat.le_of_ble_eq_true rfl) f_at rfl ?_
            refine g_iald (i := 90 + 13 * l + 3) hs dX13_inspectNow_273 (by omega) ?_
            refine Wx.topN (up1_n (by omega)) ?_
            refine Wx.topN (up1_n (by omega)) ?_
            refine Wx.topN (up1_n (by omega)) ?_
            refine Wx.topN (up1_n (by omega)) ?_
            refine Wx.topN (up1_n (by omega)) ?_
            refine Wx.topN (hI _ (by omega)) ?_
            refine r_if_neN (tgt := 314) dX13_inspectNow_274 (by decide) (by omega) (fun h274 => ?_) (fun h274 => ?_)
            · exact absurd h16 h274
            · refine r_aload_n dX13_inspectNow_277 rfl 0 rfl ?_
              refine m_ref (k := 0) (j := 1) hs hs.2.1.1 dX13_inspectNow_278 fr_X13_7 rfl ?_
              refine r_iload_n dX13_inspectNow_281 rfl 2 rfl ?_
              refine r_bipush (v := nI 8) dX13_inspectNow_282 (by decide) ?_
              refine r_iaddN dX13_inspectNow_284 ?_
              refine r_dup2 dX13_inspectNow_285 rfl rfl ?_
              refine g_iald (i := 22 + 10 * g (90 + 13 * l + 0) + 8) hs dX13_inspectNow_286 (by omega) ?_
              refine Wx.topN (up1_n (by omega)) ?_
              refine Wx.topN (up1_n (by omega)) ?_
              refine Wx.topN (up1_n (by omega)) ?_
              refine Wx.topN (up1_n (by omega)) ?_
              refine Wx.topN (up1_n (by omega)) ?_
              refine Wx.topN (hI _ (by omega)) ?_
              refine r_iload dX13_inspectNow_287 5 rfl ?_
              refine r_iaddN dX13_inspectNow_289 ?_
              refine g_iast (i := 22 + 10 * g (90 + 13 * l + 0) + 8) (x := g (22 + 10 * g (90 + 13 * l + 0) + 8) + k) hs dX13_inspectNow_290 (by omega) ?_
              refine r_aload_n dX13_inspectNow_291 rfl 0 rfl ?_
              refine m_ref (k := 0) (j := 1) hs hs.2.1.1 dX13_inspectNow_292 fr_X13_7 rfl ?_
              refine r_iload_n dX13_inspectNow_295 rfl 2 rfl ?_
              refine r_bipush (v := nI 9) dX13_inspectNow_296 (by decide) ?_
              refine r_iaddN dX13_inspectNow_298 ?_
              refine r_dup2 dX13_inspectNow_299 rfl rfl ?_
              refine g_iald (i := 22 + 10 * g (90 + 13 * l + 0) + 9) hs dX13_inspectNow_300 (by omega) ?_
              refine Wx.topN (up1_n (by omega)) ?_
              refine Wx.topN (up1_n (by omega)) ?_
              refine Wx.topN (up1_n (by omega)) ?_
              refine Wx.topN (up1_n (by omega)) ?_
              refine Wx.topN (up1_n (by omega)) ?_
              refine Wx.topN (up1_n (by omega)) ?_
              refine Wx.topN (hI _ (by omega)) ?_
              refine r_iload dX13_inspectNow_301 7 rfl ?_
              refine r_iaddN dX13_inspectNow_303 ?_
              refine g_iast (i := 22 + 10 * g (90 + 13 * l + 0) + 9) (x := g (22 + 10 * g (90 + 13 * l + 0) + 9) + (cnt (fun z => drw e k z ∧ ¬ badV g l z = 0) (g (90 + 13 * l + 1)))) hs dX13_inspectNow_304 (by omega) ?_
              refine r_aload_n dX13_inspectNow_305 rfl 0 rfl ?_
              refine r_iload_n dX13_inspectNow_306 rfl 2 rfl ?_
              refine r_iload dX13_inspectNow_307 7 rfl ?_
              refine r_iload dX13_inspectNow_309 6 rfl ?_
              have q3 : (up1 (up1 (up1 (up1 (up1 (up1 (up1 (insI g l c e k (g (90 + 13 * l + 1))) (90 + 13 * l + 2) (if a < cnt (fun z => drw e k z ∧ ¬ badV g l z = 0) (g (90 + 13 * l + 1)) then 2 else 1)) (90 + 13 * l + 4) (v)) (90 + 13 * l + 5) (k)) (90 + 13 * l + 6) (a)) (90 + 13 * l + 7) (cnt (fun z => drw e k z ∧ ¬ badV g l z = 0) (g (90 + 13 * l + 1)))) (22 + 10 * g (90 + 13 * l + 0) + 8) (g (22 + 10 * g (90 + 13 * l + 0) + 8) + k)) (22 + 10 * g (90 + 13 * l + 0) + 9) (g (22 + 10 * g (90 + 13 * l + 0) + 9) + (cnt (fun z => drw e k z ∧ ¬ badV g l z = 0) (g (90 + 13 * l + 1))))) (22 + 10 * g (90 + 13 * l + 0) + 3) = g (22 + 10 * g (90 + 13 * l + 0) + 3) := by
                repeat rw [up1_n (by omega)]
                exact hI _ (by omega)
              have q4 : (up1 (up1 (up1 (up1 (up1 (up1 (up1 (insI g l c e k (g (90 + 13 * l + 1))) (90 + 13 * l + 2) (if a < cnt (fun z => drw e k z ∧ ¬ badV g l z = 0) (g (90 + 13 * l + 1)) then 2 else 1)) (90 + 13 * l + 4) (v)) (90 + 13 * l + 5) (k)) (90 + 13 * l + 6) (a)) (90 + 13 * l + 7) (cnt (fun z => drw e k z ∧ ¬ badV g l z = 0) (g (90 + 13 * l + 1)))) (22 + 10 * g (90 + 13 * l + 0) + 8) (g (22 + 10 * g (90 + 13 * l + 0) + 8) + k)) (22 + 10 * g (90 + 13 * l + 0) + 9) (g (22 + 10 * g (90 + 13 * l + 0) + 9) + (cnt (fun z => drw e k z ∧ ¬ badV g l z = 0) (g (90 + 13 * l + 1))))) (22 + 10 * g (90 + 13 * l + 0) + 4) = g (22 + 10 * g (90 + 13 * l + 0) + 4) := by
                repeat rw [up1_n (by omega)]
                exact hI _ (by omega)
              have q5 : (up1 (up1 (up1 (up1 (up1 (up1 (up1 (insI g l c e k (g (90 + 13 * l + 1))) (90 + 13 * l + 2) (if a < cnt (fun z => drw e k z ∧ ¬ badV g l z = 0) (g (90 + 13 * l + 1)) then 2 else 1)) (90 + 13 * l + 4) (v)) (90 + 13 * l + 5) (k)) (90 + 13 * l + 6) (a)) (90 + 13 * l + 7) (cnt (fun z => drw e k z ∧ ¬ badV g l z = 0) (g (90 + 13 * l + 1)))) (22 + 10 * g (90 + 13 * l + 0) + 8) (g (22 + 10 * g (90 + 13 * l + 0) + 8) + k)) (22 + 10 * g (90 + 13 * l + 0) + 9) (g (22 + 10 * g (90 + 13 * l + 0) + 9) + (cnt (fun z => drw e k z ∧ ¬ badV g l z = 0) (g (90 + 13 * l + 1))))) (22 + 10 * g (90 + 13 * l + 0) + 5) = g (22 + 10 * g (90 + 13 * l + 0) + 5) := by
                repeat rw [up1_n (by omega)]
                exact hI _ (by omega)
              have q6 : (up1 (up1 (up1 (up1 (up1 (up1 (up1 (insI g l c e k (g (90 + 13 * l + 1))) (90 + 13 * l + 2) (if a < cnt (fun z => drw e k z ∧ ¬ badV g l z = 0) (g (90 + 13 * l + 1)) then 2 else 1)) (90 + 13 * l + 4) (v)) (90 + 13 * l + 5) (k)) (90 + 13 * l + 6) (a)) (90 + 13 * l + 7) (cnt (fun z => drw e k z ∧ ¬ badV g l z = 0) (g (90 + 13 * l + 1)))) (22 + 10 * g (90 + 13 * l + 0) + 8) (g (22 + 10 * g (90 + 13 * l + 0) + 8) + k)) (22 + 10 * g (90 + 13 * l + 0) + 9) (g (22 + 10 * g (90 + 13 * l + 0) + 9) + (cnt (fun z => drw e k z ∧ ¬ badV g l z = 0) (g (90 + 13 * l + 1))))) (22 + 10 * g (90 + 13 * l + 0) + 6) = g (22 + 10 * g (90 + 13 * l + 0) + 6) := by
                repeat rw [up1_n (by omega)]
                exact hI _ (by omega)
              have q7 : (up1 (up1 (up1 (up1 (up1 (up1 (up1 (insI g l c e k (g (90 + 13 * l + 1))) (90 + 13 * l + 2) (if a < cnt (fun z => drw e k z ∧ ¬ badV g l z = 0) (g (90 + 13 * l + 1)) then 2 else 1)) (90 + 13 * l + 4) (v)) (90 + 13 * l + 5) (k)) (90 + 13 * l + 6) (a)) (90 + 13 * l + 7) (cnt (fun z => drw e k z ∧ ¬ badV g l z = 0) (g (90 + 13 * l + 1)))) (22 + 10 * g (90 + 13 * l + 0) + 8) (g (22 + 10 * g (90 + 13 * l + 0) + 8) + k)) (22 + 10 * g (90 + 13 * l + 0) + 9) (g (22 + 10 * g (90 + 13 * l + 0) + 9) + (cnt (fun z => drw e k z ∧ ¬ badV g l z = 0) (g (90 + 13 * l + 1))))) (22 + 10 * g (90 + 13 * l + 0) + 7) = g (22 + 10 * g (90 + 13 * l + 0) + 7) := by
                repeat rw [up1_n (by omega)]
                exact hI _ (by omega)
              refine r_fnV (M2 := m_X13_switches) (As := [.int (nI (22 + 10 * g (90 + 13 * l + 0))), .int (nI (cnt (fun z => drw e k z ∧ ¬ badV g l z = 0) (g (90 + 13 * l + 1)))), .int (nI (a))]) (rest := []) (v := none) dX13_inspectNow_311 cc_X13_inspectNow_230 rfl rfl rfl (Nat.le_of_ble_eq_true rfl) hs.1 rfl rfl (by decide) (g_switches hs (by omega) (by omega) (by omega) (by rw [q3]; omega) (by rw [q4]; omega) (by rw [q5]; omega) (by rw [q6]; omega) (by rw [q7]; omega)) rfl ?_
              refine r_aload_n dX13_inspectNow_314 rfl 0 rfl ?_
              refine m_ref (k := 0) (j := 1) hs hs.2.1.1 dX13_inspectNow_315 fr_X13_7 rfl ?_
              refine r_iload_n dX13_inspectNow_318 rfl 1 rfl ?_
              refine r_iconst (v := nI 3) dX13_inspectNow_319 (by decide) ?_
              refine r_fnS (M2 := m_X13_at) (As := [.int (nI (l)), .int (nI (3))]) (rest := [.ref (m + 1)]) (v := some (.int (nI (90 + 13 * l + 3)))) dX13_inspectNow_320 cc_X13_inspectNow_72 rfl rfl rfl (Nat.le_of_ble_eq_true rfl) f_at rfl ?_
              refine r_dup2 dX13_inspectNow_323 rfl rfl ?_
              refine g_iald (i := 90 + 13 * l + 3) hs dX13_inspectNow_324 (by omega) ?_
              refine Wx.topN (swtG_n (by omega)) ?_
              refine Wx.topN (up1_n (by omega)) ?_
              refine Wx.topN (up1_n (by omega)) ?_
              refine Wx.topN (up1_n (by omega)) ?_
              refine Wx.topN (up1_n (by omega)) ?_
              refine Wx.topN (up1_n (by omega)) ?_
              refine Wx.topN (up1_n (by omega)) ?_
              refine Wx.topN (up1_n (by omega)) ?_
              refine Wx.topN (hI _ (by omega)) ?_
              refine r_iconst (v := nI 1) dX13_inspectNow_325 (by decide) ?_
              refine r_iaddN dX13_inspectNow_326 ?_
              refine g_iast (i := 90 + 13 * l + 3) (x := g (90 + 13 * l + 3) + 1) hs dX13_inspectNow_327 (by omega) ?_
              refine r_iload dX13_inspectNow_328 7 rfl ?_
              exact r_iret (ty := .int) dX13_inspectNow_330 rfl rfl ⟨rfl, x, y, rfl⟩
          · refine r_iconst (v := nI 2) dX13_inspectNow_209 (by decide) ?_
            refine r_goto (tgt := 214) dX13_inspectNow_210 (by decide) ?_
            refine Wx.topN (show 2 = (if a < cnt (fun z => drw e k z ∧ ¬ badV g l z = 0) (g (90 + 13 * l + 1)) then 2 else 1) from (if_pos (by omega)).symm) ?_
            refine g_iast (i := 90 + 13 * l + 2) (x := if a < cnt (fun z => drw e k z ∧ ¬ badV g l z = 0) (g (90 + 13 * l + 1)) then 2 else 1) hs dX13_inspectNow_214 (by omega) ?_
            refine r_aload_n dX13_inspectNow_215 rfl 0 rfl ?_
            refine m_ref (k := 0) (j := 1) hs hs.2.1.1 dX13_inspectNow_216 fr_X13_7 rfl ?_
            refine r_iload_n dX13_inspectNow_219 rfl 1 rfl ?_
            refine r_iconst (v := nI 4) dX13_inspectNow_220 (by decide) ?_
            refine r_fnS (M2 := m_X13_at) (As := [.int (nI (l)), .int (nI (4))]) (rest := [.ref (m + 1)]) (v := some (.int (nI (90 + 13 * l + 4)))) dX13_inspectNow_221 cc_X13_inspectNow_72 rfl rfl rfl (Nat.le_of_ble_eq_true rfl) f_at rfl ?_
            refine r_iload_n dX13_inspectNow_224 rfl 3 rfl ?_
            refine g_iast (i := 90 + 13 * l + 4) (x := v) hs dX13_inspectNow_225 (by omega) ?_
            refine r_aload_n dX13_inspectNow_226 rfl 0 rfl ?_
            refine m_ref (k := 0) (j := 1) hs hs.2.1.1 dX13_inspectNow_227 fr_X13_7 rfl ?_
            refine r_iload_n dX13_inspectNow_230 rfl 1 rfl ?_
            refine r_iconst (v := nI 5) dX13_inspectNow_231 (by decide) ?_
            refine r_fnS (M2 := m_X13_at) (As := [.int (nI (l)), .int (nI (5))]) (rest := [.ref (m + 1)]) (v := some (.int (nI (90 + 13 * l + 5)))) dX13_inspectNow_232 cc_X13_inspectNow_72 rfl rfl rfl (Nat.le_of_ble_eq_true rfl) f_at rfl ?_
            refine r_iload dX13_inspectNow_235 5 rfl ?_
            refine g_iast (i := 90 + 13 * l + 5) (x := k) hs dX13_inspectNow_237 (by omega) ?_
            refine r_aload_n dX13_inspectNow_238 rfl 0 rfl ?_
            refine m_ref (k := 0) (j := 1) hs hs.2.1.1 dX13_inspectNow_239 fr_X13_7 rfl ?_
            refine r_iload_n dX13_inspectNow_242 rfl 1 rfl ?_
            refine r_bipush (v := nI 6) dX13_inspectNow_243 (by decide) ?_
            refine r_fnS (M2 := m_X13_at) (As := [.int (nI (l)), .int (nI (6))]) (rest := [.ref (m + 1)]) (v := some (.int (nI (90 + 13 * l + 6)))) dX13_inspectNow_245 cc_X13_inspectNow_72 rfl rfl rfl (Nat.le_of_ble_eq_true rfl) f_at rfl ?_
            refine r_iload dX13_inspectNow_248 6 rfl ?_
            refine g_iast (i := 90 + 13 * l + 6) (x := a) hs dX13_inspectNow_250 (by omega) ?_
            refine r_aload_n dX13_inspectNow_251 rfl 0 rfl ?_
            refine m_ref (k := 0) (j := 1) hs hs.2.1.1 dX13_inspectNow_252 fr_X13_7 rfl ?_
            refine r_iload_n dX13_inspectNow_255 rfl 1 rfl ?_
            refine r_bipush (v := nI 7) dX13_inspectNow_256 (by decide) ?_
            refine r_fnS (M2 := m_X13_at) (As := [.int (nI (l)), .int (nI (7))]) (rest := [.ref (m + 1)]) (v := some (.int (nI (90 + 13 * l + 7)))) dX13_inspectNow_258 cc_X13_inspectNow_72 rfl rfl rfl (Nat.le_of_ble_eq_true rfl) f_at rfl ?_
            refine r_iload dX13_inspectNow_261 7 rfl ?_
            refine g_iast (i := 90 + 13 * l + 7) (x := cnt (fun z => drw e k z ∧ ¬ badV g l z = 0) (g (90 + 13 * l + 1))) hs dX13_inspectNow_263 (by omega) ?_
            refine r_aload_n dX13_inspectNow_264 rfl 0 rfl ?_
            refine m_ref (k := 0) (j := 1) hs hs.2.1.1 dX13_inspectNow_265 fr_X13_7 rfl ?_
            refine r_iload_n dX13_inspectNow_268 rfl 1 rfl ?_
            refine r_iconst (v := nI 3) dX13_inspectNow_269 (by decide) ?_
            refine r_fnS (M2 := m_X13_at) (As := [.int (nI (l)), .int (nI (3))]) (rest := [.ref (m + 1)]) (v := some (.int (nI (90 + 13 * l + 3)))) dX13_inspectNow_270 cc_X13_inspectNow_72 rfl rfl rfl (Nat.le_of_ble_eq_true rfl) f_at rfl ?_
            refine g_iald (i := 90 + 13 * l + 3) hs dX13_inspectNow_273 (by omega) ?_
            refine Wx.topN (up1_n (by omega)) ?_
            refine Wx.topN (up1_n (by omega)) ?_
            refine Wx.topN (up1_n (by omega)) ?_
            refine Wx.topN (up1_n (by omega)) ?_
            refine Wx.topN (up1_n (by omega)) ?_
            refine Wx.topN (hI _ (by omega)) ?_
            refine r_if_neN (tgt := 314) dX13_inspectNow_274 (by decide) (by omega) (fun h274_1 => ?_) (fun h274_1 => ?_)
            · exact absurd h16 h274_1
            · refine r_aload_n dX13_inspectNow_277 rfl 0 rfl ?_
              refine m_ref (k := 0) (j := 1) hs hs.2.1.1 dX13_inspectNow_278 fr_X13_7 rfl ?_
              refine r_iload_n dX13_inspectNow_281 rfl 2 rfl ?_
              refine r_bipush (v := nI 8) dX13_inspectNow_282 (by decide) ?_
              refine r_iaddN dX13_inspectNow_284 ?_
              refine r_dup2 dX13_inspectNow_285 rfl rfl ?_
              refine g_iald (i := 22 + 10 * g (90 + 13 * l + 0) + 8) hs dX13_inspectNow_286 (by omega) ?_
              refine Wx.topN (up1_n (by omega)) ?_
              refine Wx.topN (up1_n (by omega)) ?_
              refine Wx.topN (up1_n (by omega)) ?_
              refine Wx.topN (up1_n (by omega)) ?_
              refine Wx.topN (up1_n (by omega)) ?_
              refine Wx.topN (hI _ (by omega)) ?_
              refine r_iload dX13_inspectNow_287 5 rfl ?_
              refine r_iaddN dX13_inspectNow_289 ?_
              refine g_iast (i := 22 + 10 * g (90 + 13 * l + 0) + 8) (x := g (22 + 10 * g (90 + 13 * l + 0) + 8) + k) hs dX13_inspectNow_290 (by omega) ?_
              refine r_aload_n dX13_inspectNow_291 rfl 0 rfl ?_
              refine m_ref (k := 0) (j := 1) hs hs.2.1.1 dX13_inspectNow_292 fr_X13_7 rfl ?_
              refine r_iload_n dX13_inspectNow_295 rfl 2 rfl ?_
              refine r_bipush (v := nI 9) dX13_inspectNow_296 (by decide) ?_
              refine r_iaddN dX13_inspectNow_298 ?_
              refine r_dup2 dX13_inspectNow_299 rfl rfl ?_
              refine g_iald (i := 22 + 10 * g (90 + 13 * l + 0) + 9) hs dX13_inspectNow_300 (by omega) ?_
              refine Wx.topN (up1_n (by omega)) ?_
              refine Wx.topN (up1_n (by omega)) ?_
              refine Wx.topN (up1_n (by omega)) ?_
              refine Wx.topN (up1_n (by omega)) ?_
              refine Wx.topN (up1_n (by omega)) ?_
              refine Wx.topN (up1_n (by omega)) ?_
              refine Wx.topN (hI _ (by omega)) ?_
              refine r_iload dX13_inspectNow_301 7 rfl ?_
              refine r_iaddN dX13_inspectNow_303 ?_
              refine g_iast (i := 22 + 10 * g (90 + 13 * l + 0) + 9) (x := g (22 + 10 * g (90 + 13 * l + 0) + 9) + (cnt (fun z => drw e k z ∧ ¬ badV g l z = 0) (g (90 + 13 * l + 1)))) hs dX13_inspectNow_304 (by omega) ?_
              refine r_aload_n dX13_inspectNow_305 rfl 0 rfl ?_
              refine r_iload_n dX13_inspectNow_306 rfl 2 rfl ?_
              refine r_iload dX13_inspectNow_307 7 rfl ?_
              refine r_iload dX13_inspectNow_309 6 rfl ?_
              have q3 : (up1 (up1 (up1 (up1 (up1 (up1 (up1 (insI g l c e k (g (90 + 13 * l + 1))) (90 + 13 * l + 2) (if a < cnt (fun z => drw e k z ∧ ¬ badV g l z = 0) (g (90 + 13 * l + 1)) then 2 else 1)) (90 + 13 * l + 4) (v)) (90 + 13 * l + 5) (k)) (90 + 13 * l + 6) (a)) (90 + 13 * l + 7) (cnt (fun z => drw e k z ∧ ¬ badV g l z = 0) (g (90 + 13 * l + 1)))) (22 + 10 * g (90 + 13 * l + 0) + 8) (g (22 + 10 * g (90 + 13 * l + 0) + 8) + k)) (22 + 10 * g (90 + 13 * l + 0) + 9) (g (22 + 10 * g (90 + 13 * l + 0) + 9) + (cnt (fun z => drw e k z ∧ ¬ badV g l z = 0) (g (90 + 13 * l + 1))))) (22 + 10 * g (90 + 13 * l + 0) + 3) = g (22 + 10 * g (90 + 13 * l + 0) + 3) := by
                repeat rw [up1_n (by omega)]
                exact hI _ (by omega)
              have q4 : (up1 (up1 (up1 (up1 (up1 (up1 (up1 (insI g l c e k (g (90 + 13 * l + 1))) (90 + 13 * l + 2) (if a < cnt (fun z => drw e k z ∧ ¬ badV g l z = 0) (g (90 + 13 * l + 1)) then 2 else 1)) (90 + 13 * l + 4) (v)) (90 + 13 * l + 5) (k)) (90 + 13 * l + 6) (a)) (90 + 13 * l + 7) (cnt (fun z => drw e k z ∧ ¬ badV g l z = 0) (g (90 + 13 * l + 1)))) (22 + 10 * g (90 + 13 * l + 0) + 8) (g (22 + 10 * g (90 + 13 * l + 0) + 8) + k)) (22 + 10 * g (90 + 13 * l + 0) + 9) (g (22 + 10 * g (90 + 13 * l + 0) + 9) + (cnt (fun z => drw e k z ∧ ¬ badV g l z = 0) (g (90 + 13 * l + 1))))) (22 + 10 * g (90 + 13 * l + 0) + 4) = g (22 + 10 * g (90 + 13 * l + 0) + 4) := by
                repeat rw [up1_n (by omega)]
                exact hI _ (by omega)
              have q5 : (up1 (up1 (up1 (up1 (up1 (up1 (up1 (insI g l c e k (g (90 + 13 * l + 1))) (90 + 13 * l + 2) (if a < cnt (fun z => drw e k z ∧ ¬ badV g l z = 0) (g (90 + 13 * l + 1)) then 2 else 1)) (90 + 13 * l + 4) (v)) (90 + 13 * l + 5) (k)) (90 + 13 * l + 6) (a)) (90 + 13 * l + 7) (cnt (fun z => drw e k z ∧ ¬ badV g l z = 0) (g (90 + 13 * l + 1)))) (22 + 10 * g (90 + 13 * l + 0) + 8) (g (22 + 10 * g (90 + 13 * l + 0) + 8) + k)) (22 + 10 * g (90 + 13 * l + 0) + 9) (g (22 + 10 * g (90 + 13 * l + 0) + 9) + (cnt (fun z => drw e k z ∧ ¬ badV g l z = 0) (g (90 + 13 * l + 1))))) (22 + 10 * g (90 + 13 * l + 0) + 5) = g (22 + 10 * g (90 + 13 * l + 0) + 5) := by
                repeat rw [up1_n (by omega)]
                exact hI _ (by omega)
              have q6 : (up1 (up1 (up1 (up1 (up1 (up1 (up1 (insI g l c e k (g (90 + 13 * l + 1))) (90 + 13 * l + 2) (if a < cnt (fun z => drw e k z ∧ ¬ badV g l z = 0) (g (90 + 13 * l + 1)) then 2 else 1)) (90 + 13 * l + 4) (v)) (90 + 13 * l + 5) (k)) (90 + 13 * l + 6) (a)) (90 + 13 * l + 7) (cnt (fun z => drw e k z ∧ ¬ badV g l z = 0) (g (90 + 13 * l + 1)))) (22 + 10 * g (90 + 13 * l + 0) + 8) (g (22 + 10 * g (90 + 13 * l + 0) + 8) + k)) (22 + 10 * g (90 + 13 * l + 0) + 9) (g (22 + 10 * g (90 + 13 * l + 0) + 9) + (cnt (fun z => drw e k z ∧ ¬ badV g l z = 0) (g (90 + 13 * l + 1))))) (22 + 10 * g (90 + 13 * l + 0) + 6) = g (22 + 10 * g (90 + 13 * l + 0) + 6) := by
                repeat rw [up1_n (by omega)]
                exact hI _ (by omega)
              have q7 : (up1 (up1 (up1 (up1 (up1 (up1 (up1 (insI g l c e k (g (90 + 13 * l + 1))) (90 + 13 * l + 2) (if a < cnt (fun z => drw e k z ∧ ¬ badV g l z = 0) (g (90 + 13 * l + 1)) then 2 else 1)) (90 + 13 * l + 4) (v)) (90 + 13 * l + 5) (k)) (90 + 13 * l + 6) (a)) (90 + 13 * l + 7) (cnt (fun z => drw e k z ∧ ¬ badV g l z = 0) (g (90 + 13 * l + 1)))) (22 + 10 * g (90 + 13 * l + 0) + 8) (g (22 + 10 * g (90 + 13 * l + 0) + 8) + k)) (22 + 10 * g (90 + 13 * l + 0) + 9) (g (22 + 10 * g (90 + 13 * l + 0) + 9) + (cnt (fun z => drw e k z ∧ ¬ badV g l z = 0) (g (90 + 13 * l + 1))))) (22 + 10 * g (90 + 13 * l + 0) + 7) = g (22 + 10 * g (90 + 13 * l + 0) + 7) := by
                repeat rw [up1_n (by omega)]
                exact hI _ (by omega)
              refine r_fnV (M2 := m_X13_switches) (As := [.int (nI (22 + 10 * g (90 + 13 * l + 0))), .int (nI (cnt (fun z => drw e k z ∧ ¬ badV g l z = 0) (g (90 + 13 * l + 1)))), .int (nI (a))]) (rest := []) (v := none) dX13_inspectNow_311 cc_X13_inspectNow_230 rfl rfl rfl (Nat.le_of_ble_eq_true rfl) hs.1 rfl rfl (by decide) (g_switches hs (by omega) (by omega) (by omega) (by rw [q3]; omega) (by rw [q4]; omega) (by rw [q5]; omega) (by rw [q6]; omega) (by rw [q7]; omega)) rfl ?_
              refine r_aload_n dX13_inspectNow_314 rfl 0 rfl ?_
              refine m_ref (k := 0) (j := 1) hs hs.2.1.1 dX13_inspectNow_315 fr_X13_7 rfl ?_
              refine r_iload_n dX13_inspectNow_318 rfl 1 rfl ?_
              refine r_iconst (v := nI 3) dX13_inspectNow_319 (by decide) ?_
              refine r_fnS (M2 := m_X13_at) (As := [.int (nI (l)), .int (nI (3))]) (rest := [.ref (m + 1)]) (v := some (.int (nI (90 + 13 * l + 3)))) dX13_inspectNow_320 cc_X13_inspectNow_72 rfl rfl rfl (Nat.le_of_ble_eq_true rfl) f_at rfl ?_
              refine r_dup2 dX13_inspectNow_323 rfl rfl ?_
              refine g_iald (i := 90 + 13 * l + 3) hs dX13_inspectNow_324 (by omega) ?_
              refine Wx.topN (swtG_n (by omega)) ?_
              refine Wx.topN (up1_n (by omega)) ?_
              refine Wx.topN (up1_n (by omega)) ?_
              refine Wx.topN (up1_n (by omega)) ?_
              refine Wx.topN (up1_n (by omega)) ?_
              refine Wx.topN (up1_n (by omega)) ?_
              refine Wx.topN (up1_n (by omega)) ?_
              refine Wx.topN (up1_n (by omega)) ?_
              refine Wx.topN (hI _ (by omega)) ?_
              refine r_iconst (v := nI 1) dX13_inspectNow_325 (by decide) ?_
              refine r_iaddN dX13_inspectNow_326 ?_
              refine g_iast (i := 90 + 13 * l + 3) (x := g (90 + 13 * l + 3) + 1) hs dX13_inspectNow_327 (by omega) ?_
              refine r_iload dX13_inspectNow_328 7 rfl ?_
              exact r_iret (ty := .int) dX13_inspectNow_330 rfl rfl ⟨rfl, x, y, rfl⟩
        · have hcu : CauC (insI g l c e k u) l u (g (22 + 10 * g (90 + 13 * l + 0) + 1)) (c u) := CauC.congr hl (fun i q1 q2 => hI i (by omega)) eW (hI _ (by omega)) (hca u (by omega))
          have hwb2 : WB (blmS g (insI g l c e k u) l u c) := WB.blm (hc6 u) hwb
          refine r_aload_n dX13_inspectNow_141 rfl 0 rfl ?_
          refine m_ref (k := 9) (j := 5) hs hs.2.1.2.2.2.2.1 dX13_inspectNow_142 fr_X13_23 rfl ?_
          refine r_iload dX13_inspectNow_145 8 rfl ?_
          refine o_zald (j := 5) (n := 200) (i := u) (by decide) hs rw5 dX13_inspectNow_147 (by omega) (by decide) ?_
          refine Wx.top (show l78 (drV V (g (90 + 13 * l + 1)) e k) _ _ 5 u = bI (drw e k u) by rw [l78_n (Or.inl (by decide)), drV_r (by omega)]; rfl) ?_
          refine r_if_eqB (tgt := 187) dX13_inspectNow_148 (by decide) (fun h148 => ?_) (fun h148 => ?_)
          · refine r_iincN (k := 1) (lv' := [(8, .int (nI (u + 1))), (0, .ref (m)), (1, .int (nI (l))), (2, .int (nI (22 + 10 * g (90 + 13 * l + 0)))), (3, .int (nI (v))), (4, .int (nI (n))), (5, .int (nI (k))), (6, .int (nI (a))), (7, .int (nI (cnt (fun z => drw e k z ∧ ¬ badV g l z = 0) u)))]) dX13_inspectNow_187 (by decide) 8 rfl (by decide) rfl ?_
            refine r_goto (tgt := 131) dX13_inspectNow_190 (by decide) ?_
            refine Wx.sub [1, 2, 3, 4, 5, 6, 7, 8, 0] rfl ?_
            exact next_2 _ _ (by omega) ⟨x, y, congrArg (fun g => rput T m (sg _ g) od) (show (insI g l c e k u) = insS g (insI g l c e k u) l u c (drw e k u) from (if_neg h148).symm), by rw [cnt_f (p := fun z => drw e k z ∧ ¬ badV g l z = 0) (fun q => h148 q.1)] <;> rfl⟩
          · refine r_aload_n dX13_inspectNow_151 rfl 0 rfl ?_
            refine r_iload_n dX13_inspectNow_152 rfl 1 rfl ?_
            refine r_iload dX13_inspectNow_153 8 rfl ?_
            refine r_fnV (M2 := m_X13_isBad) (As := [.int (nI (l)), .int (nI (u))]) (rest := []) (v := some (.int (bI (¬ badV g l u = 0)))) dX13_inspectNow_155 cc_X13_inspectNow_96 rfl rfl rfl (Nat.le_of_ble_eq_true rfl) hs.1 rfl rfl (by decide) (Fn.eq (g_isBad hs hwb hl (by omega) (by rw [eP]; exact hp) (by rw [eP, eI]; exact hk1)) (congrArg (fun x => some (Value.int x)) (bI_iff (show badG (insI g l c e k u) l u ↔ ¬ badV g l u = 0 by unfold badG badV; rw [eP, eI, eW]))) rfl) rfl ?_
            refine r_if_eqB (tgt := 187) dX13_inspectNow_158 (by decide) (fun h158 => ?_) (fun h158 => ?_)
            · refine r_iincN (k := 1) (lv' := [(8, .int (nI (u + 1))), (0, .ref (m)), (1, .int (nI (l))), (2, .int (nI (22 + 10 * g (90 + 13 * l + 0)))), (3, .int (nI (v))), (4, .int (nI (n))), (5, .int (nI (k))), (6, .int (nI (a))), (7, .int (nI (cnt (fun z => drw e k z ∧ ¬ badV g l z = 0) u)))]) dX13_inspectNow_187 (by decide) 8 rfl (by decide) rfl ?_
              refine r_goto (tgt := 131) dX13_inspectNow_190 (by decide) ?_
              refine Wx.sub [1, 2, 3, 4, 5, 6, 7, 8, 0] rfl ?_
              exact next_2 _ _ (by omega) ⟨x, y, congrArg (fun g => rput T m (sg _ g) od) (show (insI g l c e k u) = insS g (insI g l c e k u) l u c (drw e k u) from ((if_pos h148).trans (if_pos (Classical.not_not.mp h158))).symm), by rw [cnt_f (p := fun z => drw e k z ∧ ¬ badV g l z = 0) (fun q => h158 q.2)] <;> rfl⟩
            · refine r_iincN (k := 1) (lv' := [(7, .int (nI (cnt (fun z => drw e k z ∧ ¬ badV g l z = 0) u + 1))), (0, .ref (m)), (1, .int (nI (l))), (2, .int (nI (22 + 10 * g (90 + 13 * l + 0)))), (3, .int (nI (v))), (4, .int (nI (n))), (5, .int (nI (k))), (6, .int (nI (a))), (8, .int (nI (u)))]) dX13_inspectNow_161 (by decide) 7 rfl (by decide) rfl ?_
              refine r_aload_n dX13_inspectNow_164 rfl 1 rfl ?_
              refine r_iload_n dX13_inspectNow_165 rfl 2 rfl ?_
              refine r_iload dX13_inspectNow_166 8 rfl ?_
              refine r_aload_n dX13_inspectNow_168 rfl 1 rfl ?_
              refine m_ref (k := 0) (j := 1) hs hs.2.1.1 dX13_inspectNow_169 fr_X13_7 rfl ?_
              refine r_iload_n dX13_inspectNow_172 rfl 3 rfl ?_
              refine r_iconst (v := nI 1) dX13_inspectNow_173 (by decide) ?_
              refine r_iaddN dX13_inspectNow_174 ?_
              refine g_iald (i := 22 + 10 * g (90 + 13 * l + 0) + 1) hs dX13_inspectNow_175 (by omega) ?_
              refine Wx.topN (hI _ (by omega)) ?_
              refine r_fxV (M2 := m_X13_blames) (As := [.int (nI (l)), .int (nI (u)), .int (nI (g (22 + 10 * g (90 + 13 * l + 0) + 1)))]) (rest := []) (v := none) dX13_inspectNow_176 cc_X13_inspectNow_227 rfl rfl rfl (Nat.le_of_ble_eq_true rfl) hs.1 rfl rfl (by decide) (g_blames (c := c u) hs hwb hl (by omega) hk1 hcu) rfl (fun x_1 y_1 => ?_)
              refine Wx.st' (S' := rput T m (sg (l78 (drV V (g (90 + 13 * l + 1)) e k) x_1 y_1) (blmS g (insI g l c e k u) l u c)) od) (by rw [l78_ll] <;> rfl) ?_
              refine r_aload_n dX13_inspectNow_179 rfl 1 rfl ?_
              refine r_iload_n dX13_inspectNow_180 rfl 2 rfl ?_
              refine r_iload dX13_inspectNow_181 8 rfl ?_
              refine r_iconst (v := nI 1) dX13_inspectNow_183 (by decide) ?_
              refine r_fnV (M2 := m_X13_becomes) (As := [.int (nI (l)), .int (nI (u)), .int (nI (1))]) (rest := []) (v := none) dX13_inspectNow_184 cc_X13_inspectNow_187 rfl rfl rfl (Nat.le_of_ble_eq_true rfl) hs.1 rfl rfl (by decide) (g_becomes hs hwb2 (by omega) (by omega) (by omega)) rfl ?_
              refine r_iincN (k := 1) (lv' := [(8, .int (nI (u + 1))), (7, .int (nI (cnt (fun z => drw e k z ∧ ¬ badV g l z = 0) u + 1))), (0, .ref (m)), (1, .int (nI (l))), (2, .int (nI (22 + 10 * g (90 + 13 * l + 0)))), (3, .int (nI (v))), (4, .int (nI (n))), (5, .int (nI (k))), (6, .int (nI (a)))]) dX13_inspectNow_187 (by decide) 8 rfl (by decide) rfl ?_
              refine r_goto (tgt := 131) dX13_inspectNow_190 (by decide) ?_
              refine Wx.sub [2, 3, 4, 5, 6, 7, 8, 1, 0] rfl ?_
              exact next_2 _ _ (by omega) ⟨x_1, y_1, congrArg (fun g => rput T m (sg _ g) od) (show (becG (blmS g (insI g l c e k u) l u c) l u 1) = insS g (insI g l c e k u) l u c (drw e k u) from ((if_pos h148).trans (if_neg h158)).symm), by rw [cnt_t (p := fun z => drw e k z ∧ ¬ badV g l z = 0) ⟨h148, h158⟩] <;> rfl⟩
      · obtain ⟨d1, d2, d3, d4⟩ := hD k (by omega)
        refine r_aload_n dX13_inspectNow_99 rfl 0 rfl ?_
        refine m_ref (k := 9) (j := 5) hs hs.2.1.2.2.2.2.1 dX13_inspectNow_100 fr_X13_23 rfl ?_
        refine r_aload_n dX13_inspectNow_103 rfl 0 rfl ?_
        refine r_iload_n dX13_inspectNow_104 rfl 1 rfl ?_
        refine r_aload_n dX13_inspectNow_105 rfl 0 rfl ?_
        refine r_iload dX13_inspectNow_106 4 rfl ?_
        refine r_iload dX13_inspectNow_108 7 rfl ?_
        refine r_isubN dX13_inspectNow_110 (by omega) ?_
        refine r_fnV (M2 := m_X13_draws) (As := [.int (nI (n - k))]) (rest := [.int (nI (l)), .ref (m), .ref (m + 5)]) (v := some (.int (nI (sdI g (k + 1) / 65536 % (n - k))))) dX13_inspectNow_111 cc_X13_inspectNow_221 rfl rfl rfl (Nat.le_of_ble_eq_true rfl) hs.1 rfl rfl (by decide) (Fn.eq (g_draws hs (n := n - k) (by omega) (by omega)) (show some (Value.int (nI (sdN ((up1 g 3 (sdI g k)) 3) / 65536 % (n - k)))) = some (Value.int (nI (sdI g (k + 1) / 65536 % (n - k)))) by rw [up1_s]; rfl) (show rput T m (sg _ (up1 (up1 g 3 (sdI g k)) 3 (sdN ((up1 g 3 (sdI g k)) 3)))) od = rput T m (sg (drV V (g (90 + 13 * l + 1)) e k) (up1 g 3 (sdI g (k + 1)))) od by rw [up1_s, up1_up]; rfl)) rfl ?_
        refine r_fnV (M2 := m_X13_drawable) (As := [.int (nI (l)), .int (nI (sdI g (k + 1) / 65536 % (n - k)))]) (rest := [.ref (m + 5)]) (v := some (.int (nI (e k)))) dX13_inspectNow_114 cc_X13_inspectNow_224 rfl rfl rfl (Nat.le_of_ble_eq_true rfl) hs.1 rfl rfl (by decide) (g_drawable (e := e k) hs (WB.lo (by omega) hb) hl (by omega) (by rw [up1_n (by omega)]; exact d2) (by rw [drV_r d1, bI_f d3]; rfl) ((cnt_congr (fun v hv => by rw [up1_n (by omega), drV_r (by omega), bI_0])).trans d4)) rfl ?_
        refine r_iconst (v := nI 1) dX13_inspectNow_117 (by decide) ?_
        refine o_zast (j := 5) (n := 200) (i := e k) (by decide) hs rw5 dX13_inspectNow_118 (by omega) (by decide) (by decide) ?_
        refine r_iincN (k := 1) (lv' := [(7, .int (nI (k + 1))), (0, .ref (m)), (1, .int (nI (l))), (2, .int (nI (22 + 10 * g (90 + 13 * l + 0)))), (3, .int (nI (v))), (4, .int (nI (n))), (5, .int (nI (s))), (6, .int (nI (a)))]) dX13_inspectNow_119 (by decide) 7 rfl (by decide) rfl ?_
        refine r_goto (tgt := 92) dX13_inspectNow_122 (by decide) ?_
        refine Wx.sub [1, 2, 3, 4, 5, 6, 7, 0] rfl ?_
        have n2 := next_1 (by omega)
        rw [← drV_s d1] at n2
        exact n2
    · refine r_aload_n dX13_inspectNow_75 rfl 0 rfl ?_
      refine m_ref (k := 9) (j := 5) hs hs.2.1.2.2.2.2.1 dX13_inspectNow_76 fr_X13_23 rfl ?_
      refine r_iload dX13_inspectNow_79 7 rfl ?_
      refine r_iconst (v := nI 0) dX13_inspectNow_81 (by decide) ?_
      refine o_zast (j := 5) (n := 200) (i := u) (by decide) hs rw5 dX13_inspectNow_82 (by omega) (by decide) (by decide) ?_
      refine r_iincN (k := 1) (lv' := [(7, .int (nI (u + 1))), (0, .ref (m)), (1, .int (nI (l))), (2, .int (nI (22 + 10 * g (90 + 13 * l + 0)))), (3, .int (nI (v))), (4, .int (nI (n))), (5, .int (nI (s))), (6, .int (nI (a)))]) dX13_inspectNow_83 (by decide) 7 rfl (by decide) rfl ?_
      refine r_goto (tgt := 65) dX13_inspectNow_86 (by decide) ?_
      refine Wx.sub [1, 2, 3, 4, 5, 6, 7, 0] rfl ?_
      have n2 := next (by omega)
      rw [← drV_z] at n2
      exact n2
set_option maxRecDepth 4000 in
theorem g_inspect2 {G : GI} {T : Hp} {m : Nat} {V : RVal} {g : Nat → Nat} {od : Nat → UInt64} (hs : RS T m)  (hb : WB g) {l : Nat} {c : Nat → Nat → Nat} {e : Nat → Nat} {n s a : Nat} (hl : l < 24) (hz : g (90 + 13 * l + 1) ≤ 200) (hp : g (90 + 13 * l + 0) < 4) (hk1 : g (22 + 10 * g (90 + 13 * l + 0) + 1) < 16) (hF : ¬ g (90 + 13 * l + 3) = 0) (hlim : g (22 + 10 * g (90 + 13 * l + 0)) ≤ 30) (hn : inS g l 0 = n) (hn200 : n ≤ 200) (hsm : smpN n 1 = s) (hsn : s ≤ n) (hs32 : s ≤ 32) (hal : alwN s (g (22 + 10 * g (90 + 13 * l + 0))) 1 = a) (ha200 : a ≤ 200) (hD : DrawE g l n s e) (hi3 : g (90 + 13 * l + 3) < 2147470000) (hcc : CauA g l (g (90 + 13 * l + 1)) (g (22 + 10 * g (90 + 13 * l + 0) + 1)) c) : Fx m_X13_inspectNow G [.ref (m), .int (nI (l))] (rput T m (sg V g) od) (some (.int (nI (cnt (fun z => drw e s z ∧ ¬ badV g l z = 0) (g (90 + 13 * l + 1)))))) (fun x y => rput T m (sg (l78 (drV V (g (90 + 13 * l + 1)) e s) x y) (up1 (up1 (up1 (up1 (up1 (up1 (insI g l c e s (g (90 + 13 * l + 1))) (90 + 13 * l + 2) (if a < cnt (fun z => drw e s z ∧ ¬ badV g l z = 0) (g (90 + 13 * l + 1)) then 2 else 1)) (90 + 13 * l + 4) (1)) (90 + 13 * l + 5) (s)) (90 + 13 * l + 6) (a)) (90 + 13 * l + 7) (cnt (fun z => drw e s z ∧ ¬ badV g l z = 0) (g (90 + 13 * l + 1)))) (90 + 13 * l + 3) (g (90 + 13 * l + 3) + 1))) od) := by
  refine Cn.of rfl (by decide) (Nat.le_of_ble_eq_true rfl) (fun hN hM => ?_)
  show Wx _ G _ 0 [(0, .ref (m)), (1, .int (nI (l)))] [] _
  obtain ⟨hc6, hca⟩ := hcc
  refine r_aload_n dX13_inspectNow_0 rfl 0 rfl ?_
  refine r_iload_n dX13_inspectNow_1 rfl 1 rfl ?_
  refine r_fnV (M2 := m_X13_productOf) (As := [.int (nI (l))]) (rest := []) (v := some (.int (nI (22 + 10 * (g (90 + 13 * l + 0)))))) dX13_inspectNow_2 cc_X13_inspectNow_90 rfl rfl rfl (Nat.le_of_ble_eq_true rfl) hs.1 rfl rfl (by decide) (g_productOf hs (by (first | omega | (have := sW_lt (g (402 + 2 * (200 * l + u))); omega)))) rfl ?_
  refine r_istore_n (lv' := [(2, .int (nI (22 + 10 * (g (90 + 13 * l + 0))))), (0, .ref (m)), (1, .int (nI (l)))]) dX13_inspectNow_5 rfl (by decide) rfl ?_
  refine r_aload_n dX13_inspectNow_6 rfl 1 rfl ?_
  refine m_ref (k := 0) (j := 1) hs hs.2.1.1 dX13_inspectNow_7 fr_X13_7 rfl ?_
  refine r_iload_n dX13_inspectNow_10 rfl 2 rfl ?_
  refine r_iconst (v := nI 3) dX13_inspectNow_11 (by decide) ?_
  refine r_fnS (M2 := m_X13_at) (As := [.int (nI (l)), .int (nI (3))]) (rest := [.ref (m + 1)]) (v := some (.int (nI (90 + 13 * l + 3)))) dX13_inspectNow_12 cc_X13_inspectNow_72 rfl rfl rfl (Nat.le_of_ble_eq_true rfl) f_at rfl ?_
  refine g_iald (i := 90 + 13 * l + 3) hs dX13_inspectNow_15 (by (first | omega | (have := sW_lt (g (402 + 2 * (200 * l + u))); omega))) ?_
  refine r_if_neN (tgt := 30) dX13_inspectNow_16 (by decide) (by (first | omega | (have := sW_lt (g (402 + 2 * (200 * l + u))); omega))) (fun h16 => ?_) (fun h16 => ?_)
  · refine r_iconst (v := nI 1) dX13_inspectNow_30 (by decide) ?_
    refine r_istore_n (lv' := [(3, .int (nI (1))), (2, .int (nI (22 + 10 * (g (90 + 13 * l + 0))))), (0, .ref (m)), (1, .int (nI (l)))]) dX13_inspectNow_31 rfl (by decide) rfl ?_
    refine r_aload_n dX13_inspectNow_32 rfl 2 rfl ?_
    refine r_iload_n dX13_inspectNow_33 rfl 3 rfl ?_
    refine r_iconst (v := nI 0) dX13_inspectNow_34 (by decide) ?_
    refine r_fnV (M2 := m_X13_inState) (As := [.int (nI (l)), .int (nI (0))]) (rest := []) (v := some (.int (nI (inS g l 0)))) dX13_inspectNow_35 cc_X13_inspectNow_175 rfl rfl rfl (Nat.le_of_ble_eq_true rfl) hs.1 rfl rfl (by decide) (g_inState hs hb (by (first | omega | (have := sW_lt (g (402 + 2 * (200 * l + u))); omega))) (by (first | omega | (have := sW_lt (g (402 + 2 * (200 * l + u))); omega))) (by (first | omega | (have := sW_lt (g (402 + 2 * (200 * l + u))); omega)))) rfl ?_
    refine Wx.topN hn ?_
    refine r_istore (lv' := [(4, .int (nI (n))), (3, .int (nI (1))), (2, .int (nI (22 + 10 * (g (90 + 13 * l + 0))))), (0, .ref (m)), (1, .int (nI (l)))]) dX13_inspectNow_38 (by decide) rfl ?_
    refine r_iload dX13_inspectNow_40 0 rfl ?_
    refine r_iload_n dX13_inspectNow_42 rfl 1 rfl ?_
    refine r_fnS (M2 := m_X13_sample) (As := [.int (nI (n)), .int (nI (1))]) (rest := []) (v := some (.int (nI (smpN n 1)))) dX13_inspectNow_43 cc_X13_inspectNow_134 rfl rfl rfl (Nat.le_of_ble_eq_true rfl) (f_sample (by (first | omega | (have := sW_lt (g (402 + 2 * (200 * l + u))); omega))) (by (first | omega | (have := sW_lt (g (402 + 2 * (200 * l + u))); omega)))) rfl ?_
    refine Wx.topN hsm ?_
    refine r_istore (lv' := [(5, .int (nI (s))), (4, .int (nI (n))), (3, .int (nI (1))), (2, .int (nI (22 + 10 * (g (90 + 13 * l + 0))))), (0, .ref (m)), (1, .int (nI (l)))]) dX13_inspectNow_46 (by decide) rfl ?_
    refine r_iload dX13_inspectNow_48 0 rfl ?_
    refine r_aload_n dX13_inspectNow_50 rfl 4 rfl ?_
    refine m_ref (k := 0) (j := 1) hs hs.2.1.1 dX13_inspectNow_51 fr_X13_7 rfl ?_
    refine r_iload_n dX13_inspectNow_54 rfl 3 rfl ?_
    refine g_iald (i := 22 + 10 * (g (90 + 13 * l + 0))) hs dX13_inspectNow_55 (by (first | omega | (have := sW_lt (g (402 + 2 * (200 * l + u))); omega))) ?_
    refine r_iload_n dX13_inspectNow_56 rfl 2 rfl ?_
    refine r_fnS (M2 := m_X13_allowed) (As := [.int (nI (s)), .int (nI (g (22 + 10 * (g (90 + 13 * l + 0))))), .int (nI (1))]) (rest := []) (v := some (.int (nI (alwN s (g (22 + 10 * (g (90 + 13 * l + 0)))) 1)))) dX13_inspectNow_57 cc_X13_inspectNow_137 rfl rfl rfl (Nat.le_of_ble_eq_true rfl) (f_allowed (by (first | omega | (have := sW_lt (g (402 + 2 * (200 * l + u))); omega))) (by (first | omega | (have := sW_lt (g (402 + 2 * (200 * l + u))); omega))) (by (first | omega | (have := sW_lt (g (402 + 2 * (200 * l + u))); omega)))) rfl ?_
    refine Wx.topN hal ?_
    refine r_istore (lv' := [(6, .int (nI (a))), (5, .int (nI (s))), (4, .int (nI (n))), (3, .int (nI (1))), (2, .int (nI (22 + 10 * (g (90 + 13 * l + 0))))), (0, .ref (m)), (1, .int (nI (l)))]) dX13_inspectNow_60 (by decide) rfl ?_
    refine r_iconst (v := nI 0) dX13_inspectNow_62 (by decide) ?_
    refine r_istore (lv' := [(7, .int (nI (0))), (6, .int (nI (a))), (5, .int (nI (s))), (4, .int (nI (n))), (3, .int (nI (1))), (2, .int (nI (22 + 10 * (g (90 + 13 * l + 0))))), (0, .ref (m)), (1, .int (nI (l)))]) dX13_inspectNow_63 (by decide) rfl ?_
    refine Wx.st' (S' := rput T m (sg (drV V 0 e 0) g) od) (by rw [drV_0]) ?_
    refine Wx.sub [6, 7, 5, 4, 3, 2, 1, 0] rfl ?_
    refine Wx.loop (fun u => rput T m (sg (drV V u e 0) g) od) (fun u => [(0, .ref (m)), (1, .int (nI (l))), (2, .int (nI (22 + 10 * g (90 + 13 * l + 0)))), (3, .int (nI (1))), (4, .int (nI (n))), (5, .int (nI (s))), (6, .int (nI (a))), (7, .int (nI (u)))]) (g (90 + 13 * l + 1)) (0) (Nat.zero_le _) (fun u hge hle next => ?_)
    show Wx _ G (rput T m (sg (drV V u e 0) g) od) 65 [(0, .ref (m)), (1, .int (nI (l))), (2, .int (nI (22 + 10 * g (90 + 13 * l + 0)))), (3, .int (nI (1))), (4, .int (nI (n))), (5, .int (nI (s))), (6, .int (nI (a))), (7, .int (nI (u)))] [] _
    refine r_iload dX13_inspectNow_65 7 rfl ?_
    refine r_aload_n dX13_inspectNow_67 rfl 0 rfl ?_
    refine r_iload_n dX13_inspectNow_68 rfl 1 rfl ?_
    refine r_fnV (M2 := m_X13_size) (As := [.int (nI (l))]) (rest := [.int (nI (u))]) (v := some (.int (nI (g (90 + 13 * l + 1))))) dX13_inspectNow_69 cc_X13_inspectNow_80 rfl rfl rfl (Nat.le_of_ble_eq_true rfl) hs.1 rfl rfl (by decide) (g_size hs (by (first | omega | (have := sW_lt (g (402 + 2 * (200 * l + u))); omega)))) rfl ?_
    refine r_icmp_geN (tgt := 89) dX13_inspectNow_72 (by decide) (by (first | omega | (have := sW_lt (g (402 + 2 * (200 * l + u))); omega))) (by (first | omega | (have := sW_lt (g (402 + 2 * (200 * l + u))); omega))) (fun h72 => ?_) (fun h72 => ?_)
    · refine r_iconst (v := nI 0) dX13_inspectNow_89 (by decide) ?_
      refine r_istore (lv' := [(7, .int (nI (0))), (0, .ref (m)), (1, .int (nI (l))), (2, .int (nI (22 + 10 * g (90 + 13 * l + 0)))), (3, .int (nI (1))), (4, .int (nI (n))), (5, .int (nI (s))), (6, .int (nI (a)))]) dX13_inspectNow_90 (by decide) rfl ?_
      obtain rfl : u = g (90 + 13 * l + 1) := by omega
      refine Wx.st' (S' := rput T m (sg (drV V (g (90 + 13 * l + 1)) e 0) (up1 g 3 (sdI g 0))) od) (congrArg (fun g => rput T m (sg _ g) od) up1_self.symm) ?_
      refine Wx.sub [1, 2, 3, 4, 5, 6, 7, 0] rfl ?_
      refine Wx.loop (fun k => rput T m (sg (drV V (g (90 + 13 * l + 1)) e k) (up1 g 3 (sdI g k))) od) (fun k => [(0, .ref (m)), (1, .int (nI (l))), (2, .int (nI (22 + 10 * g (90 + 13 * l + 0)))), (3, .int (nI (1))), (4, .int (nI (n))), (5, .int (nI (s))), (6, .int (nI (a))), (7, .int (nI (k)))]) (s) (0) (Nat.zero_le _) (fun k hge_1 hle_1 next_1 => ?_)
      show Wx _ G (rput T m (sg (drV V (g (90 + 13 * l + 1)) e k) (up1 g 3 (sdI g k))) od) 92 [(0, .ref (m)), (1, .int (nI (l))), (2, .int (nI (22 + 10 * g (90 + 13 * l + 0)))), (3, .int (nI (1))), (4, .int (nI (n))), (5, .int (nI (s))), (6, .int (nI (a))), (7, .int (nI (k)))] [] _
      refine r_iload dX13_inspectNow_92 7 rfl ?_
      refine r_iload dX13_inspectNow_94 5 rfl ?_
      refine r_icmp_geN (tgt := 125) dX13_inspectNow_96 (by decide) (by (first | omega | (have := sW_lt (g (402 + 2 * (200 * l + u))); omega))) (by (first | omega | (have := sW_lt (g (402 + 2 * (200 * l + u))); omega))) (fun h96 => ?_) (fun h96 => ?_)
      · refine r_iconst (v := nI 0) dX13_inspectNow_125 (by decide) ?_
        refine r_istore (lv' := [(7, .int (nI (0))), (0, .ref (m)), (1, .int (nI (l))), (2, .int (nI (22 + 10 * g (90 + 13 * l + 0)))), (3, .int (nI (1))), (4, .int (nI (n))), (5, .int (nI (s))), (6, .int (nI (a)))]) dX13_inspectNow_126 (by decide) rfl ?_
        refine r_iconst (v := nI 0) dX13_inspectNow_128 (by decide) ?_
        refine r_istore (lv' := [(8, .int (nI (0))), (7, .int (nI (0))), (0, .ref (m)), (1, .int (nI (l))), (2, .int (nI (22 + 10 * g (90 + 13 * l + 0)))), (3, .int (nI (1))), (4, .int (nI (n))), (5, .int (nI (s))), (6, .int (nI (a)))]) dX13_inspectNow_129 (by decide) rfl ?_
        obtain rfl : k = s := by omega
        refine Wx.sub [2, 3, 4, 5, 6, 7, 8, 1, 0] rfl ?_
        refine Wx.loopR (fun u S lv => ∃ x y, S = rput T m (sg (l78 (drV V (g (90 + 13 * l + 1)) e k) x y) (insI g l c e k u)) od ∧ lv = [(0, .ref (m)), (1, .int (nI (l))), (2, .int (nI (22 + 10 * g (90 + 13 * l + 0)))), (3, .int (nI (1))), (4, .int (nI (n))), (5, .int (nI (k))), (6, .int (nI (a))), (7, .int (nI (cnt (fun z => drw e k z ∧ ¬ badV g l z = 0) u))), (8, .int (nI (u)))]) (g (90 + 13 * l + 1)) (0) (Nat.zero_le _) ⟨((drV V (g (90 + 13 * l + 1)) e k) 0 7), ((drV V (g (90 + 13 * l + 1)) e k) 0 8), congrArg (fun V => rput T m (sg V _) od) l78_self.symm, rfl⟩ (fun u S lv hge_2 hle_2 hI9 next_2 => ?_)
        obtain ⟨x, y, rfl, rfl⟩ := hI9
        have hwb := WB.ins (l := l) (c := c) (e := e) (k := k) hc6 hb u
        have hI : ∀ i, (i ≠ 3 ∧ (i < 62 ∨ 90 ≤ i) ∧ (i < 402 + 2 * (200 * l) ∨ 402 + 2 * (200 * l + u) ≤ i)) → insI g l c e k u i = g i := fun i hi => insI_n hc6 hi.1 hi.2.1 hi.2.2
        have eP := hI (90 + 13 * l + 0) (by omega)
        have eI := hI (22 + 10 * g (90 + 13 * l + 0) + 1) (by omega)
        have eW := hI (402 + 2 * (200 * l + u)) (by omega)
        refine r_iload dX13_inspectNow_131 8 rfl ?_
        refine r_aload_n dX13_inspectNow_133 rfl 0 rfl ?_
        refine r_iload_n dX13_inspectNow_134 rfl 1 rfl ?_
        refine r_fnV (M2 := m_X13_size) (As := [.int (nI (l))]) (rest := [.int (nI (u))]) (v := some (.int (nI ((insI g l c e k u) (90 + 13 * l + 1))))) dX13_inspectNow_135 cc_X13_inspectNow_80 rfl rfl rfl (Nat.le_of_ble_eq_true rfl) hs.1 rfl rfl (by decide) (g_size hs (by (first | omega | (have := sW_lt (g (402 + 2 * (200 * l + u))); omega)))) rfl ?_
        refine Wx.topN (hI _ (by (first | omega | (have := sW_lt (g (402 + 2 * (200 * l + u))); omega)))) ?_
        refine r_icmp_geN (tgt := 193) dX13_inspectNow_138 (by decide) (by (first | omega | (have := sW_lt (g (402 + 2 * (200 * l + u))); omega))) (by (first | omega | (have := sW_lt (g (402 + 2 * (200 * l + u))); omega))) (fun h138 => ?_) (fun h138 => ?_)
        · obtain rfl : u = g (90 + 13 * l + 1) := by omega
          have hF9 := cnt_le (fun z => drw e k z ∧ ¬ badV g l z = 0) (g (90 + 13 * l + 1))
          refine r_aload_n dX13_inspectNow_193 rfl 0 rfl ?_
          refine m_ref (k := 0) (j := 1) hs hs.2.1.1 dX13_inspectNow_194 fr_X13_7 rfl ?_
          refine r_iload_n dX13_inspectNow_197 rfl 1 rfl ?_
          refine r_iconst (v := nI 2) dX13_inspectNow_198 (by decide) ?_
          refine r_fnS (M2 := m_X13_at) (As := [.int (nI (l)), .int (nI (2))]) (rest := [.ref (m + 1)]) (v := some (.int (nI (90 + 13 * l + 2)))) dX13_inspectNow_199 cc_X13_inspectNow_72 rfl rfl rfl (Nat.le_of_ble_eq_true rfl) f_at rfl ?_
          refine r_iload dX13_inspectNow_202 7 rfl ?_
          refine r_iload dX13_inspectNow_204 6 rfl ?_
          refine r_icmp_leN (tgt := 213) dX13_inspectNow_206 (by decide) (by omega) (by omega) (fun h206 => ?_) (fun h206 => ?_)
          · refine r_iconst (v := nI 1) dX13_inspectNow_213 (by decide) ?_
            refine Wx.topN (show 1 = (if a < cnt (fun z => drw e k z ∧ ¬ badV g l z = 0) (g (90 + 13 * l + 1)) then 2 else 1) from (if_neg (by omega)).symm) ?_
            refine g_iast (i := 90 + 13 * l + 2) (x := if a < cnt (fun z => drw e k z ∧ ¬ badV g l z = 0) (g (90 + 13 * l + 1)) then 2 else 1) hs dX13_inspectNow_214 (by omega) ?_
            refine r_aload_n dX13_inspectNow_215 rfl 0 rfl ?_
            refine m_ref (k := 0) (j := 1) hs hs.2.1.1 dX13_inspectNow_216 fr_X13_7 rfl ?_
            refine r_iload_n dX13_inspectNow_219 rfl 1 rfl ?_
            refine r_iconst (v := nI 4) dX13_inspectNow_220 (by decide) ?_
            refine r_fnS (M2 := m_X13_at) (As := [.int (nI (l)), .int (nI (4))]) (rest := [.ref (m + 1)]) (v := some (.int (nI (90 + 13 * l + 4)))) dX13_inspectNow_221 cc_X13_inspectNow_72 rfl rfl rfl (Nat.le_of_ble_eq_true rfl) f_at rfl ?_
            refine r_iload_n dX13_inspectNow_224 rfl 3 rfl ?_
            refine g_iast (i := 90 + 13 * l + 4) (x := 1) hs dX13_inspectNow_225 (by omega) ?_
            refine r_aload_n dX13_inspectNow_226 rfl 0 rfl ?_
            refine m_ref (k := 0) (j := 1) hs hs.2.1.1 dX13_inspectNow_227 fr_X13_7 rfl ?_
            refine r_iload_n dX13_inspectNow_230 rfl 1 rfl ?_
            refine r_iconst (v := nI 5) dX13_inspectNow_231 (by decide) ?_
            refine r_fnS (M2 := m_X13_at) (As := [.int (nI (l)), .int (nI (5))]) (rest := [.ref (m + 1)]) (v := some (.int (nI (90 + 13 * l + 5)))) dX13_inspectNow_232 cc_X13_inspectNow_72 rfl rfl rfl (Nat.le_of_ble_eq_true rfl) f_at rfl ?_
            refine r_iload dX13_inspectNow_235 5 rfl ?_
            refine g_iast (i := 90 + 13 * l + 5) (x := k) hs dX13_inspectNow_237 (by omega) ?_
            refine r_aload_n dX13_inspectNow_238 rfl 0 rfl ?_
            refine m_ref (k := 0) (j := 1) hs hs.2.1.1 dX13_inspectNow_239 fr_X13_7 rfl ?_
            refine r_iload_n dX13_inspectNow_242 rfl 1 rfl ?_
            refine r_bipush (v := nI 6) dX13_inspectNow_243 (by decide) ?_
            refine r_fnS (M2 := m_X13_at) (As := [.int (nI (l)), .int (nI (6))]) (rest := [.ref (m + 1)]) (v := some (.int (nI (90 + 13 * l + 6)))) dX13_inspectNow_245 cc_X13_inspectNow_72 rfl rfl rfl (Nat.le_of_ble_eq_true rfl) f_at rfl ?_
            refine r_iload dX13_inspectNow_248 6 rfl ?_
            refine g_iast (i := 90 + 13 * l + 6) (x := a) hs dX13_inspectNow_250 (by omega) ?_
            refine r_aload_n dX13_inspectNow_251 rfl 0 rfl ?_
            refine m_ref (k := 0) (j := 1) hs hs.2.1.1 dX13_inspectNow_252 fr_X13_7 rfl ?_
            refine r_iload_n dX13_inspectNow_255 rfl 1 rfl ?_
            refine r_bipush (v := nI 7) dX13_inspectNow_256 (by decide) ?_
            refine r_fnS (M2 := m_X13_at) (As := [.int (nI (l)), .int (nI (7))]) (rest := [.ref (m + 1)]) (v := some (.int (nI (90 + 13 * l + 7)))) dX13_inspectNow_258 cc_X13_inspectNow_72 rfl rfl rfl (Nat.le_of_ble_eq_true rfl) f_at rfl ?_
            refine r_iload dX13_inspectNow_261 7 rfl ?_
            refine g_iast (i := 90 + 13 * l + 7) (x := cnt (fun z => drw e k z ∧ ¬ badV g l z = 0) (g (90 + 13 * l + 1))) hs dX13_inspectNow_263 (by omega) ?_
            refine r_aload_n dX13_inspectNow_264 rfl 0 rfl ?_
            refine m_ref (k := 0) (j := 1) hs hs.2.1.1 dX13_inspectNow_265 fr_X13_7 rfl ?_
            refine r_iload_n dX13_inspectNow_268 rfl 1 rfl ?_
            refine r_iconst (v := nI 3) dX13_inspectNow_269 (by decide) ?_
            refine r_fnS (M2 := m_X13_at) (As := [.int (nI (l)), .int (nI (3))]) (rest := [.ref (m + 1)]) (v := some (.int (nI (90 + 13 * l + 3)))) dX13_inspectNow_270 cc_X13_inspectNow_72 rfl rfl rfl (Nat.le_of_ble_eq_true rfl) f_at rfl ?_
            refine g_iald (i := 90 + 13 * l + 3) hs dX13_inspectNow_273 (by omega) ?_
            refine Wx.topN (up1_n (by omega)) ?_
            refine Wx.topN (up1_n (by omega)) ?_
            refine Wx.topN (up1_n (by omega)) ?_
            refine Wx.topN (up1_n (by omega)) ?_
            refine Wx.topN (up1_n (by omega)) ?_
            refine Wx.topN (hI _ (by omega)) ?_
            refine r_if_neN (tgt := 314) dX13_inspectNow_274 (by decide) (by omega) (fun h274 => ?_) (fun h274 => ?_)
            · refine r_aload_n dX13_inspectNow_314 rfl 0 rfl ?_
              refine m_ref (k := 0) (j := 1) hs hs.2.1.1 dX13_inspectNow_315 fr_X13_7 rfl ?_
              refine r_iload_n dX13_inspectNow_318 rfl 1 rfl ?_
              refine r_iconst (v := nI 3) dX13_inspectNow_319 (by decide) ?_
              refine r_fnS (M2 := m_X13_at) (As := [.int (nI (l)), .int (nI (3))]) (rest := [.ref (m + 1)]) (v := some (.int (nI (90 + 13 * l + 3)))) dX13_inspectNow_320 cc_X13_inspectNow_72 rfl rfl rfl (Nat.le_of_ble_eq_true rfl) f_at rfl ?_
              refine r_dup2 dX13_inspectNow_323 rfl rfl ?_
              refine g_iald (i := 90 + 13 * l + 3) hs dX13_inspectNow_324 (by omega) ?_
              refine Wx.topN (up1_n (by omega)) ?_
              refine Wx.topN (up1_n (by omega)) ?_
              refine Wx.topN (up1_n (by omega)) ?_
              refine Wx.topN (up1_n (by omega)) ?_
              refine Wx.topN (up1_n (by omega)) ?_
              refine Wx.topN (hI _ (by omega)) ?_
              refine r_iconst (v := nI 1) dX13_inspectNow_325 (by decide) ?_
              refine r_iaddN dX13_inspectNow_326 ?_
              refine g_iast (i := 90 + 13 * l + 3) (x := g (90 + 13 * l + 3) + 1) hs dX13_inspectNow_327 (by omega) ?_
              refine r_iload dX13_inspectNow_328 7 rfl ?_
              exact r_iret (ty := .int) dX13_inspectNow_330 rfl rfl ⟨rfl, x, y, rfl⟩
            · exact absurd h274 h16
          · refine r_iconst (v := nI 2) dX13_inspectNow_209 (by decide) ?_
            refine r_goto (tgt := 214) dX13_inspectNow_210 (by decide) ?_
            refine Wx.topN (show 2 = (if a < cnt (fun z => drw e k z ∧ ¬ badV g l z = 0) (g (90 + 13 * l + 1)) then 2 else 1) from (if_pos (by omega)).symm) ?_
            refine g_iast (i := 90 + 13 * l + 2) (x := if a < cnt (fun z => drw e k z ∧ ¬ badV g l z = 0) (g (90 + 13 * l + 1)) then 2 else 1) hs dX13_inspectNow_214 (by omega) ?_
            refine r_aload_n dX13_inspectNow_215 rfl 0 rfl ?_
            refine m_ref (k := 0) (j := 1) hs hs.2.1.1 dX13_inspectNow_216 fr_X13_7 rfl ?_
            refine r_iload_n dX13_inspectNow_219 rfl 1 rfl ?_
            refine r_iconst (v := nI 4) dX13_inspectNow_220 (by decide) ?_
            refine r_fnS (M2 := m_X13_at) (As := [.int (nI (l)), .int (nI (4))]) (rest := [.ref (m + 1)]) (v := some (.int (nI (90 + 13 * l + 4)))) dX13_inspectNow_221 cc_X13_inspectNow_72 rfl rfl rfl (Nat.le_of_ble_eq_true rfl) f_at rfl ?_
            refine r_iload_n dX13_inspectNow_224 rfl 3 rfl ?_
            refine g_iast (i := 90 + 13 * l + 4) (x := 1) hs dX13_inspectNow_225 (by omega) ?_
            refine r_aload_n dX13_inspectNow_226 rfl 0 rfl ?_
            refine m_ref (k := 0) (j := 1) hs hs.2.1.1 dX13_inspectNow_227 fr_X13_7 rfl ?_
            refine r_iload_n dX13_inspectNow_230 rfl 1 rfl ?_
            refine r_iconst (v := nI 5) dX13_inspectNow_231 (by decide) ?_
            refine r_fnS (M2 := m_X13_at) (As := [.int (nI (l)), .int (nI (5))]) (rest := [.ref (m + 1)]) (v := some (.int (nI (90 + 13 * l + 5)))) dX13_inspectNow_232 cc_X13_inspectNow_72 rfl rfl rfl (Nat.le_of_ble_eq_true rfl) f_at rfl ?_
            refine r_iload dX13_inspectNow_235 5 rfl ?_
            refine g_iast (i := 90 + 13 * l + 5) (x := k) hs dX13_inspectNow_237 (by omega) ?_
            refine r_aload_n dX13_inspectNow_238 rfl 0 rfl ?_
            refine m_ref (k := 0) (j := 1) hs hs.2.1.1 dX13_inspectNow_239 fr_X13_7 rfl ?_
            refine r_iload_n dX13_inspectNow_242 rfl 1 rfl ?_
            refine r_bipush (v := nI 6) dX13_inspectNow_243 (by decide) ?_
            refine r_fnS (M2 := m_X13_at) (As := [.int (nI (l)), .int (nI (6))]) (rest := [.ref (m + 1)]) (v := some (.int (nI (90 + 13 * l + 6)))) dX13_inspectNow_245 cc_X13_inspectNow_72 rfl rfl rfl (Nat.le_of_ble_eq_true rfl) f_at rfl ?_
            refine r_iload dX13_inspectNow_248 6 rfl ?_
            refine g_iast (i := 90 + 13 * l + 6) (x := a) hs dX13_inspectNow_250 (by omega) ?_
            refine r_aload_n dX13_inspectNow_251 rfl 0 rfl ?_
            refine m_ref (k := 0) (j := 1) hs hs.2.1.1 dX13_inspectNow_252 fr_X13_7 rfl ?_
            refine r_iload_n dX13_inspectNow_255 rfl 1 rfl ?_
            refine r_bipush (v := nI 7) dX13_inspectNow_256 (by decide) ?_
            refine r_fnS (M2 := m_X13_at) (As := [.int (nI (l)), .int (nI (7))]) (rest := [.ref (m + 1)]) (v := some (.int (nI (90 + 13 * l + 7)))) dX13_inspectNow_258 cc_X13_inspectNow_72 rfl rfl rfl (Nat.le_of_ble_eq_true rfl) f_at rfl ?_
            refine r_iload dX13_inspectNow_261 7 rfl ?_
            refine g_iast (i := 90 + 13 * l + 7) (x := cnt (fun z => drw e k z ∧ ¬ badV g l z = 0) (g (90 + 13 * l + 1))) hs dX13_inspectNow_263 (by omega) ?_
            refine r_aload_n dX13_inspectNow_264 rfl 0 rfl ?_
            refine m_ref (k := 0) (j := 1) hs hs.2.1.1 dX13_inspectNow_265 fr_X13_7 rfl ?_
            refine r_iload_n dX13_inspectNow_268 rfl 1 rfl ?_
            refine r_iconst (v := nI 3) dX13_inspectNow_269 (by decide) ?_
            refine r_fnS (M2 := m_X13_at) (As := [.int (nI (l)), .int (nI (3))]) (rest := [.ref (m + 1)]) (v := some (.int (nI (90 + 13 * l + 3)))) dX13_inspectNow_270 cc_X13_inspectNow_72 rfl rfl rfl (Nat.le_of_ble_eq_true rfl) f_at rfl ?_
            refine g_iald (i := 90 + 13 * l + 3) hs dX13_inspectNow_273 (by omega) ?_
            refine Wx.topN (up1_n (by omega)) ?_
            refine Wx.topN (up1_n (by omega)) ?_
            refine Wx.topN (up1_n (by omega)) ?_
            refine Wx.topN (up1_n (by omega)) ?_
            refine Wx.topN (up1_n (by omega)) ?_
            refine Wx.topN (hI _ (by omega)) ?_
            refine r_if_neN (tgt := 314) dX13_inspectNow_274 (by decide) (by omega) (fun h274_1 => ?_) (fun h274_1 => ?_)
            · refine r_aload_n dX13_inspectNow_314 rfl 0 rfl ?_
              refine m_ref (k := 0) (j := 1) hs hs.2.1.1 dX13_inspectNow_315 fr_X13_7 rfl ?_
              refine r_iload_n dX13_inspectNow_318 rfl 1 rfl ?_
              refine r_iconst (v := nI 3) dX13_inspectNow_319 (by decide) ?_
              refine r_fnS (M2 := m_X13_at) (As := [.int (nI (l)), .int (nI (3))]) (rest := [.ref (m + 1)]) (v := some (.int (nI (90 + 13 * l + 3)))) dX13_inspectNow_320 cc_X13_inspectNow_72 rfl rfl rfl (Nat.le_of_ble_eq_true rfl) f_at rfl ?_
              refine r_dup2 dX13_inspectNow_323 rfl rfl ?_
              refine g_iald (i := 90 + 13 * l + 3) hs dX13_inspectNow_324 (by omega) ?_
              refine Wx.topN (up1_n (by omega)) ?_
              refine Wx.topN (up1_n (by omega)) ?_
              refine Wx.topN (up1_n (by omega)) ?_
              refine Wx.topN (up1_n (by omega)) ?_
              refine Wx.topN (up1_n (by omega)) ?_
              refine Wx.topN (hI _ (by omega)) ?_
              refine r_iconst (v := nI 1) dX13_inspectNow_325 (by decide) ?_
              refine r_iaddN dX13_inspectNow_326 ?_
              refine g_iast (i := 90 + 13 * l + 3) (x := g (90 + 13 * l + 3) + 1) hs dX13_inspectNow_327 (by omega) ?_
              refine r_iload dX13_inspectNow_328 7 rfl ?_
              exact r_iret (ty := .int) dX13_inspectNow_330 rfl rfl ⟨rfl, x, y, rfl⟩
            · exact absurd h274_1 h16
        · have hcu : CauC (insI g l c e k u) l u (g (22 + 10 * g (90 + 13 * l + 0) + 1)) (c u) := CauC.congr hl (fun i q1 q2 => hI i (by omega)) eW (hI _ (by omega)) (hca u (by omega))
          have hwb2 : WB (blmS g (insI g l c e k u) l u c) := WB.blm (hc6 u) hwb
          refine r_aload_n dX13_inspectNow_141 rfl 0 rfl ?_
          refine m_ref (k := 9) (j := 5) hs hs.2.1.2.2.2.2.1 dX13_inspectNow_142 fr_X13_23 rfl ?_
          refine r_iload dX13_inspectNow_145 8 rfl ?_
          refine o_zald (j := 5) (n := 200) (i := u) (by decide) hs rw5 dX13_inspectNow_147 (by omega) (by decide) ?_
          refine Wx.top (show l78 (drV V (g (90 + 13 * l + 1)) e k) _ _ 5 u = bI (drw e k u) by rw [l78_n (Or.inl (by decide)), drV_r (by omega)]; rfl) ?_
          refine r_if_eqB (tgt := 187) dX13_inspectNow_148 (by decide) (fun h148 => ?_) (fun h148 => ?_)
          · refine r_iincN (k := 1) (lv' := [(8, .int (nI (u + 1))), (0, .ref (m)), (1, .int (nI (l))), (2, .int (nI (22 + 10 * g (90 + 13 * l + 0)))), (3, .int (nI (1))), (4, .int (nI (n))), (5, .int (nI (k))), (6, .int (nI (a))), (7, .int (nI (cnt (fun z => drw e k z ∧ ¬ badV g l z = 0) u)))]) dX13_inspectNow_187 (by decide) 8 rfl (by decide) rfl ?_
            refine r_goto (tgt := 131) dX13_inspectNow_190 (by decide) ?_
            refine Wx.sub [1, 2, 3, 4, 5, 6, 7, 8, 0] rfl ?_
            exact next_2 _ _ (by omega) ⟨x, y, congrArg (fun g => rput T m (sg _ g) od) (show (insI g l c e k u) = insS g (insI g l c e k u) l u c (drw e k u) from (if_neg h148).symm), by rw [cnt_f (p := fun z => drw e k z ∧ ¬ badV g l z = 0) (fun q => h148 q.1)] <;> rfl⟩
          · refine r_aload_n dX13_inspectNow_151 rfl 0 rfl ?_
            refine r_iload_n dX13_inspectNow_152 rfl 1 rfl ?_
            refine r_iload dX13_inspectNow_153 8 rfl ?_
            refine r_fnV (M2 := m_X13_isBad) (As := [.int (nI (l)), .int (nI (u))]) (rest := []) (v := some (.int (bI (¬ badV g l u = 0)))) dX13_inspectNow_155 cc_X13_inspectNow_96 rfl rfl rfl (Nat.le_of_ble_eq_true rfl) hs.1 rfl rfl (by decide) (Fn.eq (g_isBad hs hwb hl (by omega) (by rw [eP]; exact hp) (by rw [eP, eI]; exact hk1)) (congrArg (fun x => some (Value.int x)) (bI_iff (show badG (insI g l c e k u) l u ↔ ¬ badV g l u = 0 by unfold badG badV; rw [eP, eI, eW]))) rfl) rfl ?_
            refine r_if_eqB (tgt := 187) dX13_inspectNow_158 (by decide) (fun h158 => ?_) (fun h158 => ?_)
            · refine r_iincN (k := 1) (lv' := [(8, .int (nI (u + 1))), (0, .ref (m)), (1, .int (nI (l))), (2, .int (nI (22 + 10 * g (90 + 13 * l + 0)))), (3, .int (nI (1))), (4, .int (nI (n))), (5, .int (nI (k))), (6, .int (nI (a))), (7, .int (nI (cnt (fun z => drw e k z ∧ ¬ badV g l z = 0) u)))]) dX13_inspectNow_187 (by decide) 8 rfl (by decide) rfl ?_
              refine r_goto (tgt := 131) dX13_inspectNow_190 (by decide) ?_
              refine Wx.sub [1, 2, 3, 4, 5, 6, 7, 8, 0] rfl ?_
              exact next_2 _ _ (by omega) ⟨x, y, congrArg (fun g => rput T m (sg _ g) od) (show (insI g l c e k u) = insS g (insI g l c e k u) l u c (drw e k u) from ((if_pos h148).trans (if_pos (Classical.not_not.mp h158))).symm), by rw [cnt_f (p := fun z => drw e k z ∧ ¬ badV g l z = 0) (fun q => h158 q.2)] <;> rfl⟩
            · refine r_iincN (k := 1) (lv' := [(7, .int (nI (cnt (fun z => drw e k z ∧ ¬ badV g l z = 0) u + 1))), (0, .ref (m)), (1, .int (nI (l))), (2, .int (nI (22 + 10 * g (90 + 13 * l + 0)))), (3, .int (nI (1))), (4, .int (nI (n))), (5, .int (nI (k))), (6, .int (nI (a))), (8, .int (nI (u)))]) dX13_inspectNow_161 (by decide) 7 rfl (by decide) rfl ?_
              refine r_aload_n dX13_inspectNow_164 rfl 1 rfl ?_
              refine r_iload_n dX13_inspectNow_165 rfl 2 rfl ?_
              refine r_iload dX13_inspectNow_166 8 rfl ?_
              refine r_aload_n dX13_inspectNow_168 rfl 1 rfl ?_
              refine m_ref (k := 0) (j := 1) hs hs.2.1.1 dX13_inspectNow_169 fr_X13_7 rfl ?_
              refine r_iload_n dX13_inspectNow_172 rfl 3 rfl ?_
              refine r_iconst (v := nI 1) dX13_inspectNow_173 (by decide) ?_
              refine r_iaddN dX13_inspectNow_174 ?_
              refine g_iald (i := 22 + 10 * g (90 + 13 * l + 0) + 1) hs dX13_inspectNow_175 (by omega) ?_
              refine Wx.topN (hI _ (by omega)) ?_
              refine r_fxV (M2 := m_X13_blames) (As := [.int (nI (l)), .int (nI (u)), .int (nI (g (22 + 10 * g (90 + 13 * l + 0) + 1)))]) (rest := []) (v := none) dX13_inspectNow_176 cc_X13_inspectNow_227 rfl rfl rfl (Nat.le_of_ble_eq_true rfl) hs.1 rfl rfl (by decide) (g_blames (c := c u) hs hwb hl (by omega) hk1 hcu) rfl (fun x_1 y_1 => ?_)
              refine Wx.st' (S' := rput T m (sg (l78 (drV V (g (90 + 13 * l + 1)) e k) x_1 y_1) (blmS g (insI g l c e k u) l u c)) od) (by rw [l78_ll] <;> rfl) ?_
              refine r_aload_n dX13_inspectNow_179 rfl 1 rfl ?_
              refine r_iload_n dX13_inspectNow_180 rfl 2 rfl ?_
              refine r_iload dX13_inspectNow_181 8 rfl ?_
              refine r_iconst (v := nI 1) dX13_inspectNow_183 (by decide) ?_
              refine r_fnV (M2 := m_X13_becomes) (As := [.int (nI (l)), .int (nI (u)), .int (nI (1))]) (rest := []) (v := none) dX13_inspectNow_184 cc_X13_inspectNow_187 rfl rfl rfl (Nat.le_of_ble_eq_true rfl) hs.1 rfl rfl (by decide) (g_becomes hs hwb2 (by omega) (by omega) (by omega)) rfl ?_
              refine r_iincN (k := 1) (lv' := [(8, .int (nI (u + 1))), (7, .int (nI (cnt (fun z => drw e k z ∧ ¬ badV g l z = 0) u + 1))), (0, .ref (m)), (1, .int (nI (l))), (2, .int (nI (22 + 10 * g (90 + 13 * l + 0)))), (3, .int (nI (1))), (4, .int (nI (n))), (5, .int (nI (k))), (6, .int (nI (a)))]) dX13_inspectNow_187 (by decide) 8 rfl (by decide) rfl ?_
              refine r_goto (tgt := 131) dX13_inspectNow_190 (by decide) ?_
              refine Wx.sub [2, 3, 4, 5, 6, 7, 8, 1, 0] rfl ?_
              exact next_2 _ _ (by omega) ⟨x_1, y_1, congrArg (fun g => rput T m (sg _ g) od) (show (becG (blmS g (insI g l c e k u) l u c) l u 1) = insS g (insI g l c e k u) l u c (drw e k u) from ((if_pos h148).trans (if_neg h158)).symm), by rw [cnt_t (p := fun z => drw e k z ∧ ¬ badV g l z = 0) ⟨h148, h158⟩] <;> rfl⟩
      · obtain ⟨d1, d2, d3, d4⟩ := hD k (by omega)
        refine r_aload_n dX13_inspectNow_99 rfl 0 rfl ?_
        refine m_ref (k := 9) (j := 5) hs hs.2.1.2.2.2.2.1 dX13_inspectNow_100 fr_X13_23 rfl ?_
        refine r_aload_n dX13_inspectNow_103 rfl 0 rfl ?_
        refine r_iload_n dX13_inspectNow_104 rfl 1 rfl ?_
        refine r_aload_n dX13_inspectNow_105 rfl 0 rfl ?_
        refine r_iload dX13_inspectNow_106 4 rfl ?_
        refine r_iload dX13_inspectNow_108 7 rfl ?_
        refine r_isubN dX13_inspectNow_110 (by omega) ?_
        refine r_fnV (M2 := m_X13_draws) (As := [.int (nI (n - k))]) (rest := [.int (nI (l)), .ref (m), .ref (m + 5)]) (v := some (.int (nI (sdI g (k + 1) / 65536 % (n - k))))) dX13_inspectNow_111 cc_X13_inspectNow_221 rfl rfl rfl (Nat.le_of_ble_eq_true rfl) hs.1 rfl rfl (by decide) (Fn.eq (g_draws hs (n := n - k) (by omega) (by omega)) (show some (Value.int (nI (sdN ((up1 g 3 (sdI g k)) 3) / 65536 % (n - k)))) = some (Value.int (nI (sdI g (k + 1) / 65536 % (n - k)))) by rw [up1_s]; rfl) (show rput T m (sg _ (up1 (up1 g 3 (sdI g k)) 3 (sdN ((up1 g 3 (sdI g k)) 3)))) od = rput T m (sg (drV V (g (90 + 13 * l + 1)) e k) (up1 g 3 (sdI g (k + 1)))) od by rw [up1_s, up1_up]; rfl)) rfl ?_
        refine r_fnV (M2 := m_X13_drawable) (As := [.int (nI (l)), .int (nI (sdI g (k + 1) / 65536 % (n - k)))]) (rest := [.ref (m + 5)]) (v := some (.int (nI (e k)))) dX13_inspectNow_114 cc_X13_inspectNow_224 rfl rfl rfl (Nat.le_of_ble_eq_true rfl) hs.1 rfl rfl (by decide) (g_drawable (e := e k) hs (WB.lo (by omega) hb) hl (by omega) (by rw [up1_n (by omega)]; exact d2) (by rw [drV_r d1, bI_f d3]; rfl) ((cnt_congr (fun v hv => by rw [up1_n (by omega), drV_r (by omega), bI_0])).trans d4)) rfl ?_
        refine r_iconst (v := nI 1) dX13_inspectNow_117 (by decide) ?_
        refine o_zast (j := 5) (n := 200) (i := e k) (by decide) hs rw5 dX13_inspectNow_118 (by omega) (by decide) (by decide) ?_
        refine r_iincN (k := 1) (lv' := [(7, .int (nI (k + 1))), (0, .ref (m)), (1, .int (nI (l))), (2, .int (nI (22 + 10 * g (90 + 13 * l + 0)))), (3, .int (nI (1))), (4, .int (nI (n))), (5, .int (nI (s))), (6, .int (nI (a)))]) dX13_inspectNow_119 (by decide) 7 rfl (by decide) rfl ?_
        refine r_goto (tgt := 92) dX13_inspectNow_122 (by decide) ?_
        refine Wx.sub [1, 2, 3, 4, 5, 6, 7, 0] rfl ?_
        have n2 := next_1 (by omega)
        rw [← drV_s d1] at n2
        exact n2
    · refine r_aload_n dX13_inspectNow_75 rfl 0 rfl ?_
      refine m_ref (k := 9) (j := 5) hs hs.2.1.2.2.2.2.1 dX13_inspectNow_76 fr_X13_23 rfl ?_
      refine r_iload dX13_inspectNow_79 7 rfl ?_
      refine r_iconst (v := nI 0) dX13_inspectNow_81 (by decide) ?_
      refine o_zast (j := 5) (n := 200) (i := u) (by decide) hs rw5 dX13_inspectNow_82 (by omega) (by decide) (by decide) ?_
      refine r_iincN (k := 1) (lv' := [(7, .int (nI (u + 1))), (0, .ref (m)), (1, .int (nI (l))), (2, .int (nI (22 + 10 * g (90 + 13 * l + 0)))), (3, .int (nI (1))), (4, .int (nI (n))), (5, .int (nI (s))), (6, .int (nI (a)))]) dX13_inspectNow_83 (by decide) 7 rfl (by decide) rfl ?_
      refine r_goto (tgt := 65) dX13_inspectNow_86 (by decide) ?_
      refine Wx.sub [1, 2, 3, 4, 5, 6, 7, 0] rfl ?_
      have n2 := next (by omega)
      rw [← drV_z] at n2
      exact n2
  · exact absurd h16 hF
