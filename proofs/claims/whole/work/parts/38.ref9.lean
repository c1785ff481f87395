theorem cnt_mono {p : Nat → Prop} {a : Nat} : ∀ {b : Nat}, a ≤ b → cnt p a ≤ cnt p b
  | 0, h => by
    obtain rfl : a = 0 := by omega
    exact Nat.le_refl _
  | b + 1, h => by
    by_cases e : a = b + 1
    · rw [e]; exact Nat.le_refl _
    · have ih := cnt_mono (p := p) (b := b) (by omega : a ≤ b)
      show cnt p a ≤ cnt p b + _
      omega
set_option maxRecDepth 4000 in
theorem g_drawable {G : GI} {T : Hp} {m : Nat} {V : RVal} {g : Nat → Nat} {od : Nat → UInt64} (hs : RS T m)  (hb : WB g) {l k e : Nat} (hl : l < 24) (he : e < 200) (h0e : sW (g (402 + 2 * (200 * l + e))) = 0) (hd : V 5 e = 0) (hk : cnt (fun v => sW (g (402 + 2 * (200 * l + v))) = 0 ∧ V 5 v = 0) e = k) : Fn m_X13_drawable G [.ref (m), .int (nI (l)), .int (nI (k))] (rput T m (sg V g) od) (some (.int (nI (e)))) (rput T m (sg V g) od) := by
  refine Cn.of rfl (by decide) (Nat.le_of_ble_eq_true rfl) (fun hN hM => ?_)
  show Wx _ G _ 0 [(0, .ref (m)), (1, .int (nI (l))), (2, .int (nI (k)))] [] _
  refine r_iload_n dX13_drawable_0 rfl 2 rfl ?_
  refine r_istore_n (lv' := [(3, .int (nI (k))), (0, .ref (m)), (1, .int (nI (l))), (2, .int (nI (k)))]) dX13_drawable_1 rfl (by decide) rfl ?_
  refine r_iconst (v := nI 0) dX13_drawable_2 (by decide) ?_
  refine r_istore (lv' := [(4, .int (nI (0))), (3, .int (nI (k))), (0, .ref (m)), (1, .int (nI (l))), (2, .int (nI (k)))]) dX13_drawable_3 (by decide) rfl ?_
  refine Wx.sub [2, 3, 4, 1, 0] rfl ?_
  refine Wx.loop (fun u => (rput T m (sg V g) od)) (fun u => [(0, .ref (m)), (1, .int (nI (l))), (2, .int (nI (k))), (3, .int (nI (k - cnt (fun v => sW (g (402 + 2 * (200 * l + v))) = 0 ∧ V 5 v = 0) u))), (4, .int (nI (u)))]) (e) (0) (Nat.zero_le _) (fun u hge hle next => ?_)
  show Wx _ G ((rput T m (sg V g) od)) 5 [(0, .ref (m)), (1, .int (nI (l))), (2, .int (nI (k))), (3, .int (nI (k - cnt (fun v => sW (g (402 + 2 * (200 * l + v))) = 0 ∧ V 5 v = 0) u))), (4, .int (nI (u)))] [] _
  refine r_aload_n dX13_drawable_5 rfl 0 rfl ?_
  refine r_iload_n dX13_drawable_6 rfl 1 rfl ?_
  refine r_iload dX13_drawable_7 4 rfl ?_
  refine r_fnV (M2 := m_X13_state) (As := [.int (nI (l)), .int (nI (u))]) (rest := []) (v := some (.int (nI (sW (g (402 + 2 * (200 * l + u))))))) dX13_drawable_9 cc_X13_drawable_93 rfl rfl rfl (Nat.le_of_ble_eq_true rfl) hs.1 rfl rfl (by decide) (g_state hs hb (by (first | omega | (have := sW_lt (g (402 + 2 * (200 * l + u))); omega) | (have := cnt_le (fun v => sW (g (402 + 2 * (200 * l + v))) = 0 ∧ V 5 v = 0) e; omega))) (by (first | omega | (have := sW_lt (g (402 + 2 * (200 * l + u))); omega) | (have := cnt_le (fun v => sW (g (402 + 2 * (200 * l + v))) = 0 ∧ V 5 v = 0) e; omega)))) rfl ?_
  refine r_if_neN (tgt := 29) dX13_drawable_12 (by decide) (by (first | omega | (have := sW_lt (g (402 + 2 * (200 * l + u))); omega) | (have := cnt_le (fun v => sW (g (402 + 2 * (200 * l + v))) = 0 ∧ V 5 v = 0) e; omega))) (fun h12 => ?_) (fun h12 => ?_)
  · refine r_iload_n dX13_drawable_29 rfl 3 rfl ?_
    refine r_aload_n dX13_drawable_30 rfl 0 rfl ?_
    refine r_iload_n dX13_drawable_31 rfl 1 rfl ?_
    refine r_iload dX13_drawable_32 4 rfl ?_
    refine r_fnV (M2 := m_X13_state) (As := [.int (nI (l)), .int (nI (u))]) (rest := [.int (nI (k - cnt (fun v => sW (g (402 + 2 * (200 * l + v))) = 0 ∧ V 5 v = 0) u))]) (v := some (.int (nI (sW (g (402 + 2 * (200 * l + u))))))) dX13_drawable_34 cc_X13_drawable_93 rfl rfl rfl (Nat.le_of_ble_eq_true rfl) hs.1 rfl rfl (by decide) (g_state hs hb (by (first | omega | (have := sW_lt (g (402 + 2 * (200 * l + u))); omega) | (have := cnt_le (fun v => sW (g (402 + 2 * (200 * l + v))) = 0 ∧ V 5 v = 0) e; omega))) (by (first | omega | (have := sW_lt (g (402 + 2 * (200 * l + u))); omega) | (have := cnt_le (fun v => sW (g (402 + 2 * (200 * l + v))) = 0 ∧ V 5 v = 0) e; omega)))) rfl ?_
    refine r_if_neN (tgt := 54) dX13_drawable_37 (by decide) (by (first | omega | (have := sW_lt (g (402 + 2 * (200 * l + u))); omega) | (have := cnt_le (fun v => sW (g (402 + 2 * (200 * l + v))) = 0 ∧ V 5 v = 0) e; omega))) (fun h37 => ?_) (fun h37 => ?_)
    · refine r_iconst (v := nI 0) dX13_drawable_54 (by decide) ?_
      refine r_isubN dX13_drawable_55 (by (first | omega | (have := sW_lt (g (402 + 2 * (200 * l + u))); omega) | (have := cnt_le (fun v => sW (g (402 + 2 * (200 * l + v))) = 0 ∧ V 5 v = 0) e; omega))) ?_
      refine r_istore_n (lv' := [(3, .int (nI ((k - cnt (fun v => sW (g (402 + 2 * (200 * l + v))) = 0 ∧ V 5 v = 0) u) - 0))), (0, .ref (m)), (1, .int (nI (l))), (2, .int (nI (k))), (4, .int (nI (u)))]) dX13_drawable_56 rfl (by decide) rfl ?_
      refine r_iincN (k := 1) (lv' := [(4, .int (nI (u + 1))), (3, .int (nI ((k - cnt (fun v => sW (g (402 + 2 * (200 * l + v))) = 0 ∧ V 5 v = 0) u) - 0))), (0, .ref (m)), (1, .int (nI (l))), (2, .int (nI (k)))]) dX13_drawable_57 (by decide) 4 rfl (by decide) rfl ?_
      refine r_goto (tgt := 5) dX13_drawable_60 (by decide) ?_
      refine Wx.sub [2, 3, 4, 1, 0] rfl ?_
      have n2 := next (by have : u ≠ e := fun q => h12 (by rw [q]; exact h0e); omega)
      rw [cnt_f (p := fun v => sW (g (402 + 2 * (200 * l + v))) = 0 ∧ V 5 v = 0) (fun q => h12 q.1)] at n2
      exact n2
    · exact absurd h37 h12
  · refine r_aload_n dX13_drawable_15 rfl 0 rfl ?_
    refine m_ref (k := 9) (j := 5) hs hs.2.1.2.2.2.2.1 dX13_drawable_16 fr_X13_23 rfl ?_
    refine r_iload dX13_drawable_19 4 rfl ?_
    refine o_zald (j := 5) (n := 200) (i := u) (by decide) hs rw5 dX13_drawable_21 (by (first | omega | (have := sW_lt (g (402 + 2 * (200 * l + u))); omega) | (have := cnt_le (fun v => sW (g (402 + 2 * (200 * l + v))) = 0 ∧ V 5 v = 0) e; omega))) (by decide) ?_
    refine r_if_ne (tgt := 29) dX13_drawable_22 (by decide) (fun h22 => ?_) (fun h22 => ?_)
    · refine r_iload_n dX13_drawable_29 rfl 3 rfl ?_
      refine r_aload_n dX13_drawable_30 rfl 0 rfl ?_
      refine r_iload_n dX13_drawable_31 rfl 1 rfl ?_
      refine r_iload dX13_drawable_32 4 rfl ?_
      refine r_fnV (M2 := m_X13_state) (As := [.int (nI (l)), .int (nI (u))]) (rest := [.int (nI (k - cnt (fun v => sW (g (402 + 2 * (200 * l + v))) = 0 ∧ V 5 v = 0) u))]) (v := some (.int (nI (sW (g (402 + 2 * (200 * l + u))))))) dX13_drawable_34 cc_X13_drawable_93 rfl rfl rfl (Nat.le_of_ble_eq_true rfl) hs.1 rfl rfl (by decide) (g_state hs hb (by (first | omega | (have := sW_lt (g (402 + 2 * (200 * l + u))); omega) | (have := cnt_le (fun v => sW (g (402 + 2 * (200 * l + v))) = 0 ∧ V 5 v = 0) e; omega))) (by (first | omega | (have := sW_lt (g (402 + 2 * (200 * l + u))); omega) | (have := cnt_le (fun v => sW (g (402 + 2 * (200 * l + v))) = 0 ∧ V 5 v = 0) e; omega)))) rfl ?_
      refine r_if_neN (tgt := 54) dX13_drawable_37 (by decide) (by (first | omega | (have := sW_lt (g (402 + 2 * (200 * l + u))); omega) | (have := cnt_le (fun v => sW (g (402 + 2 * (200 * l + v))) = 0 ∧ V 5 v = 0) e; omega))) (fun h37_1 => ?_) (fun h37_1 => ?_)
      · exact absurd h12 h37_1
      · refine r_aload_n dX13_drawable_40 rfl 0 rfl ?_
        refine m_ref (k := 9) (j := 5) hs hs.2.1.2.2.2.2.1 dX13_drawable_41 fr_X13_23 rfl ?_
        refine r_iload dX13_drawable_44 4 rfl ?_
        refine o_zald (j := 5) (n := 200) (i := u) (by decide) hs rw5 dX13_drawable_46 (by (first | omega | (have := sW_lt (g (402 + 2 * (200 * l + u))); omega) | (have := cnt_le (fun v => sW (g (402 + 2 * (200 * l + v))) = 0 ∧ V 5 v = 0) e; omega))) (by decide) ?_
        refine r_if_ne (tgt := 54) dX13_drawable_47 (by decide) (fun h47 => ?_) (fun h47 => ?_)
        · refine r_iconst (v := nI 0) dX13_drawable_54 (by decide) ?_
          refine r_isubN dX13_drawable_55 (by (first | omega | (have := sW_lt (g (402 + 2 * (200 * l + u))); omega) | (have := cnt_le (fun v => sW (g (402 + 2 * (200 * l + v))) = 0 ∧ V 5 v = 0) e; omega))) ?_
          refine r_istore_n (lv' := [(3, .int (nI ((k - cnt (fun v => sW (g (402 + 2 * (200 * l + v))) = 0 ∧ V 5 v = 0) u) - 0))), (0, .ref (m)), (1, .int (nI (l))), (2, .int (nI (k))), (4, .int (nI (u)))]) dX13_drawable_56 rfl (by decide) rfl ?_
          refine r_iincN (k := 1) (lv' := [(4, .int (nI (u + 1))), (3, .int (nI ((k - cnt (fun v => sW (g (402 + 2 * (200 * l + v))) = 0 ∧ V 5 v = 0) u) - 0))), (0, .ref (m)), (1, .int (nI (l))), (2, .int (nI (k)))]) dX13_drawable_57 (by decide) 4 rfl (by decide) rfl ?_
          refine r_goto (tgt := 5) dX13_drawable_60 (by decide) ?_
          refine Wx.sub [2, 3, 4, 1, 0] rfl ?_
          have n2 := next (by have : u ≠ e := fun q => h22 (by rw [q]; exact hd); omega)
          rw [cnt_f (p := fun v => sW (g (402 + 2 * (200 * l + v))) = 0 ∧ V 5 v = 0) (fun q => h22 q.2)] at n2
          exact n2
        · exact absurd h47 h22
    · refine r_iload_n dX13_drawable_25 rfl 3 rfl ?_
      refine r_if_leN (tgt := 63) dX13_drawable_26 (by decide) (by (first | omega | (have := sW_lt (g (402 + 2 * (200 * l + u))); omega) | (have := cnt_le (fun v => sW (g (402 + 2 * (200 * l + v))) = 0 ∧ V 5 v = 0) e; omega))) (fun h26 => ?_) (fun h26 => ?_)
      · refine r_iload dX13_drawable_63 4 rfl ?_
        obtain rfl : u = e := Nat.le_antisymm hle (Nat.le_of_not_lt fun hq => by
          have h1 := cnt_mono (p := fun v => sW (g (402 + 2 * (200 * l + v))) = 0 ∧ V 5 v = 0) (show u + 1 ≤ e by omega)
          rw [cnt_t (p := fun v => sW (g (402 + 2 * (200 * l + v))) = 0 ∧ V 5 v = 0) ⟨h12, h22⟩, hk] at h1
          have h2 := h26
          omega)
        exact r_iret (ty := .int) dX13_drawable_65 rfl rfl ⟨rfl, rfl⟩
      · refine r_iload_n dX13_drawable_29 rfl 3 rfl ?_
        refine r_aload_n dX13_drawable_30 rfl 0 rfl ?_
        refine r_iload_n dX13_drawable_31 rfl 1 rfl ?_
        refine r_iload dX13_drawable_32 4 rfl ?_
        refine r_fnV (M2 := m_X13_state) (As := [.int (nI (l)), .int (nI (u))]) (rest := [.int (nI (k - cnt (fun v => sW (g (402 + 2 * (200 * l + v))) = 0 ∧ V 5 v = 0) u))]) (v := some (.int (nI (sW (g (402 + 2 * (200 * l + u))))))) dX13_drawable_34 cc_X13_drawable_93 rfl rfl rfl (Nat.le_of_ble_eq_true rfl) hs.1 rfl rfl (by decide) (g_state hs hb (by (first | omega | (have := sW_lt (g (402 + 2 * (200 * l + u))); omega) | (have := cnt_le (fun v => sW (g (402 + 2 * (200 * l + v))) = 0 ∧ V 5 v = 0) e; omega))) (by (first | omega | (have := sW_lt (g (402 + 2 * (200 * l + u))); omega) | (have := cnt_le (fun v => sW (g (402 + 2 * (200 * l + v))) = 0 ∧ V 5 v = 0) e; omega)))) rfl ?_
        refine r_if_neN (tgt := 54) dX13_drawable_37 (by decide) (by (first | omega | (have := sW_lt (g (402 + 2 * (200 * l + u))); omega) | (have := cnt_le (fun v => sW (g (402 + 2 * (200 * l + v))) = 0 ∧ V 5 v = 0) e; omega))) (fun h37_2 => ?_) (fun h37_2 => ?_)
        · exact absurd h12 h37_2
        · refine r_aload_n dX13_drawable_40 rfl 0 rfl ?_
          refine m_ref (k := 9) (j := 5) hs hs.2.1.2.2.2.2.1 dX13_drawable_41 fr_X13_23 rfl ?_
          refine r_iload dX13_drawable_44 4 rfl ?_
          refine o_zald (j := 5) (n := 200) (i := u) (by decide) hs rw5 dX13_drawable_46 (by (first | omega | (have := sW_lt (g (402 + 2 * (200 * l + u))); omega) | (have := cnt_le (fun v => sW (g (402 + 2 * (200 * l + v))) = 0 ∧ V 5 v = 0) e; omega))) (by decide) ?_
          refine r_if_ne (tgt := 54) dX13_drawable_47 (by decide) (fun h47_1 => ?_) (fun h47_1 => ?_)
          · exact absurd h22 h47_1
          · refine r_iconst (v := nI 1) dX13_drawable_50 (by decide) ?_
            refine r_goto (tgt := 55) dX13_drawable_51 (by decide) ?_
            refine r_isubN dX13_drawable_55 (by (first | omega | (have := sW_lt (g (402 + 2 * (200 * l + u))); omega) | (have := cnt_le (fun v => sW (g (402 + 2 * (200 * l + v))) = 0 ∧ V 5 v = 0) e; omega))) ?_
            refine r_istore_n (lv' := [(3, .int (nI ((k - cnt (fun v => sW (g (402 + 2 * (200 * l + v))) = 0 ∧ V 5 v = 0) u) - 1))), (0, .ref (m)), (1, .int (nI (l))), (2, .int (nI (k))), (4, .int (nI (u)))]) dX13_drawable_56 rfl (by decide) rfl ?_
            refine r_iincN (k := 1) (lv' := [(4, .int (nI (u + 1))), (3, .int (nI ((k - cnt (fun v => sW (g (402 + 2 * (200 * l + v))) = 0 ∧ V 5 v = 0) u) - 1))), (0, .ref (m)), (1, .int (nI (l))), (2, .int (nI (k)))]) dX13_drawable_57 (by decide) 4 rfl (by decide) rfl ?_
            refine r_goto (tgt := 5) dX13_drawable_60 (by decide) ?_
            refine Wx.sub [2, 3, 4, 1, 0] rfl ?_
            have n2 := next (by have hne : u ≠ e := fun q => (by rw [q, hk] at h26; omega); omega)
            rw [cnt_t (p := fun v => sW (g (402 + 2 * (200 * l + v))) = 0 ∧ V 5 v = 0) ⟨h12, h22⟩, ← Nat.sub_sub] at n2
            exact n2
