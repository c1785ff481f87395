theorem us_am : ∀ s : Nat, s < 32 → (((nI s).toUInt32 &&& Int32.toUInt32 31).toBitVec % 32).toNat = s := by decide +kernel
theorem r_iushrN {M : MI} {G : GI} {S : Hp} {pc : Nat} {lv : List (Nat × Value)} {st : List Value} {Q : OV → Hp → Prop} {a s : Nat} (hd : decode (mB M) pc = .ok (.iushr, 1)) (ha : a < 2 ^ 32) (hs : s < 32) (kk : Wx M G S (pc + 1) lv (.int (nI (a / 2 ^ s)) :: st) Q) : Wx M G S pc lv (.int (nI s) :: .int (nI a) :: st) Q := r_iushr hd (by rw [pk_ushrN ha (nI s) s (us_am s hs)]; exact kk)
def byN (n k : Nat) : Nat := n / 2 ^ (24 - 8 * k) % 256
theorem byN_lt (n k : Nat) : byN n k < 256 := Nat.mod_lt _ (by decide)
set_option maxRecDepth 4000 in
theorem g_byteOf {G : GI} {S : Hp} {n k : Nat} (hn : n < 2 ^ 32) (hk : k < 4) : Fn m_X13_byteOf G [.int (nI n), .int (nI k)] S (some (.int (nI (byN n k)))) S := by
  refine Cn.of rfl (by decide) (Nat.le_of_ble_eq_true rfl) (fun hN hM => ?_)
  show Wx _ G _ 0 [(0, .int (nI (n))), (1, .int (nI (k)))] [] _
  refine r_iload_n dX13_byteOf_0 rfl 0 rfl ?_
  refine r_bipush (v := nI 24) dX13_byteOf_1 (by decide) ?_
  refine r_bipush (v := nI 8) dX13_byteOf_3 (by decide) ?_
  refine r_iload_n dX13_byteOf_5 rfl 1 rfl ?_
  refine r_imulN dX13_byteOf_6 ?_
  refine r_isubN dX13_byteOf_7 (by omega) ?_
  refine r_iushrN dX13_byteOf_8 hn (by omega) ?_
  refine r_sipush (v := nI 255) dX13_byteOf_9 (by decide) ?_
  refine r_iandM (k := 8) (c := 256) rfl rfl dX13_byteOf_12 (by decide) ?_
  exact r_iret (ty := .int) dX13_byteOf_13 rfl rfl ⟨rfl, rfl⟩
noncomputable def byC (n : Nat) : Nat → Nat := cnt (fun k => ¬ byN n k = 0)
noncomputable def txV (V : RVal) (L n : Nat) : Nat → RVal
  | 0 => V
  | k + 1 => if byN n k = 0 then txV V L n k else up2 (up2 (txV V L n k) 9 (L + byC n k) (nI (byN n k))) 0 14 (nI (L + byC n k + 1))
theorem txV_t {V : RVal} {L n k : Nat} (h : byN n k = 0) : txV V L n (k + 1) = txV V L n k := if_pos h
theorem txV_f {V : RVal} {L n k : Nat} (h : ¬ byN n k = 0) : txV V L n (k + 1) = up2 (up2 (txV V L n k) 9 (L + byC n k) (nI (byN n k))) 0 14 (nI (L + byC n k + 1)) := if_neg h
theorem txV_14 {V : RVal} {L n : Nat} (h : V 0 14 = nI L) : ∀ {k : Nat}, txV V L n k 0 14 = nI (L + byC n k)
  | 0 => h
  | k + 1 => by
    by_cases c : byN n k = 0
    · rw [txV_t c, txV_14 h]
      unfold byC
      rw [cnt_f (p := fun k => ¬ byN n k = 0) (fun q => q c)]
    · rw [txV_f c, up2_s]
      unfold byC
      rw [cnt_t (p := fun k => ¬ byN n k = 0) c]
      rfl
def okB (n k : Nat) : Prop := byN n k = 0 ∨ (nI 33 ≤ nI (byN n k) ∧ nI (byN n k) ≤ nI 126)
set_option maxRecDepth 4000 in
theorem c_append_1 {G : GI} {T : Hp} {m : Nat} {V : RVal} {g : Nat → Nat} {od : Nat → UInt64} (hs : RS T m) {n L : Nat} (hn : n < 2 ^ 32) (hL : V 0 14 = nI L) (hL60 : L ≤ 60) (hok : ∃ k, k < 4 ∧ ¬ okB n k) : Fn m_X13_append G [.ref (m), .int (nI (n))] (rput T m (sg V g) od) (some (.int (nI (0)))) (rput T m (sg (up2 (up2 V 0 (6) (nI 0)) 0 (6) (nI 1)) (g)) od) := by
  refine Cn.of rfl (by decide) (Nat.le_of_ble_eq_true rfl) (fun hN hM => ?_)
  show Wx _ G _ 0 [(0, .ref (m)), (1, .int (nI (n)))] [] _
  refine r_aload_n dX13_append_0 rfl 0 rfl ?_
  refine r_iconst (v := nI 0) dX13_append_1 (by decide) ?_
  refine o_put (k := 6) hs dX13_append_2 fw_X13_append_54 rfl rfl rfl ?_
  refine r_iconst (v := nI 0) dX13_append_5 (by decide) ?_
  refine r_istore_n (lv' := [(2, .int (nI (0))), (0, .ref (m)), (1, .int (nI (n)))]) dX13_append_6 rfl (by decide) rfl ?_
  refine r_iconst (v := nI 0) dX13_append_7 (by decide) ?_
  refine r_istore_n (lv' := [(3, .int (nI (0))), (2, .int (nI (0))), (0, .ref (m)), (1, .int (nI (n)))]) dX13_append_8 rfl (by decide) rfl ?_
  refine Wx.sub [2, 3, 1, 0] rfl ?_
  refine Wx.loopR (fun k S lv => (∀ q, q < k → okB n q) ∧ S = rput T m (sg (up2 V 0 (6) (nI 0)) g) od ∧ lv = [(0, .ref (m)), (1, .int (nI (n))), (2, .int (nI (byC n k))), (3, .int (nI (k)))]) 4 0 (Nat.zero_le _) ⟨fun q h => by omega, rfl, rfl⟩ (fun k S lv hge hle hI9 next => ?_)
  obtain ⟨hI8, rfl, rfl⟩ := hI9
  refine r_iload_n dX13_append_9 rfl 3 rfl ?_
  refine r_iconst (v := nI 4) dX13_append_10 (by decide) ?_
  refine r_icmp_geN (tgt := 65) dX13_append_11 (by decide) (by (first | omega | (have := byN_lt n k; omega) | (have : byC n k ≤ k := cnt_le _ _; omega) | (have h9 : byC n k ≤ byC n 4 := cnt_mono (by omega); omega) | (have h8 : byC n (k + 1) ≤ byC n 4 := cnt_mono (by omega); have h7 : byC n (k + 1) = byC n k + 1 := cnt_t (p := fun k => ¬ byN n k = 0) (by assumption); omega))) (by (first | omega | (have := byN_lt n k; omega) | (have : byC n k ≤ k := cnt_le _ _; omega) | (have h9 : byC n k ≤ byC n 4 := cnt_mono (by omega); omega) | (have h8 : byC n (k + 1) ≤ byC n 4 := cnt_mono (by omega); have h7 : byC n (k + 1) = byC n k + 1 := cnt_t (p := fun k => ¬ byN n k = 0) (by assumption); omega))) (fun h11 => ?_) (fun h11 => ?_)
  · obtain ⟨q, hq, hbad⟩ := hok
    exact (hbad (hI8 q (by omega))).elim
  · refine r_iload_n dX13_append_14 rfl 1 rfl ?_
    refine r_iload_n dX13_append_15 rfl 3 rfl ?_
    refine r_fnS (M2 := m_X13_byteOf) (As := [.int (nI (n)), .int (nI (k))]) (rest := []) (v := some (.int (nI (byN n k)))) dX13_append_16 cc_X13_append_304 rfl rfl rfl (Nat.le_of_ble_eq_true rfl) (g_byteOf hn (by omega)) rfl ?_
    refine r_if_eqN (tgt := 43) dX13_append_19 (by decide) (by (first | omega | (have := byN_lt n k; omega) | (have : byC n k ≤ k := cnt_le _ _; omega) | (have h9 : byC n k ≤ byC n 4 := cnt_mono (by omega); omega) | (have h8 : byC n (k + 1) ≤ byC n 4 := cnt_mono (by omega); have h7 : byC n (k + 1) = byC n k + 1 := cnt_t (p := fun k => ¬ byN n k = 0) (by assumption); omega))) (fun h19 => ?_) (fun h19 => ?_)
    · refine r_iload_n dX13_append_43 rfl 2 rfl ?_
      refine r_iload_n dX13_append_44 rfl 1 rfl ?_
      refine r_iload_n dX13_append_45 rfl 3 rfl ?_
      refine r_fnS (M2 := m_X13_byteOf) (As := [.int (nI (n)), .int (nI (k))]) (rest := [.int (nI (byC n k))]) (v := some (.int (nI (byN n k)))) dX13_append_46 cc_X13_append_304 rfl rfl rfl (Nat.le_of_ble_eq_true rfl) (g_byteOf hn (by omega)) rfl ?_
      refine r_if_neN (tgt := 56) dX13_append_49 (by decide) (by (first | omega | (have := byN_lt n k; omega) | (have : byC n k ≤ k := cnt_le _ _; omega) | (have h9 : byC n k ≤ byC n 4 := cnt_mono (by omega); omega) | (have h8 : byC n (k + 1) ≤ byC n 4 := cnt_mono (by omega); have h7 : byC n (k + 1) = byC n k + 1 := cnt_t (p := fun k => ¬ byN n k = 0) (by assumption); omega))) (fun h49 => ?_) (fun h49 => ?_)
      · exact absurd h19 h49
      · refine r_iconst (v := nI 0) dX13_append_52 (by decide) ?_
        refine r_goto (tgt := 57) dX13_append_53 (by decide) ?_
        refine r_iaddN dX13_append_57 ?_
        refine r_istore_n (lv' := [(2, .int (nI (byC n k + 0))), (0, .ref (m)), (1, .int (nI (n))), (3, .int (nI (k)))]) dX13_append_58 rfl (by decide) rfl ?_
        refine r_iincN (k := 1) (lv' := [(3, .int (nI (k + 1))), (2, .int (nI (byC n k + 0))), (0, .ref (m)), (1, .int (nI (n)))]) dX13_append_59 (by decide) 3 rfl (by decide) rfl ?_
        refine r_goto (tgt := 9) dX13_append_62 (by decide) ?_
        refine Wx.sub [2, 3, 1, 0] rfl ?_
        exact next _ _ (by omega) ⟨fun q hq => by
          by_cases e : q = k
          · subst e; exact Or.inl h19
          · exact hI8 q (by omega), rfl, by unfold byC; rw [cnt_f (p := fun k => ¬ byN n k = 0) (fun q => q h49)] <;> rfl⟩
    · refine r_iload_n dX13_append_22 rfl 1 rfl ?_
      refine r_iload_n dX13_append_23 rfl 3 rfl ?_
      refine r_fnS (M2 := m_X13_byteOf) (As := [.int (nI (n)), .int (nI (k))]) (rest := []) (v := some (.int (nI (byN n k)))) dX13_append_24 cc_X13_append_304 rfl rfl rfl (Nat.le_of_ble_eq_true rfl) (g_byteOf hn (by omega)) rfl ?_
      refine r_bipush (v := nI 33) dX13_append_27 (by decide) ?_
      refine r_bipush (v := nI 126) dX13_append_29 (by decide) ?_
      refine r_fnS (M2 := m_X13_in) (As := [.int (nI (byN n k)), .int (nI (33)), .int (nI (126))]) (rest := []) (v := some (.int (bI (nI 33 ≤ nI (byN n k) ∧ nI (byN n k) ≤ nI 126)))) dX13_append_31 cc_X13_append_68 rfl rfl rfl (Nat.le_of_ble_eq_true rfl) f_in rfl ?_
      refine r_if_neB (tgt := 43) dX13_append_34 (by decide) (fun h34 => ?_) (fun h34 => ?_)
      · refine r_iload_n dX13_append_43 rfl 2 rfl ?_
        refine r_iload_n dX13_append_44 rfl 1 rfl ?_
        refine r_iload_n dX13_append_45 rfl 3 rfl ?_
        refine r_fnS (M2 := m_X13_byteOf) (As := [.int (nI (n)), .int (nI (k))]) (rest := [.int (nI (byC n k))]) (v := some (.int (nI (byN n k)))) dX13_append_46 cc_X13_append_304 rfl rfl rfl (Nat.le_of_ble_eq_true rfl) (g_byteOf hn (by omega)) rfl ?_
        refine r_if_neN (tgt := 56) dX13_append_49 (by decide) (by (first | omega | (have := byN_lt n k; omega) | (have : byC n k ≤ k := cnt_le _ _; omega) | (have h9 : byC n k ≤ byC n 4 := cnt_mono (by omega); omega) | (have h8 : byC n (k + 1) ≤ byC n 4 := cnt_mono (by omega); have h7 : byC n (k + 1) = byC n k + 1 := cnt_t (p := fun k => ¬ byN n k = 0) (by assumption); omega))) (fun h49_1 => ?_) (fun h49_1 => ?_)
        · refine r_iconst (v := nI 1) dX13_append_56 (by decide) ?_
          refine r_iaddN dX13_append_57 ?_
          refine r_istore_n (lv' := [(2, .int (nI (byC n k + 1))), (0, .ref (m)), (1, .int (nI (n))), (3, .int (nI (k)))]) dX13_append_58 rfl (by decide) rfl ?_
          refine r_iincN (k := 1) (lv' := [(3, .int (nI (k + 1))), (2, .int (nI (byC n k + 1))), (0, .ref (m)), (1, .int (nI (n)))]) dX13_append_59 (by decide) 3 rfl (by decide) rfl ?_
          refine r_goto (tgt := 9) dX13_append_62 (by decide) ?_
          refine Wx.sub [2, 3, 1, 0] rfl ?_
          exact next _ _ (by omega) ⟨fun q hq => by
            by_cases e : q = k
            · subst e; exact Or.inr h34
            · exact hI8 q (by omega), rfl, by unfold byC; rw [cnt_t (p := fun k => ¬ byN n k = 0) h49_1] <;> rfl⟩
        · exact absurd h49_1 h19
      · refine r_aload_n dX13_append_37 rfl 0 rfl ?_
        refine r_iconst (v := nI 1) dX13_append_38 (by decide) ?_
        refine r_fnV (M2 := m_X13_fails) (As := [.int (nI (1))]) (rest := []) (v := some (.int (nI (0)))) dX13_append_39 cc_X13_append_289 rfl rfl rfl (Nat.le_of_ble_eq_true rfl) hs.1 rfl rfl (by decide) (g_fails hs) rfl ?_
        exact r_iret (ty := .int) dX13_append_42 rfl rfl ⟨rfl, rfl⟩
set_option maxRecDepth 4000 in
theorem c_append_2 {G : GI} {T : Hp} {m : Nat} {V : RVal} {g : Nat → Nat} {od : Nat → UInt64} (hs : RS T m) {n L : Nat} (hn : n < 2 ^ 32) (hL : V 0 14 = nI L) (hL60 : L ≤ 60) (hok : ∀ k, k < 4 → okB n k) (hroom : ¬ L + byC n 4 ≤ 60) : Fn m_X13_append G [.ref (m), .int (nI (n))] (rput T m (sg V g) od) (some (.int (nI (0)))) (rput T m (sg (up2 (up2 V 0 (6) (nI 0)) 0 (6) (nI 2)) (g)) od) := by
  refine Cn.of rfl (by decide) (Nat.le_of_ble_eq_true rfl) (fun hN hM => ?_)
  show Wx _ G _ 0 [(0, .ref (m)), (1, .int (nI (n)))] [] _
  refine r_aload_n dX13_append_0 rfl 0 rfl ?_
  refine r_iconst (v := nI 0) dX13_append_1 (by decide) ?_
  refine o_put (k := 6) hs dX13_append_2 fw_X13_append_54 rfl rfl rfl ?_
  refine r_iconst (v := nI 0) dX13_append_5 (by decide) ?_
  refine r_istore_n (lv' := [(2, .int (nI (0))), (0, .ref (m)), (1, .int (nI (n)))]) dX13_append_6 rfl (by decide) rfl ?_
  refine r_iconst (v := nI 0) dX13_append_7 (by decide) ?_
  refine r_istore_n (lv' := [(3, .int (nI (0))), (2, .int (nI (0))), (0, .ref (m)), (1, .int (nI (n)))]) dX13_append_8 rfl (by decide) rfl ?_
  refine Wx.sub [2, 3, 1, 0] rfl ?_
  refine Wx.loop (fun k => rput T m (sg (up2 V 0 (6) (nI 0)) g) od) (fun k => [(0, .ref (m)), (1, .int (nI (n))), (2, .int (nI (byC n k))), (3, .int (nI (k)))]) (4) (0) (Nat.zero_le _) (fun k hge hle next => ?_)
  show Wx _ G (rput T m (sg (up2 V 0 (6) (nI 0)) g) od) 9 [(0, .ref (m)), (1, .int (nI (n))), (2, .int (nI (byC n k))), (3, .int (nI (k)))] [] _
  refine r_iload_n dX13_append_9 rfl 3 rfl ?_
  refine r_iconst (v := nI 4) dX13_append_10 (by decide) ?_
  refine r_icmp_geN (tgt := 65) dX13_append_11 (by decide) (by (first | omega | (have := byN_lt n k; omega) | (have : byC n k ≤ k := cnt_le _ _; omega) | (have h9 : byC n k ≤ byC n 4 := cnt_mono (by omega); omega) | (have h8 : byC n (k + 1) ≤ byC n 4 := cnt_mono (by omega); have h7 : byC n (k + 1) = byC n k + 1 := cnt_t (p := fun k => ¬ byN n k = 0) (by assumption); omega))) (by (first | omega | (have := byN_lt n k; omega) | (have : byC n k ≤ k := cnt_le _ _; omega) | (have h9 : byC n k ≤ byC n 4 := cnt_mono (by omega); omega) | (have h8 : byC n (k + 1) ≤ byC n 4 := cnt_mono (by omega); have h7 : byC n (k + 1) = byC n k + 1 := cnt_t (p := fun k => ¬ byN n k = 0) (by assumption); omega))) (fun h11 => ?_) (fun h11 => ?_)
  · obtain rfl : k = 4 := by omega
    refine r_aload_n dX13_append_65 rfl 0 rfl ?_
    refine o_get (k := 14) hs dX13_append_66 fr_X13_307 rfl ?_
    refine Wx.top (up2_n (by omega)) ?_
    refine Wx.top hL ?_
    refine r_iload_n dX13_append_69 rfl 2 rfl ?_
    refine r_iaddN dX13_append_70 ?_
    refine r_bipush (v := nI 60) dX13_append_71 (by decide) ?_
    refine r_icmp_leN (tgt := 82) dX13_append_73 (by decide) (by (first | omega | (have : byC n 4 ≤ 4 := cnt_le _ _; omega))) (by (first | omega | (have : byC n 4 ≤ 4 := cnt_le _ _; omega))) (fun h73 => ?_) (fun h73 => ?_)
    · exact absurd h73 hroom
    · refine r_aload_n dX13_append_76 rfl 0 rfl ?_
      refine r_iconst (v := nI 2) dX13_append_77 (by decide) ?_
      refine r_fnV (M2 := m_X13_fails) (As := [.int (nI (2))]) (rest := []) (v := some (.int (nI (0)))) dX13_append_78 cc_X13_append_289 rfl rfl rfl (Nat.le_of_ble_eq_true rfl) hs.1 rfl rfl (by decide) (g_fails hs) rfl ?_
      exact r_iret (ty := .int) dX13_append_81 rfl rfl ⟨rfl, rfl⟩
  · refine r_iload_n dX13_append_14 rfl 1 rfl ?_
    refine r_iload_n dX13_append_15 rfl 3 rfl ?_
    refine r_fnS (M2 := m_X13_byteOf) (As := [.int (nI (n)), .int (nI (k))]) (rest := []) (v := some (.int (nI (byN n k)))) dX13_append_16 cc_X13_append_304 rfl rfl rfl (Nat.le_of_ble_eq_true rfl) (g_byteOf hn (by omega)) rfl ?_
    refine r_if_eqN (tgt := 43) dX13_append_19 (by decide) (by (first | omega | (have := byN_lt n k; omega) | (have : byC n k ≤ k := cnt_le _ _; omega) | (have h9 : byC n k ≤ byC n 4 := cnt_mono (by omega); omega) | (have h8 : byC n (k + 1) ≤ byC n 4 := cnt_mono (by omega); have h7 : byC n (k + 1) = byC n k + 1 := cnt_t (p := fun k => ¬ byN n k = 0) (by assumption); omega))) (fun h19 => ?_) (fun h19 => ?_)
    · refine r_iload_n dX13_append_43 rfl 2 rfl ?_
      refine r_iload_n dX13_append_44 rfl 1 rfl ?_
      refine r_iload_n dX13_append_45 rfl 3 rfl ?_
      refine r_fnS (M2 := m_X13_byteOf) (As := [.int (nI (n)), .int (nI (k))]) (rest := [.int (nI (byC n k))]) (v := some (.int (nI (byN n k)))) dX13_append_46 cc_X13_append_304 rfl rfl rfl (Nat.le_of_ble_eq_true rfl) (g_byteOf hn (by omega)) rfl ?_
      refine r_if_neN (tgt := 56) dX13_append_49 (by decide) (by (first | omega | (have := byN_lt n k; omega) | (have : byC n k ≤ k := cnt_le _ _; omega) | (have h9 : byC n k ≤ byC n 4 := cnt_mono (by omega); omega) | (have h8 : byC n (k + 1) ≤ byC n 4 := cnt_mono (by omega); have h7 : byC n (k + 1) = byC n k + 1 := cnt_t (p := fun k => ¬ byN n k = 0) (by assumption); omega))) (fun h49 => ?_) (fun h49 => ?_)
      · exact absurd h19 h49
      · refine r_iconst (v := nI 0) dX13_append_52 (by decide) ?_
        refine r_goto (tgt := 57) dX13_append_53 (by decide) ?_
        refine r_iaddN dX13_append_57 ?_
        refine r_istore_n (lv' := [(2, .int (nI (byC n k + 0))), (0, .ref (m)), (1, .int (nI (n))), (3, .int (nI (k)))]) dX13_append_58 rfl (by decide) rfl ?_
        refine r_iincN (k := 1) (lv' := [(3, .int (nI (k + 1))), (2, .int (nI (byC n k + 0))), (0, .ref (m)), (1, .int (nI (n)))]) dX13_append_59 (by decide) 3 rfl (by decide) rfl ?_
        refine r_goto (tgt := 9) dX13_append_62 (by decide) ?_
        refine Wx.sub [2, 3, 1, 0] rfl ?_
        have n2 := next (by omega)
        unfold byC at n2
        rw [cnt_f (p := fun k => ¬ byN n k = 0) (fun q => q h49)] at n2
        exact n2
    · refine r_iload_n dX13_append_22 rfl 1 rfl ?_
      refine r_iload_n dX13_append_23 rfl 3 rfl ?_
      refine r_fnS (M2 := m_X13_byteOf) (As := [.int (nI (n)), .int (nI (k))]) (rest := []) (v := some (.int (nI (byN n k)))) dX13_append_24 cc_X13_append_304 rfl rfl rfl (Nat.le_of_ble_eq_true rfl) (g_byteOf hn (by omega)) rfl ?_
      refine r_bipush (v := nI 33) dX13_append_27 (by decide) ?_
      refine r_bipush (v := nI 126) dX13_append_29 (by decide) ?_
      refine r_fnS (M2 := m_X13_in) (As := [.int (nI (byN n k)), .int (nI (33)), .int (nI (126))]) (rest := []) (v := some (.int (bI (nI 33 ≤ nI (byN n k) ∧ nI (byN n k) ≤ nI 126)))) dX13_append_31 cc_X13_append_68 rfl rfl rfl (Nat.le_of_ble_eq_true rfl) f_in rfl ?_
      refine r_if_neB (tgt := 43) dX13_append_34 (by decide) (fun h34 => ?_) (fun h34 => ?_)
      · refine r_iload_n dX13_append_43 rfl 2 rfl ?_
        refine r_iload_n dX13_append_44 rfl 1 rfl ?_
        refine r_iload_n dX13_append_45 rfl 3 rfl ?_
        refine r_fnS (M2 := m_X13_byteOf) (As := [.int (nI (n)), .int (nI (k))]) (rest := [.int (nI (byC n k))]) (v := some (.int (nI (byN n k)))) dX13_append_46 cc_X13_append_304 rfl rfl rfl (Nat.le_of_ble_eq_true rfl) (g_byteOf hn (by omega)) rfl ?_
        refine r_if_neN (tgt := 56) dX13_append_49 (by decide) (by (first | omega | (have := byN_lt n k; omega) | (have : byC n k ≤ k := cnt_le _ _; omega) | (have h9 : byC n k ≤ byC n 4 := cnt_mono (by omega); omega) | (have h8 : byC n (k + 1) ≤ byC n 4 := cnt_mono (by omega); have h7 : byC n (k + 1) = byC n k + 1 := cnt_t (p := fun k => ¬ byN n k = 0) (by assumption); omega))) (fun h49_1 => ?_) (fun h49_1 => ?_)
        · refine r_iconst (v := nI 1) dX13_append_56 (by decide) ?_
          refine r_iaddN dX13_append_57 ?_
          refine r_istore_n (lv' := [(2, .int (nI (byC n k + 1))), (0, .ref (m)), (1, .int (nI (n))), (3, .int (nI (k)))]) dX13_append_58 rfl (by decide) rfl ?_
          refine r_iincN (k := 1) (lv' := [(3, .int (nI (k + 1))), (2, .int (nI (byC n k + 1))), (0, .ref (m)), (1, .int (nI (n)))]) dX13_append_59 (by decide) 3 rfl (by decide) rfl ?_
          refine r_goto (tgt := 9) dX13_append_62 (by decide) ?_
          refine Wx.sub [2, 3, 1, 0] rfl ?_
          have n2 := next (by omega)
          unfold byC at n2
          rw [cnt_t (p := fun k => ¬ byN n k = 0) h49_1] at n2
          exact n2
        · exact absurd h49_1 h19
      · exact ((hok k (by omega)).elim h19 h34).elim
set_option maxRecDepth 4000 in
theorem c_append_0 {G : GI} {T : Hp} {m : Nat} {V : RVal} {g : Nat → Nat} {od : Nat → UInt64} (hs : RS T m) {n L : Nat} (hn : n < 2 ^ 32) (hL : V 0 14 = nI L) (hL60 : L ≤ 60) (hok : ∀ k, k < 4 → okB n k) (hroom : L + byC n 4 ≤ 60) : Fn m_X13_append G [.ref (m), .int (nI (n))] (rput T m (sg V g) od) (some (.int (nI (L + byC n 4)))) (rput T m (sg (txV (up2 V 0 (6) (nI 0)) L n 4) (g)) od) := by
  refine Cn.of rfl (by decide) (Nat.le_of_ble_eq_true rfl) (fun hN hM => ?_)
  show Wx _ G _ 0 [(0, .ref (m)), (1, .int (nI (n)))] [] _
  refine r_aload_n dX13_append_0 rfl 0 rfl ?_
  refine r_iconst (v := nI 0) dX13_append_1 (by decide) ?_
  refine o_put (k := 6) hs dX13_append_2 fw_X13_append_54 rfl rfl rfl ?_
  refine r_iconst (v := nI 0) dX13_append_5 (by decide) ?_
  refine r_istore_n (lv' := [(2, .int (nI (0))), (0, .ref (m)), (1, .int (nI (n)))]) dX13_append_6 rfl (by decide) rfl ?_
  refine r_iconst (v := nI 0) dX13_append_7 (by decide) ?_
  refine r_istore_n (lv' := [(3, .int (nI (0))), (2, .int (nI (0))), (0, .ref (m)), (1, .int (nI (n)))]) dX13_append_8 rfl (by decide) rfl ?_
  refine Wx.sub [2, 3, 1, 0] rfl ?_
  refine Wx.loop (fun k => rput T m (sg (up2 V 0 (6) (nI 0)) g) od) (fun k => [(0, .ref (m)), (1, .int (nI (n))), (2, .int (nI (byC n k))), (3, .int (nI (k)))]) (4) (0) (Nat.zero_le _) (fun k hge hle next => ?_)
  show Wx _ G (rput T m (sg (up2 V 0 (6) (nI 0)) g) od) 9 [(0, .ref (m)), (1, .int (nI (n))), (2, .int (nI (byC n k))), (3, .int (nI (k)))] [] _
  refine r_iload_n dX13_append_9 rfl 3 rfl ?_
  refine r_iconst (v := nI 4) dX13_append_10 (by decide) ?_
  refine r_icmp_geN (tgt := 65) dX13_append_11 (by decide) (by (first | omega | (have := byN_lt n k; omega) | (have : byC n k ≤ k := cnt_le _ _; omega) | (have h9 : byC n k ≤ byC n 4 := cnt_mono (by omega); omega) | (have h8 : byC n (k + 1) ≤ byC n 4 := cnt_mono (by omega); have h7 : byC n (k + 1) = byC n k + 1 := cnt_t (p := fun k => ¬ byN n k = 0) (by assumption); omega))) (by (first | omega | (have := byN_lt n k; omega) | (have : byC n k ≤ k := cnt_le _ _; omega) | (have h9 : byC n k ≤ byC n 4 := cnt_mono (by omega); omega) | (have h8 : byC n (k + 1) ≤ byC n 4 := cnt_mono (by omega); have h7 : byC n (k + 1) = byC n k + 1 := cnt_t (p := fun k => ¬ byN n k = 0) (by assumption); omega))) (fun h11 => ?_) (fun h11 => ?_)
  · obtain rfl : k = 4 := by omega
    refine r_aload_n dX13_append_65 rfl 0 rfl ?_
    refine o_get (k := 14) hs dX13_append_66 fr_X13_307 rfl ?_
    refine Wx.top (up2_n (by omega)) ?_
    refine Wx.top hL ?_
    refine r_iload_n dX13_append_69 rfl 2 rfl ?_
    refine r_iaddN dX13_append_70 ?_
    refine r_bipush (v := nI 60) dX13_append_71 (by decide) ?_
    refine r_icmp_leN (tgt := 82) dX13_append_73 (by decide) (by (first | omega | (have : byC n 4 ≤ 4 := cnt_le _ _; omega))) (by (first | omega | (have : byC n 4 ≤ 4 := cnt_le _ _; omega))) (fun h73 => ?_) (fun h73 => ?_)
    · refine r_iconst (v := nI 0) dX13_append_82 (by decide) ?_
      refine r_istore_n (lv' := [(3, .int (nI (0))), (0, .ref (m)), (1, .int (nI (n))), (2, .int (nI (byC n 4)))]) dX13_append_83 rfl (by decide) rfl ?_
      refine Wx.st' (S' := rput T m (sg (txV (up2 V 0 (6) (nI 0)) L n 0) g) od) rfl ?_
      refine Wx.sub [1, 2, 0] rfl ?_
      refine Wx.loop (fun k => rput T m (sg (txV (up2 V 0 (6) (nI 0)) L n k) g) od) (fun k => [(0, .ref (m)), (1, .int (nI (n))), (3, .int (nI (k)))]) (4) (0) (Nat.zero_le _) (fun k hge_1 hle_1 next_1 => ?_)
      show Wx _ G (rput T m (sg (txV (up2 V 0 (6) (nI 0)) L n k) g) od) 84 [(0, .ref (m)), (1, .int (nI (n))), (3, .int (nI (k)))] [] _
      refine r_iload_n dX13_append_84 rfl 2 rfl ?_
      refine r_iconst (v := nI 4) dX13_append_85 (by decide) ?_
      refine r_icmp_geN (tgt := 127) dX13_append_86 (by decide) (by (first | omega | (have : byC n 4 ≤ 4 := cnt_le _ _; omega))) (by (first | omega | (have : byC n 4 ≤ 4 := cnt_le _ _; omega))) (fun h86 => ?_) (fun h86 => ?_)
      · obtain rfl : k = 4 := by omega
        refine r_aload_n dX13_append_127 rfl 0 rfl ?_
        refine o_get (k := 14) hs dX13_append_128 fr_X13_307 rfl ?_
        refine Wx.top (txV_14 (V := up2 V 0 6 (nI 0)) ((up2_n (by decide)).trans hL)) ?_
        exact r_iret (ty := .int) dX13_append_131 rfl rfl ⟨rfl, rfl⟩
      · refine r_iload_n dX13_append_89 rfl 1 rfl ?_
        refine r_iload_n dX13_append_90 rfl 2 rfl ?_
        refine r_fnS (M2 := m_X13_byteOf) (As := [.int (nI (n)), .int (nI (k))]) (rest := []) (v := some (.int (nI (byN n k)))) dX13_append_91 cc_X13_append_304 rfl rfl rfl (Nat.le_of_ble_eq_true rfl) (g_byteOf hn (by omega)) rfl ?_
        refine r_if_eqN (tgt := 121) dX13_append_94 (by decide) (by (first | omega | (have := byN_lt n k; omega) | (have : byC n k ≤ k := cnt_le _ _; omega) | (have h9 : byC n k ≤ byC n 4 := cnt_mono (by omega); omega) | (have h8 : byC n (k + 1) ≤ byC n 4 := cnt_mono (by omega); have h7 : byC n (k + 1) = byC n k + 1 := cnt_t (p := fun k => ¬ byN n k = 0) (by assumption); omega))) (fun h94 => ?_) (fun h94 => ?_)
        · refine r_iincN (k := 1) (lv' := [(3, .int (nI (k + 1))), (0, .ref (m)), (1, .int (nI (n)))]) dX13_append_121 (by decide) 2 rfl (by decide) rfl ?_
          refine r_goto (tgt := 84) dX13_append_124 (by decide) ?_
          refine Wx.sub [1, 2, 0] rfl ?_
          have n2 := next_1 (by omega)
          rw [txV_t h94] at n2
          exact n2
        · refine r_aload_n dX13_append_97 rfl 0 rfl ?_
          refine m_ref (k := 13) (j := 9) hs hs.2.1.2.2.2.2.2.2.2.2.1 dX13_append_98 fr_X13_37 rfl ?_
          refine r_aload_n dX13_append_101 rfl 0 rfl ?_
          refine o_get (k := 14) hs dX13_append_102 fr_X13_307 rfl ?_
          refine Wx.top ((txV_14 (V := up2 V 0 6 (nI 0)) ((up2_n (by decide)).trans hL))) ?_
          refine r_iload_n dX13_append_105 rfl 1 rfl ?_
          refine r_iload_n dX13_append_106 rfl 2 rfl ?_
          refine r_fnS (M2 := m_X13_byteOf) (As := [.int (nI (n)), .int (nI (k))]) (rest := [.int (nI (L + byC n k)), .ref (m + 9)]) (v := some (.int (nI (byN n k)))) dX13_append_107 cc_X13_append_304 rfl rfl rfl (Nat.le_of_ble_eq_true rfl) (g_byteOf hn (by omega)) rfl ?_
          refine o_iast (j := 9) (n := 60) (i := L + byC n k) (by decide) hs rw9 dX13_append_110 (by (first | omega | (have := byN_lt n k; omega) | (have : byC n k ≤ k := cnt_le _ _; omega) | (have h9 : byC n k ≤ byC n 4 := cnt_mono (by omega); omega) | (have h8 : byC n (k + 1) ≤ byC n 4 := cnt_mono (by omega); have h7 : byC n (k + 1) = byC n k + 1 := cnt_t (p := fun k => ¬ byN n k = 0) (by assumption); omega))) (by decide)  ?_
          refine r_aload_n dX13_append_111 rfl 0 rfl ?_
          refine r_dup dX13_append_112 rfl ?_
          refine o_get (k := 14) hs dX13_append_113 fr_X13_307 rfl ?_
          refine Wx.top (up2_n (by omega)) ?_
          refine Wx.top ((txV_14 (V := up2 V 0 6 (nI 0)) ((up2_n (by decide)).trans hL))) ?_
          refine r_iconst (v := nI 1) dX13_append_116 (by decide) ?_
          refine r_iaddN dX13_append_117 ?_
          refine o_put (k := 14) hs dX13_append_118 fw_X13_append_307 rfl rfl rfl ?_
          refine r_iincN (k := 1) (lv' := [(3, .int (nI (k + 1))), (0, .ref (m)), (1, .int (nI (n)))]) dX13_append_121 (by decide) 2 rfl (by decide) rfl ?_
          refine r_goto (tgt := 84) dX13_append_124 (by decide) ?_
          refine Wx.sub [1, 2, 0] rfl ?_
          have n2 := next_1 (by omega)
          rw [txV_f h94] at n2
          exact n2
    · exact absurd hroom h73
  · refine r_iload_n dX13_append_14 rfl 1 rfl ?_
    refine r_iload_n dX13_append_15 rfl 3 rfl ?_
    refine r_fnS (M2 := m_X13_byteOf) (As := [.int (nI (n)), .int (nI (k))]) (rest := []) (v := some (.int (nI (byN n k)))) dX13_append_16 cc_X13_append_304 rfl rfl rfl (Nat.le_of_ble_eq_true rfl) (g_byteOf hn (by omega)) rfl ?_
    refine r_if_eqN (tgt := 43) dX13_append_19 (by decide) (by (first | omega | (have := byN_lt n k; omega) | (have : byC n k ≤ k := cnt_le _ _; omega) | (have h9 : byC n k ≤ byC n 4 := cnt_mono (by omega); omega) | (have h8 : byC n (k + 1) ≤ byC n 4 := cnt_mono (by omega); have h7 : byC n (k + 1) = byC n k + 1 := cnt_t (p := fun k => ¬ byN n k = 0) (by assumption); omega))) (fun h19 => ?_) (fun h19 => ?_)
    · refine r_iload_n dX13_append_43 rfl 2 rfl ?_
      refine r_iload_n dX13_append_44 rfl 1 rfl ?_
      refine r_iload_n dX13_append_45 rfl 3 rfl ?_
      refine r_fnS (M2 := m_X13_byteOf) (As := [.int (nI (n)), .int (nI (k))]) (rest := [.int (nI (byC n k))]) (v := some (.int (nI (byN n k)))) dX13_append_46 cc_X13_append_304 rfl rfl rfl (Nat.le_of_ble_eq_true rfl) (g_byteOf hn (by omega)) rfl ?_
      refine r_if_neN (tgt := 56) dX13_append_49 (by decide) (by (first | omega | (have := byN_lt n k; omega) | (have : byC n k ≤ k := cnt_le _ _; omega) | (have h9 : byC n k ≤ byC n 4 := cnt_mono (by omega); omega) | (have h8 : byC n (k + 1) ≤ byC n 4 := cnt_mono (by omega); have h7 : byC n (k + 1) = byC n k + 1 := cnt_t (p := fun k => ¬ byN n k = 0) (by assumption); omega))) (fun h49 => ?_) (fun h49 => ?_)
      · exact absurd h19 h49
      · refine r_iconst (v := nI 0) dX13_append_52 (by decide) ?_
        refine r_goto (tgt := 57) dX13_append_53 (by decide) ?_
        refine r_iaddN dX13_append_57 ?_
        refine r_istore_n (lv' := [(2, .int (nI (byC n k + 0))), (0, .ref (m)), (1, .int (nI (n))), (3, .int (nI (k)))]) dX13_append_58 rfl (by decide) rfl ?_
        refine r_iincN (k := 1) (lv' := [(3, .int (nI (k + 1))), (2, .int (nI (byC n k + 0))), (0, .ref (m)), (1, .int (nI (n)))]) dX13_append_59 (by decide) 3 rfl (by decide) rfl ?_
        refine r_goto (tgt := 9) dX13_append_62 (by decide) ?_
        refine Wx.sub [2, 3, 1, 0] rfl ?_
        have n2 := next (by omega)
        unfold byC at n2
        rw [cnt_f (p := fun k => ¬ byN n k = 0) (fun q => q h49)] at n2
        exact n2
    · refine r_iload_n dX13_append_22 rfl 1 rfl ?_
      refine r_iload_n dX13_append_23 rfl 3 rfl ?_
      refine r_fnS (M2 := m_X13_byteOf) (As := [.int (nI (n)), .int (nI (k))]) (rest := []) (v := some (.int (nI (byN n k)))) dX13_append_24 cc_X13_append_304 rfl rfl rfl (Nat.le_of_ble_eq_true rfl) (g_byteOf hn (by omega)) rfl ?_
      refine r_bipush (v := nI 33) dX13_append_27 (by decide) ?_
      refine r_bipush (v := nI 126) dX13_append_29 (by decide) ?_
      refine r_fnS (M2 := m_X13_in) (As := [.int (nI (byN n k)), .int (nI (33)), .int (nI (126))]) (rest := []) (v := some (.int (bI (nI 33 ≤ nI (byN n k) ∧ nI (byN n k) ≤ nI 126)))) dX13_append_31 cc_X13_append_68 rfl rfl rfl (Nat.le_of_ble_eq_true rfl) f_in rfl ?_
      refine r_if_neB (tgt := 43) dX13_append_34 (by decide) (fun h34 => ?_) (fun h34 => ?_)
      · refine r_iload_n dX13_append_43 rfl 2 rfl ?_
        refine r_iload_n dX13_append_44 rfl 1 rfl ?_
        refine r_iload_n dX13_append_45 rfl 3 rfl ?_
        refine r_fnS (M2 := m_X13_byteOf) (As := [.int (nI (n)), .int (nI (k))]) (rest := [.int (nI (byC n k))]) (v := some (.int (nI (byN n k)))) dX13_append_46 cc_X13_append_304 rfl rfl rfl (Nat.le_of_ble_eq_true rfl) (g_byteOf hn (by omega)) rfl ?_
        refine r_if_neN (tgt := 56) dX13_append_49 (by decide) (by (first | omega | (have := byN_lt n k; omega) | (have : byC n k ≤ k := cnt_le _ _; omega) | (have h9 : byC n k ≤ byC n 4 := cnt_mono (by omega); omega) | (have h8 : byC n (k + 1) ≤ byC n 4 := cnt_mono (by omega); have h7 : byC n (k + 1) = byC n k + 1 := cnt_t (p := fun k => ¬ byN n k = 0) (by assumption); omega))) (fun h49_1 => ?_) (fun h49_1 => ?_)
        · refine r_iconst (v := nI 1) dX13_append_56 (by decide) ?_
          refine r_iaddN dX13_append_57 ?_
          refine r_istore_n (lv' := [(2, .int (nI (byC n k + 1))), (0, .ref (m)), (1, .int (nI (n))), (3, .int (nI (k)))]) dX13_append_58 rfl (by decide) rfl ?_
          refine r_iincN (k := 1) (lv' := [(3, .int (nI (k + 1))), (2, .int (nI (byC n k + 1))), (0, .ref (m)), (1, .int (nI (n)))]) dX13_append_59 (by decide) 3 rfl (by decide) rfl ?_
          refine r_goto (tgt := 9) dX13_append_62 (by decide) ?_
          refine Wx.sub [2, 3, 1, 0] rfl ?_
          have n2 := next (by omega)
          unfold byC at n2
          rw [cnt_t (p := fun k => ¬ byN n k = 0) h49_1] at n2
          exact n2
        · exact absurd h49_1 h19
      · exact ((hok k (by omega)).elim h19 h34).elim
