/-! THE REFERENCE READS A COMMAND -/
theorem Wx.gv {M : MI} {G : GI} {T : Hp} {m : Nat} {V : RVal} {g : Nat → Nat} {od : Nat → UInt64} {pc : Nat} {lv : List (Nat × Value)} {st : List Value} {Q : OV → Hp → Prop} (P : RVal → Prop) (h : P V) (kk : ∀ V', P V' → Wx M G (rput T m (sg V' g) od) pc lv st Q) : Wx M G (rput T m (sg V g) od) pc lv st Q := kk V h
/-- what is told of command c: its word q, where it begins, n numbers v; the place read is p; cc commands are told -/
def RdP (V V' : RVal) (t : Nat → Nat) (L p c cc q h n : Nat) (v : Nat → Nat) : Prop := TXT V' t L p ∧ (V' 10 (9 * c) = nI q ∧ V' 10 (9 * c + 1) = nI h ∧ V' 10 (9 * c + 2) = nI n ∧ (∀ k, k < n → V' 10 (9 * c + (3 + k)) = nI (v k)) ∧ ∀ k, n ≤ k → k < 6 → V' 10 (9 * c + (3 + k)) = -1) ∧ (∀ j i, ¬ (j = 0 ∧ (i = 17 ∨ i = 18)) → j ≠ 10 → V' j i = V j i) ∧ V' 0 17 = nI cc ∧ ∀ i, i < 9 * c → V' 10 i = V 10 i
theorem RdP.pos {V V' : RVal} {t : Nat → Nat} {L p p' c cc q h n : Nat} {v : Nat → Nat} (z : RdP V V' t L p c cc q h n v) (hp : p' ≤ L) : RdP V (up2 V' 0 18 (nI p')) t L p' c cc q h n v := by
  obtain ⟨h1, ⟨a1, a2, a3, a4, a5⟩, h3, h4, h5⟩ := z
  exact ⟨h1.at hp, ⟨(up2_n (by omega)).trans a1, (up2_n (by omega)).trans a2, (up2_n (by omega)).trans a3, fun k hk => (up2_n (by omega)).trans (a4 k hk), fun k k1 k2 => (up2_n (by omega)).trans (a5 k k1 k2)⟩, fun j i b1 b2 => (up2_n (by omega)).trans (h3 j i b1 b2), (up2_n (by omega)).trans h4, fun i hi => (up2_n (by omega)).trans (h5 i hi)⟩
theorem RdP.tol {V V' : RVal} {t : Nat → Nat} {L p c cc cc' q h n : Nat} {v : Nat → Nat} (z : RdP V V' t L p c cc q h n v) : RdP V (up2 V' 0 17 (nI cc')) t L p c cc' q h n v := by
  obtain ⟨h1, ⟨a1, a2, a3, a4, a5⟩, h3, h4, h5⟩ := z
  exact ⟨h1.o ⟨Or.inr ⟨by decide, by decide⟩, by decide⟩, ⟨(up2_n (by omega)).trans a1, (up2_n (by omega)).trans a2, (up2_n (by omega)).trans a3, fun k hk => (up2_n (by omega)).trans (a4 k hk), fun k k1 k2 => (up2_n (by omega)).trans (a5 k k1 k2)⟩, fun j i b1 b2 => (up2_n (by omega)).trans (h3 j i b1 b2), up2_s, fun i hi => (up2_n (by omega)).trans (h5 i hi)⟩
theorem RdP.num {V V' : RVal} {t : Nat → Nat} {L p p' c cc q h n x : Nat} {v : Nat → Nat} (z : RdP V V' t L p c cc q h n v) (hn : n < 6) (hp : p' ≤ L) : RdP V (up2 (nuV V' (9 * c + 3 + n) x p') 10 (9 * c + 2) (nI (n + 1))) t L p' c cc q h (n + 1) (up1 v n x) := by
  obtain ⟨h1, ⟨a1, a2, a3, a4, a5⟩, h3, h4, h5⟩ := z
  unfold nuV
  refine ⟨((h1.o ⟨Or.inl (by decide), by decide⟩).at hp).o ⟨Or.inl (by decide), by decide⟩, ⟨(up2_n (by omega)).trans ((up2_n (by omega)).trans ((up2_n (by omega)).trans a1)), (up2_n (by omega)).trans ((up2_n (by omega)).trans ((up2_n (by omega)).trans a2)), up2_s, fun k hk => ?_, fun k k1 k2 => (up2_n (by omega)).trans ((up2_n (by omega)).trans ((up2_n (by omega)).trans (a5 k (by omega) k2)))⟩, fun j i b1 b2 => (up2_n (by omega)).trans ((up2_n (by omega)).trans ((up2_n (by omega)).trans (h3 j i b1 b2))), (up2_n (by omega)).trans ((up2_n (by omega)).trans ((up2_n (by omega)).trans h4)), fun i hi => (up2_n (by omega)).trans ((up2_n (by omega)).trans ((up2_n (by omega)).trans (h5 i hi)))⟩
  by_cases e : k = n
  · subst e
    rw [up1_s]
    exact (up2_n (by omega)).trans ((up2_n (by omega)).trans (by rw [show 9 * c + 3 + k = 9 * c + (3 + k) by omega]; exact up2_s))
  · rw [up1_n e]
    exact (up2_n (by omega)).trans ((up2_n (by omega)).trans ((up2_n (by omega)).trans (a4 k (by omega))))
set_option maxRecDepth 4000 in
set_option maxHeartbeats 1000000 in
theorem g_command {G : GI} {T : Hp} {m : Nat} {V : RVal} {g : Nat → Nat} {od : Nat → UInt64} (hs : RS T m) {t : Nat → Nat} {L h : Nat} (hx : TXT V t L h) (ht : ∀ k, k < L → t k < 128) {c : Nat} (h17 : V 0 17 = nI c) (hc : c < 16) : Cn m_X13_commandHere G [.ref m] (rput T m (sg V g) od) (fun r U => (r = .inl (some (.int (nI 1))) ∧ ∃ q n v e V', U = rput T m (sg V' g) od ∧ CmdP t L h q n v e ∧ RdP V V' t L e c (c + 1) q h (n + 1) v) ∨ (r = .inl (some (.int (nI 0))) ∧ ∃ p V', U = rput T m (sg V' g) od ∧ BadP t L h p ∧ TXT V' t L p ∧ ∀ j i, ¬ (j = 0 ∧ (i = 17 ∨ i = 18)) → j ≠ 10 → V' j i = V j i)) := by
  refine Cn.of rfl (by decide) (Nat.le_of_ble_eq_true rfl) (fun hN hM => ?_)
  show Wx _ G _ 0 [(0, .ref (m))] [] _
  have hL60 := hx.2.2.1
  have hhL := hx.2.2.2.1
  refine r_bipush (v := nI 9) dX13_commandHere_0 (by decide) ?_
  refine r_aload_n dX13_commandHere_2 rfl 0 rfl ?_
  refine o_get (k := 17) hs dX13_commandHere_3 fr_X13_353 rfl ?_
  refine Wx.top h17 ?_
  refine r_imulN dX13_commandHere_6 ?_
  refine r_istore_n (lv' := [(1, .int (nI (9 * c))), (0, .ref (m))]) dX13_commandHere_7 rfl (by decide) rfl ?_
  refine r_aload_n dX13_commandHere_8 rfl 1 rfl ?_
  refine m_ref (k := 16) (j := 10) hs hs.2.1.2.2.2.2.2.2.2.2.2.1 dX13_commandHere_9 fr_X13_44 rfl ?_
  refine r_iload_n dX13_commandHere_12 rfl 0 rfl ?_
  refine r_iconst (v := nI 1) dX13_commandHere_13 (by decide) ?_
  refine r_iaddN dX13_commandHere_14 ?_
  refine r_aload_n dX13_commandHere_15 rfl 1 rfl ?_
  refine o_get (k := 18) hs dX13_commandHere_16 fr_X13_331 rfl ?_
  refine Wx.top hx.1 ?_
  refine o_iast (j := 10) (n := 160) (i := 9 * c + 1) (by decide) hs rw10 dX13_commandHere_19 (by (first | omega | (have := @mosN_b q; omega))) (by decide)  ?_
  refine r_aload_n dX13_commandHere_20 rfl 1 rfl ?_
  refine m_ref (k := 16) (j := 10) hs hs.2.1.2.2.2.2.2.2.2.2.2.1 dX13_commandHere_21 fr_X13_44 rfl ?_
  refine r_iload_n dX13_commandHere_24 rfl 0 rfl ?_
  refine r_aload_n dX13_commandHere_25 rfl 1 rfl ?_
  obtain ⟨e, hlt⟩ := LtE.ex (t := t) hhL
  have heL := hlt.le hhL
  have hx1 : TXT (up2 V 10 (9 * c + 1) (nI h)) t L h := hx.o ⟨Or.inl (by decide), by decide⟩
  refine r_callV (M2 := m_X13_wordHere) (As := []) (rest := [.int (nI (9 * c)), .ref (m + 10)]) dX13_commandHere_26 cc_X13_commandHere_356 rfl rfl rfl (Nat.le_of_ble_eq_true rfl) hs.1 rfl rfl (by decide) (g_wordHere hs hx1 ht hlt) (fun v9 U hq => ?_) (fun E9 T9 hq => by rcases hq with ⟨_, _, hq, _⟩ | ⟨_, hq, _⟩ <;> cases hq)
  rcases hq with ⟨q, hwd, hv9, rfl⟩ | ⟨hno, hv9, rfl⟩
  · cases hv9
    have hq9 := hwd.1
    show Wx _ G (rput T m (sg (up2 (up2 V 10 (9 * c + 1) (nI h)) 0 18 (nI e)) g) od) 29 [(1, .int (nI (9 * c))), (0, .ref (m))] [.int (nI (q)), .int (nI (9 * c)), .ref (m + 10)] _
    refine o_iast (j := 10) (n := 160) (i := 9 * c) (by decide) hs rw10 dX13_commandHere_29 (by (first | omega | (have := @mosN_b q; omega))) (by decide)  ?_
    refine r_aload_n dX13_commandHere_30 rfl 1 rfl ?_
    refine m_ref (k := 16) (j := 10) hs hs.2.1.2.2.2.2.2.2.2.2.2.1 dX13_commandHere_31 fr_X13_44 rfl ?_
    refine r_iload_n dX13_commandHere_34 rfl 0 rfl ?_
    refine r_iconst (v := nI 2) dX13_commandHere_35 (by decide) ?_
    refine r_iaddN dX13_commandHere_36 ?_
    refine r_iconst (v := nI 0) dX13_commandHere_37 (by decide) ?_
    refine o_iast (j := 10) (n := 160) (i := 9 * c + 2) (by decide) hs rw10 dX13_commandHere_38 (by (first | omega | (have := @mosN_b q; omega))) (by decide)  ?_
    refine r_iconst (v := nI 3) dX13_commandHere_39 (by decide) ?_
    refine r_istore_n (lv' := [(2, .int (nI (3))), (1, .int (nI (9 * c))), (0, .ref (m))]) dX13_commandHere_40 rfl (by decide) rfl ?_
    refine Wx.loopR (fun u S lv => (∃ V', S = rput T m (sg V' g) od ∧ (∀ j i, ¬ (j = 10 ∧ 9 * c + 3 ≤ i ∧ i < 9 * c + 9) → V' j i = (up2 (up2 (up2 (up2 V 10 (9 * c + 1) (nI h)) 0 18 (nI e)) 10 (9 * c) (nI q)) 10 (9 * c + 2) (nI 0)) j i) ∧ ∀ k, 3 ≤ k → k < u → V' 10 (9 * c + k) = -1) ∧ lv = [(2, .int (nI (u))), (1, .int (nI (9 * c))), (0, .ref (m))]) 9 3 (by decide) ⟨⟨_, rfl, fun _ _ _ => rfl, fun k h1 h2 => absurd h2 (by omega)⟩, rfl⟩ (fun u S lv hu0 hu hI nx => ?_)
    obtain ⟨⟨V', rfl, hV1, hV2⟩, rfl⟩ := hI
    refine r_iload_n dX13_commandHere_41 rfl 0 rfl ?_
    refine r_bipush (v := nI 9) dX13_commandHere_42 (by decide) ?_
    refine r_icmp_geN (tgt := 62) dX13_commandHere_44 (by decide) (by (first | omega | (have := @mosN_b q; omega))) (by (first | omega | (have := @mosN_b q; omega))) (fun h44 => ?_) (fun h44 => ?_)
    · obtain rfl : u = 9 := by omega
      refine Wx.sub [1, 2] rfl ?_
      refine Wx.gv (fun V2 => RdP V V2 t L e c c q h 0 (fun _ => 0)) ⟨⟨(hV1 _ _ (by omega)).trans ((up2_n (by omega)).trans ((up2_n (by omega)).trans (up2_s))), (hV1 _ _ (by omega)).trans ((up2_n (by omega)).trans ((up2_n (by omega)).trans ((up2_n (by omega)).trans ((up2_n (by omega)).trans (hx.2.1))))), hx.2.2.1, heL, fun i hi => (hV1 _ _ (by omega)).trans ((up2_n (by omega)).trans ((up2_n (by omega)).trans ((up2_n (by omega)).trans ((up2_n (by omega)).trans (hx.2.2.2.2 i hi)))))⟩, ⟨(hV1 _ _ (by omega)).trans ((up2_n (by omega)).trans (up2_s)), (hV1 _ _ (by omega)).trans ((up2_n (by omega)).trans ((up2_n (by omega)).trans ((up2_n (by omega)).trans (up2_s)))), (hV1 _ _ (by omega)).trans (up2_s), fun k hk => absurd hk (Nat.not_lt_zero k), fun k h1 h2 => hV2 (3 + k) (by omega) (by omega)⟩, fun j i h1 h2 => (hV1 _ _ (by omega)).trans ((up2_n (by omega)).trans ((up2_n (by omega)).trans ((up2_n (by omega)).trans ((up2_n (by omega)).trans (rfl))))), (hV1 _ _ (by omega)).trans ((up2_n (by omega)).trans ((up2_n (by omega)).trans ((up2_n (by omega)).trans ((up2_n (by omega)).trans (h17))))), fun i hi => (hV1 _ _ (by omega)).trans ((up2_n (by omega)).trans ((up2_n (by omega)).trans ((up2_n (by omega)).trans ((up2_n (by omega)).trans (rfl)))))⟩ (fun V2 hR => ?_)
      refine r_aload_n dX13_commandHere_62 rfl 1 rfl ?_
      refine m_ref (k := 16) (j := 10) hs hs.2.1.2.2.2.2.2.2.2.2.2.1 dX13_commandHere_63 fr_X13_44 rfl ?_
      refine r_iload_n dX13_commandHere_66 rfl 0 rfl ?_
      refine o_iald (j := 10) (n := 160) (i := 9 * c) (by decide) hs rw10 dX13_commandHere_67 (by (first | omega | (have := @mosN_b q; omega))) (by decide) ?_
      refine Wx.top hR.2.1.1 ?_
      refine r_if_ltN (tgt := 80) dX13_commandHere_68 (by decide) (by (first | omega | (have := @mosN_b q; omega))) ?_
      refine r_aload_n dX13_commandHere_71 rfl 1 rfl ?_
      refine r_bipush (v := nI 58) dX13_commandHere_72 (by decide) ?_
      by_cases hs74 : cha t L (e) = 58
      · refine r_fnV (M2 := m_X13_skips) (As := [.int (nI (58))]) (rest := []) (v := some (.int (nI (1)))) dX13_commandHere_74 cc_X13_commandHere_359 rfl rfl rfl (Nat.le_of_ble_eq_true rfl) hs.1 rfl rfl (by decide) (g_skips_t hs hR.1 ((nwI_c (L := L) (u := e) ht (by decide) (by decide)).mpr hs74)) rfl ?_
        have hs74L : e + 1 ≤ L := by
          refine Nat.lt_of_not_le fun r => ?_
          have z := hs74
          rw [cha_f (by omega)] at z
          omega
        refine Wx.gv (fun V2 => RdP V V2 t L (e + 1) c c q h 0 (fun _ => 0)) (hR.pos hs74L) (fun V2 hR => ?_)
        refine r_if_neN (tgt := 82) dX13_commandHere_77 (by decide) (by (first | omega | (have := @mosN_b q; omega))) (fun zz77 => ?_) (fun zz77 => ?_)
        · refine Wx.loopR (fun n S lv => (∃ V2 v s, S = rput T m (sg V2 g) od ∧ RdP V V2 t L s c c q h n v ∧ NumsP t L (e + 1) v n s ∧ n < mosN q) ∧ lv = [(1, .int (nI (9 * c))), (0, .ref (m))]) (mosN q) 0 (Nat.zero_le _) ⟨⟨_, fun _ => 0, e + 1, rfl, hR, rfl, mosN_b.1⟩, rfl⟩ (fun n S lv hu0 hu hI nx => ?_)
          obtain ⟨⟨V3, v, s, rfl, hR3, hns, hnm⟩, rfl⟩ := hI
          have hn6 : n < 6 := Nat.lt_of_lt_of_le hnm mosN_b.2.1
          have hsL := hR3.1.2.2.2.1
          refine r_aload_n dX13_commandHere_82 rfl 1 rfl ?_
          refine r_iload_n dX13_commandHere_83 rfl 0 rfl ?_
          refine r_iconst (v := nI 3) dX13_commandHere_84 (by decide) ?_
          refine r_iaddN dX13_commandHere_85 ?_
          refine r_aload_n dX13_commandHere_86 rfl 1 rfl ?_
          refine m_ref (k := 16) (j := 10) hs hs.2.1.2.2.2.2.2.2.2.2.2.1 dX13_commandHere_87 fr_X13_44 rfl ?_
          refine r_iload_n dX13_commandHere_90 rfl 0 rfl ?_
          refine r_iconst (v := nI 2) dX13_commandHere_91 (by decide) ?_
          refine r_iaddN dX13_commandHere_92 ?_
          refine o_iald (j := 10) (n := 160) (i := 9 * c + 2) (by decide) hs rw10 dX13_commandHere_93 (by (first | omega | (have := @mosN_b q; omega))) (by decide) ?_
          refine Wx.top hR3.2.1.2.2.1 ?_
          refine r_iaddN dX13_commandHere_94 ?_
          by_cases hdg9 : dgP t L s
          · obtain ⟨d, hnp⟩ := NumP.ex ht hdg9
            have hdL := hnp.2.2.1
            refine r_fnV (M2 := m_X13_numberHere) (As := [.int (nI (9 * c + 3 + n))]) (rest := []) (v := some (.int (nI 1))) dX13_commandHere_95 cc_X13_commandHere_362 rfl rfl rfl (Nat.le_of_ble_eq_true rfl) hs.1 rfl rfl (by decide) (g_number_t hs hR3.1 (by omega) hnp) rfl ?_
            refine r_if_neN (tgt := 103) dX13_commandHere_98 (by decide) (by (first | omega | (have := @mosN_b q; omega))) (fun zz98 => ?_) (fun zz98 => ?_)
            · refine r_aload_n dX13_commandHere_103 rfl 1 rfl ?_
              refine m_ref (k := 16) (j := 10) hs hs.2.1.2.2.2.2.2.2.2.2.2.1 dX13_commandHere_104 fr_X13_44 rfl ?_
              refine r_iload_n dX13_commandHere_107 rfl 0 rfl ?_
              refine r_iconst (v := nI 2) dX13_commandHere_108 (by decide) ?_
              refine r_iaddN dX13_commandHere_109 ?_
              refine r_dup2 dX13_commandHere_110 rfl rfl ?_
              refine o_iald (j := 10) (n := 160) (i := 9 * c + 2) (by decide) hs rw10 dX13_commandHere_111 (by (first | omega | (have := @mosN_b q; omega))) (by decide) ?_
              refine Wx.top ((up2_n (by omega)).trans ((up2_n (by omega)).trans hR3.2.1.2.2.1)) ?_
              refine r_iconst (v := nI 1) dX13_commandHere_112 (by decide) ?_
              refine r_iaddN dX13_commandHere_113 ?_
              refine o_iast (j := 10) (n := 160) (i := 9 * c + 2) (by decide) hs rw10 dX13_commandHere_114 (by (first | omega | (have := @mosN_b q; omega))) (by decide)  ?_
              refine Wx.gv (fun V2 => RdP V V2 t L (s + d) c c q h (n + 1) (up1 v n (numI t s d))) (hR3.num hn6 hdL) (fun V4 hR4 => ?_)
              refine r_aload_n dX13_commandHere_115 rfl 1 rfl ?_
              refine m_ref (k := 16) (j := 10) hs hs.2.1.2.2.2.2.2.2.2.2.2.1 dX13_commandHere_116 fr_X13_44 rfl ?_
              refine r_iload_n dX13_commandHere_119 rfl 0 rfl ?_
              refine r_iconst (v := nI 2) dX13_commandHere_120 (by decide) ?_
              refine r_iaddN dX13_commandHere_121 ?_
              refine o_iald (j := 10) (n := 160) (i := 9 * c + 2) (by decide) hs rw10 dX13_commandHere_122 (by (first | omega | (have := @mosN_b q; omega))) (by decide) ?_
              refine Wx.top hR4.2.1.2.2.1 ?_
              refine r_aload_n dX13_commandHere_123 rfl 1 rfl ?_
              refine m_ref (k := 16) (j := 10) hs hs.2.1.2.2.2.2.2.2.2.2.2.1 dX13_commandHere_124 fr_X13_44 rfl ?_
              refine r_iload_n dX13_commandHere_127 rfl 0 rfl ?_
              refine o_iald (j := 10) (n := 160) (i := 9 * c) (by decide) hs rw10 dX13_commandHere_128 (by (first | omega | (have := @mosN_b q; omega))) (by decide) ?_
              refine Wx.top hR4.2.1.1 ?_
              refine r_fnS (M2 := m_X13_most) (As := [.int (nI (q))]) (rest := [.int (nI (n + 1))]) (v := some (.int (nI (mosN q)))) dX13_commandHere_129 cc_X13_commandHere_365 rfl rfl rfl (Nat.le_of_ble_eq_true rfl) (g_most hq9) rfl ?_
              refine r_icmp_geN (tgt := 144) dX13_commandHere_132 (by decide) (by (first | omega | (have := @mosN_b q; omega))) (by (first | omega | (have := @mosN_b q; omega))) (fun h132 => ?_) (fun h132 => ?_)
              · refine r_aload_n dX13_commandHere_144 rfl 1 rfl ?_
                refine r_dup dX13_commandHere_145 rfl ?_
                refine o_get (k := 17) hs dX13_commandHere_146 fr_X13_353 rfl ?_
                refine Wx.top hR4.2.2.2.1 ?_
                refine r_iconst (v := nI 1) dX13_commandHere_149 (by decide) ?_
                refine r_iaddN dX13_commandHere_150 ?_
                refine o_put (k := 17) hs dX13_commandHere_151 fw_X13_commandHere_353 rfl rfl rfl ?_
                refine Wx.gv (fun V2 => RdP V V2 t L (s + d) c (c + 1) q h (n + 1) (up1 v n (numI t s d))) hR4.tol (fun V5 hR5 => ?_)
                refine r_aload_n dX13_commandHere_154 rfl 1 rfl ?_
                refine m_ref (k := 16) (j := 10) hs hs.2.1.2.2.2.2.2.2.2.2.2.1 dX13_commandHere_155 fr_X13_44 rfl ?_
                refine r_iload_n dX13_commandHere_158 rfl 0 rfl ?_
                refine r_iconst (v := nI 2) dX13_commandHere_159 (by decide) ?_
                refine r_iaddN dX13_commandHere_160 ?_
                refine o_iald (j := 10) (n := 160) (i := 9 * c + 2) (by decide) hs rw10 dX13_commandHere_161 (by (first | omega | (have := @mosN_b q; omega))) (by decide) ?_
                refine Wx.top hR5.2.1.2.2.1 ?_
                refine r_aload_n dX13_commandHere_162 rfl 1 rfl ?_
                refine m_ref (k := 16) (j := 10) hs hs.2.1.2.2.2.2.2.2.2.2.2.1 dX13_commandHere_163 fr_X13_44 rfl ?_
                refine r_iload_n dX13_commandHere_166 rfl 0 rfl ?_
                refine o_iald (j := 10) (n := 160) (i := 9 * c) (by decide) hs rw10 dX13_commandHere_167 (by (first | omega | (have := @mosN_b q; omega))) (by decide) ?_
                refine Wx.top hR5.2.1.1 ?_
                refine r_fnS (M2 := m_X13_fewest) (As := [.int (nI (q))]) (rest := [.int (nI (n + 1))]) (v := some (.int (nI (fewN q)))) dX13_commandHere_168 cc_X13_commandHere_328 rfl rfl rfl (Nat.le_of_ble_eq_true rfl) (g_fewest hq9) rfl ?_
                refine r_icmp_ltN (tgt := 187) dX13_commandHere_171 (by decide) (by (first | omega | (have := @mosN_b q; omega))) (by (first | omega | (have := @mosN_b q; omega))) (fun h171 => ?_) (fun h171 => ?_)
                · refine r_iconst (v := nI 0) dX13_commandHere_187 (by decide) ?_
                  exact r_iret (ty := .boolean) dX13_commandHere_188 rfl (by decide) (Or.inr ⟨rfl, s + d, V5, rfl, Or.inr (Or.inr (Or.inr ⟨e, q, n, v, s, d, hlt, hwd, hs74, hns, hnm, hnp, (fun z => by omega), (fun z => by omega), rfl⟩)), hR5.1, hR5.2.2.1⟩)
                · refine r_aload_n dX13_commandHere_174 rfl 1 rfl ?_
                  refine r_bipush (v := nI 59) dX13_commandHere_175 (by decide) ?_
                  by_cases hs177 : cha t L (s + d) = 59
                  · refine r_fnV (M2 := m_X13_skips) (As := [.int (nI (59))]) (rest := []) (v := some (.int (nI (1)))) dX13_commandHere_177 cc_X13_commandHere_359 rfl rfl rfl (Nat.le_of_ble_eq_true rfl) hs.1 rfl rfl (by decide) (g_skips_t hs hR5.1 ((nwI_c (L := L) (u := s + d) ht (by decide) (by decide)).mpr hs177)) rfl ?_
                    have hs177L : s + d + 1 ≤ L := by
                      refine Nat.lt_of_not_le fun r => ?_
                      have z := hs177
                      rw [cha_f (by omega)] at z
                      omega
                    refine Wx.gv (fun V2 => RdP V V2 t L (s + d + 1) c (c + 1) q h (n + 1) (up1 v n (numI t s d))) (hR5.pos hs177L) (fun V2_1 hR_1 => ?_)
                    refine r_if_eqN (tgt := 187) dX13_commandHere_180 (by decide) (by (first | omega | (have := @mosN_b q; omega))) (fun zz180 => ?_) (fun zz180 => ?_)
                    · exact absurd zz180 (by decide)
                    · refine r_iconst (v := nI 1) dX13_commandHere_183 (by decide) ?_
                      refine r_goto (tgt := 188) dX13_commandHere_184 (by decide) ?_
                      exact r_iret (ty := .boolean) dX13_commandHere_188 rfl (by decide) (Or.inl ⟨rfl, q, n, up1 v n (numI t s d), s + d + 1, V2_1, rfl, ⟨e, s, d, hlt, hwd, hs74, NumsP.cg (fun k hk => up1_n (by omega)) hns, hnp, up1_s, ⟨by omega, by omega⟩, hs177, rfl⟩, hR_1⟩)
                  · refine r_fnV (M2 := m_X13_skips) (As := [.int (nI (59))]) (rest := []) (v := some (.int (nI (0)))) dX13_commandHere_177 cc_X13_commandHere_359 rfl rfl rfl (Nat.le_of_ble_eq_true rfl) hs.1 rfl rfl (by decide) (g_skips_f hs hR5.1 (fun z => hs177 ((nwI_c (L := L) (u := s + d) ht (by decide) (by decide)).mp z))) rfl ?_
                    refine Wx.gv (fun V2 => RdP V V2 t L (s + d) c (c + 1) q h (n + 1) (up1 v n (numI t s d))) (hR5.pos hR5.1.2.2.2.1) (fun V2_2 hR_2 => ?_)
                    refine r_if_eqN (tgt := 187) dX13_commandHere_180 (by decide) (by (first | omega | (have := @mosN_b q; omega))) (fun zz180_1 => ?_) (fun zz180_1 => ?_)
                    · refine r_iconst (v := nI 0) dX13_commandHere_187 (by decide) ?_
                      exact r_iret (ty := .boolean) dX13_commandHere_188 rfl (by decide) (Or.inr ⟨rfl, s + d, V2_2, rfl, Or.inr (Or.inr (Or.inr ⟨e, q, n, v, s, d, hlt, hwd, hs74, hns, hnm, hnp, (fun z => hs177 z.2), (fun z => by omega), rfl⟩)), hR_2.1, hR_2.2.2.1⟩)
                    · exact absurd zz180_1 (by decide)
              · refine r_aload_n dX13_commandHere_135 rfl 1 rfl ?_
                refine r_bipush (v := nI 44) dX13_commandHere_136 (by decide) ?_
                by_cases hs138 : cha t L (s + d) = 44
                · refine r_fnV (M2 := m_X13_skips) (As := [.int (nI (44))]) (rest := []) (v := some (.int (nI (1)))) dX13_commandHere_138 cc_X13_commandHere_359 rfl rfl rfl (Nat.le_of_ble_eq_true rfl) hs.1 rfl rfl (by decide) (g_skips_t hs hR4.1 ((nwI_c (L := L) (u := s + d) ht (by decide) (by decide)).mpr hs138)) rfl ?_
                  have hs138L : s + d + 1 ≤ L := by
                    refine Nat.lt_of_not_le fun r => ?_
                    have z := hs138
                    rw [cha_f (by omega)] at z
                    omega
                  refine Wx.gv (fun V2 => RdP V V2 t L (s + d + 1) c c q h (n + 1) (up1 v n (numI t s d))) (hR4.pos hs138L) (fun V2_3 hR_3 => ?_)
                  refine r_if_neN (tgt := 82) dX13_commandHere_141 (by decide) (by (first | omega | (have := @mosN_b q; omega))) (fun zz141 => ?_) (fun zz141 => ?_)
                  · exact nx _ _ (by omega) ⟨⟨_, up1 v n (numI t s d), s + d + 1, rfl, hR_3, ⟨s, d, NumsP.cg (fun k hk => up1_n (by omega)) hns, hnp, up1_s, hs138, rfl⟩, by omega⟩, rfl⟩
                  · exact absurd zz141 (by decide)
                · refine r_fnV (M2 := m_X13_skips) (As := [.int (nI (44))]) (rest := []) (v := some (.int (nI (0)))) dX13_commandHere_138 cc_X13_commandHere_359 rfl rfl rfl (Nat.le_of_ble_eq_true rfl) hs.1 rfl rfl (by decide) (g_skips_f hs hR4.1 (fun z => hs138 ((nwI_c (L := L) (u := s + d) ht (by decide) (by decide)).mp z))) rfl ?_
                  refine Wx.gv (fun V2 => RdP V V2 t L (s + d) c c q h (n + 1) (up1 v n (numI t s d))) (hR4.pos hR4.1.2.2.2.1) (fun V2_4 hR_4 => ?_)
                  refine r_if_neN (tgt := 82) dX13_commandHere_141 (by decide) (by (first | omega | (have := @mosN_b q; omega))) (fun zz141_1 => ?_) (fun zz141_1 => ?_)
                  · exact absurd zz141_1 (by decide)
                  · refine r_aload_n dX13_commandHere_144 rfl 1 rfl ?_
                    refine r_dup dX13_commandHere_145 rfl ?_
                    refine o_get (k := 17) hs dX13_commandHere_146 fr_X13_353 rfl ?_
                    refine Wx.top hR_4.2.2.2.1 ?_
                    refine r_iconst (v := nI 1) dX13_commandHere_149 (by decide) ?_
                    refine r_iaddN dX13_commandHere_150 ?_
                    refine o_put (k := 17) hs dX13_commandHere_151 fw_X13_commandHere_353 rfl rfl rfl ?_
                    refine Wx.gv (fun V2 => RdP V V2 t L (s + d) c (c + 1) q h (n + 1) (up1 v n (numI t s d))) hR_4.tol (fun V5 hR5 => ?_)
                    refine r_aload_n dX13_commandHere_154 rfl 1 rfl ?_
                    refine m_ref (k := 16) (j := 10) hs hs.2.1.2.2.2.2.2.2.2.2.2.1 dX13_commandHere_155 fr_X13_44 rfl ?_
                    refine r_iload_n dX13_commandHere_158 rfl 0 rfl ?_
                    refine r_iconst (v := nI 2) dX13_commandHere_159 (by decide) ?_
                    refine r_iaddN dX13_commandHere_160 ?_
                    refine o_iald (j := 10) (n := 160) (i := 9 * c + 2) (by decide) hs rw10 dX13_commandHere_161 (by (first | omega | (have := @mosN_b q; omega))) (by decide) ?_
                    refine Wx.top hR5.2.1.2.2.1 ?_
                    refine r_aload_n dX13_commandHere_162 rfl 1 rfl ?_
                    refine m_ref (k := 16) (j := 10) hs hs.2.1.2.2.2.2.2.2.2.2.2.1 dX13_commandHere_163 fr_X13_44 rfl ?_
                    refine r_iload_n dX13_commandHere_166 rfl 0 rfl ?_
                    refine o_iald (j := 10) (n := 160) (i := 9 * c) (by decide) hs rw10 dX13_commandHere_167 (by (first | omega | (have := @mosN_b q; omega))) (by decide) ?_
                    refine Wx.top hR5.2.1.1 ?_
                    refine r_fnS (M2 := m_X13_fewest) (As := [.int (nI (q))]) (rest := [.int (nI (n + 1))]) (v := some (.int (nI (fewN q)))) dX13_commandHere_168 cc_X13_commandHere_328 rfl rfl rfl (Nat.le_of_ble_eq_true rfl) (g_fewest hq9) rfl ?_
                    refine r_icmp_ltN (tgt := 187) dX13_commandHere_171 (by decide) (by (first | omega | (have := @mosN_b q; omega))) (by (first | omega | (have := @mosN_b q; omega))) (fun h171_1 => ?_) (fun h171_1 => ?_)
                    · refine r_iconst (v := nI 0) dX13_commandHere_187 (by decide) ?_
                      exact r_iret (ty := .boolean) dX13_commandHere_188 rfl (by decide) (Or.inr ⟨rfl, s + d, V5, rfl, Or.inr (Or.inr (Or.inr ⟨e, q, n, v, s, d, hlt, hwd, hs74, hns, hnm, hnp, (fun z => by omega), (fun z => hs138 z.2), rfl⟩)), hR5.1, hR5.2.2.1⟩)
                    · refine r_aload_n dX13_commandHere_174 rfl 1 rfl ?_
                      refine r_bipush (v := nI 59) dX13_commandHere_175 (by decide) ?_
                      by_cases hs177 : cha t L (s + d) = 59
                      · refine r_fnV (M2 := m_X13_skips) (As := [.int (nI (59))]) (rest := []) (v := some (.int (nI (1)))) dX13_commandHere_177 cc_X13_commandHere_359 rfl rfl rfl (Nat.le_of_ble_eq_true rfl) hs.1 rfl rfl (by decide) (g_skips_t hs hR5.1 ((nwI_c (L := L) (u := s + d) ht (by decide) (by decide)).mpr hs177)) rfl ?_
                        have hs177L : s + d + 1 ≤ L := by
                          refine Nat.lt_of_not_le fun r => ?_
                          have z := hs177
                          rw [cha_f (by omega)] at z
                          omega
                        refine Wx.gv (fun V2 => RdP V V2 t L (s + d + 1) c (c + 1) q h (n + 1) (up1 v n (numI t s d))) (hR5.pos hs177L) (fun V2_5 hR_5 => ?_)
                        refine r_if_eqN (tgt := 187) dX13_commandHere_180 (by decide) (by (first | omega | (have := @mosN_b q; omega))) (fun zz180_2 => ?_) (fun zz180_2 => ?_)
                        · exact absurd zz180_2 (by decide)
                        · refine r_iconst (v := nI 1) dX13_commandHere_183 (by decide) ?_
                          refine r_goto (tgt := 188) dX13_commandHere_184 (by decide) ?_
                          exact r_iret (ty := .boolean) dX13_commandHere_188 rfl (by decide) (Or.inl ⟨rfl, q, n, up1 v n (numI t s d), s + d + 1, V2_5, rfl, ⟨e, s, d, hlt, hwd, hs74, NumsP.cg (fun k hk => up1_n (by omega)) hns, hnp, up1_s, ⟨by omega, by omega⟩, hs177, rfl⟩, hR_5⟩)
                      · refine r_fnV (M2 := m_X13_skips) (As := [.int (nI (59))]) (rest := []) (v := some (.int (nI (0)))) dX13_commandHere_177 cc_X13_commandHere_359 rfl rfl rfl (Nat.le_of_ble_eq_true rfl) hs.1 rfl rfl (by decide) (g_skips_f hs hR5.1 (fun z => hs177 ((nwI_c (L := L) (u := s + d) ht (by decide) (by decide)).mp z))) rfl ?_
                        refine Wx.gv (fun V2 => RdP V V2 t L (s + d) c (c + 1) q h (n + 1) (up1 v n (numI t s d))) (hR5.pos hR5.1.2.2.2.1) (fun V2_6 hR_6 => ?_)
                        refine r_if_eqN (tgt := 187) dX13_commandHere_180 (by decide) (by (first | omega | (have := @mosN_b q; omega))) (fun zz180_3 => ?_) (fun zz180_3 => ?_)
                        · refine r_iconst (v := nI 0) dX13_commandHere_187 (by decide) ?_
                          exact r_iret (ty := .boolean) dX13_commandHere_188 rfl (by decide) (Or.inr ⟨rfl, s + d, V2_6, rfl, Or.inr (Or.inr (Or.inr ⟨e, q, n, v, s, d, hlt, hwd, hs74, hns, hnm, hnp, (fun z => hs177 z.2), (fun z => hs138 z.2), rfl⟩)), hR_6.1, hR_6.2.2.1⟩)
                        · exact absurd zz180_3 (by decide)
            · exact absurd zz98 (by decide)
          · refine r_fnV (M2 := m_X13_numberHere) (As := [.int (nI (9 * c + 3 + n))]) (rest := []) (v := some (.int (nI 0))) dX13_commandHere_95 cc_X13_commandHere_362 rfl rfl rfl (Nat.le_of_ble_eq_true rfl) hs.1 rfl rfl (by decide) (g_number_f hs hR3.1 (by omega) (fun z => hdg9 (dgP_of ht z))) rfl ?_
            refine r_if_neN (tgt := 103) dX13_commandHere_98 (by decide) (by (first | omega | (have := @mosN_b q; omega))) (fun zz98_1 => ?_) (fun zz98_1 => ?_)
            · exact absurd zz98_1 (by decide)
            · refine r_iconst (v := nI 0) dX13_commandHere_101 (by decide) ?_
              exact r_iret (ty := .boolean) dX13_commandHere_102 rfl (by decide) (Or.inr ⟨rfl, s, V3, rfl, Or.inr (Or.inr (Or.inl ⟨e, q, n, v, s, hlt, hwd, hs74, hns, hnm, hdg9, rfl⟩)), hR3.1, hR3.2.2.1⟩)
        · exact absurd zz77 (by decide)
      · refine r_fnV (M2 := m_X13_skips) (As := [.int (nI (58))]) (rest := []) (v := some (.int (nI (0)))) dX13_commandHere_74 cc_X13_commandHere_359 rfl rfl rfl (Nat.le_of_ble_eq_true rfl) hs.1 rfl rfl (by decide) (g_skips_f hs hR.1 (fun z => hs74 ((nwI_c (L := L) (u := e) ht (by decide) (by decide)).mp z))) rfl ?_
        refine Wx.gv (fun V2 => RdP V V2 t L (e) c c q h 0 (fun _ => 0)) (hR.pos hR.1.2.2.2.1) (fun V2_7 hR_7 => ?_)
        refine r_if_neN (tgt := 82) dX13_commandHere_77 (by decide) (by (first | omega | (have := @mosN_b q; omega))) (fun zz77_1 => ?_) (fun zz77_1 => ?_)
        · exact absurd zz77_1 (by decide)
        · refine r_iconst (v := nI 0) dX13_commandHere_80 (by decide) ?_
          exact r_iret (ty := .boolean) dX13_commandHere_81 rfl (by decide) (Or.inr ⟨rfl, e, V2_7, rfl, Or.inr (Or.inl ⟨e, q, hlt, hwd, hs74, rfl⟩), hR_7.1, hR_7.2.2.1⟩)
    · refine r_aload_n dX13_commandHere_47 rfl 2 rfl ?_
      refine m_ref (k := 16) (j := 10) hs hs.2.1.2.2.2.2.2.2.2.2.2.1 dX13_commandHere_48 fr_X13_44 rfl ?_
      refine r_iload_n dX13_commandHere_51 rfl 1 rfl ?_
      refine r_iload_n dX13_commandHere_52 rfl 0 rfl ?_
      refine r_iaddN dX13_commandHere_53 ?_
      refine r_iconst (v := (-1)) dX13_commandHere_54 (by decide) ?_
      refine o_iast (j := 10) (n := 160) (i := 9 * c + u) (by decide) hs rw10 dX13_commandHere_55 (by (first | omega | (have := @mosN_b q; omega))) (by decide)  ?_
      refine r_iincN (k := 1) (lv' := [(2, .int (nI (u + 1))), (1, .int (nI (9 * c))), (0, .ref (m))]) dX13_commandHere_56 (by decide) 0 rfl (by decide) rfl ?_
      refine r_goto (tgt := 41) dX13_commandHere_59 (by decide) ?_
      exact nx _ _ (by omega) ⟨⟨_, rfl, fun j i hji => (up2_n (by omega)).trans (hV1 j i hji), fun k h1 h2 => by
        by_cases e : k = u
        · rw [e]; exact up2_s
        · exact (up2_n (by omega)).trans (hV2 k h1 (by omega))⟩, rfl⟩
  · cases hv9
    show Wx _ G (rput T m (sg (up2 V 10 (9 * c + 1) (nI h)) g) od) 29 [(1, .int (nI (9 * c))), (0, .ref (m))] [.int ((-1)), .int (nI (9 * c)), .ref (m + 10)] _
    refine o_iast (j := 10) (n := 160) (i := 9 * c) (by decide) hs rw10 dX13_commandHere_29 (by (first | omega | (have := @mosN_b q; omega))) (by decide)  ?_
    refine r_aload_n dX13_commandHere_30 rfl 1 rfl ?_
    refine m_ref (k := 16) (j := 10) hs hs.2.1.2.2.2.2.2.2.2.2.2.1 dX13_commandHere_31 fr_X13_44 rfl ?_
    refine r_iload_n dX13_commandHere_34 rfl 0 rfl ?_
    refine r_iconst (v := nI 2) dX13_commandHere_35 (by decide) ?_
    refine r_iaddN dX13_commandHere_36 ?_
    refine r_iconst (v := nI 0) dX13_commandHere_37 (by decide) ?_
    refine o_iast (j := 10) (n := 160) (i := 9 * c + 2) (by decide) hs rw10 dX13_commandHere_38 (by (first | omega | (have := @mosN_b q; omega))) (by decide)  ?_
    refine r_iconst (v := nI 3) dX13_commandHere_39 (by decide) ?_
    refine r_istore_n (lv' := [(2, .int (nI (3))), (1, .int (nI (9 * c))), (0, .ref (m))]) dX13_commandHere_40 rfl (by decide) rfl ?_
    refine Wx.loopR (fun u S lv => (∃ V', S = rput T m (sg V' g) od ∧ (∀ j i, ¬ (j = 10 ∧ 9 * c + 3 ≤ i ∧ i < 9 * c + 9) → V' j i = (up2 (up2 (up2 V 10 (9 * c + 1) (nI h)) 10 (9 * c) ((-1))) 10 (9 * c + 2) (nI 0)) j i) ∧ ∀ k, 3 ≤ k → k < u → V' 10 (9 * c + k) = -1) ∧ lv = [(2, .int (nI (u))), (1, .int (nI (9 * c))), (0, .ref (m))]) 9 3 (by decide) ⟨⟨_, rfl, fun _ _ _ => rfl, fun k h1 h2 => absurd h2 (by omega)⟩, rfl⟩ (fun u S lv hu0 hu hI nx => ?_)
    obtain ⟨⟨V', rfl, hV1, hV2⟩, rfl⟩ := hI
    refine r_iload_n dX13_commandHere_41 rfl 0 rfl ?_
    refine r_bipush (v := nI 9) dX13_commandHere_42 (by decide) ?_
    refine r_icmp_geN (tgt := 62) dX13_commandHere_44 (by decide) (by (first | omega | (have := @mosN_b q; omega))) (by (first | omega | (have := @mosN_b q; omega))) (fun h44_1 => ?_) (fun h44_1 => ?_)
    · obtain rfl : u = 9 := by omega
      refine Wx.sub [1, 2] rfl ?_
      have h66 : V' 10 (9 * c) = -1 := (hV1 _ _ (by omega)).trans ((up2_n (by omega)).trans (up2_s))
      have hx6 : TXT V' t L h := ⟨(hV1 _ _ (by omega)).trans ((up2_n (by omega)).trans ((up2_n (by omega)).trans ((up2_n (by omega)).trans (hx.1)))), (hV1 _ _ (by omega)).trans ((up2_n (by omega)).trans ((up2_n (by omega)).trans ((up2_n (by omega)).trans (hx.2.1)))), hx.2.2.1, hhL, fun i hi => (hV1 _ _ (by omega)).trans ((up2_n (by omega)).trans ((up2_n (by omega)).trans ((up2_n (by omega)).trans (hx.2.2.2.2 i hi))))⟩
      have hE6 : ∀ j i, ¬ (j = 0 ∧ (i = 17 ∨ i = 18)) → j ≠ 10 → V' j i = V j i := fun j i h1 h2 => (hV1 _ _ (by omega)).trans ((up2_n (by omega)).trans ((up2_n (by omega)).trans ((up2_n (by omega)).trans (rfl))))
      refine r_aload_n dX13_commandHere_62 rfl 1 rfl ?_
      refine m_ref (k := 16) (j := 10) hs hs.2.1.2.2.2.2.2.2.2.2.2.1 dX13_commandHere_63 fr_X13_44 rfl ?_
      refine r_iload_n dX13_commandHere_66 rfl 0 rfl ?_
      refine o_iald (j := 10) (n := 160) (i := 9 * c) (by decide) hs rw10 dX13_commandHere_67 (by (first | omega | (have := @mosN_b q; omega))) (by decide) ?_
      refine Wx.top h66 ?_
      refine r_if_lt (tgt := 80) dX13_commandHere_68 (by decide) (fun _ => ?_) (fun hh => absurd (by decide) hh)
      refine r_iconst (v := nI 0) dX13_commandHere_80 (by decide) ?_
      exact r_iret (ty := .boolean) dX13_commandHere_81 rfl (by decide) (Or.inr ⟨rfl, h, V', rfl, Or.inl ⟨e, hlt, hno, rfl⟩, hx6, hE6⟩)
    · refine r_aload_n dX13_commandHere_47 rfl 2 rfl ?_
      refine m_ref (k := 16) (j := 10) hs hs.2.1.2.2.2.2.2.2.2.2.2.1 dX13_commandHere_48 fr_X13_44 rfl ?_
      refine r_iload_n dX13_commandHere_51 rfl 1 rfl ?_
      refine r_iload_n dX13_commandHere_52 rfl 0 rfl ?_
      refine r_iaddN dX13_commandHere_53 ?_
      refine r_iconst (v := (-1)) dX13_commandHere_54 (by decide) ?_
      refine o_iast (j := 10) (n := 160) (i := 9 * c + u) (by decide) hs rw10 dX13_commandHere_55 (by (first | omega | (have := @mosN_b q; omega))) (by decide)  ?_
      refine r_iincN (k := 1) (lv' := [(2, .int (nI (u + 1))), (1, .int (nI (9 * c))), (0, .ref (m))]) dX13_commandHere_56 (by decide) 0 rfl (by decide) rfl ?_
      refine r_goto (tgt := 41) dX13_commandHere_59 (by decide) ?_
      exact nx _ _ (by omega) ⟨⟨_, rfl, fun j i hji => (up2_n (by omega)).trans (hV1 j i hji), fun k h1 h2 => by
        by_cases e : k = u
        · rw [e]; exact up2_s
        · exact (up2_n (by omega)).trans (hV2 k h1 (by omega))⟩, rfl⟩
