/-- a loop over whatever, by a number that falls -/
theorem Wx.wf {ι : Type} {M : MI} {G : GI} {pc : Nat} {st : List Value} {Q : OV → Hp → Prop} (Sf : ι → Hp) (lvf : ι → List (Nat × Value)) (μ : ι → Nat) (P : ι → Prop) (step : ∀ x, P x → (∀ y, P y → μ y < μ x → Wx M G (Sf y) pc (lvf y) st Q) → Wx M G (Sf x) pc (lvf x) st Q) (x : ι) (hx : P x) : Wx M G (Sf x) pc (lvf x) st Q := by
  have key : ∀ n x, μ x < n → P x → Wx M G (Sf x) pc (lvf x) st Q := by
    intro n
    induction n with
    | zero => intro x h; omega
    | succ n ih => intro x h hP; exact step x hP (fun y hy hm => ih y (by omega) hy)
  exact key (μ x + 1) x (by omega) hx
def mdP (g : Nat → Nat) (l u a b k : Nat) : Prop := ∃ q, q < k ∧ g (90 + 13 * l + (10 + q)) = a ∧ pW (g (402 + 2 * (200 * l + u) + 1)) q = b
set_option maxRecDepth 4000 in
theorem g_isMadeOf {G : GI} {T : Hp} {m : Nat} {V : RVal} {g : Nat → Nat} {od : Nat → UInt64} (hs : RS T m)  (hb : WB g) {l u a b : Nat} (hl : l < 24) (hu : u < 200) (h8 : g (90 + 13 * l + 8) ≤ 3) (ha : a < 24) (hb9 : b < 200) (hpt : ∀ k, k < g (90 + 13 * l + 8) → g (90 + 13 * l + (10 + k)) < 24) : Fn m_X13_isMadeOf G [.ref (m), .int (nI (l)), .int (nI (u)), .int (nI (a)), .int (nI (b))] (rput T m (sg V g) od) (some (.int (bI (mdP g l u a b (g (90 + 13 * l + 8)))))) (rput T m (sg V g) od) := by
  refine Cn.of rfl (by decide) (Nat.le_of_ble_eq_true rfl) (fun hN hM => ?_)
  show Wx _ G _ 0 [(0, .ref (m)), (1, .int (nI (l))), (2, .int (nI (u))), (3, .int (nI (a))), (4, .int (nI (b)))] [] _
  refine r_iconst (v := nI 0) dX13_isMadeOf_0 (by decide) ?_
  refine r_istore (lv' := [(5, .int (nI (0))), (0, .ref (m)), (1, .int (nI (l))), (2, .int (nI (u))), (3, .int (nI (a))), (4, .int (nI (b)))]) dX13_isMadeOf_1 (by decide) rfl ?_
  refine Wx.sub [1, 2, 3, 4, 5, 0] rfl ?_
  refine Wx.loopR (fun k S lv => (¬ mdP g l u a b k) ∧ S = (rput T m (sg V g) od) ∧ lv = [(0, .ref (m)), (1, .int (nI (l))), (2, .int (nI (u))), (3, .int (nI (a))), (4, .int (nI (b))), (5, .int (nI (k)))]) (g (90 + 13 * l + 8)) 0 (Nat.zero_le _) ⟨fun ⟨q, h, _⟩ => by omega, rfl, rfl⟩ (fun k S lv hge hle hI9 next => ?_)
  obtain ⟨hnk, rfl, rfl⟩ := hI9
  refine r_iload dX13_isMadeOf_3 5 rfl ?_
  refine r_aload_n dX13_isMadeOf_5 rfl 0 rfl ?_
  refine m_ref (k := 0) (j := 1) hs hs.2.1.1 dX13_isMadeOf_6 fr_X13_7 rfl ?_
  refine r_iload_n dX13_isMadeOf_9 rfl 1 rfl ?_
  refine r_bipush (v := nI 8) dX13_isMadeOf_10 (by decide) ?_
  refine r_fnS (M2 := m_X13_at) (As := [.int (nI (l)), .int (nI (8))]) (rest := [.ref (m + 1), .int (nI (k))]) (v := some (.int (nI (90 + 13 * l + 8)))) dX13_isMadeOf_12 cc_X13_isMadeOf_72 rfl rfl rfl (Nat.le_of_ble_eq_true rfl) f_at rfl ?_
  refine g_iald (i := 90 + 13 * l + 8) hs dX13_isMadeOf_15 (by (first | omega | (have := pW_lt (g (402 + 2 * (200 * l + u) + 1)) k; have := hpt k (by omega); omega))) ?_
  refine r_icmp_geN (tgt := 51) dX13_isMadeOf_16 (by decide) (by (first | omega | (have := pW_lt (g (402 + 2 * (200 * l + u) + 1)) k; have := hpt k (by omega); omega))) (by (first | omega | (have := pW_lt (g (402 + 2 * (200 * l + u) + 1)) k; have := hpt k (by omega); omega))) (fun h16 => ?_) (fun h16 => ?_)
  · refine r_iconst (v := nI 0) dX13_isMadeOf_51 (by decide) ?_
    obtain rfl : k = g (90 + 13 * l + 8) := by omega
    exact r_iret (ty := .boolean) dX13_isMadeOf_52 rfl (by decide) ⟨congrArg (fun x => Sum.inl (some (Value.int x))) (bI_f hnk).symm, rfl⟩
  · refine r_aload_n dX13_isMadeOf_19 rfl 0 rfl ?_
    refine r_iload_n dX13_isMadeOf_20 rfl 1 rfl ?_
    refine r_iload dX13_isMadeOf_21 5 rfl ?_
    refine r_fnV (M2 := m_X13_part) (As := [.int (nI (l)), .int (nI (k))]) (rest := []) (v := some (.int (nI (g (90 + 13 * l + (10 + k)))))) dX13_isMadeOf_23 cc_X13_isMadeOf_203 rfl rfl rfl (Nat.le_of_ble_eq_true rfl) hs.1 rfl rfl (by decide) (g_part hs (by (first | omega | (have := pW_lt (g (402 + 2 * (200 * l + u) + 1)) k; have := hpt k (by omega); omega))) (by (first | omega | (have := pW_lt (g (402 + 2 * (200 * l + u) + 1)) k; have := hpt k (by omega); omega)))) rfl ?_
    refine r_iload_n dX13_isMadeOf_26 rfl 3 rfl ?_
    refine r_icmp_neN (tgt := 45) dX13_isMadeOf_27 (by decide) (by (first | omega | (have := pW_lt (g (402 + 2 * (200 * l + u) + 1)) k; have := hpt k (by omega); omega))) (by (first | omega | (have := pW_lt (g (402 + 2 * (200 * l + u) + 1)) k; have := hpt k (by omega); omega))) (fun h27 => ?_) (fun h27 => ?_)
    · refine r_iincN (k := 1) (lv' := [(5, .int (nI (k + 1))), (0, .ref (m)), (1, .int (nI (l))), (2, .int (nI (u))), (3, .int (nI (a))), (4, .int (nI (b)))]) dX13_isMadeOf_45 (by decide) 5 rfl (by decide) rfl ?_
      refine r_goto (tgt := 3) dX13_isMadeOf_48 (by decide) ?_
      refine Wx.sub [1, 2, 3, 4, 5, 0] rfl ?_
      exact next _ _ (by omega) ⟨fun ⟨q, q1, z1, z2⟩ => by
        by_cases e : q = k
        · subst e; exact h27 z1
        · exact hnk ⟨q, by omega, z1, z2⟩, rfl, rfl⟩
    · refine r_aload_n dX13_isMadeOf_30 rfl 0 rfl ?_
      refine r_iload_n dX13_isMadeOf_31 rfl 1 rfl ?_
      refine r_iload_n dX13_isMadeOf_32 rfl 2 rfl ?_
      refine r_iload dX13_isMadeOf_33 5 rfl ?_
      refine r_fnV (M2 := m_X13_partUnit) (As := [.int (nI (l)), .int (nI (u)), .int (nI (k))]) (rest := []) (v := some (.int (nI (pW (g (402 + 2 * (200 * l + u) + 1)) k)))) dX13_isMadeOf_35 cc_X13_isMadeOf_206 rfl rfl rfl (Nat.le_of_ble_eq_true rfl) hs.1 rfl rfl (by decide) (g_partUnit hs hb (by (first | omega | (have := pW_lt (g (402 + 2 * (200 * l + u) + 1)) k; have := hpt k (by omega); omega))) (by (first | omega | (have := pW_lt (g (402 + 2 * (200 * l + u) + 1)) k; have := hpt k (by omega); omega))) (by (first | omega | (have := pW_lt (g (402 + 2 * (200 * l + u) + 1)) k; have := hpt k (by omega); omega)))) rfl ?_
      refine r_iload dX13_isMadeOf_38 4 rfl ?_
      refine r_icmp_neN (tgt := 45) dX13_isMadeOf_40 (by decide) (by (first | omega | (have := pW_lt (g (402 + 2 * (200 * l + u) + 1)) k; have := hpt k (by omega); omega))) (by (first | omega | (have := pW_lt (g (402 + 2 * (200 * l + u) + 1)) k; have := hpt k (by omega); omega))) (fun h40 => ?_) (fun h40 => ?_)
      · refine r_iincN (k := 1) (lv' := [(5, .int (nI (k + 1))), (0, .ref (m)), (1, .int (nI (l))), (2, .int (nI (u))), (3, .int (nI (a))), (4, .int (nI (b)))]) dX13_isMadeOf_45 (by decide) 5 rfl (by decide) rfl ?_
        refine r_goto (tgt := 3) dX13_isMadeOf_48 (by decide) ?_
        refine Wx.sub [1, 2, 3, 4, 5, 0] rfl ?_
        exact next _ _ (by omega) ⟨fun ⟨q, q1, z1, z2⟩ => by
          by_cases e : q = k
          · subst e; exact h40 z2
          · exact hnk ⟨q, by omega, z1, z2⟩, rfl, rfl⟩
      · refine r_iconst (v := nI 1) dX13_isMadeOf_43 (by decide) ?_
        exact r_iret (ty := .boolean) dX13_isMadeOf_44 rfl (by decide) ⟨congrArg (fun x => Sum.inl (some (Value.int x))) (bI_t (show mdP g l u a b (g (90 + 13 * l + 8)) from ⟨k, by omega, h27, h40⟩)).symm, rfl⟩
set_option maxRecDepth 4000 in
theorem g_userOf {G : GI} {T : Hp} {m : Nat} {V : RVal} {g : Nat → Nat} {od : Nat → UInt64} (hs : RS T m)  (h24 : g 0 ≤ 24) (hb : WB g) (hzz : ∀ l, l < g 0 → 0 < g (90 + 13 * l + 1) ∧ g (90 + 13 * l + 1) ≤ 200) (h88 : ∀ l, l < g 0 → g (90 + 13 * l + 8) ≤ 3 ∧ ∀ k, k < g (90 + 13 * l + 8) → g (90 + 13 * l + (10 + k)) < l) {a b L U : Nat} (ha : a < g 0) (hb9 : b < 200) (hL : L < g 0) (haL : a ≤ L) (hU : U < g (90 + 13 * L + 1)) (hmd : mdP g L U a b (g (90 + 13 * L + 8))) (hun : ∀ l u, a ≤ l → u < g (90 + 13 * l + 1) → l ≤ L → (l = L → u ≤ U) → mdP g l u a b (g (90 + 13 * l + 8)) → l = L ∧ u = U) : Fn m_X13_userOf G [.ref (m), .int (nI (a)), .int (nI (b))] (rput T m (sg V g) od) (some (.int (nI (1000 * L + U)))) (rput T m (sg V g) od) := by
  refine Cn.of rfl (by decide) (Nat.le_of_ble_eq_true rfl) (fun hN hM => ?_)
  show Wx _ G _ 0 [(0, .ref (m)), (1, .int (nI (a))), (2, .int (nI (b)))] [] _
  refine r_iload_n dX13_userOf_0 rfl 1 rfl ?_
  refine r_istore_n (lv' := [(3, .int (nI (a))), (0, .ref (m)), (1, .int (nI (a))), (2, .int (nI (b)))]) dX13_userOf_1 rfl (by decide) rfl ?_
  refine r_iconst (v := nI 0) dX13_userOf_2 (by decide) ?_
  refine r_istore (lv' := [(4, .int (nI (0))), (3, .int (nI (a))), (0, .ref (m)), (1, .int (nI (a))), (2, .int (nI (b)))]) dX13_userOf_3 (by decide) rfl ?_
  refine Wx.sub [2, 3, 4, 1, 0] rfl ?_
  refine Wx.wf (fun _ : Nat × Nat => (rput T m (sg V g) od)) (fun z => [(0, .ref (m)), (1, .int (nI (a))), (2, .int (nI (b))), (3, .int (nI (z.1))), (4, .int (nI (z.2)))]) (fun z => 200 * L + U - (200 * z.1 + z.2)) (fun z => a ≤ z.1 ∧ z.2 < g (90 + 13 * z.1 + 1) ∧ z.1 ≤ L ∧ (z.1 = L → z.2 ≤ U)) (fun z hz next => ?_) (a, 0) ⟨Nat.le_refl _, (hzz a ha).1, haL, fun _ => Nat.zero_le _⟩
  obtain ⟨l, u⟩ := z
  obtain ⟨p1, p2, p3, p4⟩ := hz
  dsimp only at p1 p2 p3 p4
  have hlz := hzz l (by omega)
  have hlU := hzz L hL
  show Wx _ G (rput T m (sg V g) od) 5 [(0, .ref (m)), (1, .int (nI (a))), (2, .int (nI (b))), (3, .int (nI (l))), (4, .int (nI (u)))] [] _
  refine r_aload_n dX13_userOf_5 rfl 0 rfl ?_
  refine r_iload_n dX13_userOf_6 rfl 3 rfl ?_
  refine r_iload dX13_userOf_7 4 rfl ?_
  refine r_fnV (M2 := m_X13_isUnit) (As := [.int (nI (l)), .int (nI (u))]) (rest := []) (v := some (.int (nI (1)))) dX13_userOf_9 cc_X13_userOf_218 rfl rfl rfl (Nat.le_of_ble_eq_true rfl) hs.1 rfl rfl (by decide) (g_isUnit_2 hs h24 (by (first | omega | (have := hzz l (by omega); omega))) (by (first | omega | (have := hzz l (by omega); omega))) (by (first | omega | (have := hzz l (by omega); omega)))) rfl ?_
  refine r_if_eqN (tgt := 27) dX13_userOf_12 (by decide) (by (first | omega | (have := hzz l (by omega); omega))) (fun zz12 => ?_) (fun zz12 => ?_)
  · exact absurd zz12 (by decide)
  · refine r_aload_n dX13_userOf_15 rfl 0 rfl ?_
    refine r_iload_n dX13_userOf_16 rfl 3 rfl ?_
    refine r_iload dX13_userOf_17 4 rfl ?_
    refine r_iload_n dX13_userOf_19 rfl 1 rfl ?_
    refine r_iload_n dX13_userOf_20 rfl 2 rfl ?_
    refine r_fnV (M2 := m_X13_isMadeOf) (As := [.int (nI (l)), .int (nI (u)), .int (nI (a)), .int (nI (b))]) (rest := []) (v := some (.int (bI (mdP g l u a b (g (90 + 13 * l + 8)))))) dX13_userOf_21 cc_X13_userOf_279 rfl rfl rfl (Nat.le_of_ble_eq_true rfl) hs.1 rfl rfl (by decide) (g_isMadeOf hs hb (by omega) (by omega) (h88 l (by omega)).1 (by omega) hb9 (fun k hk => by have := (h88 l (by omega)).2 k hk; omega)) rfl ?_
    refine r_if_neB (tgt := 49) dX13_userOf_24 (by decide) (fun h24 => ?_) (fun h24 => ?_)
    · refine r_sipush (v := nI 1000) dX13_userOf_49 (by decide) ?_
      refine r_iload_n dX13_userOf_52 rfl 3 rfl ?_
      refine r_imulN dX13_userOf_53 ?_
      refine r_iload dX13_userOf_54 4 rfl ?_
      refine r_iaddN dX13_userOf_56 ?_
      have e : l = L ∧ u = U := hun l u p1 p2 p3 p4 h24
      obtain ⟨rfl, rfl⟩ := e
      exact r_iret (ty := .int) dX13_userOf_57 rfl rfl ⟨rfl, rfl⟩
    · have hne : ¬ (l = L ∧ u = U) := fun e => by obtain ⟨rfl, rfl⟩ := e; exact h24 hmd
      have hstep : l = L → u + 1 ≤ U := fun e => by have := p4 e; have : u ≠ U := fun e2 => hne ⟨e, e2⟩; omega
      have hlt2 : g (90 + 13 * l + 1) ≤ u + 1 → l + 1 ≤ L := fun e => by
        by_cases e2 : l = L
        · subst e2; have := hstep rfl; omega
        · omega
      refine r_iincN (k := 1) (lv' := [(4, .int (nI (u + 1))), (0, .ref (m)), (1, .int (nI (a))), (2, .int (nI (b))), (3, .int (nI (l)))]) dX13_userOf_27 (by decide) 4 rfl (by decide) rfl ?_
      refine r_iload dX13_userOf_30 0 rfl ?_
      refine r_aload_n dX13_userOf_32 rfl 1 rfl ?_
      refine r_iload_n dX13_userOf_33 rfl 4 rfl ?_
      refine r_fnV (M2 := m_X13_size) (As := [.int (nI (l))]) (rest := [.int (nI (u + 1))]) (v := some (.int (nI (g (90 + 13 * l + 1))))) dX13_userOf_34 cc_X13_userOf_80 rfl rfl rfl (Nat.le_of_ble_eq_true rfl) hs.1 rfl rfl (by decide) (g_size hs (by (first | omega | (have := hzz l (by omega); omega)))) rfl ?_
      refine r_icmp_ltN (tgt := 5) dX13_userOf_37 (by decide) (by (first | omega | (have := hzz l (by omega); omega))) (by (first | omega | (have := hzz l (by omega); omega))) (fun h37 => ?_) (fun h37 => ?_)
      · refine Wx.sub [1, 2, 3, 4, 0] rfl ?_
        exact next (l, u + 1) ⟨p1, h37, p3, fun e => hstep e⟩ (by dsimp only; omega)
      · have hlt := hlt2 (by omega)
        refine r_iincN (k := 1) (lv' := [(3, .int (nI (l + 1))), (4, .int (nI (u + 1))), (0, .ref (m)), (1, .int (nI (a))), (2, .int (nI (b)))]) dX13_userOf_40 (by decide) 4 rfl (by decide) rfl ?_
        refine r_iconst (v := nI 0) dX13_userOf_43 (by decide) ?_
        refine r_istore (lv' := [(4, .int (nI (0))), (3, .int (nI (l + 1))), (0, .ref (m)), (1, .int (nI (a))), (2, .int (nI (b)))]) dX13_userOf_44 (by decide) rfl ?_
        refine r_goto (tgt := 5) dX13_userOf_46 (by decide) ?_
        refine Wx.sub [2, 3, 4, 1, 0] rfl ?_
        exact next (l + 1, 0) ⟨by dsimp only; omega, (hzz (l + 1) (by omega)).1, hlt, fun _ => Nat.zero_le _⟩ (by dsimp only; omega)
/-- where a unit ends: in a unit that is not used -/
def OutC (g : Nat → Nat) : Nat → Nat → Nat → Nat → Nat → Prop
  | 0, l, u, l', u' => l < g 0 ∧ u < g (90 + 13 * l + 1) ∧ (¬ sW (g (402 + 2 * (200 * l + u))) = 3) ∧ l = l' ∧ u = u'
  | n + 1, l, u, l', u' => l < g 0 ∧ u < g (90 + 13 * l + 1) ∧ sW (g (402 + 2 * (200 * l + u))) = 3 ∧ ∃ L U, L < g 0 ∧ l ≤ L ∧ U < g (90 + 13 * L + 1) ∧ mdP g L U l u (g (90 + 13 * L + 8)) ∧ (∀ l2 u2, l ≤ l2 → u2 < g (90 + 13 * l2 + 1) → l2 ≤ L → (l2 = L → u2 ≤ U) → mdP g l2 u2 l u (g (90 + 13 * l2 + 8)) → l2 = L ∧ u2 = U) ∧ OutC g n L U l' u'
theorem OutC.lt {g : Nat → Nat} {n l u l' u' : Nat} (h : OutC g n l u l' u') : l < g 0 ∧ u < g (90 + 13 * l + 1) := by
  cases n with
  | zero => exact ⟨h.1, h.2.1⟩
  | succ n => exact ⟨h.1, h.2.1⟩
set_option maxRecDepth 4000 in
theorem q_whereabouts_1a {G : GI} {T : Hp} {m : Nat} {V : RVal} {g : Nat → Nat} {od : Nat → UInt64} (hs : RS T m)  (h24 : g 0 ≤ 24) {x y : Int32} (hx : ¬ vp_in x (g 0)) : Fn m_X13_whereabouts G [.ref (m), .int (x), .int (y)] (rput T m (sg V g) od) (some (.int (nI (0)))) (rput T m (sg (up2 V 0 (6) (nI 1)) (g)) od) := by
  refine Cn.of rfl (by decide) (Nat.le_of_ble_eq_true rfl) (fun hN hM => ?_)
  show Wx _ G _ 0 [(0, .ref (m)), (1, .int (x)), (2, .int (y))] [] _
  refine r_aload_n dX13_whereabouts_0 rfl 0 rfl ?_
  refine r_aload_n dX13_whereabouts_1 rfl 0 rfl ?_
  refine r_iload_n dX13_whereabouts_2 rfl 1 rfl ?_
  refine r_iload_n dX13_whereabouts_3 rfl 2 rfl ?_
  refine r_fnV (M2 := m_X13_isUnit) (As := [.int (x), .int (y)]) (rest := [.ref (m)]) (v := some (.int (nI (0)))) dX13_whereabouts_4 cc_X13_whereabouts_218 rfl rfl rfl (Nat.le_of_ble_eq_true rfl) hs.1 rfl rfl (by decide) (g_isUnit_0 hs h24 hx) rfl ?_
  refine r_if_eqN (tgt := 14) dX13_whereabouts_7 (by decide) (by omega) (fun zz7 => ?_) (fun zz7 => ?_)
  · refine r_iconst (v := nI 1) dX13_whereabouts_14 (by decide) ?_
    refine o_put (k := 6) hs dX13_whereabouts_15 fw_X13_whereabouts_54 rfl rfl rfl ?_
    refine r_aload_n dX13_whereabouts_18 rfl 0 rfl ?_
    refine o_get (k := 6) hs dX13_whereabouts_19 fr_X13_54 rfl ?_
    refine Wx.top up2_s ?_
    refine r_if_leN (tgt := 27) dX13_whereabouts_22 (by decide) (by omega) (fun zz22 => ?_) (fun zz22 => ?_)
    · exact absurd zz22 (by decide)
    · refine r_iconst (v := nI 0) dX13_whereabouts_25 (by decide) ?_
      exact r_iret (ty := .int) dX13_whereabouts_26 rfl rfl ⟨rfl, rfl⟩
  · exact absurd zz7 (by decide)
set_option maxRecDepth 4000 in
theorem q_whereabouts_1b {G : GI} {T : Hp} {m : Nat} {V : RVal} {g : Nat → Nat} {od : Nat → UInt64} (hs : RS T m)  (h24 : g 0 ≤ 24) {l : Nat} (hl : l < g 0) (hz : g (90 + 13 * l + 1) ≤ 200) {y : Int32} (hy : ¬ vp_in y (g (90 + 13 * l + 1))) : Fn m_X13_whereabouts G [.ref (m), .int (nI (l)), .int (y)] (rput T m (sg V g) od) (some (.int (nI (0)))) (rput T m (sg (up2 V 0 (6) (nI 1)) (g)) od) := by
  refine Cn.of rfl (by decide) (Nat.le_of_ble_eq_true rfl) (fun hN hM => ?_)
  show Wx _ G _ 0 [(0, .ref (m)), (1, .int (nI (l))), (2, .int (y))] [] _
  refine r_aload_n dX13_whereabouts_0 rfl 0 rfl ?_
  refine r_aload_n dX13_whereabouts_1 rfl 0 rfl ?_
  refine r_iload_n dX13_whereabouts_2 rfl 1 rfl ?_
  refine r_iload_n dX13_whereabouts_3 rfl 2 rfl ?_
  refine r_fnV (M2 := m_X13_isUnit) (As := [.int (nI (l)), .int (y)]) (rest := [.ref (m)]) (v := some (.int (nI (0)))) dX13_whereabouts_4 cc_X13_whereabouts_218 rfl rfl rfl (Nat.le_of_ble_eq_true rfl) hs.1 rfl rfl (by decide) (g_isUnit_1 hs h24 (by omega) (by omega) hy) rfl ?_
  refine r_if_eqN (tgt := 14) dX13_whereabouts_7 (by decide) (by omega) (fun zz7 => ?_) (fun zz7 => ?_)
  · refine r_iconst (v := nI 1) dX13_whereabouts_14 (by decide) ?_
    refine o_put (k := 6) hs dX13_whereabouts_15 fw_X13_whereabouts_54 rfl rfl rfl ?_
    refine r_aload_n dX13_whereabouts_18 rfl 0 rfl ?_
    refine o_get (k := 6) hs dX13_whereabouts_19 fr_X13_54 rfl ?_
    refine Wx.top up2_s ?_
    refine r_if_leN (tgt := 27) dX13_whereabouts_22 (by decide) (by omega) (fun zz22 => ?_) (fun zz22 => ?_)
    · exact absurd zz22 (by decide)
    · refine r_iconst (v := nI 0) dX13_whereabouts_25 (by decide) ?_
      exact r_iret (ty := .int) dX13_whereabouts_26 rfl rfl ⟨rfl, rfl⟩
  · exact absurd zz7 (by decide)
set_option maxRecDepth 4000 in
theorem q_whereabouts_0 {G : GI} {T : Hp} {m : Nat} {V : RVal} {g : Nat → Nat} {od : Nat → UInt64} (hs : RS T m)  (h24 : g 0 ≤ 24) (hb : WB g) (hzz : ∀ l, l < g 0 → 0 < g (90 + 13 * l + 1) ∧ g (90 + 13 * l + 1) ≤ 200) (h88 : ∀ l, l < g 0 → g (90 + 13 * l + 8) ≤ 3 ∧ ∀ k, k < g (90 + 13 * l + 8) → g (90 + 13 * l + (10 + k)) < l) {l u l' u' n : Nat} (ho : OutC g n l u l' u') : Fn m_X13_whereabouts G [.ref (m), .int (nI (l)), .int (nI (u))] (rput T m (sg V g) od) (some (.int (nI (1000 * l' + u')))) (rput T m (sg (up2 V 0 (6) (nI 0)) (g)) od) := by
  refine Cn.of rfl (by decide) (Nat.le_of_ble_eq_true rfl) (fun hN hM => ?_)
  show Wx _ G _ 0 [(0, .ref (m)), (1, .int (nI (l))), (2, .int (nI (u)))] [] _
  have hlu := ho.lt
  have hl := hlu.1
  have hu := hlu.2
  have hz := (hzz l hl).2
  refine r_aload_n dX13_whereabouts_0 rfl 0 rfl ?_
  refine r_aload_n dX13_whereabouts_1 rfl 0 rfl ?_
  refine r_iload_n dX13_whereabouts_2 rfl 1 rfl ?_
  refine r_iload_n dX13_whereabouts_3 rfl 2 rfl ?_
  refine r_fnV (M2 := m_X13_isUnit) (As := [.int (nI (l)), .int (nI (u))]) (rest := [.ref (m)]) (v := some (.int (nI (1)))) dX13_whereabouts_4 cc_X13_whereabouts_218 rfl rfl rfl (Nat.le_of_ble_eq_true rfl) hs.1 rfl rfl (by decide) (g_isUnit_2 hs h24 (by (first | omega | (have := sW_lt (g (402 + 2 * (200 * l + u))); omega))) (by (first | omega | (have := sW_lt (g (402 + 2 * (200 * l + u))); omega))) (by (first | omega | (have := sW_lt (g (402 + 2 * (200 * l + u))); omega)))) rfl ?_
  refine r_if_eqN (tgt := 14) dX13_whereabouts_7 (by decide) (by (first | omega | (have := sW_lt (g (402 + 2 * (200 * l + u))); omega))) (fun zz7 => ?_) (fun zz7 => ?_)
  · exact absurd zz7 (by decide)
  · refine r_iconst (v := nI 0) dX13_whereabouts_10 (by decide) ?_
    refine r_goto (tgt := 15) dX13_whereabouts_11 (by decide) ?_
    refine o_put (k := 6) hs dX13_whereabouts_15 fw_X13_whereabouts_54 rfl rfl rfl ?_
    refine r_aload_n dX13_whereabouts_18 rfl 0 rfl ?_
    refine o_get (k := 6) hs dX13_whereabouts_19 fr_X13_54 rfl ?_
    refine Wx.top up2_s ?_
    refine r_if_leN (tgt := 27) dX13_whereabouts_22 (by decide) (by (first | omega | (have := sW_lt (g (402 + 2 * (200 * l + u))); omega))) (fun zz22 => ?_) (fun zz22 => ?_)
    · refine r_sipush (v := nI 1000) dX13_whereabouts_27 (by decide) ?_
      refine r_iload_n dX13_whereabouts_30 rfl 1 rfl ?_
      refine r_imulN dX13_whereabouts_31 ?_
      refine r_iload_n dX13_whereabouts_32 rfl 2 rfl ?_
      refine r_iaddN dX13_whereabouts_33 ?_
      refine r_istore_n (lv' := [(3, .int (nI (1000 * l + u))), (0, .ref (m)), (1, .int (nI (l))), (2, .int (nI (u)))]) dX13_whereabouts_34 rfl (by decide) rfl ?_
      refine Wx.sub [1, 0] rfl ?_
      clear hl hu hz hlu
      induction n generalizing l u with
      | zero =>
        obtain ⟨hl, hu, h, rfl, rfl⟩ := ho
        have hz := hzz l hl
        have e1 : (1000 * l + u) / 1000 = l := by omega
        have e2 : (1000 * l + u) % 1000 = u := by omega
        refine r_aload_n dX13_whereabouts_35 rfl 0 rfl ?_
        refine r_iload_n dX13_whereabouts_36 rfl 1 rfl ?_
        refine r_sipush (v := nI 1000) dX13_whereabouts_37 (by decide) ?_
        refine r_idivN dX13_whereabouts_40 (by (first | omega | (have := sW_lt (g (402 + 2 * (200 * l + u))); omega))) (by (first | omega | (have := sW_lt (g (402 + 2 * (200 * l + u))); omega))) (by (first | omega | (have := sW_lt (g (402 + 2 * (200 * l + u))); omega))) ?_
        refine Wx.topN e1 ?_
        refine r_iload_n dX13_whereabouts_41 rfl 1 rfl ?_
        refine r_sipush (v := nI 1000) dX13_whereabouts_42 (by decide) ?_
        refine r_iremN dX13_whereabouts_45 (by (first | omega | (have := sW_lt (g (402 + 2 * (200 * l + u))); omega))) (by (first | omega | (have := sW_lt (g (402 + 2 * (200 * l + u))); omega))) (by (first | omega | (have := sW_lt (g (402 + 2 * (200 * l + u))); omega))) ?_
        refine Wx.topN e2 ?_
        refine r_fnV (M2 := m_X13_state) (As := [.int (nI (l)), .int (nI (u))]) (rest := []) (v := some (.int (nI (sW (g (402 + 2 * (200 * l + u))))))) dX13_whereabouts_46 cc_X13_whereabouts_93 rfl rfl rfl (Nat.le_of_ble_eq_true rfl) hs.1 rfl rfl (by decide) (g_state hs hb (by (first | omega | (have := sW_lt (g (402 + 2 * (200 * l + u))); omega))) (by (first | omega | (have := sW_lt (g (402 + 2 * (200 * l + u))); omega)))) rfl ?_
        refine r_iconst (v := nI 3) dX13_whereabouts_49 (by decide) ?_
        refine r_icmp_neN (tgt := 71) dX13_whereabouts_50 (by decide) (by (first | omega | (have := sW_lt (g (402 + 2 * (200 * l + u))); omega))) (by (first | omega | (have := sW_lt (g (402 + 2 * (200 * l + u))); omega))) (fun h50 => ?_) (fun h50 => ?_)
        · refine r_iload_n dX13_whereabouts_71 rfl 1 rfl ?_
          exact r_iret (ty := .int) dX13_whereabouts_72 rfl rfl ⟨rfl, rfl⟩
        · exact absurd h50 h
      | succ n ih =>
        obtain ⟨hl, hu, h, L, U, hL, hlL, hU, hmd, hun, r⟩ := ho
        have hz := hzz l hl
        have e1 : (1000 * l + u) / 1000 = l := by omega
        have e2 : (1000 * l + u) % 1000 = u := by omega
        refine r_aload_n dX13_whereabouts_35 rfl 0 rfl ?_
        refine r_iload_n dX13_whereabouts_36 rfl 1 rfl ?_
        refine r_sipush (v := nI 1000) dX13_whereabouts_37 (by decide) ?_
        refine r_idivN dX13_whereabouts_40 (by (first | omega | (have := sW_lt (g (402 + 2 * (200 * l + u))); omega))) (by (first | omega | (have := sW_lt (g (402 + 2 * (200 * l + u))); omega))) (by (first | omega | (have := sW_lt (g (402 + 2 * (200 * l + u))); omega))) ?_
        refine Wx.topN e1 ?_
        refine r_iload_n dX13_whereabouts_41 rfl 1 rfl ?_
        refine r_sipush (v := nI 1000) dX13_whereabouts_42 (by decide) ?_
        refine r_iremN dX13_whereabouts_45 (by (first | omega | (have := sW_lt (g (402 + 2 * (200 * l + u))); omega))) (by (first | omega | (have := sW_lt (g (402 + 2 * (200 * l + u))); omega))) (by (first | omega | (have := sW_lt (g (402 + 2 * (200 * l + u))); omega))) ?_
        refine Wx.topN e2 ?_
        refine r_fnV (M2 := m_X13_state) (As := [.int (nI (l)), .int (nI (u))]) (rest := []) (v := some (.int (nI (sW (g (402 + 2 * (200 * l + u))))))) dX13_whereabouts_46 cc_X13_whereabouts_93 rfl rfl rfl (Nat.le_of_ble_eq_true rfl) hs.1 rfl rfl (by decide) (g_state hs hb (by (first | omega | (have := sW_lt (g (402 + 2 * (200 * l + u))); omega))) (by (first | omega | (have := sW_lt (g (402 + 2 * (200 * l + u))); omega)))) rfl ?_
        refine r_iconst (v := nI 3) dX13_whereabouts_49 (by decide) ?_
        refine r_icmp_neN (tgt := 71) dX13_whereabouts_50 (by decide) (by (first | omega | (have := sW_lt (g (402 + 2 * (200 * l + u))); omega))) (by (first | omega | (have := sW_lt (g (402 + 2 * (200 * l + u))); omega))) (fun h50_1 => ?_) (fun h50_1 => ?_)
        · exact absurd h h50_1
        · refine r_aload_n dX13_whereabouts_53 rfl 0 rfl ?_
          refine r_iload_n dX13_whereabouts_54 rfl 1 rfl ?_
          refine r_sipush (v := nI 1000) dX13_whereabouts_55 (by decide) ?_
          refine r_idivN dX13_whereabouts_58 (by (first | omega | (have := sW_lt (g (402 + 2 * (200 * l + u))); omega))) (by (first | omega | (have := sW_lt (g (402 + 2 * (200 * l + u))); omega))) (by (first | omega | (have := sW_lt (g (402 + 2 * (200 * l + u))); omega))) ?_
          refine Wx.topN e1 ?_
          refine r_iload_n dX13_whereabouts_59 rfl 1 rfl ?_
          refine r_sipush (v := nI 1000) dX13_whereabouts_60 (by decide) ?_
          refine r_iremN dX13_whereabouts_63 (by (first | omega | (have := sW_lt (g (402 + 2 * (200 * l + u))); omega))) (by (first | omega | (have := sW_lt (g (402 + 2 * (200 * l + u))); omega))) (by (first | omega | (have := sW_lt (g (402 + 2 * (200 * l + u))); omega))) ?_
          refine Wx.topN e2 ?_
          refine r_fnV (M2 := m_X13_userOf) (As := [.int (nI (l)), .int (nI (u))]) (rest := []) (v := some (.int (nI (1000 * L + U)))) dX13_whereabouts_64 cc_X13_whereabouts_283 rfl rfl rfl (Nat.le_of_ble_eq_true rfl) hs.1 rfl rfl (by decide) (g_userOf hs h24 hb hzz h88 hl (by omega) hL hlL hU hmd hun) rfl ?_
          refine r_istore_n (lv' := [(3, .int (nI (1000 * L + U))), (0, .ref (m))]) dX13_whereabouts_67 rfl (by decide) rfl ?_
          refine r_goto (tgt := 35) dX13_whereabouts_68 (by decide) ?_
          refine Wx.sub [1, 0] rfl ?_
          exact ih r
    · exact absurd zz22 (by decide)
