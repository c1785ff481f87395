/-! AN OFFICE COPIED -/
def mcQ (c cs : Nat → Nat) (i : Nat) : Prop := ∀ j, j < i → ∀ f, f < 3 → c (4 + 3 * j + f) = cs (4 + 3 * j + f)
def pcQ (c cs : Nat → Nat) (i : Nat) : Prop := ∀ j, j < i → ∀ f, f < 10 → f ≠ 7 → c (22 + 10 * j + f) = cs (22 + 10 * j + f)
def lcQ (c cs : Nat → Nat) (i : Nat) : Prop := ∀ l, l < i → (∀ f, f < 13 → c (90 + 13 * l + f) = cs (90 + 13 * l + f)) ∧ ∀ u f, u < cs (90 + 13 * l + 1) → f < 6 → c (402 + 8 * (200 * l + u) + f) = cs (402 + 8 * (200 * l + u) + f)
/-- all that counts of an office is as cs has it -/
def KC (c cs : Nat → Nat) : Prop := (∀ j, j < 4 → c j = cs j) ∧ mcQ c cs 6 ∧ pcQ c cs 4 ∧ (∀ j, j < 28 → c (62 + j) = cs (62 + j)) ∧ lcQ c cs (cs 0)
theorem mcQ.congr {c c' cs : Nat → Nat} {i : Nat} (hi : i ≤ 6) (hc : ∀ j, j < 22 → 4 ≤ j → c' j = c j) (h : mcQ c cs i) : mcQ c' cs i := fun j hj f hf => (hc _ (by omega) (by omega)).trans (h j hj f hf)
theorem pcQ.congr {c c' cs : Nat → Nat} {i : Nat} (hi : i ≤ 4) (hc : ∀ j, j < 62 → 22 ≤ j → c' j = c j) (h : pcQ c cs i) : pcQ c' cs i := fun j hj f hf h7 => (hc _ (by omega) (by omega)).trans (h j hj f hf h7)
theorem lcQ.congr {c c' cs : Nat → Nat} {i : Nat} (hi : i ≤ 24) (hz : ∀ l, l < i → cs (90 + 13 * l + 1) ≤ 200) (hc : ∀ j, 90 ≤ j → j < 60000 → c' j = c j) (h : lcQ c cs i) : lcQ c' cs i := fun l hl => ⟨fun f hf => (hc _ (by omega) (by omega)).trans ((h l hl).1 f hf), fun u f hu hf => (hc _ (by omega) (by have := hz l hl; omega)).trans ((h l hl).2 u f hu hf)⟩
theorem mcQ.step {c cs : Nat → Nat} {i : Nat} (h : mcQ c cs i) : mcQ (up1 (up1 (up1 c (4 + 3 * i) (cs (4 + 3 * i))) (4 + 3 * i + 1) (cs (4 + 3 * i + 1))) (4 + 3 * i + 2) (cs (4 + 3 * i + 2))) cs (i + 1) := by
  intro j hj f hf
  by_cases e : j = i
  · subst e
    match f, hf with
    | 0, _ => rw [up1_n (by omega), up1_n (by omega)]; exact up1_s
    | 1, _ => rw [up1_n (by omega), up1_s]
    | 2, _ => rw [up1_s]
  · rw [up1_n (by omega), up1_n (by omega), up1_n (by omega)]; exact h j (by omega) f hf
theorem pcQ.step {c cs : Nat → Nat} {i : Nat} (h : pcQ c cs i) : pcQ (up1 (up1 (up1 (up1 (up1 (up1 (up1 (up1 (up1 c (22 + 10 * i) (cs (22 + 10 * i))) (22 + 10 * i + 1) (cs (22 + 10 * i + 1))) (22 + 10 * i + 2) (cs (22 + 10 * i + 2))) (22 + 10 * i + 3) (cs (22 + 10 * i + 3))) (22 + 10 * i + 4) (cs (22 + 10 * i + 4))) (22 + 10 * i + 5) (cs (22 + 10 * i + 5))) (22 + 10 * i + 6) (cs (22 + 10 * i + 6))) (22 + 10 * i + 8) (cs (22 + 10 * i + 8))) (22 + 10 * i + 9) (cs (22 + 10 * i + 9))) cs (i + 1) := by
  intro j hj f hf h7
  by_cases e : j = i
  · subst e
    match f, hf with
    | 0, _ => rw [up1_n (by omega), up1_n (by omega), up1_n (by omega), up1_n (by omega), up1_n (by omega), up1_n (by omega), up1_n (by omega), up1_n (by omega)]; exact up1_s
    | 1, _ => rw [up1_n (by omega), up1_n (by omega), up1_n (by omega), up1_n (by omega), up1_n (by omega), up1_n (by omega), up1_n (by omega), up1_s]
    | 2, _ => rw [up1_n (by omega), up1_n (by omega), up1_n (by omega), up1_n (by omega), up1_n (by omega), up1_n (by omega), up1_s]
    | 3, _ => rw [up1_n (by omega), up1_n (by omega), up1_n (by omega), up1_n (by omega), up1_n (by omega), up1_s]
    | 4, _ => rw [up1_n (by omega), up1_n (by omega), up1_n (by omega), up1_n (by omega), up1_s]
    | 5, _ => rw [up1_n (by omega), up1_n (by omega), up1_n (by omega), up1_s]
    | 6, _ => rw [up1_n (by omega), up1_n (by omega), up1_s]
    | 7, _ => exact absurd rfl h7
    | 8, _ => rw [up1_n (by omega), up1_s]
    | 9, _ => rw [up1_s]
  · rw [up1_n (by omega), up1_n (by omega), up1_n (by omega), up1_n (by omega), up1_n (by omega), up1_n (by omega), up1_n (by omega), up1_n (by omega), up1_n (by omega)]; exact h j (by omega) f hf h7
theorem lcQ.step {c c1 c2 cs : Nat → Nat} {l : Nat} (hl : l < 24) (hz : ∀ i, i < l → cs (90 + 13 * i + 1) ≤ 200) (h1 : ∀ j, ¬ inL l j → c1 j = c j) (h2 : CP c1 cs l (cs (90 + 13 * l + 1)) c2) (h : lcQ c cs l) : lcQ c2 cs (l + 1) := by
  intro i hi
  by_cases e : i = l
  · subst e; exact h2.2
  · have hn := hz i (by omega)
    refine ⟨fun f hf => ?_, fun u f hu hf => ?_⟩
    · rw [h2.1 _ (by unfold inL; omega), h1 _ (by unfold inL; omega)]; exact (h i (by omega)).1 f hf
    · rw [h2.1 _ (by unfold inL; omega), h1 _ (by unfold inL; omega)]; exact (h i (by omega)).2 u f hu hf
def bcC (c cs : Nat → Nat) : Nat → Nat := fun z => if 62 ≤ z ∧ z < 90 then cs z else c z
theorem bcC_y {c cs : Nat → Nat} {z : Nat} (h1 : 62 ≤ z) (h2 : z < 90) : bcC c cs z = cs z := if_pos ⟨h1, h2⟩
theorem bcC_n {c cs : Nat → Nat} {z : Nat} (h : z < 62 ∨ 90 ≤ z) : bcC c cs z = c z := if_neg (by omega)
theorem kc_fin {c cs : Nat → Nat} (hn : cs 0 ≤ 24) (hz : ∀ l, l < cs 0 → cs (90 + 13 * l + 1) ≤ 200) (h1 : mcQ c cs 6) (h2 : pcQ c cs 4) (h3 : lcQ c cs (cs 0)) : KC (up1 (up1 (up1 (up1 (bcC c cs) 0 (cs 0)) 2 (cs 2)) 1 (cs 1)) 3 (cs 3)) cs := by
  have hi : ∀ j, 4 ≤ j → up1 (up1 (up1 (up1 (bcC c cs) 0 (cs 0)) 2 (cs 2)) 1 (cs 1)) 3 (cs 3) j = bcC c cs j := fun j hj => by rw [up1_n (by omega), up1_n (by omega), up1_n (by omega), up1_n (by omega)]
  refine ⟨fun j hj => ?_, mcQ.congr (by decide) (fun j a b => (hi j b).trans (bcC_n (by omega))) h1, pcQ.congr (by decide) (fun j a b => (hi j (by omega)).trans (bcC_n (by omega))) h2, fun j hj => (hi _ (by omega)).trans (bcC_y (by omega) (by omega)), lcQ.congr hn hz (fun j a b => (hi j (by omega)).trans (bcC_n (by omega))) h3⟩
  match j, hj with
  | 0, _ => rw [up1_n (by omega), up1_n (by omega), up1_n (by omega), up1_s]
  | 1, _ => rw [up1_n (by omega), up1_s]
  | 2, _ => rw [up1_n (by omega), up1_n (by omega), up1_s]
  | 3, _ => rw [up1_s]
/-- what is copied stands beside the same row of the reference -/
theorem Rel.kc {c cs g : Nat → Nat} {N : Nat} (h : Rel cs g N) (hk : KC c cs) : Rel c g N := by
  obtain ⟨k1, k2, k3, k4, k5⟩ := hk
  rw [h.c0] at k5
  obtain ⟨⟨a1, a2, a3, a4, a5⟩, b, d, e, f, l, wb⟩ := id h
  refine ⟨⟨a1, fun i hi => (k1 i hi).trans (a2 i hi), a3, a4, a5⟩, fun i hi => ⟨fun f hf => (k2 i hi f hf).trans ((b i hi).1 f hf), (b i hi).2⟩, fun p hp => ?_, fun j hj => ⟨(k4 j hj).trans (e j hj).1, (e j hj).2⟩, f, fun i hi => ?_, wb⟩
  · have hP := h.p hp
    unfold HdP
    have e6 := k3 p hp 6 (by decide) (by decide)
    rw [e6]
    exact ⟨fun f hf => (k3 p hp f (by omega) (by omega)).trans (hP.1 f hf), (k3 p hp 8 (by decide) (by decide)).trans hP.c8, (k3 p hp 9 (by decide) (by decide)).trans hP.c9, hP.b, hP.m, hP.s⟩
  · have hL := h.lot hi
    have hzi : ∀ q, q < g 0 → cs (90 + 13 * q + 1) = g (90 + 13 * q + 1) := fun q hq => (h.lot hq).h (f := 1) (by decide)
    refine ⟨hL.1, fun f hf => ((k5 i hi).1 f (by omega)).trans (hL.h hf), fun k hk => ((k5 i hi).1 (10 + k) (by have := hL.pc; omega)).trans (hL.p hk), fun u hu => ?_⟩
    have hu2 : u < cs (90 + 13 * i + 1) := by rw [hzi i hi]; exact hu
    have ku := fun f hf => (k5 i hi).2 u f hu2 hf
    refine ⟨⟨(ku 0 (by decide)).trans (hL.u0 hu), (ku 1 (by decide)).trans (hL.u1 hu), (ku 2 (by decide)).trans (hL.u2 hu), (ku 3 (by decide)).trans (hL.u3 hu), (ku 5 (by decide)).trans (hL.u5 hu)⟩, fun k hk => ?_, ⟨fun h3 => ?_, fun h3 => (ku 4 (by decide)).trans ((hL.uu hu).2 h3)⟩, hL.wu hu⟩
    · obtain ⟨p1, p2, p3⟩ := hL.pu hu k hk
      have hpl := hL.pt hk
      refine ⟨p1, p2, ((k5 _ (by omega)).2 _ 4 (by rw [hzi _ (by omega)]; exact p1) (by decide)).trans p3⟩
    · obtain ⟨L, U, k, q1, q2, q3, q4, q5, q6⟩ := (hL.uu hu).1 h3
      exact ⟨L, U, k, q1, q2, q3, q4, q5, (ku 4 (by decide)).trans q6⟩
set_option maxRecDepth 4000 in
set_option maxHeartbeats 400000 in
theorem o_officeCopy {G : GI} {S : Hp} {w : Nat → Nat} {k ks o os : Nat} {A As c cs : Nat → Nat} (h : OR S w k o A c) (hs0 : OR S w ks os As cs) (hne : ks ≠ k) (hrm : Rm G S A) (hn24 : cs 0 ≤ 24) (hAs : ∀ l, l < cs 0 → As l ≠ 0) (hz : ∀ l, l < cs 0 → cs (90 + 13 * l + 1) ≤ 200) (hb2 : ∀ l u, l < cs 0 → u < cs (90 + 13 * l + 1) → cs (402 + 8 * (200 * l + u) + 5) < 2) : OEa m_X7_copyFrom G [.ref o, .ref os] S w k o A none (fun A' c' => KC c' cs ∧ ∀ l, l < cs 0 → A' l ≠ 0) := by
  refine Cn.of rfl (by decide) (Nat.le_of_ble_eq_true rfl) (fun hN hM => ?_)
  show Wx _ G _ 0 [(0, .ref (o)), (1, .ref (os))] [] _
  have hx := OX.refl h
  obtain ⟨n, hn0⟩ : ∃ n, cs 0 = n := ⟨_, rfl⟩
  have hn24' : n ≤ 24 := hn0 ▸ hn24
  have hAs' := hAs
  rw [hn0] at hn24 hAs hz hb2
  refine r_iconst (v := nI 0) dX7_copyFrom_0 (by decide) ?_
  refine r_istore_n (lv' := [(2, .int (nI (0))), (0, .ref (o)), (1, .ref (os))]) dX7_copyFrom_1 rfl (by decide) rfl ?_
  refine Wx.sub [1, 2, 0] rfl ?_
  refine Wx.loopR (fun u T lv => ∃ c, OX S w A T w k o A c ∧ (mcQ c cs u) ∧ lv = [(0, .ref (o)), (1, .ref (os)), (2, .int (nI (u)))]) (6) (0) (Nat.zero_le _) ⟨_, hx, (fun _ h => absurd h (Nat.not_lt_zero _)), rfl⟩ (fun u T lv hge hle hI9 next => ?_)
  obtain ⟨c, hx, hP, rfl⟩ := hI9
  refine r_iload_n dX7_copyFrom_2 rfl 2 rfl ?_
  refine r_aload_n dX7_copyFrom_3 rfl 0 rfl ?_
  refine r_getR (ci := 9) (k := 0) (b := o + 1) dX7_copyFrom_4 fr_X7_11 hx.1.1.1 rfl hx.1.1.2.1.1 ?_
  refine r_alenQ dX7_copyFrom_7 hx.1.1.2.2.1.1 (by decide) (by decide) ?_
  refine Wx.top (congrArg nI hx.1.1.2.2.1.2) ?_
  refine r_icmp_geN (tgt := 32) dX7_copyFrom_8 (by decide) (by omega) (by omega) (fun h8 => ?_) (fun h8 => ?_)
  · obtain rfl : u = 6 := by omega
    refine r_iconst (v := nI 0) dX7_copyFrom_32 (by decide) ?_
    refine r_istore_n (lv' := [(2, .int (nI (0))), (0, .ref (o)), (1, .ref (os))]) dX7_copyFrom_33 rfl (by decide) rfl ?_
    refine Wx.sub [1, 2, 0] rfl ?_
    refine Wx.loopR (fun u_1 T lv => ∃ c, OX S w A T w k o A c ∧ (mcQ c cs 6 ∧ pcQ c cs u_1) ∧ lv = [(0, .ref (o)), (1, .ref (os)), (2, .int (nI (u_1)))]) (4) (0) (Nat.zero_le _) ⟨_, hx, ⟨hP, (fun _ h => absurd h (Nat.not_lt_zero _))⟩, rfl⟩ (fun u_1 T_1 lv hge_1 hle_1 hI9 next_1 => ?_)
    obtain ⟨c_1, hx_1, hP_1, rfl⟩ := hI9
    refine r_iload_n dX7_copyFrom_34 rfl 2 rfl ?_
    refine r_aload_n dX7_copyFrom_35 rfl 0 rfl ?_
    refine r_getR (ci := 9) (k := 1) (b := o + 2) dX7_copyFrom_36 fr_X7_19 hx_1.1.1.1 rfl hx_1.1.1.2.1.2.1 ?_
    refine r_alenQ dX7_copyFrom_39 hx_1.1.1.2.2.2.1.1 (by decide) (by decide) ?_
    refine Wx.top (congrArg nI hx_1.1.1.2.2.2.1.2) ?_
    refine r_icmp_geN (tgt := 64) dX7_copyFrom_40 (by decide) (by omega) (by omega) (fun h40 => ?_) (fun h40 => ?_)
    · obtain rfl : u_1 = 4 := by omega
      refine r_iconst (v := nI 0) dX7_copyFrom_64 (by decide) ?_
      refine r_istore_n (lv' := [(2, .int (nI (0))), (0, .ref (o)), (1, .ref (os))]) dX7_copyFrom_65 rfl (by decide) rfl ?_
      refine Wx.sub [1, 2, 0] rfl ?_
      refine Wx.loopR (fun u_2 T lv => ∃ w9 A9 c9, OX S w A T w9 k o A9 c9 ∧ (mcQ c9 cs 6 ∧ pcQ c9 cs 4 ∧ lcQ c9 cs u_2 ∧ ∀ l, l < u_2 → A9 l ≠ 0) ∧ lv = [(0, .ref (o)), (1, .ref (os)), (2, .int (nI (u_2)))]) n 0 (Nat.zero_le _) ⟨_, _, _, hx_1, ⟨hP_1.1, hP_1.2, (fun _ h => absurd h (Nat.not_lt_zero _)), fun _ h => absurd h (Nat.not_lt_zero _)⟩, rfl⟩ (fun u_2 T lv hge2 hle2 hI9 next2 => ?_)
      obtain ⟨w2, A2, c2, hx2, ⟨hm2, hp2, hl2, ha2⟩, rfl⟩ := hI9
      refine r_iload_n dX7_copyFrom_66 rfl 2 rfl ?_
      refine r_aload_n dX7_copyFrom_67 rfl 1 rfl ?_
      refine r_getI (ci := 9) (k := 5) dX7_copyFrom_68 fr_X7_49 (hx2.fr hne hs0).1.1 rfl ?_
      refine Wx.top (hx2.fr hne hs0).o0 ?_
      refine Wx.topN hn0 ?_
      refine r_icmp_geN (tgt := 109) dX7_copyFrom_71 (by decide) (by omega) (by omega) (fun h71 => ?_) (fun h71 => ?_)
      · obtain rfl : n = u_2 := by omega
        refine r_aload_n dX7_copyFrom_109 rfl 1 rfl ?_
        refine r_getR (ci := 9) (k := 3) (b := os + 4) dX7_copyFrom_110 fr_X7_29 (hx2.fr hne hs0).1.1 rfl (hx2.fr hne hs0).1.2.1.2.2.2.1 ?_
        refine r_iconst (v := nI 0) dX7_copyFrom_113 (by decide) ?_
        refine r_aload_n dX7_copyFrom_114 rfl 0 rfl ?_
        refine r_getR (ci := 9) (k := 3) (b := o + 4) dX7_copyFrom_115 fr_X7_29 hx2.1.1.1 rfl hx2.1.1.2.1.2.2.2.1 ?_
        refine r_iconst (v := nI 0) dX7_copyFrom_118 (by decide) ?_
        refine r_aload_n dX7_copyFrom_119 rfl 0 rfl ?_
        refine r_getR (ci := 9) (k := 3) (b := o + 4) dX7_copyFrom_120 fr_X7_29 hx2.1.1.1 rfl hx2.1.1.2.1.2.2.2.1 ?_
        refine r_alen101 dX7_copyFrom_123 hx2.1.1.2.2.2.2.2.1.1 ?_
        refine Wx.top (congrArg nI hx2.1.1.2.2.2.2.2.1.2) ?_
        refine r_copy (t := 101) dX7_copyFrom_124 (sg2 211 rfl rfl) (sg2 210 rfl rfl) (sg2 209 rfl rfl) (sg1 21 rfl rfl) (Or.inl rfl) (hx2.fr hne hs0).1.2.2.2.2.2.1.1 hx2.1.1.2.2.2.2.2.1.1 (nI_nn (by decide)) (nI_nn (by decide)) (nI_nn (by decide)) (by rw [nI_clamp (by decide), nI_clamp (by decide)]; show _ ≤ zN T (os + 4); rw [(hx2.fr hne hs0).1.2.2.2.2.2.1.2]; decide) (by rw [nI_clamp (by decide), nI_clamp (by decide)]; show _ ≤ zN T (o + 4); rw [hx2.1.1.2.2.2.2.2.1.2]; decide) (fun _ _ => rfl) (by decide) (by decide) ?_
        rw [show (nI 0).toNatClampNeg = 0 from nI_clamp (by decide), show (nI 28).toNatClampNeg = 28 from nI_clamp (by decide)]
        refine Wx.gx (OX.WB (c' := (bcC c2 cs)) hx2 (fun j hj => ?_) (fun z hz9 => ?_)) (fun T_2 (hx_2 : OX S w A T_2 w2 k o A2 (bcC c2 cs)) => ?_)
        · unfold va_cpy
          rw [if_pos (by omega), bcC_y (by omega) (by omega), Nat.zero_add, Nat.sub_zero]; exact (hx2.fr hne hs0).b hj
        · refine bcC_n (by have q9 := hz9 (z - 62); omega)
        refine r_aload_n dX7_copyFrom_127 rfl 0 rfl ?_
        refine r_aload_n dX7_copyFrom_128 rfl 1 rfl ?_
        refine r_getI (ci := 9) (k := 5) dX7_copyFrom_129 fr_X7_49 (hx_2.fr hne hs0).1.1 rfl ?_
        refine Wx.top (hx_2.fr hne hs0).o0 ?_
        refine Wx.topN hn0 ?_
        refine r_putI (ci := 9) (k := 5) dX7_copyFrom_132 fw_X7_copyFrom_49 hx_2.1.1.1 rfl rfl rfl ?_
        refine Wx.gx (hx_2.O0) (fun T_3 (hx_3 : OX S w A T_3 w2 k o A2 (up1 (bcC c2 cs) (0) (n))) => ?_)
        refine r_aload_n dX7_copyFrom_135 rfl 0 rfl ?_
        refine r_aload_n dX7_copyFrom_136 rfl 1 rfl ?_
        refine r_getI (ci := 9) (k := 6) dX7_copyFrom_137 fr_X7_65 (hx_3.fr hne hs0).1.1 rfl ?_
        refine Wx.top (hx_3.fr hne hs0).o2 ?_
        refine r_putI (ci := 9) (k := 6) dX7_copyFrom_140 fw_X7_copyFrom_65 hx_3.1.1.1 rfl rfl rfl ?_
        refine Wx.gx (hx_3.O2) (fun T_4 (hx_4 : OX S w A T_4 w2 k o A2 (up1 (up1 (bcC c2 cs) (0) (n)) (2) (cs 2))) => ?_)
        refine r_aload_n dX7_copyFrom_143 rfl 0 rfl ?_
        refine r_aload_n dX7_copyFrom_144 rfl 1 rfl ?_
        refine r_getI (ci := 9) (k := 7) dX7_copyFrom_145 fr_X7_68 (hx_4.fr hne hs0).1.1 rfl ?_
        refine Wx.top (hx_4.fr hne hs0).o1 ?_
        refine r_putI (ci := 9) (k := 7) dX7_copyFrom_148 fw_X7_copyFrom_68 hx_4.1.1.1 rfl rfl rfl ?_
        refine Wx.gx (hx_4.O1) (fun T_5 (hx_5 : OX S w A T_5 w2 k o A2 (up1 (up1 (up1 (bcC c2 cs) (0) (n)) (2) (cs 2)) (1) (cs 1))) => ?_)
        refine r_aload_n dX7_copyFrom_151 rfl 0 rfl ?_
        refine r_aload_n dX7_copyFrom_152 rfl 1 rfl ?_
        refine r_getI (ci := 9) (k := 8) dX7_copyFrom_153 fr_X7_36 (hx_5.fr hne hs0).1.1 rfl ?_
        refine Wx.top (hx_5.fr hne hs0).o3 ?_
        refine r_putI (ci := 9) (k := 8) dX7_copyFrom_156 fw_X7_copyFrom_36 hx_5.1.1.1 rfl rfl rfl ?_
        refine Wx.gx (hx_5.O3) (fun T_6 (hx_6 : OX S w A T_6 w2 k o A2 (up1 (up1 (up1 (up1 (bcC c2 cs) (0) (n)) (2) (cs 2)) (1) (cs 1)) (3) (cs 3))) => ?_)
        subst hn0
        exact r_vret dX7_copyFrom_159 rfl ⟨rfl, _, _, _, hx_6, kc_fin hn24 hz hm2 hp2 hl2, ha2⟩
      · have hu24 : u_2 < 24 := by omega
        refine r_iload_n dX7_copyFrom_74 rfl 2 rfl ?_
        refine r_aload_n dX7_copyFrom_75 rfl 0 rfl ?_
        refine r_getR (ci := 9) (k := 2) (b := o + 3) dX7_copyFrom_76 fr_X7_25 hx2.1.1.1 rfl hx2.1.1.2.1.2.2.1 ?_
        refine r_alenQ dX7_copyFrom_79 hx2.1.1.2.2.2.2.1.1 (by decide) (by decide) ?_
        refine Wx.top (congrArg nI hx2.1.1.2.2.2.2.1.2) ?_
        refine r_icmp_geN (tgt := 109) dX7_copyFrom_80 (by decide) (by omega) (by omega) (fun h80 => ?_) (fun h80 => ?_)
        · exact absurd h80 (by omega)
        · refine r_aload_n dX7_copyFrom_83 rfl 1 rfl ?_
          refine r_getR (ci := 9) (k := 2) (b := os + 3) dX7_copyFrom_84 fr_X7_25 (hx2.fr hne hs0).1.1 rfl (hx2.fr hne hs0).1.2.1.2.2.1 ?_
          refine r_iload_n dX7_copyFrom_87 rfl 2 rfl ?_
          refine r_aaldR (b := As u_2) dX7_copyFrom_88 (hx2.fr hne hs0).1.2.2.2.2.1.1 (by decide) (by decide) (by rw [show zN T (os + 3) = 24 from (hx2.fr hne hs0).1.2.2.2.2.1.2]; exact vp_in_nI (by omega) (by decide)) (by rw [nI_clamp (by omega)]; exact ((hx2.fr hne hs0).lo (by omega) (hAs _ (by omega))).1) ?_
          refine r_astore_n (lv' := [(3, .ref (As u_2)), (0, .ref (o)), (1, .ref (os)), (2, .int (nI (u_2)))]) dX7_copyFrom_89 rfl (by decide) rfl ?_
          refine r_aload_n dX7_copyFrom_90 rfl 0 rfl ?_
          refine r_ifnull dX7_copyFrom_91 ?_
          refine r_aload_n dX7_copyFrom_94 rfl 1 rfl ?_
          refine r_iload_n dX7_copyFrom_95 rfl 3 rfl ?_
          refine r_callV (M2 := m_X7_slot) (As := [.int (nI (u_2))]) (rest := []) dX7_copyFrom_96 cc_X7_copyFrom_52 rfl rfl rfl (Nat.le_of_ble_eq_true rfl) hx2.1.1.1 rfl rfl (by decide) (s_slot hx2.1 (by omega) (hx2.rm hrm)) (fun v T hq => ?_) (fun E T hq => by obtain ⟨_, _, _, hq, _⟩ := hq; cases hq)
          obtain ⟨w3, A3, c3, hv, hx3, hA3, hc3, ha3⟩ := hq
          cases hv
          replace hx3 : OX S w A T w3 k o A3 c3 := hx2.trans hx3
          show Wx _ _ _ _ _ [.ref (A3 u_2)] _
          refine r_aload_n dX7_copyFrom_99 rfl 0 rfl ?_
          refine r_oexV (M2 := m_X5_copyFrom) (As := [.ref (As u_2)]) (rest := []) (v := none) dX7_copyFrom_100 cc_X7_copyFrom_56 rfl rfl rfl (Nat.le_of_ble_eq_true rfl) (hx3.1.lo hu24 hA3).2.1 rfl rfl (by decide) hx3 (o_lotCopy hx3.1 (hx3.fr hne hs0) hne hu24 hA3 (hAs _ (by omega)) rfl (hz _ (by omega)) (fun v hv => hb2 _ v (by omega) hv)) rfl (fun T_7 c4 (hx_7 : OX S w A T_7 w3 k o A3 c4) hcp => ?_)
          refine r_iincN (k := 1) (lv' := [(2, .int (nI (u_2 + 1))), (3, .ref (As u_2)), (0, .ref (o)), (1, .ref (os))]) dX7_copyFrom_103 (by decide) 3 rfl (by decide) rfl ?_
          refine r_goto (tgt := 66) dX7_copyFrom_106 (by decide) ?_
          refine Wx.sub [2, 3, 0] rfl ?_
          refine next2 _ _ (by omega) ⟨_, _, _, hx_7, ⟨mcQ.congr (by decide) (fun j a b => (hcp.1 j (by unfold inL; omega)).trans (hc3 j (by unfold inL; omega))) hm2, pcQ.congr (by decide) (fun j a b => (hcp.1 j (by unfold inL; omega)).trans (hc3 j (by unfold inL; omega))) hp2, lcQ.step hu24 (fun i hi => hz i (by omega)) hc3 hcp hl2, fun l hl => ?_⟩, rfl⟩
          by_cases q9 : l = u_2
          · rw [q9]; exact hA3
          · rw [ha3 l q9]; exact ha2 l (by omega)
    · refine r_aload_n dX7_copyFrom_43 rfl 0 rfl ?_
      refine r_getR (ci := 9) (k := 1) (b := o + 2) dX7_copyFrom_44 fr_X7_19 hx_1.1.1.1 rfl hx_1.1.1.2.1.2.1 ?_
      refine r_iload_n dX7_copyFrom_47 rfl 2 rfl ?_
      refine r_aaldR (b := o + 12 + u_1) dX7_copyFrom_48 hx_1.1.1.2.2.2.1.1 (by decide) (by decide) (by rw [show zN T_1 (o + 2) = 4 from hx_1.1.1.2.2.2.1.2]; exact vp_in_nI (by omega) (by decide)) (by rw [nI_clamp (by omega)]; exact (hx_1.1.1.2.2.2.2.2.2.2.2 u_1 (by omega)).1) ?_
      refine r_aload_n dX7_copyFrom_49 rfl 1 rfl ?_
      refine r_getR (ci := 9) (k := 1) (b := os + 2) dX7_copyFrom_50 fr_X7_19 (hx_1.fr hne hs0).1.1 rfl (hx_1.fr hne hs0).1.2.1.2.1 ?_
      refine r_iload_n dX7_copyFrom_53 rfl 2 rfl ?_
      refine r_aaldR (b := os + 12 + u_1) dX7_copyFrom_54 (hx_1.fr hne hs0).1.2.2.2.1.1 (by decide) (by decide) (by rw [show zN T_1 (os + 2) = 4 from (hx_1.fr hne hs0).1.2.2.2.1.2]; exact vp_in_nI (by omega) (by decide)) (by rw [nI_clamp (by omega)]; exact ((hx_1.fr hne hs0).1.2.2.2.2.2.2.2.2 u_1 (by omega)).1) ?_
      refine r_ofV (M2 := m_X8_copyFrom) (As := [.ref (os + 12 + u_1)]) (rest := []) (v := none) dX7_copyFrom_55 cc_X7_copyFrom_46 rfl rfl rfl (Nat.le_of_ble_eq_true rfl) (hx_1.1.1.2.2.2.2.2.2.2.2 u_1 (by omega)).2 rfl rfl (by decide) hx_1 (o_prodCopy hx_1.1 (hx_1.fr hne hs0) (by omega)) rfl (fun T_8 (hx_8 : OX S w A T_8 w k o A (up1 (up1 (up1 (up1 (up1 (up1 (up1 (up1 (up1 c_1 (22 + 10 * u_1) (cs (22 + 10 * u_1))) (22 + 10 * u_1 + 1) (cs (22 + 10 * u_1 + 1))) (22 + 10 * u_1 + 2) (cs (22 + 10 * u_1 + 2))) (22 + 10 * u_1 + 3) (cs (22 + 10 * u_1 + 3))) (22 + 10 * u_1 + 4) (cs (22 + 10 * u_1 + 4))) (22 + 10 * u_1 + 5) (cs (22 + 10 * u_1 + 5))) (22 + 10 * u_1 + 6) (cs (22 + 10 * u_1 + 6))) (22 + 10 * u_1 + 8) (cs (22 + 10 * u_1 + 8))) (22 + 10 * u_1 + 9) (cs (22 + 10 * u_1 + 9)))) => ?_)
      refine r_iincN (k := 1) (lv' := [(2, .int (nI (u_1 + 1))), (0, .ref (o)), (1, .ref (os))]) dX7_copyFrom_58 (by decide) 2 rfl (by decide) rfl ?_
      refine r_goto (tgt := 34) dX7_copyFrom_61 (by decide) ?_
      refine Wx.sub [1, 2, 0] rfl ?_
      exact next_1 _ _ (by omega) ⟨_, hx_8, ⟨mcQ.congr (by decide) (fun j a b => by rw [up1_n (by omega), up1_n (by omega), up1_n (by omega), up1_n (by omega), up1_n (by omega), up1_n (by omega), up1_n (by omega), up1_n (by omega), up1_n (by omega)]) hP_1.1, pcQ.step hP_1.2⟩, rfl⟩
  · refine r_aload_n dX7_copyFrom_11 rfl 0 rfl ?_
    refine r_getR (ci := 9) (k := 0) (b := o + 1) dX7_copyFrom_12 fr_X7_11 hx.1.1.1 rfl hx.1.1.2.1.1 ?_
    refine r_iload_n dX7_copyFrom_15 rfl 2 rfl ?_
    refine r_aaldR (b := o + 6 + u) dX7_copyFrom_16 hx.1.1.2.2.1.1 (by decide) (by decide) (by rw [show zN T (o + 1) = 6 from hx.1.1.2.2.1.2]; exact vp_in_nI (by omega) (by decide)) (by rw [nI_clamp (by omega)]; exact (hx.1.1.2.2.2.2.2.2.2.1 u (by omega)).1) ?_
    refine r_aload_n dX7_copyFrom_17 rfl 1 rfl ?_
    refine r_getR (ci := 9) (k := 0) (b := os + 1) dX7_copyFrom_18 fr_X7_11 (hx.fr hne hs0).1.1 rfl (hx.fr hne hs0).1.2.1.1 ?_
    refine r_iload_n dX7_copyFrom_21 rfl 2 rfl ?_
    refine r_aaldR (b := os + 6 + u) dX7_copyFrom_22 (hx.fr hne hs0).1.2.2.1.1 (by decide) (by decide) (by rw [show zN T (os + 1) = 6 from (hx.fr hne hs0).1.2.2.1.2]; exact vp_in_nI (by omega) (by decide)) (by rw [nI_clamp (by omega)]; exact ((hx.fr hne hs0).1.2.2.2.2.2.2.2.1 u (by omega)).1) ?_
    refine r_ofV (M2 := m_X6_copyFrom) (As := [.ref (os + 6 + u)]) (rest := []) (v := none) dX7_copyFrom_23 cc_X7_copyFrom_42 rfl rfl rfl (Nat.le_of_ble_eq_true rfl) (hx.1.1.2.2.2.2.2.2.2.1 u (by omega)).2 rfl rfl (by decide) hx (o_machCopy hx.1 (hx.fr hne hs0) (by omega)) rfl (fun T_9 (hx_9 : OX S w A T_9 w k o A (up1 (up1 (up1 c (4 + 3 * u) (cs (4 + 3 * u))) (4 + 3 * u + 1) (cs (4 + 3 * u + 1))) (4 + 3 * u + 2) (cs (4 + 3 * u + 2)))) => ?_)
    refine r_iincN (k := 1) (lv' := [(2, .int (nI (u + 1))), (0, .ref (o)), (1, .ref (os))]) dX7_copyFrom_26 (by decide) 2 rfl (by decide) rfl ?_
    refine r_goto (tgt := 2) dX7_copyFrom_29 (by decide) ?_
    refine Wx.sub [1, 2, 0] rfl ?_
    exact next _ _ (by omega) ⟨_, hx_9, (mcQ.step hP), rfl⟩
