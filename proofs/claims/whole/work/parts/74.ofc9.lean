/-! SORTING -/
/-- .. that makes nothing -/
def OCx (M : MI) (G : GI) (av : List Value) (S : Hp) (w : Nat → Nat) (k o : Nat) (A : Nat → Nat) (v : Option Value) (g' : Nat → Nat) (N' : Nat) : Prop := Cn M G av S (fun r T => r = .inl v ∧ ∃ c', OX S w A T w k o A c' ∧ Rel c' g' N')
theorem OCx.och {M : MI} {G : GI} {av : List Value} {S : Hp} {w : Nat → Nat} {k o : Nat} {A : Nat → Nat} {v : Option Value} {g' : Nat → Nat} {N' : Nat} (h : OCx M G av S w k o A v g' N') (hal : ∀ l, l < g' 0 → A l ≠ 0) : OCh M G av S w k o A v g' N' := Cn.mono (fun r T ⟨e, c', h1, h2⟩ => ⟨e, w, A, c', h1, h2, hal⟩) h
section OcRules
variable {M M2 : MI} {G : GI} {S S0 : Hp} {w w0 : Nat → Nat} {k o : Nat} {A A0 c : Nat → Nat} {pc : Nat} {lv : List (Nat × Value)} {st : List Value} {Q : OV → Hp → Prop}
theorem r_ocxV {idx n b ci : Nat} {r : vw_C} {As rest : List Value} {v : Option Value} {g' : Nat → Nat} {N' : Nat} {st' : List Value} (hd : decode (mB M) pc = .ok (.invokevirtual idx, 3)) (hcs : cV M M2 idx n) (hh : mH M2 = []) (hn : As.length = n) (hst : st = As.reverse ++ .ref b :: rest) (hcat : (rest.map fun v => v.category).sum ≤ 8)
    (hbt : zT S b = ci + 1) (hc0 : vwCl[ci]? = some r) (hr1 : r.1 = (mY M2).cls) (h3 : ci < 100) (hx : OX S0 w0 A0 S w k o A c) (hf : OCx M2 G (.ref b :: As) S w k o A v g' N') (hs : v.toList ++ rest = st') (kk : ∀ T c', OX S0 w0 A0 T w k o A c' → Rel c' g' N' → Wx M G T (pc + 3) lv st' Q) : Wx M G S pc lv st Q :=
  r_callV hd hcs hh hn hst hcat hbt hc0 hr1 h3 hf (fun v2 T h => by obtain ⟨h1, c', h2, h3⟩ := h; cases h1; rw [hs]; exact kk T c' (hx.trans h2) h3) (fun E T h => by obtain ⟨h1, -⟩ := h; cases h1)
end OcRules
theorem Rel.le {c g : Nat → Nat} {N N' : Nat} (h : Rel c g N) (hN : N ≤ N') : Rel c g N' :=
  Rel.head hN (fun _ _ _ => rfl) (fun _ _ => rfl) rfl ⟨h.1.2.1, h.g3, Nat.le_trans h.g1 hN, Nat.le_trans h.g2 hN⟩ (fun i hi => ⟨(h.2.1 i hi).1, (h.mb hi).1, (h.mb hi).2.1, Nat.le_trans (h.mb hi).2.2 hN⟩) (fun p hp => HdP.congr hp hN (fun _ _ _ => rfl) (fun _ _ _ => rfl) (h.p hp)) (fun j hj => ⟨h.b hj, Nat.le_trans (h.bb hj) hN⟩) (fun _ _ => Nat.le_refl _) h
theorem Rel.rep {c g : Nat → Nat} {N l u p : Nat} (hr : Rel c g N) (hl : l < g 0) (hu : u < g (90 + 13 * l + 1)) (hp : g (90 + 13 * l + 0) = p) (h3 : ¬ sW (g (402 + 2 * (200 * l + u))) = 3) (h2 : rW (g (402 + 2 * (200 * l + u))) < 2) :
    Rel (up1 (up1 (up1 (up1 (up1 c (402 + 8 * (200 * l + u) + 1) (g (402 + 2 * (200 * l + u)) % 16 &&& (g (22 + 10 * p + 2) ^^^ 4294967295))) (402 + 8 * (200 * l + u) + 3) (frW (g (402 + 2 * (200 * l + u))) &&& (g (22 + 10 * p + 2) ^^^ 4294967295))) (402 + 8 * (200 * l + u) + 2) (rW (g (402 + 2 * (200 * l + u))) + 1)) (402 + 8 * (200 * l + u)) 0) 1 (g 1 + 1)) (becG (repA g l u) l u 0) (N + 1) := by
  have hL := hr.lot hl
  obtain ⟨w1, w2, w3, w4⟩ := hL.wu hu
  obtain ⟨v1, v2, v3, v4⟩ : fld 4 2 (losK (g (22 + 10 * p + 2)) (g (402 + 2 * (200 * l + u))) 4) = rW (g (402 + 2 * (200 * l + u))) ∧ fld 6 3 (losK (g (22 + 10 * p + 2)) (g (402 + 2 * (200 * l + u))) 4) = sW (g (402 + 2 * (200 * l + u))) ∧ fld 9 1 (losK (g (22 + 10 * p + 2)) (g (402 + 2 * (200 * l + u))) 4) = fld 9 1 (g (402 + 2 * (200 * l + u))) ∧ losK (g (22 + 10 * p + 2)) (g (402 + 2 * (200 * l + u))) 4 ≤ g (402 + 2 * (200 * l + u)) := ⟨los_f (by decide) (by decide), los_f (by decide) (by decide), los_f (by decide) (by decide), los_le 4⟩
  generalize hw : losK (g (22 + 10 * p + 2)) (g (402 + 2 * (200 * l + u))) 4 = w0 at v1 v2 v3 v4
  have hr0 : rW w0 = rW (g (402 + 2 * (200 * l + u))) := v1
  obtain ⟨a1, a2, a3, a4, a5⟩ := add16 (w := w0) (by rw [hr0]; omega)
  have hlt : w0 + 16 < 2 ^ 18 := by
    have hcut : w0 < 2 ^ 18 := by omega
    unfold rW fld at a1 hr0
    omega
  have h1 := Rel.cnt2 hr (i := 1) (Or.inl rfl)
  have g9 : ∀ i, i ≠ 1 → up1 g 1 (g 1 + 1) i = g i := fun i h => up1_n h
  have hwd : ∀ q, q < 4 → bW w0 q = if g (22 + 10 * p + 2) / 2 ^ q % 2 = 1 then 0 else bW (g (402 + 2 * (200 * l + u))) q := fun q hq => by rw [← hw]; exact los_b hq
  have hwy : ∀ q, q < 4 → yW w0 q = if g (22 + 10 * p + 2) / 2 ^ q % 2 = 1 then 0 else yW (g (402 + 2 * (200 * l + u))) q := fun q hq => by rw [← hw]; exact los_y hq
  have hb16 : ∀ q, bW (w0 + 16) q = bW w0 q := fun q => by unfold bW; rw [a2]
  have key := Rel.unit (l := l) (u := u) (w' := becN (w0 + 16) 0) (c' := up1 (up1 (up1 (up1 (up1 c (402 + 8 * (200 * l + u) + 1) (g (402 + 2 * (200 * l + u)) % 16 &&& (g (22 + 10 * p + 2) ^^^ 4294967295))) (402 + 8 * (200 * l + u) + 3) (frW (g (402 + 2 * (200 * l + u))) &&& (g (22 + 10 * p + 2) ^^^ 4294967295))) (402 + 8 * (200 * l + u) + 2) (rW (g (402 + 2 * (200 * l + u))) + 1)) (402 + 8 * (200 * l + u)) 0) 1 (g 1 + 1)) h1 (by rw [g9 0 (by decide)]; exact hl) (by rw [g9 _ (by omega)]; exact hu) (by rw [g9 _ (by omega)]; exact h3) (by rw [bec_s (by decide)]; decide) (fun i _ hi => ?_) ⟨?_, ?_, ?_, ?_, ?_⟩ (bec_lt (by decide) hlt) (by rw [bec_r (by decide), a1, hr0]; omega) (by rw [bec_s (by decide)]; decide) (fun q hq => ?_)
  · refine cast (congrArg (fun z => Rel _ z (N + 1)) ?_) key
    unfold becG repA
    have e1 : ksR g l = g (22 + 10 * p + 2) := by unfold ksR; rw [hp]
    rw [e1]
    have e2 : losG g l u (g (22 + 10 * p + 2)) (402 + 2 * (200 * l + u)) = w0 := by unfold losG; rw [up1_s]; exact hw
    rw [e2, up1_n (f := up1 (losG g l u (g (22 + 10 * p + 2))) (402 + 2 * (200 * l + u)) (w0 + 16)) (i := 1) (by omega), up1_s]
    funext i
    by_cases e : i = 402 + 2 * (200 * l + u)
    · rw [e, up1_s, up1_s]
    · rw [up1_n e, up1_n e]
      by_cases e3 : i = 1
      · rw [e3, up1_s, up1_s]
      · rw [up1_n e3, up1_n e3, up1_n e]
        unfold losG
        rw [up1_n e]
  · by_cases e : i = 1
    · rw [e, up1_s, up1_s]
    · rw [up1_n e, up1_n (by omega), up1_n (by omega), up1_n (by omega), up1_n (by omega), up1_n e]
  · rw [up1_n (by omega), up1_s, bec_s (by decide)]
  · rw [up1_n (by omega), up1_n (by omega), up1_n (by omega), up1_n (by omega), up1_s, bec_d (by decide), a2, ← hw]; exact los_d.symm
  · rw [up1_n (by omega), up1_n (by omega), up1_s, bec_r (by decide), a1, hr0]
  · rw [up1_n (by omega), up1_n (by omega), up1_n (by omega), up1_s, frW_congr (fun q hq => bec_y (by decide) hq), frW_congr (w := w0) a5, ← hw]; exact los_fr.symm
  · rw [up1_n (by omega), up1_n (by omega), up1_n (by omega), up1_n (by omega), up1_n (by omega), bec_c (by decide), a4, v3]; exact hL.u5 hu
  · rw [g9 _ (by omega), bec_b (by decide), bec_y (by decide) hq, hb16, a5 q hq, hwd q hq, hwy q hq]
    obtain ⟨z1, z2, z3, z4⟩ := w4 q hq
    by_cases c9 : g (22 + 10 * p + 2) / 2 ^ q % 2 = 1
    · rw [if_pos c9, if_pos c9]
      exact ⟨fun _ => rfl, by decide, fun h => absurd h (by decide), fun h => absurd h (by decide)⟩
    · rw [if_neg c9, if_neg c9]
      exact ⟨z1, z2, fun a b => ⟨a, b⟩, id⟩
theorem Rel.spoil {c g : Nat → Nat} {N l u : Nat} (hr : Rel c g N) (hl : l < g 0) (hu : u < g (90 + 13 * l + 1)) (h3 : ¬ sW (g (402 + 2 * (200 * l + u))) = 3) (hb : bW (g (402 + 2 * (200 * l + u))) 3 = 0) :
    Rel (up1 (up1 c (402 + 8 * (200 * l + u) + 1) (g (402 + 2 * (200 * l + u)) % 16 ||| 8)) (402 + 8 * (200 * l + u) + 3) (frW (g (402 + 2 * (200 * l + u))) ||| 8)) (cauG g l u 3 2) N := by
  have hL := hr.lot hl
  obtain ⟨w1, w2, w3, w4⟩ := hL.wu hu
  have hy0 := (w4 3 (by decide)).1 hb
  unfold cauG
  rw [if_pos hb]
  have es : sW (cauN (g (402 + 2 * (200 * l + u))) 3 2) = sW (g (402 + 2 * (200 * l + u))) := cau_f (by decide) (by decide) (by decide) (by decide)
  have er : rW (cauN (g (402 + 2 * (200 * l + u))) 3 2) = rW (g (402 + 2 * (200 * l + u))) := cau_f (by decide) (by decide) (by decide) (by decide)
  have ec : fld 9 1 (cauN (g (402 + 2 * (200 * l + u))) 3 2) = fld 9 1 (g (402 + 2 * (200 * l + u))) := cau_f (by decide) (by decide) (by decide) (by decide)
  refine Rel.unit hr hl hu h3 (by rw [es]; exact h3) (fun i _ hi => by rw [up1_n (by omega), up1_n (by omega)]) ⟨?_, ?_, ?_, ?_, ?_⟩ (cau_lt (by decide) (by decide) w1) (by rw [er]; exact w2) (by rw [es]; exact w3) (fun q hq => ?_)
  · rw [up1_n (by omega), up1_n (by omega), es]; exact hL.u0 hu
  · rw [up1_n (by omega), up1_s, cau_d (by decide) (by decide)]
  · rw [up1_n (by omega), up1_n (by omega), er]; exact hL.u2 hu
  · rw [up1_s, cau_fr hy0]
  · rw [up1_n (by omega), up1_n (by omega), ec]; exact hL.u5 hu
  · rw [cau_b2 (by decide) (by decide) hq, cau_y (by decide) (by decide) hq hy0]
    obtain ⟨z1, z2, z3, z4⟩ := w4 q hq
    by_cases e : q = 3
    · rw [if_pos e, if_pos e]
      exact ⟨fun h => absurd h (by decide), by decide, fun _ h => absurd h (by decide), fun h => absurd h (by decide)⟩
    · rw [if_neg e, if_neg e]
      exact ⟨z1, z2, fun a b => ⟨a, b⟩, id⟩
set_option maxRecDepth 4000 in
set_option maxHeartbeats 400000 in
theorem o_rep_0 {G : GI} {S : Hp} {w : Nat → Nat} {k o : Nat} {A c g : Nat → Nat} {N : Nat} (h : OR S w k o A c) (hr : Rel c g N) (hal : ∀ l, l < g 0 → A l ≠ 0) {l : Nat} (hl : l < g 0) {u : Nat} (hu : u < g (90 + 13 * l + 1)) {p : Nat} (hp : g (90 + 13 * l + 0) = p) (hno : ¬ (hopV g l u = 0 ∧ rW (g (402 + 2 * (200 * l + u))) < 2)) : Fn m_X7_isRepaired G [.ref (o), .ref (A l), .int (nI (u)), .ref (o + 12 + p)] S (some (.int (nI (0)))) S := by
  refine Cn.of rfl (by decide) (Nat.le_of_ble_eq_true rfl) (fun hN hM => ?_)
  show Wx _ G _ 0 [(0, .ref (o)), (1, .ref (A l)), (2, .int (nI (u))), (3, .ref (o + 12 + p))] [] _
  have hx := OX.refl h
  have h24 := hr.n24
  have hl24 : l < 24 := by omega
  have hAl := hal l hl
  have hL := hr.lot hl
  have hz := hL.z
  have hp4 : p < 4 := by have := hL.pr; omega
  have hpb := (hr.p hp4).b
  have hh : hopV g l u = ((g (402 + 2 * (200 * l + u)) % 16) &&& (g (22 + 10 * p + 1)) &&& ((g (22 + 10 * p + 2)) ^^^ 4294967295)) := by unfold hopV; rw [hp]
  have hxb := xor_b hpb.2.2.1
  refine r_aload_n dX7_isRepaired_0 rfl 1 rfl ?_
  refine r_getR (ci := 7) (k := 12) (b := A l + 3) dX7_isRepaired_1 fr_X7_147 (hx.1.lo hl24 hAl).2.1 rfl (hx.1.lo hl24 hAl).2.2.1.2.2.1 ?_
  refine r_iload_n dX7_isRepaired_4 rfl 2 rfl ?_
  refine r_iald dX7_isRepaired_5 (hx.1.lo hl24 hAl).2.2.2.2.2.1.1 (by rw [show zN S (A l + 3) = 200 from (hx.1.lo hl24 hAl).2.2.2.2.2.1.2]; exact vp_in_nI (by (first | omega | (refine Nat.lt_of_le_of_lt Nat.and_le_left ?_; first | omega | (refine Nat.lt_of_le_of_lt Nat.and_le_left ?_; omega)) | (have := rW_lt (g (402 + 2 * (200 * l + u))); omega))) (by decide)) ?_
  refine Wx.top (congrArg (zA _ _) (nI_clamp (by (first | omega | (refine Nat.lt_of_le_of_lt Nat.and_le_left ?_; first | omega | (refine Nat.lt_of_le_of_lt Nat.and_le_left ?_; omega)) | (have := rW_lt (g (402 + 2 * (200 * l + u))); omega))))) ?_
  refine Wx.top (hx.1.u1 (u := u) hl24 hAl (by (first | omega | (refine Nat.lt_of_le_of_lt Nat.and_le_left ?_; first | omega | (refine Nat.lt_of_le_of_lt Nat.and_le_left ?_; omega)) | (have := rW_lt (g (402 + 2 * (200 * l + u))); omega)))) ?_
  refine Wx.topN (hL.u1 (u := u) (by (first | omega | (refine Nat.lt_of_le_of_lt Nat.and_le_left ?_; first | omega | (refine Nat.lt_of_le_of_lt Nat.and_le_left ?_; omega)) | (have := rW_lt (g (402 + 2 * (200 * l + u))); omega)))) ?_
  refine r_aload_n dX7_isRepaired_6 rfl 3 rfl ?_
  refine r_getI (ci := 10) (k := 1) dX7_isRepaired_7 fr_X7_79 (hx.1.1.2.2.2.2.2.2.2.2 p (by (first | omega | (refine Nat.lt_of_le_of_lt Nat.and_le_left ?_; first | omega | (refine Nat.lt_of_le_of_lt Nat.and_le_left ?_; omega)) | (have := rW_lt (g (402 + 2 * (200 * l + u))); omega)))).2 rfl ?_
  refine Wx.top (hx.1.p1 (i := p) (by (first | omega | (refine Nat.lt_of_le_of_lt Nat.and_le_left ?_; first | omega | (refine Nat.lt_of_le_of_lt Nat.and_le_left ?_; omega)) | (have := rW_lt (g (402 + 2 * (200 * l + u))); omega)))) ?_
  refine Wx.topN ((hr.p (p := p) (by (first | omega | (refine Nat.lt_of_le_of_lt Nat.and_le_left ?_; first | omega | (refine Nat.lt_of_le_of_lt Nat.and_le_left ?_; omega)) | (have := rW_lt (g (402 + 2 * (200 * l + u))); omega)))).cf (f := 1) (by decide)) ?_
  refine r_iandN dX7_isRepaired_10 (by (first | omega | (refine Nat.lt_of_le_of_lt Nat.and_le_left ?_; first | omega | (refine Nat.lt_of_le_of_lt Nat.and_le_left ?_; omega)) | (have := rW_lt (g (402 + 2 * (200 * l + u))); omega))) (by (first | omega | (refine Nat.lt_of_le_of_lt Nat.and_le_left ?_; first | omega | (refine Nat.lt_of_le_of_lt Nat.and_le_left ?_; omega)) | (have := rW_lt (g (402 + 2 * (200 * l + u))); omega))) ?_
  refine r_aload_n dX7_isRepaired_11 rfl 3 rfl ?_
  refine r_getI (ci := 10) (k := 2) dX7_isRepaired_12 fr_X7_95 (hx.1.1.2.2.2.2.2.2.2.2 p (by (first | omega | (refine Nat.lt_of_le_of_lt Nat.and_le_left ?_; first | omega | (refine Nat.lt_of_le_of_lt Nat.and_le_left ?_; omega)) | (have := rW_lt (g (402 + 2 * (200 * l + u))); omega)))).2 rfl ?_
  refine Wx.top (hx.1.p2 (i := p) (by (first | omega | (refine Nat.lt_of_le_of_lt Nat.and_le_left ?_; first | omega | (refine Nat.lt_of_le_of_lt Nat.and_le_left ?_; omega)) | (have := rW_lt (g (402 + 2 * (200 * l + u))); omega)))) ?_
  refine Wx.topN ((hr.p (p := p) (by (first | omega | (refine Nat.lt_of_le_of_lt Nat.and_le_left ?_; first | omega | (refine Nat.lt_of_le_of_lt Nat.and_le_left ?_; omega)) | (have := rW_lt (g (402 + 2 * (200 * l + u))); omega)))).cf (f := 2) (by decide)) ?_
  refine r_iconst (v := nI 4294967295) dX7_isRepaired_15 (by decide) ?_
  refine r_ixorN dX7_isRepaired_16 (by (first | omega | (refine Nat.lt_of_le_of_lt Nat.and_le_left ?_; first | omega | (refine Nat.lt_of_le_of_lt Nat.and_le_left ?_; omega)) | (have := rW_lt (g (402 + 2 * (200 * l + u))); omega))) (by (first | omega | (refine Nat.lt_of_le_of_lt Nat.and_le_left ?_; first | omega | (refine Nat.lt_of_le_of_lt Nat.and_le_left ?_; omega)) | (have := rW_lt (g (402 + 2 * (200 * l + u))); omega))) ?_
  refine r_iandN dX7_isRepaired_17 (by (first | omega | (refine Nat.lt_of_le_of_lt Nat.and_le_left ?_; first | omega | (refine Nat.lt_of_le_of_lt Nat.and_le_left ?_; omega)) | (have := rW_lt (g (402 + 2 * (200 * l + u))); omega))) (by (first | omega | (refine Nat.lt_of_le_of_lt Nat.and_le_left ?_; first | omega | (refine Nat.lt_of_le_of_lt Nat.and_le_left ?_; omega)) | (have := rW_lt (g (402 + 2 * (200 * l + u))); omega))) ?_
  refine r_istore (lv' := [(4, .int (nI (((g (402 + 2 * (200 * l + u)) % 16) &&& (g (22 + 10 * p + 1))) &&& ((g (22 + 10 * p + 2)) ^^^ 4294967295)))), (0, .ref (o)), (1, .ref (A l)), (2, .int (nI (u))), (3, .ref (o + 12 + p))]) dX7_isRepaired_18 (by decide) rfl ?_
  refine r_iload dX7_isRepaired_20 0 rfl ?_
  refine r_if_neN (tgt := 35) dX7_isRepaired_22 (by decide) (by (first | omega | (refine Nat.lt_of_le_of_lt Nat.and_le_left ?_; first | omega | (refine Nat.lt_of_le_of_lt Nat.and_le_left ?_; omega)) | (have := rW_lt (g (402 + 2 * (200 * l + u))); omega))) (fun h22 => ?_) (fun h22 => ?_)
  · refine r_iconst (v := nI 0) dX7_isRepaired_35 (by decide) ?_
    exact r_iret (ty := .boolean) dX7_isRepaired_36 rfl (by decide) ⟨rfl, rfl⟩
  · refine r_aload_n dX7_isRepaired_25 rfl 2 rfl ?_
    refine r_getR (ci := 7) (k := 13) (b := A l + 4) dX7_isRepaired_26 fr_X7_205 (hx.1.lo hl24 hAl).2.1 rfl (hx.1.lo hl24 hAl).2.2.1.2.2.2.1 ?_
    refine r_iload_n dX7_isRepaired_29 rfl 3 rfl ?_
    refine r_iald dX7_isRepaired_30 (hx.1.lo hl24 hAl).2.2.2.2.2.2.1.1 (by rw [show zN S (A l + 4) = 200 from (hx.1.lo hl24 hAl).2.2.2.2.2.2.1.2]; exact vp_in_nI (by (first | omega | (refine Nat.lt_of_le_of_lt Nat.and_le_left ?_; first | omega | (refine Nat.lt_of_le_of_lt Nat.and_le_left ?_; omega)) | (have := rW_lt (g (402 + 2 * (200 * l + u))); omega))) (by decide)) ?_
    refine Wx.top (congrArg (zA _ _) (nI_clamp (by (first | omega | (refine Nat.lt_of_le_of_lt Nat.and_le_left ?_; first | omega | (refine Nat.lt_of_le_of_lt Nat.and_le_left ?_; omega)) | (have := rW_lt (g (402 + 2 * (200 * l + u))); omega))))) ?_
    refine Wx.top (hx.1.u2 (u := u) hl24 hAl (by (first | omega | (refine Nat.lt_of_le_of_lt Nat.and_le_left ?_; first | omega | (refine Nat.lt_of_le_of_lt Nat.and_le_left ?_; omega)) | (have := rW_lt (g (402 + 2 * (200 * l + u))); omega)))) ?_
    refine Wx.topN (hL.u2 (u := u) (by (first | omega | (refine Nat.lt_of_le_of_lt Nat.and_le_left ?_; first | omega | (refine Nat.lt_of_le_of_lt Nat.and_le_left ?_; omega)) | (have := rW_lt (g (402 + 2 * (200 * l + u))); omega)))) ?_
    refine r_iconst (v := nI 2) dX7_isRepaired_31 (by decide) ?_
    refine r_icmp_ltN (tgt := 37) dX7_isRepaired_32 (by decide) (by (first | omega | (refine Nat.lt_of_le_of_lt Nat.and_le_left ?_; first | omega | (refine Nat.lt_of_le_of_lt Nat.and_le_left ?_; omega)) | (have := rW_lt (g (402 + 2 * (200 * l + u))); omega))) (by (first | omega | (refine Nat.lt_of_le_of_lt Nat.and_le_left ?_; first | omega | (refine Nat.lt_of_le_of_lt Nat.and_le_left ?_; omega)) | (have := rW_lt (g (402 + 2 * (200 * l + u))); omega))) (fun h32 => ?_) (fun h32 => ?_)
    · exact absurd ⟨hh.trans h22, h32⟩ hno
    · refine r_iconst (v := nI 0) dX7_isRepaired_35 (by decide) ?_
      exact r_iret (ty := .boolean) dX7_isRepaired_36 rfl (by decide) ⟨rfl, rfl⟩
set_option maxRecDepth 4000 in
set_option maxHeartbeats 400000 in
theorem ch_rep {G : GI} {S : Hp} {w : Nat → Nat} {k o : Nat} {A c g : Nat → Nat} {N : Nat} (h : OR S w k o A c) (hr : Rel c g N) (hal : ∀ l, l < g 0 → A l ≠ 0) {l : Nat} (hl : l < g 0) {u : Nat} (hu : u < g (90 + 13 * l + 1)) {p : Nat} (hp : g (90 + 13 * l + 0) = p) (hNb : N < 2147480000) (h1 : hopV g l u = 0) (h2 : rW (g (402 + 2 * (200 * l + u))) < 2) (h3 : ¬ sW (g (402 + 2 * (200 * l + u))) = 3) : OCx m_X7_isRepaired G [.ref (o), .ref (A l), .int (nI (u)), .ref (o + 12 + p)] S w k o A (some (.int (nI (1)))) (repG g l u) (N + 1) := by
  refine Cn.of rfl (by decide) (Nat.le_of_ble_eq_true rfl) (fun hN hM => ?_)
  show Wx _ G _ 0 [(0, .ref (o)), (1, .ref (A l)), (2, .int (nI (u))), (3, .ref (o + 12 + p))] [] _
  have hx := OX.refl h
  have h24 := hr.n24
  have hl24 : l < 24 := by omega
  have hAl := hal l hl
  have hL := hr.lot hl
  have hz := hL.z
  have hp4 : p < 4 := by have := hL.pr; omega
  have hpb := (hr.p hp4).b
  have hh : hopV g l u = ((g (402 + 2 * (200 * l + u)) % 16) &&& (g (22 + 10 * p + 1)) &&& ((g (22 + 10 * p + 2)) ^^^ 4294967295)) := by unfold hopV; rw [hp]
  have hxb := xor_b hpb.2.2.1
  refine r_aload_n dX7_isRepaired_0 rfl 1 rfl ?_
  refine r_getR (ci := 7) (k := 12) (b := A l + 3) dX7_isRepaired_1 fr_X7_147 (hx.1.lo hl24 hAl).2.1 rfl (hx.1.lo hl24 hAl).2.2.1.2.2.1 ?_
  refine r_iload_n dX7_isRepaired_4 rfl 2 rfl ?_
  refine r_iald dX7_isRepaired_5 (hx.1.lo hl24 hAl).2.2.2.2.2.1.1 (by rw [show zN S (A l + 3) = 200 from (hx.1.lo hl24 hAl).2.2.2.2.2.1.2]; exact vp_in_nI (by (first | omega | (refine Nat.lt_of_le_of_lt Nat.and_le_left ?_; first | omega | (refine Nat.lt_of_le_of_lt Nat.and_le_left ?_; omega)) | (have := rW_lt (g (402 + 2 * (200 * l + u))); omega) | (have := hr.g1; omega))) (by decide)) ?_
  refine Wx.top (congrArg (zA _ _) (nI_clamp (by (first | omega | (refine Nat.lt_of_le_of_lt Nat.and_le_left ?_; first | omega | (refine Nat.lt_of_le_of_lt Nat.and_le_left ?_; omega)) | (have := rW_lt (g (402 + 2 * (200 * l + u))); omega) | (have := hr.g1; omega))))) ?_
  refine Wx.top (hx.1.u1 (u := u) hl24 hAl (by (first | omega | (refine Nat.lt_of_le_of_lt Nat.and_le_left ?_; first | omega | (refine Nat.lt_of_le_of_lt Nat.and_le_left ?_; omega)) | (have := rW_lt (g (402 + 2 * (200 * l + u))); omega) | (have := hr.g1; omega)))) ?_
  refine Wx.topN (hL.u1 (u := u) (by (first | omega | (refine Nat.lt_of_le_of_lt Nat.and_le_left ?_; first | omega | (refine Nat.lt_of_le_of_lt Nat.and_le_left ?_; omega)) | (have := rW_lt (g (402 + 2 * (200 * l + u))); omega) | (have := hr.g1; omega)))) ?_
  refine r_aload_n dX7_isRepaired_6 rfl 3 rfl ?_
  refine r_getI (ci := 10) (k := 1) dX7_isRepaired_7 fr_X7_79 (hx.1.1.2.2.2.2.2.2.2.2 p (by (first | omega | (refine Nat.lt_of_le_of_lt Nat.and_le_left ?_; first | omega | (refine Nat.lt_of_le_of_lt Nat.and_le_left ?_; omega)) | (have := rW_lt (g (402 + 2 * (200 * l + u))); omega) | (have := hr.g1; omega)))).2 rfl ?_
  refine Wx.top (hx.1.p1 (i := p) (by (first | omega | (refine Nat.lt_of_le_of_lt Nat.and_le_left ?_; first | omega | (refine Nat.lt_of_le_of_lt Nat.and_le_left ?_; omega)) | (have := rW_lt (g (402 + 2 * (200 * l + u))); omega) | (have := hr.g1; omega)))) ?_
  refine Wx.topN ((hr.p (p := p) (by (first | omega | (refine Nat.lt_of_le_of_lt Nat.and_le_left ?_; first | omega | (refine Nat.lt_of_le_of_lt Nat.and_le_left ?_; omega)) | (have := rW_lt (g (402 + 2 * (200 * l + u))); omega) | (have := hr.g1; omega)))).cf (f := 1) (by decide)) ?_
  refine r_iandN dX7_isRepaired_10 (by (first | omega | (refine Nat.lt_of_le_of_lt Nat.and_le_left ?_; first | omega | (refine Nat.lt_of_le_of_lt Nat.and_le_left ?_; omega)) | (have := rW_lt (g (402 + 2 * (200 * l + u))); omega) | (have := hr.g1; omega))) (by (first | omega | (refine Nat.lt_of_le_of_lt Nat.and_le_left ?_; first | omega | (refine Nat.lt_of_le_of_lt Nat.and_le_left ?_; omega)) | (have := rW_lt (g (402 + 2 * (200 * l + u))); omega) | (have := hr.g1; omega))) ?_
  refine r_aload_n dX7_isRepaired_11 rfl 3 rfl ?_
  refine r_getI (ci := 10) (k := 2) dX7_isRepaired_12 fr_X7_95 (hx.1.1.2.2.2.2.2.2.2.2 p (by (first | omega | (refine Nat.lt_of_le_of_lt Nat.and_le_left ?_; first | omega | (refine Nat.lt_of_le_of_lt Nat.and_le_left ?_; omega)) | (have := rW_lt (g (402 + 2 * (200 * l + u))); omega) | (have := hr.g1; omega)))).2 rfl ?_
  refine Wx.top (hx.1.p2 (i := p) (by (first | omega | (refine Nat.lt_of_le_of_lt Nat.and_le_left ?_; first | omega | (refine Nat.lt_of_le_of_lt Nat.and_le_left ?_; omega)) | (have := rW_lt (g (402 + 2 * (200 * l + u))); omega) | (have := hr.g1; omega)))) ?_
  refine Wx.topN ((hr.p (p := p) (by (first | omega | (refine Nat.lt_of_le_of_lt Nat.and_le_left ?_; first | omega | (refine Nat.lt_of_le_of_lt Nat.and_le_left ?_; omega)) | (have := rW_lt (g (402 + 2 * (200 * l + u))); omega) | (have := hr.g1; omega)))).cf (f := 2) (by decide)) ?_
  refine r_iconst (v := nI 4294967295) dX7_isRepaired_15 (by decide) ?_
  refine r_ixorN dX7_isRepaired_16 (by (first | omega | (refine Nat.lt_of_le_of_lt Nat.and_le_left ?_; first | omega | (refine Nat.lt_of_le_of_lt Nat.and_le_left ?_; omega)) | (have := rW_lt (g (402 + 2 * (200 * l + u))); omega) | (have := hr.g1; omega))) (by (first | omega | (refine Nat.lt_of_le_of_lt Nat.and_le_left ?_; first | omega | (refine Nat.lt_of_le_of_lt Nat.and_le_left ?_; omega)) | (have := rW_lt (g (402 + 2 * (200 * l + u))); omega) | (have := hr.g1; omega))) ?_
  refine r_iandN dX7_isRepaired_17 (by (first | omega | (refine Nat.lt_of_le_of_lt Nat.and_le_left ?_; first | omega | (refine Nat.lt_of_le_of_lt Nat.and_le_left ?_; omega)) | (have := rW_lt (g (402 + 2 * (200 * l + u))); omega) | (have := hr.g1; omega))) (by (first | omega | (refine Nat.lt_of_le_of_lt Nat.and_le_left ?_; first | omega | (refine Nat.lt_of_le_of_lt Nat.and_le_left ?_; omega)) | (have := rW_lt (g (402 + 2 * (200 * l + u))); omega) | (have := hr.g1; omega))) ?_
  refine r_istore (lv' := [(4, .int (nI (((g (402 + 2 * (200 * l + u)) % 16) &&& (g (22 + 10 * p + 1))) &&& ((g (22 + 10 * p + 2)) ^^^ 4294967295)))), (0, .ref (o)), (1, .ref (A l)), (2, .int (nI (u))), (3, .ref (o + 12 + p))]) dX7_isRepaired_18 (by decide) rfl ?_
  refine r_iload dX7_isRepaired_20 0 rfl ?_
  refine r_if_neN (tgt := 35) dX7_isRepaired_22 (by decide) (by (first | omega | (refine Nat.lt_of_le_of_lt Nat.and_le_left ?_; first | omega | (refine Nat.lt_of_le_of_lt Nat.and_le_left ?_; omega)) | (have := rW_lt (g (402 + 2 * (200 * l + u))); omega) | (have := hr.g1; omega))) (fun h22 => ?_) (fun h22 => ?_)
  · exact absurd (hh.symm.trans h1) h22
  · refine r_aload_n dX7_isRepaired_25 rfl 2 rfl ?_
    refine r_getR (ci := 7) (k := 13) (b := A l + 4) dX7_isRepaired_26 fr_X7_205 (hx.1.lo hl24 hAl).2.1 rfl (hx.1.lo hl24 hAl).2.2.1.2.2.2.1 ?_
    refine r_iload_n dX7_isRepaired_29 rfl 3 rfl ?_
    refine r_iald dX7_isRepaired_30 (hx.1.lo hl24 hAl).2.2.2.2.2.2.1.1 (by rw [show zN S (A l + 4) = 200 from (hx.1.lo hl24 hAl).2.2.2.2.2.2.1.2]; exact vp_in_nI (by (first | omega | (refine Nat.lt_of_le_of_lt Nat.and_le_left ?_; first | omega | (refine Nat.lt_of_le_of_lt Nat.and_le_left ?_; omega)) | (have := rW_lt (g (402 + 2 * (200 * l + u))); omega) | (have := hr.g1; omega))) (by decide)) ?_
    refine Wx.top (congrArg (zA _ _) (nI_clamp (by (first | omega | (refine Nat.lt_of_le_of_lt Nat.and_le_left ?_; first | omega | (refine Nat.lt_of_le_of_lt Nat.and_le_left ?_; omega)) | (have := rW_lt (g (402 + 2 * (200 * l + u))); omega) | (have := hr.g1; omega))))) ?_
    refine Wx.top (hx.1.u2 (u := u) hl24 hAl (by (first | omega | (refine Nat.lt_of_le_of_lt Nat.and_le_left ?_; first | omega | (refine Nat.lt_of_le_of_lt Nat.and_le_left ?_; omega)) | (have := rW_lt (g (402 + 2 * (200 * l + u))); omega) | (have := hr.g1; omega)))) ?_
    refine Wx.topN (hL.u2 (u := u) (by (first | omega | (refine Nat.lt_of_le_of_lt Nat.and_le_left ?_; first | omega | (refine Nat.lt_of_le_of_lt Nat.and_le_left ?_; omega)) | (have := rW_lt (g (402 + 2 * (200 * l + u))); omega) | (have := hr.g1; omega)))) ?_
    refine r_iconst (v := nI 2) dX7_isRepaired_31 (by decide) ?_
    refine r_icmp_ltN (tgt := 37) dX7_isRepaired_32 (by decide) (by (first | omega | (refine Nat.lt_of_le_of_lt Nat.and_le_left ?_; first | omega | (refine Nat.lt_of_le_of_lt Nat.and_le_left ?_; omega)) | (have := rW_lt (g (402 + 2 * (200 * l + u))); omega) | (have := hr.g1; omega))) (by (first | omega | (refine Nat.lt_of_le_of_lt Nat.and_le_left ?_; first | omega | (refine Nat.lt_of_le_of_lt Nat.and_le_left ?_; omega)) | (have := rW_lt (g (402 + 2 * (200 * l + u))); omega) | (have := hr.g1; omega))) (fun h32 => ?_) (fun h32 => ?_)
    · refine r_aload_n dX7_isRepaired_37 rfl 2 rfl ?_
      refine r_iload_n dX7_isRepaired_38 rfl 3 rfl ?_
      refine r_aload_n dX7_isRepaired_39 rfl 4 rfl ?_
      refine r_getI (ci := 10) (k := 2) dX7_isRepaired_40 fr_X7_95 (hx.1.1.2.2.2.2.2.2.2.2 p (by (first | omega | (refine Nat.lt_of_le_of_lt Nat.and_le_left ?_; first | omega | (refine Nat.lt_of_le_of_lt Nat.and_le_left ?_; omega)) | (have := rW_lt (g (402 + 2 * (200 * l + u))); omega) | (have := hr.g1; omega)))).2 rfl ?_
      refine Wx.top (hx.1.p2 (i := p) (by (first | omega | (refine Nat.lt_of_le_of_lt Nat.and_le_left ?_; first | omega | (refine Nat.lt_of_le_of_lt Nat.and_le_left ?_; omega)) | (have := rW_lt (g (402 + 2 * (200 * l + u))); omega) | (have := hr.g1; omega)))) ?_
      refine Wx.topN ((hr.p (p := p) (by (first | omega | (refine Nat.lt_of_le_of_lt Nat.and_le_left ?_; first | omega | (refine Nat.lt_of_le_of_lt Nat.and_le_left ?_; omega)) | (have := rW_lt (g (402 + 2 * (200 * l + u))); omega) | (have := hr.g1; omega)))).cf (f := 2) (by decide)) ?_
      refine r_fnV (M2 := m_X5_lose) (As := [.int (nI (u)), .int (nI (g (22 + 10 * p + 2)))]) (rest := []) (v := none) dX7_isRepaired_43 cc_X7_isRepaired_207 rfl rfl rfl (Nat.le_of_ble_eq_true rfl) (hx.1.lo hl24 hAl).2.1 rfl rfl (by decide) (k_lose (hx.1.lo hl24 hAl).2 ((hx.1.l2 hl24 hAl).trans (congrArg nI (hL.h (f := 1) (by decide)))) hL.z (fun v hv => (hx.1.u1 hl24 hAl (Nat.lt_of_lt_of_le hv hL.z)).trans (congrArg nI (hL.u1 hv))) (fun v _ => Nat.mod_lt _ (by decide)) (fun v hv => (hx.1.u3 hl24 hAl (Nat.lt_of_lt_of_le hv hL.z)).trans (congrArg nI (hL.u3 hv))) (fun v _ => frW_lt _) hu hpb.2.2.1) rfl ?_
      refine Wx.gx (((hx.U (f := 1) hl24 hAl (by omega) (by decide)).U (f := 3) hl24 hAl (by omega) (by decide))) (fun T (hx : OX S w A T w k o A (up1 (up1 c (402 + 8 * (200 * l + u) + 1) (g (402 + 2 * (200 * l + u)) % 16 &&& (g (22 + 10 * p + 2) ^^^ 4294967295))) (402 + 8 * (200 * l + u) + 3) (frW (g (402 + 2 * (200 * l + u))) &&& (g (22 + 10 * p + 2) ^^^ 4294967295)))) => ?_)
      refine r_aload_n dX7_isRepaired_46 rfl 2 rfl ?_
      refine r_getR (ci := 7) (k := 13) (b := A l + 4) dX7_isRepaired_47 fr_X7_205 (hx.1.lo hl24 hAl).2.1 rfl (hx.1.lo hl24 hAl).2.2.1.2.2.2.1 ?_
      refine r_iload_n dX7_isRepaired_50 rfl 3 rfl ?_
      refine r_dup2 dX7_isRepaired_51 rfl rfl ?_
      refine r_iald dX7_isRepaired_52 (hx.1.lo hl24 hAl).2.2.2.2.2.2.1.1 (by rw [show zN T (A l + 4) = 200 from (hx.1.lo hl24 hAl).2.2.2.2.2.2.1.2]; exact vp_in_nI (by (first | omega | (refine Nat.lt_of_le_of_lt Nat.and_le_left ?_; first | omega | (refine Nat.lt_of_le_of_lt Nat.and_le_left ?_; omega)) | (have := rW_lt (g (402 + 2 * (200 * l + u))); omega) | (have := hr.g1; omega))) (by decide)) ?_
      refine Wx.top (congrArg (zA _ _) (nI_clamp (by (first | omega | (refine Nat.lt_of_le_of_lt Nat.and_le_left ?_; first | omega | (refine Nat.lt_of_le_of_lt Nat.and_le_left ?_; omega)) | (have := rW_lt (g (402 + 2 * (200 * l + u))); omega) | (have := hr.g1; omega))))) ?_
      refine Wx.top (hx.1.u2 (u := u) hl24 hAl (by (first | omega | (refine Nat.lt_of_le_of_lt Nat.and_le_left ?_; first | omega | (refine Nat.lt_of_le_of_lt Nat.and_le_left ?_; omega)) | (have := rW_lt (g (402 + 2 * (200 * l + u))); omega) | (have := hr.g1; omega)))) ?_
      refine Wx.topN (up1_n (by (first | omega | (refine Nat.lt_of_le_of_lt Nat.and_le_left ?_; first | omega | (refine Nat.lt_of_le_of_lt Nat.and_le_left ?_; omega)) | (have := rW_lt (g (402 + 2 * (200 * l + u))); omega) | (have := hr.g1; omega)))) ?_
      refine Wx.topN (up1_n (by (first | omega | (refine Nat.lt_of_le_of_lt Nat.and_le_left ?_; first | omega | (refine Nat.lt_of_le_of_lt Nat.and_le_left ?_; omega)) | (have := rW_lt (g (402 + 2 * (200 * l + u))); omega) | (have := hr.g1; omega)))) ?_
      refine Wx.topN (hL.u2 (u := u) (by (first | omega | (refine Nat.lt_of_le_of_lt Nat.and_le_left ?_; first | omega | (refine Nat.lt_of_le_of_lt Nat.and_le_left ?_; omega)) | (have := rW_lt (g (402 + 2 * (200 * l + u))); omega) | (have := hr.g1; omega)))) ?_
      refine r_iconst (v := nI 1) dX7_isRepaired_53 (by decide) ?_
      refine r_iaddN dX7_isRepaired_54 ?_
      refine r_iast dX7_isRepaired_55 (hx.1.lo hl24 hAl).2.2.2.2.2.2.1.1 (by rw [show zN T (A l + 4) = 200 from (hx.1.lo hl24 hAl).2.2.2.2.2.2.1.2]; exact vp_in_nI (by (first | omega | (refine Nat.lt_of_le_of_lt Nat.and_le_left ?_; first | omega | (refine Nat.lt_of_le_of_lt Nat.and_le_left ?_; omega)) | (have := rW_lt (g (402 + 2 * (200 * l + u))); omega) | (have := hr.g1; omega))) (by decide)) ?_
      refine Wx.st' (S' := uA T (A l + 4) (u) (nI (rW (g (402 + 2 * (200 * l + u))) + 1))) (by rw [nI_clamp (by (first | omega | (refine Nat.lt_of_le_of_lt Nat.and_le_left ?_; first | omega | (refine Nat.lt_of_le_of_lt Nat.and_le_left ?_; omega)) | (have := rW_lt (g (402 + 2 * (200 * l + u))); omega) | (have := hr.g1; omega)))]) ?_
      refine Wx.gx ((hx.U (f := 2) (u := u) hl24 hAl (by (first | omega | (refine Nat.lt_of_le_of_lt Nat.and_le_left ?_; first | omega | (refine Nat.lt_of_le_of_lt Nat.and_le_left ?_; omega)) | (have := rW_lt (g (402 + 2 * (200 * l + u))); omega) | (have := hr.g1; omega))) (by decide))) (fun T_1 (hx_1 : OX S w A T_1 w k o A (up1 (up1 (up1 c (402 + 8 * (200 * l + u) + 1) (g (402 + 2 * (200 * l + u)) % 16 &&& (g (22 + 10 * p + 2) ^^^ 4294967295))) (402 + 8 * (200 * l + u) + 3) (frW (g (402 + 2 * (200 * l + u))) &&& (g (22 + 10 * p + 2) ^^^ 4294967295))) (402 + 8 * (200 * l + u) + 2) (rW (g (402 + 2 * (200 * l + u))) + 1))) => ?_)
      refine r_aload_n dX7_isRepaired_56 rfl 2 rfl ?_
      refine r_getR (ci := 7) (k := 11) (b := A l + 2) dX7_isRepaired_57 fr_X7_137 (hx_1.1.lo hl24 hAl).2.1 rfl (hx_1.1.lo hl24 hAl).2.2.1.2.1 ?_
      refine r_iload_n dX7_isRepaired_60 rfl 3 rfl ?_
      refine r_iconst (v := nI 0) dX7_isRepaired_61 (by decide) ?_
      refine r_iast dX7_isRepaired_62 (hx_1.1.lo hl24 hAl).2.2.2.2.1.1 (by rw [show zN T_1 (A l + 2) = 200 from (hx_1.1.lo hl24 hAl).2.2.2.2.1.2]; exact vp_in_nI (by (first | omega | (refine Nat.lt_of_le_of_lt Nat.and_le_left ?_; first | omega | (refine Nat.lt_of_le_of_lt Nat.and_le_left ?_; omega)) | (have := rW_lt (g (402 + 2 * (200 * l + u))); omega) | (have := hr.g1; omega))) (by decide)) ?_
      refine Wx.st' (S' := uA T_1 (A l + 2) (u) (nI (0))) (by rw [nI_clamp (by (first | omega | (refine Nat.lt_of_le_of_lt Nat.and_le_left ?_; first | omega | (refine Nat.lt_of_le_of_lt Nat.and_le_left ?_; omega)) | (have := rW_lt (g (402 + 2 * (200 * l + u))); omega) | (have := hr.g1; omega)))]) ?_
      refine Wx.gx ((hx_1.U (f := 0) (u := u) hl24 hAl (by (first | omega | (refine Nat.lt_of_le_of_lt Nat.and_le_left ?_; first | omega | (refine Nat.lt_of_le_of_lt Nat.and_le_left ?_; omega)) | (have := rW_lt (g (402 + 2 * (200 * l + u))); omega) | (have := hr.g1; omega))) (by decide))) (fun T_2 (hx_2 : OX S w A T_2 w k o A (up1 (up1 (up1 (up1 c (402 + 8 * (200 * l + u) + 1) (g (402 + 2 * (200 * l + u)) % 16 &&& (g (22 + 10 * p + 2) ^^^ 4294967295))) (402 + 8 * (200 * l + u) + 3) (frW (g (402 + 2 * (200 * l + u))) &&& (g (22 + 10 * p + 2) ^^^ 4294967295))) (402 + 8 * (200 * l + u) + 2) (rW (g (402 + 2 * (200 * l + u))) + 1)) (402 + 8 * (200 * l + u)) (0))) => ?_)
      refine r_aload_n dX7_isRepaired_63 rfl 1 rfl ?_
      refine r_dup dX7_isRepaired_64 rfl ?_
      refine r_getI (ci := 9) (k := 7) dX7_isRepaired_65 fr_X7_68 hx_2.1.1.1 rfl ?_
      refine Wx.top hx_2.1.o1 ?_
      refine Wx.topN (up1_n (by (first | omega | (refine Nat.lt_of_le_of_lt Nat.and_le_left ?_; first | omega | (refine Nat.lt_of_le_of_lt Nat.and_le_left ?_; omega)) | (have := rW_lt (g (402 + 2 * (200 * l + u))); omega) | (have := hr.g1; omega)))) ?_
      refine Wx.topN (up1_n (by (first | omega | (refine Nat.lt_of_le_of_lt Nat.and_le_left ?_; first | omega | (refine Nat.lt_of_le_of_lt Nat.and_le_left ?_; omega)) | (have := rW_lt (g (402 + 2 * (200 * l + u))); omega) | (have := hr.g1; omega)))) ?_
      refine Wx.topN (up1_n (by (first | omega | (refine Nat.lt_of_le_of_lt Nat.and_le_left ?_; first | omega | (refine Nat.lt_of_le_of_lt Nat.and_le_left ?_; omega)) | (have := rW_lt (g (402 + 2 * (200 * l + u))); omega) | (have := hr.g1; omega)))) ?_
      refine Wx.topN (up1_n (by (first | omega | (refine Nat.lt_of_le_of_lt Nat.and_le_left ?_; first | omega | (refine Nat.lt_of_le_of_lt Nat.and_le_left ?_; omega)) | (have := rW_lt (g (402 + 2 * (200 * l + u))); omega) | (have := hr.g1; omega)))) ?_
      refine Wx.topN hr.c1 ?_
      refine r_iconst (v := nI 1) dX7_isRepaired_68 (by decide) ?_
      refine r_iaddN dX7_isRepaired_69 ?_
      refine r_putI (ci := 9) (k := 7) dX7_isRepaired_70 fw_X7_isRepaired_68 hx_2.1.1.1 rfl rfl rfl ?_
      refine Wx.gx (hx_2.O1) (fun T_3 (hx_3 : OX S w A T_3 w k o A (up1 (up1 (up1 (up1 (up1 c (402 + 8 * (200 * l + u) + 1) (g (402 + 2 * (200 * l + u)) % 16 &&& (g (22 + 10 * p + 2) ^^^ 4294967295))) (402 + 8 * (200 * l + u) + 3) (frW (g (402 + 2 * (200 * l + u))) &&& (g (22 + 10 * p + 2) ^^^ 4294967295))) (402 + 8 * (200 * l + u) + 2) (rW (g (402 + 2 * (200 * l + u))) + 1)) (402 + 8 * (200 * l + u)) (0)) (1) (g 1 + 1))) => ?_)
      refine r_aload_n dX7_isRepaired_73 rfl 1 rfl ?_
      refine r_getI (ci := 9) (k := 7) dX7_isRepaired_74 fr_X7_68 hx_3.1.1.1 rfl ?_
      refine Wx.top hx_3.1.o1 ?_
      refine Wx.topN up1_s ?_
      refine r_bipush (v := nI 7) dX7_isRepaired_77 (by decide) ?_
      refine r_iremN dX7_isRepaired_79 (by (first | omega | (refine Nat.lt_of_le_of_lt Nat.and_le_left ?_; first | omega | (refine Nat.lt_of_le_of_lt Nat.and_le_left ?_; omega)) | (have := rW_lt (g (402 + 2 * (200 * l + u))); omega) | (have := hr.g1; omega))) (by (first | omega | (refine Nat.lt_of_le_of_lt Nat.and_le_left ?_; first | omega | (refine Nat.lt_of_le_of_lt Nat.and_le_left ?_; omega)) | (have := rW_lt (g (402 + 2 * (200 * l + u))); omega) | (have := hr.g1; omega))) (by (first | omega | (refine Nat.lt_of_le_of_lt Nat.and_le_left ?_; first | omega | (refine Nat.lt_of_le_of_lt Nat.and_le_left ?_; omega)) | (have := rW_lt (g (402 + 2 * (200 * l + u))); omega) | (have := hr.g1; omega))) ?_
      refine r_if_neN (tgt := 88) dX7_isRepaired_80 (by decide) (by (first | omega | (refine Nat.lt_of_le_of_lt Nat.and_le_left ?_; first | omega | (refine Nat.lt_of_le_of_lt Nat.and_le_left ?_; omega)) | (have := rW_lt (g (402 + 2 * (200 * l + u))); omega) | (have := hr.g1; omega))) (fun h80 => ?_) (fun h80 => ?_)
      · refine r_iconst (v := nI 1) dX7_isRepaired_88 (by decide) ?_
        exact r_iret (ty := .boolean) dX7_isRepaired_89 rfl (by decide) ⟨rfl, _, hx_3, (by unfold repG; rw [if_neg h80]; exact Rel.rep hr hl hu hp h3 h2)⟩
      · refine r_aload_n dX7_isRepaired_83 rfl 2 rfl ?_
        refine r_iload_n dX7_isRepaired_84 rfl 3 rfl ?_
        have hq0 := Rel.rep hr hl hu hp h3 h2
        have hg5 : ∀ i, i ≠ 1 → i ≠ 402 + 2 * (200 * l + u) → becG (repA g l u) l u 0 i = g i := fun i h1 h2 => by rw [becG_n h2, repA_n h2 h1]
        have hl5 : l < becG (repA g l u) l u 0 0 := by rw [hg5 0 (by omega) (by omega)]; exact hl
        have hL5 := hq0.lot hl5
        have hu5 : u < becG (repA g l u) l u 0 (90 + 13 * l + 1) := by rw [hg5 _ (by omega) (by omega)]; exact hu
        have hs5 : ¬ sW (becG (repA g l u) l u 0 (402 + 2 * (200 * l + u))) = 3 := by unfold becG; rw [up1_s, bec_s (by decide)]; decide
        by_cases hb8 : becG (repA g l u) l u 0 (402 + 2 * (200 * l + u)) % 16 &&& 8 = 0
        · refine r_fnV (M2 := m_X5_spoilByRepair) (As := [.int (nI (u))]) (rest := []) (v := none) dX7_isRepaired_85 cc_X7_isRepaired_210 rfl rfl rfl (Nat.le_of_ble_eq_true rfl) (hx_3.1.lo hl24 hAl).2.1 rfl rfl (by decide) (k_spoil_y (hx_3.1.lo hl24 hAl).2 ((hx_3.1.l2 hl24 hAl).trans (congrArg nI (hL5.h (f := 1) (by decide)))) hL5.z (fun v hv => (hx_3.1.u1 hl24 hAl (Nat.lt_of_lt_of_le hv hL5.z)).trans (congrArg nI (hL5.u1 hv))) (fun v _ => Nat.mod_lt _ (by decide)) (fun v hv => (hx_3.1.u3 hl24 hAl (Nat.lt_of_lt_of_le hv hL5.z)).trans (congrArg nI (hL5.u3 hv))) (fun v _ => frW_lt _) hu5 hb8) rfl ?_
          refine Wx.gx (((hx_3.U (f := 1) hl24 hAl (by omega) (by decide)).U (f := 3) hl24 hAl (by omega) (by decide))) (fun T_4 (hx_4 : OX S w A T_4 w k o A (up1 (up1 (up1 (up1 (up1 (up1 (up1 c (402 + 8 * (200 * l + u) + 1) (g (402 + 2 * (200 * l + u)) % 16 &&& (g (22 + 10 * p + 2) ^^^ 4294967295))) (402 + 8 * (200 * l + u) + 3) (frW (g (402 + 2 * (200 * l + u))) &&& (g (22 + 10 * p + 2) ^^^ 4294967295))) (402 + 8 * (200 * l + u) + 2) (rW (g (402 + 2 * (200 * l + u))) + 1)) (402 + 8 * (200 * l + u)) (0)) (1) (g 1 + 1)) (402 + 8 * (200 * l + u) + 1) (becG (repA g l u) l u 0 (402 + 2 * (200 * l + u)) % 16 ||| 8)) (402 + 8 * (200 * l + u) + 3) (frW (becG (repA g l u) l u 0 (402 + 2 * (200 * l + u))) ||| 8))) => ?_)
          refine r_iconst (v := nI 1) dX7_isRepaired_88 (by decide) ?_
          exact r_iret (ty := .boolean) dX7_isRepaired_89 rfl (by decide) ⟨rfl, _, hx_4, (by unfold repG; rw [if_pos h80]; exact Rel.spoil hq0 hl5 hu5 hs5 (d_b.mp (by rw [show 1 * 2 ^ 3 = 8 from rfl]; exact hb8)))⟩
        · refine r_fnV (M2 := m_X5_spoilByRepair) (As := [.int (nI (u))]) (rest := []) (v := none) dX7_isRepaired_85 cc_X7_isRepaired_210 rfl rfl rfl (Nat.le_of_ble_eq_true rfl) (hx_3.1.lo hl24 hAl).2.1 rfl rfl (by decide) (k_spoil_n (hx_3.1.lo hl24 hAl).2 ((hx_3.1.l2 hl24 hAl).trans (congrArg nI (hL5.h (f := 1) (by decide)))) hL5.z (fun v hv => (hx_3.1.u1 hl24 hAl (Nat.lt_of_lt_of_le hv hL5.z)).trans (congrArg nI (hL5.u1 hv))) (fun v _ => Nat.mod_lt _ (by decide)) (fun v hv => (hx_3.1.u3 hl24 hAl (Nat.lt_of_lt_of_le hv hL5.z)).trans (congrArg nI (hL5.u3 hv))) (fun v _ => frW_lt _) hu5 hb8) rfl ?_
          refine r_iconst (v := nI 1) dX7_isRepaired_88 (by decide) ?_
          exact r_iret (ty := .boolean) dX7_isRepaired_89 rfl (by decide) ⟨rfl, _, hx_3, (by unfold repG cauG; rw [if_pos h80, if_neg (fun q9 => hb8 (by have := (d_b (w := becG (repA g l u) l u 0 (402 + 2 * (200 * l + u))) (q := 3)).mpr q9; rwa [show 1 * 2 ^ 3 = 8 from rfl] at this))]; exact hq0)⟩
    · exact absurd h2 h32
