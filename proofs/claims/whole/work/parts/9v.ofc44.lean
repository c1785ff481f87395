/-! TEXTS: pieces, the last one first: (0, q) a constant text, (1, c) a character, (2, i) a number -/
def pL (p : Nat × Nat) : Nat := if p.1 = 0 then strL.getD p.2 0 else if p.1 = 1 then 1 else szN p.2
def pB (p : Nat × Nat) (i : Nat) : Nat := if p.1 = 0 then sBn p.2 i else if p.1 = 1 then p.2 else dgt p.2 i
def tL : List (Nat × Nat) → Nat
  | [] => 0
  | p :: ps => tL ps + pL p
def tB : List (Nat × Nat) → Nat → Nat
  | [], _ => 0
  | p :: ps, i => if i < tL ps then tB ps i else pB p (i - tL ps)
def TX (S0 : Hp) (b v0 cap0 : Nat) (ps : List (Nat × Nat)) (S : Hp) : Prop := ∃ v cap y, JB S0 b v0 cap0 S v cap (tL ps) y ∧ ∀ i, i < tL ps → y i = tB ps i
section TxRules
variable {G : GI} {S0 S : Hp} {b v0 cap0 : Nat} {ps : List (Nat × Nat)}
theorem AP.tx {v cap : Nat} {y s : Nat → Nat} {p : Nat × Nat} {len : Nat} {T : Hp} (hy : ∀ i, i < tL ps → y i = tB ps i) (hl : len = pL p) (hs : ∀ i, i < len → s i = pB p i) (h : AP S0 b v0 cap0 (tL ps) y len s T) : TX S0 b v0 cap0 (p :: ps) T := by
  obtain ⟨v1, cap1, y1, h1, e1, e2⟩ := h
  subst hl
  refine ⟨v1, cap1, y1, h1, fun i hi => ?_⟩
  have hi2 : i < tL ps + pL p := hi
  show y1 i = if i < tL ps then tB ps i else pB p (i - tL ps)
  by_cases c : i < tL ps
  · rw [if_pos c, e1 i c, hy i c]
  · rw [if_neg c]
    have h2 := e2 (i - tL ps) (by omega)
    rw [show tL ps + (i - tL ps) = i by omega] at h2
    rw [h2, hs _ (by omega)]
theorem t_S (h : TX S0 b v0 cap0 ps S) (g1 : zX S0 + fX cap0 ≤ gN G) (g2 : zU S0 + fU cap0 ≤ gM G) {q : Nat} (hq : q < 23) (hn : tL ps + strL.getD q 0 ≤ 142) : Cn m_J4_append_15ec4 G [.ref b, .ref (gK G 2 q)] S (fun r T => r = .inl (some (.ref b)) ∧ TX S0 b v0 cap0 ((0, q) :: ps) T) := by
  obtain ⟨v, cap, y, h1, hy⟩ := h
  exact Cn.mono (fun r T hr => ⟨hr.1, AP.tx (v := v) (cap := cap) (p := (0, q)) hy rfl (fun _ _ => rfl) hr.2⟩) (j_appS hq h1 g1 g2 hn)
theorem t_C (h : TX S0 b v0 cap0 ps S) (g1 : zX S0 + fX cap0 ≤ gN G) (g2 : zU S0 + fU cap0 ≤ gM G) {c : Nat} (hc : c < 128) (hn : tL ps + 1 ≤ 142) : Cn m_J4_append_cf468 G [.ref b, .int (nI c)] S (fun r T => r = .inl (some (.ref b)) ∧ TX S0 b v0 cap0 ((1, c) :: ps) T) := by
  obtain ⟨v, cap, y, h1, hy⟩ := h
  exact Cn.mono (fun r T hr => ⟨hr.1, AP.tx (v := v) (cap := cap) (p := (1, c)) hy rfl (fun _ _ => rfl) hr.2⟩) (j_appC h1 g1 g2 hc hn)
theorem t_I (h : TX S0 b v0 cap0 ps S) (g1 : zX S0 + fX cap0 ≤ gN G) (g2 : zU S0 + fU cap0 ≤ gM G) {i : Nat} (hi : i < 1000) (hn : tL ps + 3 ≤ 142) : Cn m_J4_append_bf812 G [.ref b, .int (nI i)] S (fun r T => r = .inl (some (.ref b)) ∧ TX S0 b v0 cap0 ((2, i) :: ps) T) := by
  obtain ⟨v, cap, y, h1, hy⟩ := h
  have := (szN_b i).2
  exact Cn.mono (fun r T hr => ⟨hr.1, AP.tx (v := v) (cap := cap) (p := (2, i)) hy rfl (fun _ _ => rfl) hr.2⟩) (j_appI h1 g1 g2 hi (by omega))
theorem t_set0 {v cap n : Nat} {y : Nat → Nat} (h : JB S0 b v0 cap0 S v cap n y) (g1 : zX S0 + fX cap0 ≤ gN G) (g2 : zU S0 + fU cap0 ≤ gM G) : Cn m_J4_setLength_d00df G [.ref b, .int (nI 0)] S (fun r T => r = .inl none ∧ TX S0 b v0 cap0 [] T) :=
  Cn.mono (fun r T hr => ⟨hr.1, by obtain ⟨v', cap', y', h1⟩ := hr.2; exact ⟨v', cap', y', h1, fun i hi => absurd hi (Nat.not_lt_zero i)⟩⟩) (j_setLength h g1 g2)
theorem t_len (h : TX S0 b v0 cap0 ps S) : Fn m_J4_length_8abf5 G [.ref b] S (some (.int (nI (tL ps)))) S := by
  obtain ⟨v, cap, y, h1, hy⟩ := h
  exact j_len h1
theorem TX.tb (h : TX S0 b v0 cap0 ps S) : zT S b = 2 := by
  obtain ⟨v, cap, y, h1, hy⟩ := h
  exact h1.tb
theorem TX.fs (h : TX S0 b v0 cap0 ps S) : FS S := by
  obtain ⟨v, cap, y, h1, hy⟩ := h
  exact h1.2.2.2.1.2
theorem TX.fr (h : TX S0 b v0 cap0 ps S) {a : Nat} (ha : zT S0 a ≠ 0) : (zT S a = zT S0 a ∧ zN S a = zN S0 a) ∧ (a ≠ b → a ≠ v0 → Same S0 S a) := by
  obtain ⟨v, cap, y, h1, hy⟩ := h
  exact h1.2.2.2.2.1 a ha
end TxRules
theorem tL_c {p : Nat × Nat} {ps : List (Nat × Nat)} {n k : Nat} (h : tL ps ≤ n) (hp : pL p ≤ k) : tL (p :: ps) ≤ n + k := Nat.add_le_add h hp
/-- what a lot's report says -/
def sevQ (s : Nat) : Nat := if s = 0 then 15 else if s = 1 then 16 else 17
def staQ (s : Nat) : Nat := if s = 0 then 19 else if s = 1 then 20 else if s = 2 then 21 else 22
noncomputable def rep0 (g : Nat → Nat) (l : Nat) : List (Nat × Nat) := [(0, 13), (2, g (90 + 13 * l + 1)), (0, 12), (2, inS g l 0), (0, 11), (2, g (90 + 13 * l + 0)), (0, 10), (2, l), (0, 9)]
noncomputable def rep1 (g : Nat → Nat) (l : Nat) : List (Nat × Nat) := if g (90 + 13 * l + 3) = 0 then (0, 14) :: rep0 g l else (2, g (90 + 13 * l + 7)) :: (0, 18) :: (2, g (90 + 13 * l + 6)) :: (1, 47) :: (2, g (90 + 13 * l + 5)) :: (1, 32) :: (0, sevQ (g (90 + 13 * l + 4))) :: rep0 g l
noncomputable def rep (g : Nat → Nat) (l : Nat) : List (Nat × Nat) := (0, staQ (g (90 + 13 * l + 2))) :: (0, 11) :: rep1 g l
theorem tn_n (z : Int32) : nI z.toBitVec.toNat = z := by
  apply Int32.toBitVec_inj.mp
  apply BitVec.eq_of_toNat_eq
  rw [nI_tn]
  exact Nat.mod_eq_of_lt z.toBitVec.isLt
/-- the paper's numbers: it holds ps -/
def PD (D : Nat → Nat → Nat) (ps : List (Nat × Nat)) : Prop := (nI (D 33 55) = nI 0 ∧ nI (D 35 55) = nI (tL ps)) ∧ okC (D 999 56) ∧ tL ps ≤ D 999 56 ∧ (∀ i, D (1000 + i) 56 < 128) ∧ ∀ i, i < tL ps → D (1000 + i) 56 = tB ps i
theorem PD.congr {D D' : Nat → Nat → Nat} {ps : List (Nat × Nat)} (h : PD D ps) (e : ∀ f a, a = 55 ∨ a = 56 → D' f a = D f a) : PD D' ps := by
  obtain ⟨⟨h1, h2⟩, h3, h4, h5, h6⟩ := h
  exact ⟨⟨by rw [e _ _ (Or.inl rfl)]; exact h1, by rw [e _ _ (Or.inl rfl)]; exact h2⟩, by rw [e _ _ (Or.inr rfl)]; exact h3, by rw [e _ _ (Or.inr rfl)]; exact h4, fun i => by rw [e _ _ (Or.inr rfl)]; exact h5 i, fun i hi => by rw [e _ _ (Or.inr rfl)]; exact h6 i hi⟩
def eP (T : Hp) (x c : Nat) (y : Nat → Nat) (E : Nat → Nat → Nat) : Nat → Nat → Nat := fun f a => if a = 55 then (if f < 1000 then (zI T f (x + 55)).toBitVec.toNat else (zA T (x + 55) (f - 1000)).toBitVec.toNat) else if a = 56 then (if f = 999 then c else if 1000 ≤ f then y (f - 1000) else E f a) else E f a
theorem eP_i {T : Hp} {x c : Nat} {y : Nat → Nat} {E : Nat → Nat → Nat} {f : Nat} (hf : f < 1000) : nI (eP T x c y E f 55) = zI T f (x + 55) := by
  unfold eP
  rw [if_pos rfl, if_pos hf, tn_n]
theorem eP_a {T : Hp} {x c : Nat} {y : Nat → Nat} {E : Nat → Nat → Nat} {i : Nat} : nI (eP T x c y E (1000 + i) 55) = zA T (x + 55) i := by
  unfold eP
  rw [if_pos rfl, if_neg (by omega), tn_n, Nat.add_sub_cancel_left]
theorem eP_o {T : Hp} {x c : Nat} {y : Nat → Nat} {E : Nat → Nat → Nat} {f a : Nat} (h1 : a ≠ 55) (h2 : a ≠ 56) : eP T x c y E f a = E f a := by
  unfold eP
  rw [if_neg h1, if_neg h2]
theorem eP_n {T : Hp} {x c : Nat} {y : Nat → Nat} {E : Nat → Nat → Nat} : eP T x c y E 999 56 = c := by
  unfold eP
  rw [if_neg (by decide), if_pos rfl, if_pos rfl]
theorem eP_b {T : Hp} {x c : Nat} {y : Nat → Nat} {E : Nat → Nat → Nat} {i : Nat} : eP T x c y E (1000 + i) 56 = y i := by
  unfold eP
  rw [if_neg (by decide), if_pos rfl, if_neg (by omega), if_pos (by omega), Nat.add_sub_cancel_left]
section PapRules
variable {F : Nat → Prop} {S0 S T : Hp} {w : Nat → Nat} {x : Nat} {K : Nat → Nat} {E : Nat → Nat → Nat} {A c : Nat → Nat → Nat} {bx bu : Nat} {ps qs : List (Nat × Nat)}
theorem XF.pst (h : XF F S0 S w x K E A c bx bu) (hp : PD E ps) : ∃ y, JB S (x + 55) (K 10) (E 999 56) S (K 10) (E 999 56) (tL ps) y ∧ ∀ i, i < tL ps → y i = tB ps i := by
  obtain ⟨h1, -, ⟨s1, s2, s3, s4, s5, s6⟩, -⟩ := h.1.1
  obtain ⟨q1, q2, q3⟩ := h1 55 (by decide)
  obtain ⟨⟨p1, p2⟩, p3, p4, p5, p6⟩ := hp
  exact ⟨fun i => E (1000 + i) 56, JB.start q1.1.1 s1 s2 s5 ((q2 33 (by decide)).trans p1) ((q2 35 (by decide)).trans p2) p3 p4 (funext s6) p5 h.1.2.2.2, p6⟩
theorem XF.fr11 (h : XF F S0 S w x K E A c bx bu) {cap : Nat} (ht : TX S (x + 55) (K 10) cap qs T) : Fr w 11 S T := fun a ha => ⟨(ht.fr ha).1, fun hk => (ht.fr ha).2 (fun e => hk (by rw [e, h.wo (a := 55) (by decide)])) (fun e => hk (by rw [e, h.1.1.2.2.1.2.2.1]))⟩
theorem XF.paper (h : XF F S0 S w x K E A c bx bu) (ht : TX S (x + 55) (K 10) (E 999 56) qs T) : ∃ w' v E', XF F S0 T w' x (up1 K 10 v) E' A c (bx + fX (E 999 56) - fX (E' 999 56)) (bu + fU (E 999 56) - fU (E' 999 56)) ∧ PD E' qs ∧ (∀ f a, a ≠ 55 → a ≠ 56 → E' f a = E f a) ∧ fX (E' 999 56) ≤ fX (E 999 56) ∧ fU (E' 999 56) ≤ fU (E 999 56) := by
  have hFr := h.fr11 ht
  obtain ⟨v, cap', y, hj, hy⟩ := id ht
  have hx1 := hj.2.2.2.2.2.2.1
  have hx2 := hj.2.2.2.2.2.2.2
  have hv := hj.2.2.2.2.2.1.1
  have hxs := hj.2.2.2.2.2.1.2
  obtain ⟨h1, ⟨p1, p2, p3, p4⟩, ⟨s1, s2, s3, s4, s5, s6⟩, h4⟩ := h.1.1
  have hS := h.1.2.2.2
  have hus : zU S ≤ zU T := by
    rcases hj.ok with q | q | q | q <;> subst q
    all_goals
      have z := hx2
      have z2 := hx1
      unfold fX at z2
      unfold fU at z
      (repeat' split at z) <;> (repeat' split at z2) <;> omega
  have hw : ∀ a, a < zX S → up1 w v 352 a = w a := fun a ha => by
    by_cases e : a = v
    · rcases hv with q | q
      · rw [e, up1_s, q]; exact s3.symm
      · omega
    · exact up1_n e
  have hsm : ∀ a, mT a ≠ 0 → a ≠ 55 → Same S T (x + a) := fun a ha hn => (ht.fr (a := x + a) (by rw [(h1 a ha).1.1.1]; exact ha)).2 (by omega) (Ne.symm (s4 a ha))
  have hty : ∀ a, mT a ≠ 0 → zT T (x + a) = zT S (x + a) ∧ zN T (x + a) = zN S (x + a) := fun a ha => (ht.fr (a := x + a) (by rw [(h1 a ha).1.1.1]; exact ha)).1
  have hlt : ∀ a, mT a ≠ 0 → x + a < zX S := fun a ha => hS.lt (by rw [(h1 a ha).1.1.1]; exact ha)
  have h0 := hsm 0 (by decide) (by decide)
  rw [Nat.add_zero] at h0
  refine ⟨up1 w v 352, v, eP T x cap' y E, ?_, ?_, fun f a h1 h2 => eP_o h1 h2, ?_, ?_⟩
  · rw [eP_n]
    refine ⟨⟨⟨fun a ha => ?_, ⟨?_, ?_, fun i hi => ?_, fun i hi => ?_⟩, ⟨?_, ?_, ?_, fun a ha => ?_, ?_, fun i => ?_⟩, ?_⟩, fun e he => OR.fr (by omega) hFr hw ht.fs (h.1.2.1 e he), ⟨?_, ?_⟩, ht.fs⟩, h.2.1.trans (hFr.frF (by decide) h.2.2), keepF h.2.2 hS (hFr.frF (by decide) h.2.2) hw⟩
    · obtain ⟨⟨⟨q1, q2⟩, q3, q4⟩, q5, q6⟩ := h1 a ha
      have hwa : up1 w v 352 (x + a) = 352 := (hw _ (hlt a ha)).trans q4
      by_cases e : a = 55
      · subst e
        exact ⟨⟨⟨(hty 55 ha).1.trans q1, fun z => (hty 55 ha).2.trans (q2 z)⟩, fun f hf => absurd (by unfold mP; simp) hf, hwa⟩, fun f hf => (eP_i hf).symm, fun i => eP_a.symm⟩
      · have hs := hsm a ha e
        have e56 : a ≠ 56 := fun z => by subst z; exact ha rfl
        refine ⟨⟨⟨(hty a ha).1.trans q1, fun z => (hty a ha).2.trans (q2 z)⟩, fun f hf => (hs.2.1 f).trans (q3 f hf), hwa⟩, fun f hf => ?_, fun i => ?_⟩
        · rw [eP_o e e56]; exact (hs.1 f).trans (q5 f hf)
        · rw [eP_o e e56, hs.2.2.1]; exact q6 i
    · rw [up1_n (by decide)]; exact (h0.2.1 _).trans p1
    · rw [up1_n (by decide)]; exact (h0.2.1 _).trans p2
    · rw [up1_n (by omega), (hsm 33 (by decide) (by decide)).2.2.2.2.2]; exact p3 i hi
    · rw [(hsm 50 (by decide) (by decide)).2.2.2.2.2]; exact p4 i hi
    · rw [up1_s]; exact hj.pv
    · rw [up1_s]; exact hj.tv
    · rw [up1_s, up1_s]
    · rw [up1_s]
      rcases hv with q | q
      · rw [q]; exact s4 a ha
      · have := hlt a ha
        omega
    · rw [up1_s, eP_n]; exact hj.nv
    · rw [up1_s, hj.yv i, eP_b]
    · rw [up1_n (by decide)]; exact ((hsm 51 (by decide) (by decide)).2.1 _).trans h4
    · have := h.1.2.2.1.1
      omega
    · have := h.1.2.2.1.2
      omega
  · refine ⟨⟨(eP_i (by decide)).trans hj.co, (eP_i (by decide)).trans hj.cn⟩, ?_, ?_, fun i => ?_, fun i hi => ?_⟩
    · rw [eP_n]; exact hj.ok
    · rw [eP_n]; exact hj.le
    · rw [eP_b]; exact hj.lt i
    · rw [eP_b]; exact hy i hi
  · rw [eP_n]; omega
  · rw [eP_n]; omega
end PapRules
set_option maxRecDepth 4000 in
set_option maxHeartbeats 400000 in
theorem x_sevName {G : GI} {S : Hp} {z : Nat} (hz : z < 3) : Fn m_X10_severityName G [.int (nI z)] S (some (.ref (gK G 2 (sevQ z)))) S := by
  refine Cn.of rfl (by decide) (Nat.le_of_ble_eq_true rfl) (fun hN hM => ?_)
  show Wx _ G _ 0 [(0, .int (nI (z)))] [] _
  refine r_iload_n dX10_severityName_0 rfl 0 rfl ?_
  obtain rfl | rfl | rfl : z = 0 ∨ z = 1 ∨ z = 2 := by omega
  · refine r_lookup (off := 27) (tgt := 28) dX10_severityName_1 (by decide) (by decide) (by decide) ?_
    refine r_ldcS (a := gK G 2 15) (tx := "normal") (fun U h => h.2.2.2.1.2 ("LotInspector$Report", 84, "normal", 15) (List.mem_of_getElem? (i := 6) rfl)) dX10_severityName_28 ?_
    exact r_aret (v := some (gK G 2 15)) dX10_severityName_30 rfl (Or.inl ⟨_, rfl⟩) ⟨rfl, rfl⟩
  · refine r_lookup (off := 30) (tgt := 31) dX10_severityName_1 (by decide) (by decide) (by decide) ?_
    refine r_ldcS (a := gK G 2 16) (tx := "tightened") (fun U h => h.2.2.2.1.2 ("LotInspector$Report", 86, "tightened", 16) (List.mem_of_getElem? (i := 7) rfl)) dX10_severityName_31 ?_
    exact r_aret (v := some (gK G 2 16)) dX10_severityName_33 rfl (Or.inl ⟨_, rfl⟩) ⟨rfl, rfl⟩
  · refine r_lookup (off := 33) (tgt := 34) dX10_severityName_1 (by decide) (by decide) (by decide) ?_
    refine r_ldcS (a := gK G 2 17) (tx := "reduced") (fun U h => h.2.2.2.1.2 ("LotInspector$Report", 88, "reduced", 17) (List.mem_of_getElem? (i := 8) rfl)) dX10_severityName_34 ?_
    exact r_aret (v := some (gK G 2 17)) dX10_severityName_36 rfl (Or.inl ⟨_, rfl⟩) ⟨rfl, rfl⟩
set_option maxRecDepth 4000 in
set_option maxHeartbeats 400000 in
theorem x_staName {G : GI} {S : Hp} {z : Nat} (hz : z < 4) : Fn m_X10_statusName G [.int (nI z)] S (some (.ref (gK G 2 (staQ z)))) S := by
  refine Cn.of rfl (by decide) (Nat.le_of_ble_eq_true rfl) (fun hN hM => ?_)
  show Wx _ G _ 0 [(0, .int (nI (z)))] [] _
  refine r_iload_n dX10_statusName_0 rfl 0 rfl ?_
  obtain rfl | rfl | rfl | rfl : z = 0 ∨ z = 1 ∨ z = 2 ∨ z = 3 := by omega
  · refine r_tableIn (off := 27) (tgt := 28) dX10_statusName_1 (by decide) (by decide) rfl (by decide) ?_
    refine r_ldcS (a := gK G 2 19) (tx := "waiting") (fun U h => h.2.2.2.1.2 ("LotInspector$Report", 90, "waiting", 19) (List.mem_of_getElem? (i := 10) rfl)) dX10_statusName_28 ?_
    exact r_aret (v := some (gK G 2 19)) dX10_statusName_30 rfl (Or.inl ⟨_, rfl⟩) ⟨rfl, rfl⟩
  · refine r_tableIn (off := 30) (tgt := 31) dX10_statusName_1 (by decide) (by decide) rfl (by decide) ?_
    refine r_ldcS (a := gK G 2 20) (tx := "accepted") (fun U h => h.2.2.2.1.2 ("LotInspector$Report", 92, "accepted", 20) (List.mem_of_getElem? (i := 11) rfl)) dX10_statusName_31 ?_
    exact r_aret (v := some (gK G 2 20)) dX10_statusName_33 rfl (Or.inl ⟨_, rfl⟩) ⟨rfl, rfl⟩
  · refine r_tableIn (off := 33) (tgt := 34) dX10_statusName_1 (by decide) (by decide) rfl (by decide) ?_
    refine r_ldcS (a := gK G 2 21) (tx := "rejected") (fun U h => h.2.2.2.1.2 ("LotInspector$Report", 94, "rejected", 21) (List.mem_of_getElem? (i := 12) rfl)) dX10_statusName_34 ?_
    exact r_aret (v := some (gK G 2 21)) dX10_statusName_36 rfl (Or.inl ⟨_, rfl⟩) ⟨rfl, rfl⟩
  · refine r_tableOut (tgt := 37) dX10_statusName_1 (by decide) (by decide) ?_
    refine r_ldcS (a := gK G 2 22) (tx := "shipped") (fun U h => h.2.2.2.1.2 ("LotInspector$Report", 96, "shipped", 22) (List.mem_of_getElem? (i := 13) rfl)) dX10_statusName_37 ?_
    exact r_aret (v := some (gK G 2 22)) dX10_statusName_39 rfl (Or.inl ⟨_, rfl⟩) ⟨rfl, rfl⟩
theorem sev_b {z : Nat} : 15 ≤ sevQ z ∧ sevQ z < 18 := by
  unfold sevQ
  (repeat' split) <;> omega
theorem sta_b {z : Nat} : 19 ≤ staQ z ∧ staQ z < 23 := by
  unfold staQ
  (repeat' split) <;> omega
theorem pL_i {i : Nat} : pL (2, i) ≤ 3 := (szN_b i).2
theorem pL_q {q : Nat} (h : q < 23) : pL (0, q) ≤ 14 := sL_n q h
set_option maxRecDepth 4000 in
set_option maxHeartbeats 400000 in
theorem x_write {G : GI} {F : Nat → Prop} {S0 S : Hp} {w : Nat → Nat} {x : Nat} {K : Nat → Nat} {E : Nat → Nat → Nat} {A c : Nat → Nat → Nat} {bx bu : Nat} (h : XF F S0 S w x K E A c bx bu) (hk0 : K 0 < 11) {g : Nat → Nat} {N l : Nat} (hNb : N < 2147483648) (hr : Hol (A (K 0)) (c (K 0)) g N) (hl : l < g 0) {n : Nat} {y : Nat → Nat} (hj : JB S (x + 55) (K 10) (E 999 56) S (K 10) (E 999 56) n y) (g1 : zX S + fX (E 999 56) ≤ gN G) (g2 : zU S + fU (E 999 56) ≤ gM G) : Cn m_X10_write G [.ref (x + 54), .int (nI l), .ref (A (K 0) l)] S (fun r T => r = .inl none ∧ TX S (x + 55) (K 10) (E 999 56) (rep g l) T) := by
  refine Cn.of rfl (by decide) (Nat.le_of_ble_eq_true rfl) (fun hN hM => ?_)
  show Wx _ G _ 0 [(0, .ref (x + 54)), (1, .int (nI (l))), (2, .ref (A (K 0) l))] [] _
  have h24 := hr.1.n24
  have hl24 : l < 24 := by omega
  have hAl : A (K 0) l ≠ 0 := hr.2 l hl
  have hL := hr.1.lot hl
  have hz := hL.z
  have hpr := hL.pr
  have hi3 : g (90 + 13 * l + 3) ≤ N := hL.w.2.2.2.1
  have hin : inS g l 0 ≤ g (90 + 13 * l + 1) := cnt_le _ _
  refine r_aload_n dX10_write_0 rfl 0 rfl ?_
  refine r_getR (ci := 12) (k := 0) (b := x + 55) dX10_write_1 fr_X10_12 h.1.t54 rfl h.1.p384 ?_
  refine r_iconst (v := nI 0) dX10_write_4 (by decide) ?_
  refine r_callV (M2 := m_J4_setLength_d00df) (As := [.int (nI (0))]) (rest := []) dX10_write_5 cc_X10_write_18 rfl rfl rfl (Nat.le_of_ble_eq_true rfl) h.1.t55 rfl rfl (by decide) (t_set0 hj g1 g2) (fun v9 T hq => ?_) (fun E9 T9 hq => by cases hq.1)
  obtain ⟨hv9, ht⟩ := hq
  cases hv9
  have ho := OR.fr (j := K 0) (k := 11) (by omega) (h.fr11 ht) (fun _ _ => rfl) ht.fs (h.1.off' hk0)
  show Wx _ G T 8 [(0, .ref (x + 54)), (1, .int (nI (l))), (2, .ref (A (K 0) l))] [] _
  refine r_aload_n dX10_write_8 rfl 0 rfl ?_
  refine r_getR (ci := 12) (k := 0) (b := x + 55) dX10_write_9 fr_X10_12 ((ht.fr (a := x + 54) (by rw [show zT S (x + 54) = _ from h.1.t54]; decide)).1.1.trans h.1.t54) rfl (((ht.fr (a := x + 54) (by rw [show zT S (x + 54) = _ from h.1.t54]; decide)).2 (by omega) (Ne.symm (h.1.1.2.2.1.2.2.2.1 54 (by decide)))).2.1 384 |>.trans h.1.p384) ?_
  refine r_ldcS (a := gK G 2 9) (tx := "lot ") (fun U h => h.2.2.2.1.2 ("LotInspector$Report", 22, "lot ", 9) (List.mem_of_getElem? (i := 0) rfl)) dX10_write_12 ?_
  refine r_callV (M2 := m_J4_append_15ec4) (As := [.ref (gK G 2 9)]) (rest := []) dX10_write_14 cc_X10_write_24 rfl rfl rfl (Nat.le_of_ble_eq_true rfl) ht.tb rfl rfl (by decide) (t_S ht g1 g2 (q := 9) (by decide) (by have := (show tL [] ≤ 0 from Nat.le_refl 0); have h9 : pL (0, 9) ≤ 4 := (by decide); have h8 : pL (0, 9) = strL.getD (9) 0 := rfl; omega)) (fun v9 T_1 hq => ?_) (fun E9 T9 hq => by cases hq.1)
  obtain ⟨hv9, ht_1⟩ := hq
  cases hv9
  have ho_1 := OR.fr (j := K 0) (k := 11) (by omega) (h.fr11 ht_1) (fun _ _ => rfl) ht_1.fs (h.1.off' hk0)
  show Wx _ G T_1 17 [(0, .ref (x + 54)), (1, .int (nI (l))), (2, .ref (A (K 0) l))] [.ref (x + 55)] _
  have hb : tL [(0, 9)] ≤ 4 := tL_c (n := 0) (k := 4) (show tL [] ≤ 0 from Nat.le_refl 0) ((by decide))
  refine r_iload_n dX10_write_17 rfl 1 rfl ?_
  refine r_callV (M2 := m_J4_append_bf812) (As := [.int (nI (l))]) (rest := []) dX10_write_18 cc_X10_write_28 rfl rfl rfl (Nat.le_of_ble_eq_true rfl) ht_1.tb rfl rfl (by decide) (t_I ht_1 g1 g2 (i := l) (by omega) (by have := hb; omega)) (fun v9 T_2 hq => ?_) (fun E9 T9 hq => by cases hq.1)
  obtain ⟨hv9, ht_2⟩ := hq
  cases hv9
  have ho_2 := OR.fr (j := K 0) (k := 11) (by omega) (h.fr11 ht_2) (fun _ _ => rfl) ht_2.fs (h.1.off' hk0)
  show Wx _ G T_2 21 [(0, .ref (x + 54)), (1, .int (nI (l))), (2, .ref (A (K 0) l))] [.ref (x + 55)] _
  have hb_1 : tL [(2, l), (0, 9)] ≤ 7 := tL_c (n := 4) (k := 3) hb (pL_i)
  refine r_pop dX10_write_21 rfl ?_
  refine r_aload_n dX10_write_22 rfl 0 rfl ?_
  refine r_getR (ci := 12) (k := 0) (b := x + 55) dX10_write_23 fr_X10_12 ((ht_2.fr (a := x + 54) (by rw [show zT S (x + 54) = _ from h.1.t54]; decide)).1.1.trans h.1.t54) rfl (((ht_2.fr (a := x + 54) (by rw [show zT S (x + 54) = _ from h.1.t54]; decide)).2 (by omega) (Ne.symm (h.1.1.2.2.1.2.2.2.1 54 (by decide)))).2.1 384 |>.trans h.1.p384) ?_
  refine r_ldcS (a := gK G 2 10) (tx := ": product ") (fun U h => h.2.2.2.1.2 ("LotInspector$Report", 31, ": product ", 10) (List.mem_of_getElem? (i := 1) rfl)) dX10_write_26 ?_
  refine r_callV (M2 := m_J4_append_15ec4) (As := [.ref (gK G 2 10)]) (rest := []) dX10_write_28 cc_X10_write_24 rfl rfl rfl (Nat.le_of_ble_eq_true rfl) ht_2.tb rfl rfl (by decide) (t_S ht_2 g1 g2 (q := 10) (by decide) (by have := hb_1; have h9 : pL (0, 10) ≤ 10 := (by decide); have h8 : pL (0, 10) = strL.getD (10) 0 := rfl; omega)) (fun v9 T_3 hq => ?_) (fun E9 T9 hq => by cases hq.1)
  obtain ⟨hv9, ht_3⟩ := hq
  cases hv9
  have ho_3 := OR.fr (j := K 0) (k := 11) (by omega) (h.fr11 ht_3) (fun _ _ => rfl) ht_3.fs (h.1.off' hk0)
  show Wx _ G T_3 31 [(0, .ref (x + 54)), (1, .int (nI (l))), (2, .ref (A (K 0) l))] [.ref (x + 55)] _
  have hb_2 : tL [(0, 10), (2, l), (0, 9)] ≤ 17 := tL_c (n := 7) (k := 10) hb_1 ((by decide))
  refine r_aload_n dX10_write_31 rfl 2 rfl ?_
  refine r_getI (ci := 7) (k := 0) dX10_write_32 fr_X10_33 (ho_3.lo hl24 hAl).2.1 rfl ?_
  refine Wx.top (ho_3.l0 hl24 hAl) ?_
  refine Wx.topN (hL.h (f := 0) (by decide)) ?_
  refine r_callV (M2 := m_J4_append_bf812) (As := [.int (nI (g (90 + 13 * l + 0)))]) (rest := []) dX10_write_35 cc_X10_write_28 rfl rfl rfl (Nat.le_of_ble_eq_true rfl) ht_3.tb rfl rfl (by decide) (t_I ht_3 g1 g2 (i := g (90 + 13 * l + 0)) (by omega) (by have := hb_2; omega)) (fun v9 T_4 hq => ?_) (fun E9 T9 hq => by cases hq.1)
  obtain ⟨hv9, ht_4⟩ := hq
  cases hv9
  have ho_4 := OR.fr (j := K 0) (k := 11) (by omega) (h.fr11 ht_4) (fun _ _ => rfl) ht_4.fs (h.1.off' hk0)
  show Wx _ G T_4 38 [(0, .ref (x + 54)), (1, .int (nI (l))), (2, .ref (A (K 0) l))] [.ref (x + 55)] _
  have hb_3 : tL [(2, g (90 + 13 * l + 0)), (0, 10), (2, l), (0, 9)] ≤ 20 := tL_c (n := 17) (k := 3) hb_2 (pL_i)
  refine r_pop dX10_write_38 rfl ?_
  refine r_aload_n dX10_write_39 rfl 0 rfl ?_
  refine r_getR (ci := 12) (k := 0) (b := x + 55) dX10_write_40 fr_X10_12 ((ht_4.fr (a := x + 54) (by rw [show zT S (x + 54) = _ from h.1.t54]; decide)).1.1.trans h.1.t54) rfl (((ht_4.fr (a := x + 54) (by rw [show zT S (x + 54) = _ from h.1.t54]; decide)).2 (by omega) (Ne.symm (h.1.1.2.2.1.2.2.2.1 54 (by decide)))).2.1 384 |>.trans h.1.p384) ?_
  refine r_ldcS (a := gK G 2 11) (tx := ", ") (fun U h => h.2.2.2.1.2 ("LotInspector$Report", 39, ", ", 11) (List.mem_of_getElem? (i := 2) rfl)) dX10_write_43 ?_
  refine r_callV (M2 := m_J4_append_15ec4) (As := [.ref (gK G 2 11)]) (rest := []) dX10_write_45 cc_X10_write_24 rfl rfl rfl (Nat.le_of_ble_eq_true rfl) ht_4.tb rfl rfl (by decide) (t_S ht_4 g1 g2 (q := 11) (by decide) (by have := hb_3; have h9 : pL (0, 11) ≤ 2 := (by decide); have h8 : pL (0, 11) = strL.getD (11) 0 := rfl; omega)) (fun v9 T_5 hq => ?_) (fun E9 T9 hq => by cases hq.1)
  obtain ⟨hv9, ht_5⟩ := hq
  cases hv9
  have ho_5 := OR.fr (j := K 0) (k := 11) (by omega) (h.fr11 ht_5) (fun _ _ => rfl) ht_5.fs (h.1.off' hk0)
  show Wx _ G T_5 48 [(0, .ref (x + 54)), (1, .int (nI (l))), (2, .ref (A (K 0) l))] [.ref (x + 55)] _
  have hb_4 : tL [(0, 11), (2, g (90 + 13 * l + 0)), (0, 10), (2, l), (0, 9)] ≤ 22 := tL_c (n := 20) (k := 2) hb_3 ((by decide))
  refine r_aload_n dX10_write_48 rfl 2 rfl ?_
  refine r_iconst (v := nI 0) dX10_write_49 (by decide) ?_
  refine r_fnV (M2 := m_X5_unitsIn) (As := [.int (nI (0))]) (rest := [.ref (x + 55)]) (v := some (.int (nI (inS g l 0)))) dX10_write_50 cc_X10_write_41 rfl rfl rfl (Nat.le_of_ble_eq_true rfl) (ho_5.lo hl24 hAl).2.1 rfl rfl (by decide) (o_unitsIn ho_5 hr.1 hr.2 (l := l) hl (by decide)) rfl ?_
  refine r_callV (M2 := m_J4_append_bf812) (As := [.int (nI (inS g l 0))]) (rest := []) dX10_write_53 cc_X10_write_28 rfl rfl rfl (Nat.le_of_ble_eq_true rfl) ht_5.tb rfl rfl (by decide) (t_I ht_5 g1 g2 (i := inS g l 0) (by omega) (by have := hb_4; omega)) (fun v9 T_6 hq => ?_) (fun E9 T9 hq => by cases hq.1)
  obtain ⟨hv9, ht_6⟩ := hq
  cases hv9
  have ho_6 := OR.fr (j := K 0) (k := 11) (by omega) (h.fr11 ht_6) (fun _ _ => rfl) ht_6.fs (h.1.off' hk0)
  show Wx _ G T_6 56 [(0, .ref (x + 54)), (1, .int (nI (l))), (2, .ref (A (K 0) l))] [.ref (x + 55)] _
  have hb_5 : tL [(2, inS g l 0), (0, 11), (2, g (90 + 13 * l + 0)), (0, 10), (2, l), (0, 9)] ≤ 25 := tL_c (n := 22) (k := 3) hb_4 (pL_i)
  refine r_pop dX10_write_56 rfl ?_
  refine r_aload_n dX10_write_57 rfl 0 rfl ?_
  refine r_getR (ci := 12) (k := 0) (b := x + 55) dX10_write_58 fr_X10_12 ((ht_6.fr (a := x + 54) (by rw [show zT S (x + 54) = _ from h.1.t54]; decide)).1.1.trans h.1.t54) rfl (((ht_6.fr (a := x + 54) (by rw [show zT S (x + 54) = _ from h.1.t54]; decide)).2 (by omega) (Ne.symm (h.1.1.2.2.1.2.2.2.1 54 (by decide)))).2.1 384 |>.trans h.1.p384) ?_
  refine r_ldcS (a := gK G 2 12) (tx := " of ") (fun U h => h.2.2.2.1.2 ("LotInspector$Report", 45, " of ", 12) (List.mem_of_getElem? (i := 3) rfl)) dX10_write_61 ?_
  refine r_callV (M2 := m_J4_append_15ec4) (As := [.ref (gK G 2 12)]) (rest := []) dX10_write_63 cc_X10_write_24 rfl rfl rfl (Nat.le_of_ble_eq_true rfl) ht_6.tb rfl rfl (by decide) (t_S ht_6 g1 g2 (q := 12) (by decide) (by have := hb_5; have h9 : pL (0, 12) ≤ 4 := (by decide); have h8 : pL (0, 12) = strL.getD (12) 0 := rfl; omega)) (fun v9 T_7 hq => ?_) (fun E9 T9 hq => by cases hq.1)
  obtain ⟨hv9, ht_7⟩ := hq
  cases hv9
  have ho_7 := OR.fr (j := K 0) (k := 11) (by omega) (h.fr11 ht_7) (fun _ _ => rfl) ht_7.fs (h.1.off' hk0)
  show Wx _ G T_7 66 [(0, .ref (x + 54)), (1, .int (nI (l))), (2, .ref (A (K 0) l))] [.ref (x + 55)] _
  have hb_6 : tL [(0, 12), (2, inS g l 0), (0, 11), (2, g (90 + 13 * l + 0)), (0, 10), (2, l), (0, 9)] ≤ 29 := tL_c (n := 25) (k := 4) hb_5 ((by decide))
  refine r_aload_n dX10_write_66 rfl 2 rfl ?_
  refine r_getI (ci := 7) (k := 2) dX10_write_67 fr_X10_47 (ho_7.lo hl24 hAl).2.1 rfl ?_
  refine Wx.top (ho_7.l2 hl24 hAl) ?_
  refine Wx.topN (hL.h (f := 1) (by decide)) ?_
  refine r_callV (M2 := m_J4_append_bf812) (As := [.int (nI (g (90 + 13 * l + 1)))]) (rest := []) dX10_write_70 cc_X10_write_28 rfl rfl rfl (Nat.le_of_ble_eq_true rfl) ht_7.tb rfl rfl (by decide) (t_I ht_7 g1 g2 (i := g (90 + 13 * l + 1)) (by omega) (by have := hb_6; omega)) (fun v9 T_8 hq => ?_) (fun E9 T9 hq => by cases hq.1)
  obtain ⟨hv9, ht_8⟩ := hq
  cases hv9
  have ho_8 := OR.fr (j := K 0) (k := 11) (by omega) (h.fr11 ht_8) (fun _ _ => rfl) ht_8.fs (h.1.off' hk0)
  show Wx _ G T_8 73 [(0, .ref (x + 54)), (1, .int (nI (l))), (2, .ref (A (K 0) l))] [.ref (x + 55)] _
  have hb_7 : tL [(2, g (90 + 13 * l + 1)), (0, 12), (2, inS g l 0), (0, 11), (2, g (90 + 13 * l + 0)), (0, 10), (2, l), (0, 9)] ≤ 32 := tL_c (n := 29) (k := 3) hb_6 (pL_i)
  refine r_ldcS (a := gK G 2 13) (tx := " here, ") (fun U h => h.2.2.2.1.2 ("LotInspector$Report", 50, " here, ", 13) (List.mem_of_getElem? (i := 4) rfl)) dX10_write_73 ?_
  refine r_callV (M2 := m_J4_append_15ec4) (As := [.ref (gK G 2 13)]) (rest := []) dX10_write_75 cc_X10_write_24 rfl rfl rfl (Nat.le_of_ble_eq_true rfl) ht_8.tb rfl rfl (by decide) (t_S ht_8 g1 g2 (q := 13) (by decide) (by have := hb_7; have h9 : pL (0, 13) ≤ 7 := (by decide); have h8 : pL (0, 13) = strL.getD (13) 0 := rfl; omega)) (fun v9 T_9 hq => ?_) (fun E9 T9 hq => by cases hq.1)
  obtain ⟨hv9, ht_9⟩ := hq
  cases hv9
  have ho_9 := OR.fr (j := K 0) (k := 11) (by omega) (h.fr11 ht_9) (fun _ _ => rfl) ht_9.fs (h.1.off' hk0)
  show Wx _ G T_9 78 [(0, .ref (x + 54)), (1, .int (nI (l))), (2, .ref (A (K 0) l))] [.ref (x + 55)] _
  have hb_8 : tL [(0, 13), (2, g (90 + 13 * l + 1)), (0, 12), (2, inS g l 0), (0, 11), (2, g (90 + 13 * l + 0)), (0, 10), (2, l), (0, 9)] ≤ 39 := tL_c (n := 32) (k := 7) hb_7 ((by decide))
  refine r_pop dX10_write_78 rfl ?_
  refine r_aload_n dX10_write_79 rfl 2 rfl ?_
  refine r_getI (ci := 7) (k := 4) dX10_write_80 fr_X10_52 (ho_9.lo hl24 hAl).2.1 rfl ?_
  refine Wx.top (ho_9.l4 hl24 hAl) ?_
  refine Wx.topN (hL.h (f := 3) (by decide)) ?_
  refine r_if_neN (tgt := 99) dX10_write_83 (by decide) (by omega) (fun h83 => ?_) (fun h83 => ?_)
  · have hins := hL.i h83
    refine r_aload_n dX10_write_99 rfl 0 rfl ?_
    refine r_getR (ci := 12) (k := 0) (b := x + 55) dX10_write_100 fr_X10_12 ((ht_9.fr (a := x + 54) (by rw [show zT S (x + 54) = _ from h.1.t54]; decide)).1.1.trans h.1.t54) rfl (((ht_9.fr (a := x + 54) (by rw [show zT S (x + 54) = _ from h.1.t54]; decide)).2 (by omega) (Ne.symm (h.1.1.2.2.1.2.2.2.1 54 (by decide)))).2.1 384 |>.trans h.1.p384) ?_
    refine r_aload_n dX10_write_103 rfl 2 rfl ?_
    refine r_getI (ci := 7) (k := 5) dX10_write_104 fr_X10_57 (ho_9.lo hl24 hAl).2.1 rfl ?_
    refine Wx.top (ho_9.l5 hl24 hAl) ?_
    refine Wx.topN (hL.h (f := 4) (by decide)) ?_
    refine r_fnS (M2 := m_X10_severityName) (As := [.int (nI (g (90 + 13 * l + 4)))]) (rest := [.ref (x + 55)]) (v := some (.ref (gK G 2 (sevQ (g (90 + 13 * l + 4)))))) dX10_write_107 cc_X10_write_60 rfl rfl rfl (Nat.le_of_ble_eq_true rfl) (x_sevName (z := g (90 + 13 * l + 4)) (hL.i h83).1) rfl ?_
    refine r_callV (M2 := m_J4_append_15ec4) (As := [.ref (gK G 2 (sevQ (g (90 + 13 * l + 4))))]) (rest := []) dX10_write_110 cc_X10_write_24 rfl rfl rfl (Nat.le_of_ble_eq_true rfl) ht_9.tb rfl rfl (by decide) (t_S ht_9 g1 g2 (q := sevQ (g (90 + 13 * l + 4))) (by have := @sev_b (g (90 + 13 * l + 4)); omega) (by have := hb_8; have h9 : pL (0, sevQ (g (90 + 13 * l + 4))) ≤ 14 := (pL_q (by have := @sev_b (g (90 + 13 * l + 4)); omega)); have h8 : pL (0, sevQ (g (90 + 13 * l + 4))) = strL.getD (sevQ (g (90 + 13 * l + 4))) 0 := rfl; omega)) (fun v9 T_10 hq => ?_) (fun E9 T9 hq => by cases hq.1)
    obtain ⟨hv9, ht_10⟩ := hq
    cases hv9
    have ho_10 := OR.fr (j := K 0) (k := 11) (by omega) (h.fr11 ht_10) (fun _ _ => rfl) ht_10.fs (h.1.off' hk0)
    show Wx _ G T_10 113 [(0, .ref (x + 54)), (1, .int (nI (l))), (2, .ref (A (K 0) l))] [.ref (x + 55)] _
    have hb_9 : tL [(0, sevQ (g (90 + 13 * l + 4))), (0, 13), (2, g (90 + 13 * l + 1)), (0, 12), (2, inS g l 0), (0, 11), (2, g (90 + 13 * l + 0)), (0, 10), (2, l), (0, 9)] ≤ 53 := tL_c (n := 39) (k := 14) hb_8 ((pL_q (by have := @sev_b (g (90 + 13 * l + 4)); omega)))
    refine r_pop dX10_write_113 rfl ?_
    refine r_aload_n dX10_write_114 rfl 0 rfl ?_
    refine r_getR (ci := 12) (k := 0) (b := x + 55) dX10_write_115 fr_X10_12 ((ht_10.fr (a := x + 54) (by rw [show zT S (x + 54) = _ from h.1.t54]; decide)).1.1.trans h.1.t54) rfl (((ht_10.fr (a := x + 54) (by rw [show zT S (x + 54) = _ from h.1.t54]; decide)).2 (by omega) (Ne.symm (h.1.1.2.2.1.2.2.2.1 54 (by decide)))).2.1 384 |>.trans h.1.p384) ?_
    refine r_bipush (v := nI 32) dX10_write_118 (by decide) ?_
    refine r_callV (M2 := m_J4_append_cf468) (As := [.int (nI (32))]) (rest := []) dX10_write_120 cc_X10_write_64 rfl rfl rfl (Nat.le_of_ble_eq_true rfl) ht_10.tb rfl rfl (by decide) (t_C ht_10 g1 g2 (c := 32) (by decide) (by have := hb_9; omega)) (fun v9 T_11 hq => ?_) (fun E9 T9 hq => by cases hq.1)
    obtain ⟨hv9, ht_11⟩ := hq
    cases hv9
    have ho_11 := OR.fr (j := K 0) (k := 11) (by omega) (h.fr11 ht_11) (fun _ _ => rfl) ht_11.fs (h.1.off' hk0)
    show Wx _ G T_11 123 [(0, .ref (x + 54)), (1, .int (nI (l))), (2, .ref (A (K 0) l))] [.ref (x + 55)] _
    have hb_10 : tL [(1, 32), (0, sevQ (g (90 + 13 * l + 4))), (0, 13), (2, g (90 + 13 * l + 1)), (0, 12), (2, inS g l 0), (0, 11), (2, g (90 + 13 * l + 0)), (0, 10), (2, l), (0, 9)] ≤ 54 := tL_c (n := 53) (k := 1) hb_9 ((by decide))
    refine r_aload_n dX10_write_123 rfl 2 rfl ?_
    refine r_getI (ci := 7) (k := 6) dX10_write_124 fr_X10_67 (ho_11.lo hl24 hAl).2.1 rfl ?_
    refine Wx.top (ho_11.l6 hl24 hAl) ?_
    refine Wx.topN (hL.h (f := 5) (by decide)) ?_
    refine r_callV (M2 := m_J4_append_bf812) (As := [.int (nI (g (90 + 13 * l + 5)))]) (rest := []) dX10_write_127 cc_X10_write_28 rfl rfl rfl (Nat.le_of_ble_eq_true rfl) ht_11.tb rfl rfl (by decide) (t_I ht_11 g1 g2 (i := g (90 + 13 * l + 5)) (by omega) (by have := hb_10; omega)) (fun v9 T_12 hq => ?_) (fun E9 T9 hq => by cases hq.1)
    obtain ⟨hv9, ht_12⟩ := hq
    cases hv9
    have ho_12 := OR.fr (j := K 0) (k := 11) (by omega) (h.fr11 ht_12) (fun _ _ => rfl) ht_12.fs (h.1.off' hk0)
    show Wx _ G T_12 130 [(0, .ref (x + 54)), (1, .int (nI (l))), (2, .ref (A (K 0) l))] [.ref (x + 55)] _
    have hb_11 : tL [(2, g (90 + 13 * l + 5)), (1, 32), (0, sevQ (g (90 + 13 * l + 4))), (0, 13), (2, g (90 + 13 * l + 1)), (0, 12), (2, inS g l 0), (0, 11), (2, g (90 + 13 * l + 0)), (0, 10), (2, l), (0, 9)] ≤ 57 := tL_c (n := 54) (k := 3) hb_10 (pL_i)
    refine r_bipush (v := nI 47) dX10_write_130 (by decide) ?_
    refine r_callV (M2 := m_J4_append_cf468) (As := [.int (nI (47))]) (rest := []) dX10_write_132 cc_X10_write_64 rfl rfl rfl (Nat.le_of_ble_eq_true rfl) ht_12.tb rfl rfl (by decide) (t_C ht_12 g1 g2 (c := 47) (by decide) (by have := hb_11; omega)) (fun v9 T_13 hq => ?_) (fun E9 T9 hq => by cases hq.1)
    obtain ⟨hv9, ht_13⟩ := hq
    cases hv9
    have ho_13 := OR.fr (j := K 0) (k := 11) (by omega) (h.fr11 ht_13) (fun _ _ => rfl) ht_13.fs (h.1.off' hk0)
    show Wx _ G T_13 135 [(0, .ref (x + 54)), (1, .int (nI (l))), (2, .ref (A (K 0) l))] [.ref (x + 55)] _
    have hb_12 : tL [(1, 47), (2, g (90 + 13 * l + 5)), (1, 32), (0, sevQ (g (90 + 13 * l + 4))), (0, 13), (2, g (90 + 13 * l + 1)), (0, 12), (2, inS g l 0), (0, 11), (2, g (90 + 13 * l + 0)), (0, 10), (2, l), (0, 9)] ≤ 58 := tL_c (n := 57) (k := 1) hb_11 ((by decide))
    refine r_aload_n dX10_write_135 rfl 2 rfl ?_
    refine r_getI (ci := 7) (k := 7) dX10_write_136 fr_X10_70 (ho_13.lo hl24 hAl).2.1 rfl ?_
    refine Wx.top (ho_13.l7 hl24 hAl) ?_
    refine Wx.topN (hL.h (f := 6) (by decide)) ?_
    refine r_callV (M2 := m_J4_append_bf812) (As := [.int (nI (g (90 + 13 * l + 6)))]) (rest := []) dX10_write_139 cc_X10_write_28 rfl rfl rfl (Nat.le_of_ble_eq_true rfl) ht_13.tb rfl rfl (by decide) (t_I ht_13 g1 g2 (i := g (90 + 13 * l + 6)) (by omega) (by have := hb_12; omega)) (fun v9 T_14 hq => ?_) (fun E9 T9 hq => by cases hq.1)
    obtain ⟨hv9, ht_14⟩ := hq
    cases hv9
    have ho_14 := OR.fr (j := K 0) (k := 11) (by omega) (h.fr11 ht_14) (fun _ _ => rfl) ht_14.fs (h.1.off' hk0)
    show Wx _ G T_14 142 [(0, .ref (x + 54)), (1, .int (nI (l))), (2, .ref (A (K 0) l))] [.ref (x + 55)] _
    have hb_13 : tL [(2, g (90 + 13 * l + 6)), (1, 47), (2, g (90 + 13 * l + 5)), (1, 32), (0, sevQ (g (90 + 13 * l + 4))), (0, 13), (2, g (90 + 13 * l + 1)), (0, 12), (2, inS g l 0), (0, 11), (2, g (90 + 13 * l + 0)), (0, 10), (2, l), (0, 9)] ≤ 61 := tL_c (n := 58) (k := 3) hb_12 (pL_i)
    refine r_pop dX10_write_142 rfl ?_
    refine r_aload_n dX10_write_143 rfl 0 rfl ?_
    refine r_getR (ci := 12) (k := 0) (b := x + 55) dX10_write_144 fr_X10_12 ((ht_14.fr (a := x + 54) (by rw [show zT S (x + 54) = _ from h.1.t54]; decide)).1.1.trans h.1.t54) rfl (((ht_14.fr (a := x + 54) (by rw [show zT S (x + 54) = _ from h.1.t54]; decide)).2 (by omega) (Ne.symm (h.1.1.2.2.1.2.2.2.1 54 (by decide)))).2.1 384 |>.trans h.1.p384) ?_
    refine r_ldcS (a := gK G 2 18) (tx := ", found ") (fun U h => h.2.2.2.1.2 ("LotInspector$Report", 73, ", found ", 18) (List.mem_of_getElem? (i := 9) rfl)) dX10_write_147 ?_
    refine r_callV (M2 := m_J4_append_15ec4) (As := [.ref (gK G 2 18)]) (rest := []) dX10_write_149 cc_X10_write_24 rfl rfl rfl (Nat.le_of_ble_eq_true rfl) ht_14.tb rfl rfl (by decide) (t_S ht_14 g1 g2 (q := 18) (by decide) (by have := hb_13; have h9 : pL (0, 18) ≤ 8 := (by decide); have h8 : pL (0, 18) = strL.getD (18) 0 := rfl; omega)) (fun v9 T_15 hq => ?_) (fun E9 T9 hq => by cases hq.1)
    obtain ⟨hv9, ht_15⟩ := hq
    cases hv9
    have ho_15 := OR.fr (j := K 0) (k := 11) (by omega) (h.fr11 ht_15) (fun _ _ => rfl) ht_15.fs (h.1.off' hk0)
    show Wx _ G T_15 152 [(0, .ref (x + 54)), (1, .int (nI (l))), (2, .ref (A (K 0) l))] [.ref (x + 55)] _
    have hb_14 : tL [(0, 18), (2, g (90 + 13 * l + 6)), (1, 47), (2, g (90 + 13 * l + 5)), (1, 32), (0, sevQ (g (90 + 13 * l + 4))), (0, 13), (2, g (90 + 13 * l + 1)), (0, 12), (2, inS g l 0), (0, 11), (2, g (90 + 13 * l + 0)), (0, 10), (2, l), (0, 9)] ≤ 69 := tL_c (n := 61) (k := 8) hb_13 ((by decide))
    refine r_aload_n dX10_write_152 rfl 2 rfl ?_
    refine r_getI (ci := 7) (k := 8) dX10_write_153 fr_X10_75 (ho_15.lo hl24 hAl).2.1 rfl ?_
    refine Wx.top (ho_15.l8 hl24 hAl) ?_
    refine Wx.topN (hL.h (f := 7) (by decide)) ?_
    refine r_callV (M2 := m_J4_append_bf812) (As := [.int (nI (g (90 + 13 * l + 7)))]) (rest := []) dX10_write_156 cc_X10_write_28 rfl rfl rfl (Nat.le_of_ble_eq_true rfl) ht_15.tb rfl rfl (by decide) (t_I ht_15 g1 g2 (i := g (90 + 13 * l + 7)) (by omega) (by have := hb_14; omega)) (fun v9 T_16 hq => ?_) (fun E9 T9 hq => by cases hq.1)
    obtain ⟨hv9, ht_16⟩ := hq
    cases hv9
    have ho_16 := OR.fr (j := K 0) (k := 11) (by omega) (h.fr11 ht_16) (fun _ _ => rfl) ht_16.fs (h.1.off' hk0)
    show Wx _ G T_16 159 [(0, .ref (x + 54)), (1, .int (nI (l))), (2, .ref (A (K 0) l))] [.ref (x + 55)] _
    have hb_15 : tL [(2, g (90 + 13 * l + 7)), (0, 18), (2, g (90 + 13 * l + 6)), (1, 47), (2, g (90 + 13 * l + 5)), (1, 32), (0, sevQ (g (90 + 13 * l + 4))), (0, 13), (2, g (90 + 13 * l + 1)), (0, 12), (2, inS g l 0), (0, 11), (2, g (90 + 13 * l + 0)), (0, 10), (2, l), (0, 9)] ≤ 72 := tL_c (n := 69) (k := 3) hb_14 (pL_i)
    refine r_pop dX10_write_159 rfl ?_
    refine r_aload_n dX10_write_160 rfl 0 rfl ?_
    refine r_getR (ci := 12) (k := 0) (b := x + 55) dX10_write_161 fr_X10_12 ((ht_16.fr (a := x + 54) (by rw [show zT S (x + 54) = _ from h.1.t54]; decide)).1.1.trans h.1.t54) rfl (((ht_16.fr (a := x + 54) (by rw [show zT S (x + 54) = _ from h.1.t54]; decide)).2 (by omega) (Ne.symm (h.1.1.2.2.1.2.2.2.1 54 (by decide)))).2.1 384 |>.trans h.1.p384) ?_
    refine r_ldcS (a := gK G 2 11) (tx := ", ") (fun U h => h.2.2.2.1.2 ("LotInspector$Report", 39, ", ", 11) (List.mem_of_getElem? (i := 2) rfl)) dX10_write_164 ?_
    refine r_callV (M2 := m_J4_append_15ec4) (As := [.ref (gK G 2 11)]) (rest := []) dX10_write_166 cc_X10_write_24 rfl rfl rfl (Nat.le_of_ble_eq_true rfl) ht_16.tb rfl rfl (by decide) (t_S ht_16 g1 g2 (q := 11) (by decide) (by have := hb_15; have h9 : pL (0, 11) ≤ 2 := (by decide); have h8 : pL (0, 11) = strL.getD (11) 0 := rfl; omega)) (fun v9 T_17 hq => ?_) (fun E9 T9 hq => by cases hq.1)
    obtain ⟨hv9, ht_17⟩ := hq
    cases hv9
    have ho_17 := OR.fr (j := K 0) (k := 11) (by omega) (h.fr11 ht_17) (fun _ _ => rfl) ht_17.fs (h.1.off' hk0)
    show Wx _ G T_17 169 [(0, .ref (x + 54)), (1, .int (nI (l))), (2, .ref (A (K 0) l))] [.ref (x + 55)] _
    have hb_16 : tL [(0, 11), (2, g (90 + 13 * l + 7)), (0, 18), (2, g (90 + 13 * l + 6)), (1, 47), (2, g (90 + 13 * l + 5)), (1, 32), (0, sevQ (g (90 + 13 * l + 4))), (0, 13), (2, g (90 + 13 * l + 1)), (0, 12), (2, inS g l 0), (0, 11), (2, g (90 + 13 * l + 0)), (0, 10), (2, l), (0, 9)] ≤ 74 := tL_c (n := 72) (k := 2) hb_15 ((by decide))
    refine r_aload_n dX10_write_169 rfl 2 rfl ?_
    refine r_getI (ci := 7) (k := 3) dX10_write_170 fr_X10_78 (ho_17.lo hl24 hAl).2.1 rfl ?_
    refine Wx.top (ho_17.l3 hl24 hAl) ?_
    refine Wx.topN (hL.h (f := 2) (by decide)) ?_
    refine r_fnS (M2 := m_X10_statusName) (As := [.int (nI (g (90 + 13 * l + 2)))]) (rest := [.ref (x + 55)]) (v := some (.ref (gK G 2 (staQ (g (90 + 13 * l + 2)))))) dX10_write_173 cc_X10_write_81 rfl rfl rfl (Nat.le_of_ble_eq_true rfl) (x_staName (z := g (90 + 13 * l + 2)) hL.st) rfl ?_
    refine r_callV (M2 := m_J4_append_15ec4) (As := [.ref (gK G 2 (staQ (g (90 + 13 * l + 2))))]) (rest := []) dX10_write_176 cc_X10_write_24 rfl rfl rfl (Nat.le_of_ble_eq_true rfl) ht_17.tb rfl rfl (by decide) (t_S ht_17 g1 g2 (q := staQ (g (90 + 13 * l + 2))) (by have := @sta_b (g (90 + 13 * l + 2)); omega) (by have := hb_16; have h9 : pL (0, staQ (g (90 + 13 * l + 2))) ≤ 14 := (pL_q (by have := @sta_b (g (90 + 13 * l + 2)); omega)); have h8 : pL (0, staQ (g (90 + 13 * l + 2))) = strL.getD (staQ (g (90 + 13 * l + 2))) 0 := rfl; omega)) (fun v9 T_18 hq => ?_) (fun E9 T9 hq => by cases hq.1)
    obtain ⟨hv9, ht_18⟩ := hq
    cases hv9
    have ho_18 := OR.fr (j := K 0) (k := 11) (by omega) (h.fr11 ht_18) (fun _ _ => rfl) ht_18.fs (h.1.off' hk0)
    show Wx _ G T_18 179 [(0, .ref (x + 54)), (1, .int (nI (l))), (2, .ref (A (K 0) l))] [.ref (x + 55)] _
    have hb_17 : tL [(0, staQ (g (90 + 13 * l + 2))), (0, 11), (2, g (90 + 13 * l + 7)), (0, 18), (2, g (90 + 13 * l + 6)), (1, 47), (2, g (90 + 13 * l + 5)), (1, 32), (0, sevQ (g (90 + 13 * l + 4))), (0, 13), (2, g (90 + 13 * l + 1)), (0, 12), (2, inS g l 0), (0, 11), (2, g (90 + 13 * l + 0)), (0, 10), (2, l), (0, 9)] ≤ 88 := tL_c (n := 74) (k := 14) hb_16 ((pL_q (by have := @sta_b (g (90 + 13 * l + 2)); omega)))
    refine r_pop dX10_write_179 rfl ?_
    exact r_vret dX10_write_180 rfl ⟨rfl, (show rep g l = [(0, staQ (g (90 + 13 * l + 2))), (0, 11), (2, g (90 + 13 * l + 7)), (0, 18), (2, g (90 + 13 * l + 6)), (1, 47), (2, g (90 + 13 * l + 5)), (1, 32), (0, sevQ (g (90 + 13 * l + 4))), (0, 13), (2, g (90 + 13 * l + 1)), (0, 12), (2, inS g l 0), (0, 11), (2, g (90 + 13 * l + 0)), (0, 10), (2, l), (0, 9)] from by unfold rep rep1; rw [if_neg h83]; rfl) ▸ ht_18⟩
  · refine r_aload_n dX10_write_86 rfl 0 rfl ?_
    refine r_getR (ci := 12) (k := 0) (b := x + 55) dX10_write_87 fr_X10_12 ((ht_9.fr (a := x + 54) (by rw [show zT S (x + 54) = _ from h.1.t54]; decide)).1.1.trans h.1.t54) rfl (((ht_9.fr (a := x + 54) (by rw [show zT S (x + 54) = _ from h.1.t54]; decide)).2 (by omega) (Ne.symm (h.1.1.2.2.1.2.2.2.1 54 (by decide)))).2.1 384 |>.trans h.1.p384) ?_
    refine r_ldcS (a := gK G 2 14) (tx := "not inspected") (fun U h => h.2.2.2.1.2 ("LotInspector$Report", 55, "not inspected", 14) (List.mem_of_getElem? (i := 5) rfl)) dX10_write_90 ?_
    refine r_callV (M2 := m_J4_append_15ec4) (As := [.ref (gK G 2 14)]) (rest := []) dX10_write_92 cc_X10_write_24 rfl rfl rfl (Nat.le_of_ble_eq_true rfl) ht_9.tb rfl rfl (by decide) (t_S ht_9 g1 g2 (q := 14) (by decide) (by have := hb_8; have h9 : pL (0, 14) ≤ 13 := (by decide); have h8 : pL (0, 14) = strL.getD (14) 0 := rfl; omega)) (fun v9 T_19 hq => ?_) (fun E9 T9 hq => by cases hq.1)
    obtain ⟨hv9, ht_19⟩ := hq
    cases hv9
    have ho_19 := OR.fr (j := K 0) (k := 11) (by omega) (h.fr11 ht_19) (fun _ _ => rfl) ht_19.fs (h.1.off' hk0)
    show Wx _ G T_19 95 [(0, .ref (x + 54)), (1, .int (nI (l))), (2, .ref (A (K 0) l))] [.ref (x + 55)] _
    have hb_18 : tL [(0, 14), (0, 13), (2, g (90 + 13 * l + 1)), (0, 12), (2, inS g l 0), (0, 11), (2, g (90 + 13 * l + 0)), (0, 10), (2, l), (0, 9)] ≤ 52 := tL_c (n := 39) (k := 13) hb_8 ((by decide))
    refine r_pop dX10_write_95 rfl ?_
    refine r_goto (tgt := 160) dX10_write_96 (by decide) ?_
    refine r_aload_n dX10_write_160 rfl 0 rfl ?_
    refine r_getR (ci := 12) (k := 0) (b := x + 55) dX10_write_161 fr_X10_12 ((ht_19.fr (a := x + 54) (by rw [show zT S (x + 54) = _ from h.1.t54]; decide)).1.1.trans h.1.t54) rfl (((ht_19.fr (a := x + 54) (by rw [show zT S (x + 54) = _ from h.1.t54]; decide)).2 (by omega) (Ne.symm (h.1.1.2.2.1.2.2.2.1 54 (by decide)))).2.1 384 |>.trans h.1.p384) ?_
    refine r_ldcS (a := gK G 2 11) (tx := ", ") (fun U h => h.2.2.2.1.2 ("LotInspector$Report", 39, ", ", 11) (List.mem_of_getElem? (i := 2) rfl)) dX10_write_164 ?_
    refine r_callV (M2 := m_J4_append_15ec4) (As := [.ref (gK G 2 11)]) (rest := []) dX10_write_166 cc_X10_write_24 rfl rfl rfl (Nat.le_of_ble_eq_true rfl) ht_19.tb rfl rfl (by decide) (t_S ht_19 g1 g2 (q := 11) (by decide) (by have := hb_18; have h9 : pL (0, 11) ≤ 2 := (by decide); have h8 : pL (0, 11) = strL.getD (11) 0 := rfl; omega)) (fun v9 T_20 hq => ?_) (fun E9 T9 hq => by cases hq.1)
    obtain ⟨hv9, ht_20⟩ := hq
    cases hv9
    have ho_20 := OR.fr (j := K 0) (k := 11) (by omega) (h.fr11 ht_20) (fun _ _ => rfl) ht_20.fs (h.1.off' hk0)
    show Wx _ G T_20 169 [(0, .ref (x + 54)), (1, .int (nI (l))), (2, .ref (A (K 0) l))] [.ref (x + 55)] _
    have hb_19 : tL [(0, 11), (0, 14), (0, 13), (2, g (90 + 13 * l + 1)), (0, 12), (2, inS g l 0), (0, 11), (2, g (90 + 13 * l + 0)), (0, 10), (2, l), (0, 9)] ≤ 54 := tL_c (n := 52) (k := 2) hb_18 ((by decide))
    refine r_aload_n dX10_write_169 rfl 2 rfl ?_
    refine r_getI (ci := 7) (k := 3) dX10_write_170 fr_X10_78 (ho_20.lo hl24 hAl).2.1 rfl ?_
    refine Wx.top (ho_20.l3 hl24 hAl) ?_
    refine Wx.topN (hL.h (f := 2) (by decide)) ?_
    refine r_fnS (M2 := m_X10_statusName) (As := [.int (nI (g (90 + 13 * l + 2)))]) (rest := [.ref (x + 55)]) (v := some (.ref (gK G 2 (staQ (g (90 + 13 * l + 2)))))) dX10_write_173 cc_X10_write_81 rfl rfl rfl (Nat.le_of_ble_eq_true rfl) (x_staName (z := g (90 + 13 * l + 2)) hL.st) rfl ?_
    refine r_callV (M2 := m_J4_append_15ec4) (As := [.ref (gK G 2 (staQ (g (90 + 13 * l + 2))))]) (rest := []) dX10_write_176 cc_X10_write_24 rfl rfl rfl (Nat.le_of_ble_eq_true rfl) ht_20.tb rfl rfl (by decide) (t_S ht_20 g1 g2 (q := staQ (g (90 + 13 * l + 2))) (by have := @sta_b (g (90 + 13 * l + 2)); omega) (by have := hb_19; have h9 : pL (0, staQ (g (90 + 13 * l + 2))) ≤ 14 := (pL_q (by have := @sta_b (g (90 + 13 * l + 2)); omega)); have h8 : pL (0, staQ (g (90 + 13 * l + 2))) = strL.getD (staQ (g (90 + 13 * l + 2))) 0 := rfl; omega)) (fun v9 T_21 hq => ?_) (fun E9 T9 hq => by cases hq.1)
    obtain ⟨hv9, ht_21⟩ := hq
    cases hv9
    have ho_21 := OR.fr (j := K 0) (k := 11) (by omega) (h.fr11 ht_21) (fun _ _ => rfl) ht_21.fs (h.1.off' hk0)
    show Wx _ G T_21 179 [(0, .ref (x + 54)), (1, .int (nI (l))), (2, .ref (A (K 0) l))] [.ref (x + 55)] _
    have hb_20 : tL [(0, staQ (g (90 + 13 * l + 2))), (0, 11), (0, 14), (0, 13), (2, g (90 + 13 * l + 1)), (0, 12), (2, inS g l 0), (0, 11), (2, g (90 + 13 * l + 0)), (0, 10), (2, l), (0, 9)] ≤ 68 := tL_c (n := 54) (k := 14) hb_19 ((pL_q (by have := @sta_b (g (90 + 13 * l + 2)); omega)))
    refine r_pop dX10_write_179 rfl ?_
    exact r_vret dX10_write_180 rfl ⟨rfl, (show rep g l = [(0, staQ (g (90 + 13 * l + 2))), (0, 11), (0, 14), (0, 13), (2, g (90 + 13 * l + 1)), (0, 12), (2, inS g l 0), (0, 11), (2, g (90 + 13 * l + 0)), (0, 10), (2, l), (0, 9)] from by unfold rep rep1; rw [if_pos h83]; rfl) ▸ ht_21⟩
