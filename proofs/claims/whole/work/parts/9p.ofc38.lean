/-! WHAT A LOT IS IN -/
noncomputable def bN (P : Prop) : Nat := @ite _ P (Classical.propDecidable _) 1 0
theorem bN_t {P : Prop} (h : P) : bN P = 1 := by unfold bN; exact if_pos h
theorem bN_f {P : Prop} (h : ¬ P) : bN P = 0 := by unfold bN; exact if_neg h
theorem bN_iff {P Q : Prop} (h : P ↔ Q) : bN P = bN Q := by
  by_cases q : P
  · rw [bN_t q, bN_t (h.mp q)]
  · rw [bN_f q, bN_f (fun z => q (h.mpr z))]
theorem bN_lt {P : Prop} : bN P < 2 := by
  by_cases q : P
  · rw [bN_t q]; decide
  · rw [bN_f q]; decide
theorem bN_0 {P : Prop} : bN P = 0 ↔ ¬ P := ⟨fun h q => by rw [bN_t q] at h; exact absurd h (by decide), bN_f⟩
def Lx (l u L U : Nat) : Prop := l < L ∨ (l = L ∧ u < U)
def RQ (c g : Nat → Nat) (a : Nat) (Mk : Nat → Prop) (L U i : Nat) : Prop :=
  (Lx (i / 200) (i % 200) L U ∧ a ≤ i / 200 ∧ i / 200 < g 0 ∧ i % 200 < g (90 + 13 * (i / 200) + 1) ∧ Mk (200 * (i / 200) + i % 200)) ∨
  ∃ l u, Lx l u L U ∧ a ≤ l ∧ l < g 0 ∧ u < g (90 + 13 * l + 1) ∧ Mk (200 * l + u) ∧ c (402 + 8 * (200 * l + u) + 4) = 1000 * (i / 200) + i % 200
section RcFacts
variable {c g : Nat → Nat} {N a : Nat} {Mk : Nat → Prop}
theorem Mk_ge (hr : Rel c g N) (hm : MarkP g a Mk) : ∀ n l u, l ≤ n → l < g 0 → u < g (90 + 13 * l + 1) → Mk (200 * l + u) → a ≤ l
  | n, l, u, hn, hl, hu, h => by
    rcases (hm l u hl hu).mp h with e | ⟨q, hq, h2⟩
    · omega
    · have hL := hr.lot hl
      have p1 := hL.pt hq
      have p2 := (hL.pu hu q hq).1
      match n, hn with
      | 0, hn => omega
      | n + 1, hn => have := Mk_ge hr hm n _ _ (by omega) (by omega) p2 h2; omega
theorem used_place (hr : Rel c g N) {l u : Nat} (hl : l < g 0) (hu : u < g (90 + 13 * l + 1)) : (∃ L U k, L < g 0 ∧ U < g (90 + 13 * L + 1) ∧ k < g (90 + 13 * L + 8) ∧ g (90 + 13 * L + (10 + k)) = l ∧ pW (g (402 + 2 * (200 * L + U) + 1)) k = u ∧ c (402 + 8 * (200 * l + u) + 4) = 1000 * L + U) ∨ c (402 + 8 * (200 * l + u) + 4) = 4294967295 := by
  obtain ⟨h1, h2⟩ := (hr.lot hl).uu hu
  by_cases e : sW (g (402 + 2 * (200 * l + u))) = 3
  · exact Or.inl (h1 e)
  · exact Or.inr (h2 e)
theorem used_mk (hr : Rel c g N) (hm : MarkP g a Mk) {l u L U : Nat} (hl : l < g 0) (hu : u < g (90 + 13 * l + 1)) (hk : Mk (200 * l + u)) (hU : U < 200) (hL : L < 24) (e : c (402 + 8 * (200 * l + u) + 4) = 1000 * L + U) : L < g 0 ∧ U < g (90 + 13 * L + 1) ∧ Mk (200 * L + U) := by
  rcases used_place hr hl hu with ⟨L', U', k, q1, q2, q3, q4, q5, q6⟩ | q
  · have z := (hr.lot q1).z
    obtain ⟨rfl, rfl⟩ : L' = L ∧ U' = U := by omega
    exact ⟨q1, q2, (hm _ _ q1 q2).mpr (Or.inr ⟨k, q3, by rw [q4, q5]; exact hk⟩)⟩
  · omega
theorem RQ_now (hr : Rel c g N) (hm : MarkP g a Mk) {L U : Nat} (hL : L < g 0) (hU : U < g (90 + 13 * L + 1)) : (L = a ∨ RQ c g a Mk L U (L * 200 + U)) ↔ Mk (200 * L + U) := by
  have hLt := hr.lot hL
  have hz := hLt.z
  have h24 := hr.n24
  have e1 : (L * 200 + U) / 200 = L := by omega
  have e2 : (L * 200 + U) % 200 = U := by omega
  constructor
  · rintro (h | h)
    · exact (hm L U hL hU).mpr (Or.inl h)
    · unfold RQ at h
      rw [e1, e2] at h
      rcases h with ⟨h, -⟩ | ⟨l, u, -, -, hl, hu, hk, e⟩
      · rcases h with h | h
        · omega
        · omega
      · exact (used_mk hr hm hl hu hk (by omega) (by omega) e).2.2
  · intro h
    rcases (hm L U hL hU).mp h with e | ⟨q, hq, h2⟩
    · exact Or.inl e
    · have p1 := hLt.pt hq
      obtain ⟨p2, -, p3⟩ := hLt.pu hU q hq
      refine Or.inr ?_
      unfold RQ
      rw [e1, e2]
      exact Or.inr ⟨_, _, Or.inl p1, Mk_ge hr hm _ _ _ (Nat.le_refl _) (by omega) p2 h2, by omega, p2, h2, p3⟩
theorem RQ_skip {L U i : Nat} (hz : g (90 + 13 * L + 1) ≤ 200) (h : ¬ Mk (200 * L + U)) : RQ c g a Mk L U i ↔ RQ c g a Mk L (U + 1) i := by
  constructor
  · rintro (⟨h1, h2⟩ | ⟨l, u, h1, h2⟩)
    · exact Or.inl ⟨h1.elim Or.inl (fun q => Or.inr ⟨q.1, by omega⟩), h2⟩
    · exact Or.inr ⟨l, u, h1.elim Or.inl (fun q => Or.inr ⟨q.1, by omega⟩), h2⟩
  · rintro (⟨h1, h2⟩ | ⟨l, u, h1, h2⟩)
    · refine Or.inl ⟨h1.elim Or.inl (fun q => Or.inr ⟨q.1, ?_⟩), h2⟩
      have : i % 200 ≠ U := fun e => h (by have := h2.2.2.2; rw [q.1, e] at this; exact this)
      omega
    · refine Or.inr ⟨l, u, h1.elim Or.inl (fun q => Or.inr ⟨q.1, ?_⟩), h2⟩
      have : u ≠ U := fun e => h (by have := h2.2.2.2.1; rw [q.1, e] at this; exact this)
      omega
theorem RQ_step (hr : Rel c g N) (hm : MarkP g a Mk) {L U i : Nat} (hL : L < g 0) (hU : U < g (90 + 13 * L + 1)) (h : Mk (200 * L + U)) : RQ c g a Mk L (U + 1) i ↔ (c (402 + 8 * (200 * L + U) + 4) = 1000 * (i / 200) + i % 200 ∨ i = L * 200 + U ∨ RQ c g a Mk L U i) := by
  have hz := (hr.lot hL).z
  have ha := Mk_ge hr hm _ _ _ (Nat.le_refl _) hL hU h
  constructor
  · rintro (⟨h1, h2⟩ | ⟨l, u, h1, h2⟩)
    · by_cases e : i = L * 200 + U
      · exact Or.inr (Or.inl e)
      · exact Or.inr (Or.inr (Or.inl ⟨h1.elim Or.inl (fun q => Or.inr ⟨q.1, by omega⟩), h2⟩))
    · by_cases e : l = L ∧ u = U
      · obtain ⟨rfl, rfl⟩ := e; exact Or.inl h2.2.2.2.2
      · exact Or.inr (Or.inr (Or.inr ⟨l, u, h1.elim Or.inl (fun q => Or.inr ⟨q.1, by omega⟩), h2⟩))
  · rintro (e | e | ⟨h1, h2⟩ | ⟨l, u, h1, h2⟩)
    · exact Or.inr ⟨L, U, Or.inr ⟨rfl, by omega⟩, ha, hL, hU, h, e⟩
    · have e1 : i / 200 = L := by omega
      have e2 : i % 200 = U := by omega
      exact Or.inl (by rw [e1, e2]; exact ⟨Or.inr ⟨rfl, by omega⟩, ha, hL, hU, h⟩)
    · exact Or.inl ⟨h1.elim Or.inl (fun q => Or.inr ⟨q.1, by omega⟩), h2⟩
    · exact Or.inr ⟨l, u, h1.elim Or.inl (fun q => Or.inr ⟨q.1, by omega⟩), h2⟩
theorem RQ_row {L i : Nat} : RQ c g a Mk L (g (90 + 13 * L + 1)) i ↔ RQ c g a Mk (L + 1) 0 i := by
  constructor
  · rintro (⟨h1, h2⟩ | ⟨l, u, h1, h2⟩)
    · exact Or.inl ⟨Or.inl (h1.elim (fun q => by omega) (fun q => by omega)), h2⟩
    · exact Or.inr ⟨l, u, Or.inl (h1.elim (fun q => by omega) (fun q => by omega)), h2⟩
  · rintro (⟨h1, h2⟩ | ⟨l, u, h1, h2⟩)
    · refine Or.inl ⟨?_, h2⟩
      by_cases e : i / 200 = L
      · exact Or.inr ⟨e, by have := h2.2.2.1; rw [e] at this; exact this⟩
      · exact Or.inl (h1.elim (fun q => by omega) (fun q => by omega))
    · refine Or.inr ⟨l, u, ?_, h2⟩
      by_cases e : l = L
      · exact Or.inr ⟨e, by have := h2.2.2.1; rw [e] at this; exact this⟩
      · exact Or.inl (h1.elim (fun q => by omega) (fun q => by omega))
theorem RQ_0 {i : Nat} : ¬ RQ c g a Mk a 0 i := by
  rintro (⟨h1, h2⟩ | ⟨l, u, h1, h2⟩)
  · exact h1.elim (fun q => by omega) (fun q => by omega)
  · exact h1.elim (fun q => by omega) (fun q => by omega)
theorem RQ_end (hr : Rel c g N) (hm : MarkP g a Mk) {l u : Nat} (hl : l < g 0) (hu : u < g (90 + 13 * l + 1)) : RQ c g a Mk (g 0) 0 (l * 200 + u) ↔ Mk (200 * l + u) := by
  have hz := (hr.lot hl).z
  have h24 := hr.n24
  have e1 : (l * 200 + u) / 200 = l := by omega
  have e2 : (l * 200 + u) % 200 = u := by omega
  unfold RQ
  rw [e1, e2]
  constructor
  · rintro (h | ⟨l', u', -, -, h1, h2, h3, e⟩)
    · exact h.2.2.2.2
    · exact (used_mk hr hm h1 h2 h3 (by omega) (by omega) e).2.2
  · intro h
    exact Or.inl ⟨Or.inl hl, Mk_ge hr hm _ _ _ (Nat.le_refl _) hl hu h, hl, hu, h⟩
theorem recI_a (hr : Rel c g N) (hm : MarkP g a Mk) (ha : a < g 0) : ∀ {l : Nat}, l ≤ a → recI g Mk l = 0
  | 0, _ => rfl
  | l + 1, h => by
    show setM Mk l (g (90 + 13 * l + 1)) (recI g Mk l) = 0
    unfold setM
    rw [if_neg (fun ⟨u, h1, h2⟩ => by have := Mk_ge hr hm l l u (Nat.le_refl _) (by omega) h1 h2; omega)]
    exact recI_a hr hm ha (by omega)
/-- the numbers of Recall ahead of unit u of lot l -/
def RE (E0 E : Nat → Nat → Nat) (c g : Nat → Nat) (a : Nat) (Mk : Nat → Prop) (l u : Nat) : Prop := (∀ f b, b ≠ 57 → b ≠ 58 → E f b = E0 f b) ∧ E 353 57 = setM Mk l u (recI g Mk l) ∧ ∀ i, i < 4800 → E (1000 + i) 58 = bN (RQ c g a Mk l u i)
theorem RE.init {E0 E : Nat → Nat → Nat} (hr : Rel c g N) (hm : MarkP g a Mk) (ha : a < g 0) (h1 : ∀ f b, b ≠ 57 → b ≠ 58 → E f b = E0 f b) (h2 : E 353 57 = 0) (h3 : ∀ i, i < 4800 → E (1000 + i) 58 = 0) : RE E0 E c g a Mk a 0 :=
  ⟨h1, by rw [h2, setM_0, recI_a hr hm ha (Nat.le_refl _)], fun i hi => by rw [h3 i hi, bN_f RQ_0]⟩
theorem RE.row {E0 E : Nat → Nat → Nat} {l : Nat} (h : RE E0 E c g a Mk l (g (90 + 13 * l + 1))) : RE E0 E c g a Mk (l + 1) 0 :=
  ⟨h.1, by rw [h.2.1, setM_0]; rfl, fun i hi => by rw [h.2.2 i hi, bN_iff RQ_row]⟩
theorem RE.skip {E0 E : Nat → Nat → Nat} {l u : Nat} (hz : g (90 + 13 * l + 1) ≤ 200) (hk : ¬ Mk (200 * l + u)) (h : RE E0 E c g a Mk l u) : RE E0 E c g a Mk l (u + 1) :=
  ⟨h.1, by rw [h.2.1, ← setM_f hk, Nat.or_zero], fun i hi => by rw [h.2.2 i hi, bN_iff (RQ_skip hz hk)]⟩
theorem RE.one {E0 E : Nat → Nat → Nat} {l u : Nat} (hr : Rel c g N) (hm : MarkP g a Mk) (hl : l < g 0) (hu : u < g (90 + 13 * l + 1)) (hk : Mk (200 * l + u)) (he : c (402 + 8 * (200 * l + u) + 4) = 4294967295) (h : RE E0 E c g a Mk l u) : RE E0 (up2 (up2 E 353 57 (setM Mk l u (recI g Mk l) ||| 1 * 2 ^ l)) (1000 + (l * 200 + u)) 58 1) c g a Mk l (u + 1) :=
  ⟨fun f b b1 b2 => by rw [u2_n (by omega), u2_n (by omega)]; exact h.1 f b b1 b2, by rw [u2_n (by omega), u2_s, setM_t hk], fun i hi => by
    have hs := RQ_step (i := i) hr hm hl hu hk
    rw [he] at hs
    by_cases e : i = l * 200 + u
    · subst e; rw [u2_s, bN_t (hs.mpr (Or.inr (Or.inl rfl)))]
    · rw [u2_n (by omega), u2_n (by omega), h.2.2 i hi]
      exact bN_iff ⟨fun q => hs.mpr (Or.inr (Or.inr q)), fun q => (hs.mp q).elim (fun z => absurd z (by omega)) (fun z => z.elim (fun y => absurd y e) id)⟩⟩
theorem RE.two {E0 E : Nat → Nat → Nat} {l u L U : Nat} (hr : Rel c g N) (hm : MarkP g a Mk) (hl : l < g 0) (hu : u < g (90 + 13 * l + 1)) (hk : Mk (200 * l + u)) (hU : U < 200) (hL : L < 24) (he : c (402 + 8 * (200 * l + u) + 4) = 1000 * L + U) (h : RE E0 E c g a Mk l u) : RE E0 (up2 (up2 (up2 E 353 57 (setM Mk l u (recI g Mk l) ||| 1 * 2 ^ l)) (1000 + (l * 200 + u)) 58 1) (1000 + (L * 200 + U)) 58 1) c g a Mk l (u + 1) :=
  ⟨fun f b b1 b2 => by rw [u2_n (by omega), u2_n (by omega), u2_n (by omega)]; exact h.1 f b b1 b2, by rw [u2_n (by omega), u2_n (by omega), u2_s, setM_t hk], fun i hi => by
    have hs := RQ_step (i := i) hr hm hl hu hk
    rw [he] at hs
    by_cases e2 : i = L * 200 + U
    · subst e2; rw [u2_s, bN_t (hs.mpr (Or.inl (by omega)))]
    · by_cases e : i = l * 200 + u
      · subst e; rw [u2_n (by omega), u2_s, bN_t (hs.mpr (Or.inr (Or.inl rfl)))]
      · rw [u2_n (by omega), u2_n (by omega), u2_n (by omega), h.2.2 i hi]
        exact bN_iff ⟨fun q => hs.mpr (Or.inr (Or.inr q)), fun q => (hs.mp q).elim (fun z => absurd z (by omega)) (fun z => z.elim (fun y => absurd y e) id)⟩⟩
end RcFacts
set_option maxRecDepth 4000 in
set_option maxHeartbeats 400000 in
theorem x_isMarked {G : GI} {F : Nat → Prop} {S0 S : Hp} {w : Nat → Nat} {x : Nat} {K : Nat → Nat} {E : Nat → Nat → Nat} {A c : Nat → Nat → Nat} {bx bu : Nat} (h : XF F S0 S w x K E A c bx bu) {l u : Nat} (hl : l < 24) (hu : u < 200) {P : Prop} (hm : E (1000 + (l * 200 + u)) 58 = bN P) : Fn m_X9_isMarked G [.ref (x + 57), .int (nI (l)), .int (nI (u))] S (some (.int (bI P))) S := by
  refine Cn.of rfl (by decide) (Nat.le_of_ble_eq_true rfl) (fun hN hM => ?_)
  show Wx _ G _ 0 [(0, .ref (x + 57)), (1, .int (nI (l))), (2, .int (nI (u)))] [] _
  refine r_iload_n dX9_isMarked_0 rfl 1 rfl ?_
  refine r_sipush (v := nI 200) dX9_isMarked_1 (by decide) ?_
  refine r_imulN dX9_isMarked_4 ?_
  refine r_iload_n dX9_isMarked_5 rfl 2 rfl ?_
  refine r_iaddN dX9_isMarked_6 ?_
  refine r_istore_n (lv' := [(3, .int (nI (l * 200 + u))), (0, .ref (x + 57)), (1, .int (nI (l))), (2, .int (nI (u)))]) dX9_isMarked_7 rfl (by decide) rfl ?_
  refine r_iload_n dX9_isMarked_8 rfl 0 rfl ?_
  refine r_if_ltN (tgt := 34) dX9_isMarked_9 (by decide) (by (first | omega | (have := @bN_lt P; omega))) ?_
  refine r_iload_n dX9_isMarked_12 rfl 0 rfl ?_
  refine r_aload_n dX9_isMarked_13 rfl 1 rfl ?_
  refine r_getR (ci := 11) (k := 0) (b := x + 58) dX9_isMarked_14 fr_X9_9 h.1.t57 rfl h.1.p352 ?_
  refine r_alen106 dX9_isMarked_17 h.1.t58 ?_
  refine Wx.top (congrArg nI h.1.n58) ?_
  refine r_icmp_geN (tgt := 34) dX9_isMarked_18 (by decide) (by (first | omega | (have := @bN_lt P; omega))) (by (first | omega | (have := @bN_lt P; omega))) (fun h18 => ?_) (fun h18 => ?_)
  · exact absurd h18 (by omega)
  · refine r_aload_n dX9_isMarked_21 rfl 1 rfl ?_
    refine r_getR (ci := 11) (k := 0) (b := x + 58) dX9_isMarked_22 fr_X9_9 h.1.t57 rfl h.1.p352 ?_
    refine r_iload_n dX9_isMarked_25 rfl 0 rfl ?_
    refine r_zald dX9_isMarked_26 h.1.t58 (by rw [show zN S (x + 58) = 4800 from h.1.n58]; exact vp_in_nI (by (first | omega | (have := @bN_lt P; omega))) (by decide)) ?_
    refine Wx.top (congrArg (zA _ _) (nI_clamp (by (first | omega | (have := @bN_lt P; omega))))) ?_
    refine Wx.top (h.1.a (i := l * 200 + u) (by decide)) ?_
    refine Wx.topN hm ?_
    refine r_if_eqN (tgt := 34) dX9_isMarked_27 (by decide) (by (first | omega | (have := @bN_lt P; omega))) (fun h27 => ?_) (fun h27 => ?_)
    · refine r_iconst (v := nI 0) dX9_isMarked_34 (by decide) ?_
      exact r_iret (ty := .boolean) dX9_isMarked_35 rfl (by decide) ⟨congrArg (fun z => Sum.inl (some (Value.int z))) (bI_f (bN_0.mp h27)).symm, rfl⟩
    · refine r_iconst (v := nI 1) dX9_isMarked_30 (by decide) ?_
      refine r_goto (tgt := 35) dX9_isMarked_31 (by decide) ?_
      exact r_iret (ty := .boolean) dX9_isMarked_35 rfl (by decide) ⟨congrArg (fun z => Sum.inl (some (Value.int z))) (bI_t (Classical.byContradiction fun q => h27 (bN_f q))).symm, rfl⟩
set_option maxRecDepth 4000 in
set_option maxHeartbeats 400000 in
theorem x_mark {G : GI} {F : Nat → Prop} {S0 S : Hp} {w : Nat → Nat} {x : Nat} {K : Nat → Nat} {E : Nat → Nat → Nat} {A c : Nat → Nat → Nat} {bx bu : Nat} (h : XF F S0 S w x K E A c bx bu) {l u : Nat} (hl : l < 24) (hu : u < 200) : Cn m_X9_mark G [.ref (x + 57), .int (nI (l)), .int (nI (u))] S (fun r T => r = .inl none ∧ XF F S0 T w x K (up2 E (1000 + (l * 200 + u)) (58) (1)) A c bx bu) := by
  refine Cn.of rfl (by decide) (Nat.le_of_ble_eq_true rfl) (fun hN hM => ?_)
  show Wx _ G _ 0 [(0, .ref (x + 57)), (1, .int (nI (l))), (2, .int (nI (u)))] [] _
  refine r_iload_n dX9_mark_0 rfl 1 rfl ?_
  refine r_sipush (v := nI 200) dX9_mark_1 (by decide) ?_
  refine r_imulN dX9_mark_4 ?_
  refine r_iload_n dX9_mark_5 rfl 2 rfl ?_
  refine r_iaddN dX9_mark_6 ?_
  refine r_istore_n (lv' := [(3, .int (nI (l * 200 + u))), (0, .ref (x + 57)), (1, .int (nI (l))), (2, .int (nI (u)))]) dX9_mark_7 rfl (by decide) rfl ?_
  refine r_iload_n dX9_mark_8 rfl 0 rfl ?_
  refine r_if_ltN (tgt := 28) dX9_mark_9 (by decide) (by omega) ?_
  refine r_iload_n dX9_mark_12 rfl 0 rfl ?_
  refine r_aload_n dX9_mark_13 rfl 1 rfl ?_
  refine r_getR (ci := 11) (k := 0) (b := x + 58) dX9_mark_14 fr_X9_9 h.1.t57 rfl h.1.p352 ?_
  refine r_alen106 dX9_mark_17 h.1.t58 ?_
  refine Wx.top (congrArg nI h.1.n58) ?_
  refine r_icmp_geN (tgt := 28) dX9_mark_18 (by decide) (by omega) (by omega) (fun h18 => ?_) (fun h18 => ?_)
  · exact absurd h18 (by omega)
  · refine r_aload_n dX9_mark_21 rfl 1 rfl ?_
    refine r_getR (ci := 11) (k := 0) (b := x + 58) dX9_mark_22 fr_X9_9 h.1.t57 rfl h.1.p352 ?_
    refine r_iload_n dX9_mark_25 rfl 0 rfl ?_
    refine r_iconst (v := nI 1) dX9_mark_26 (by decide) ?_
    refine r_zast dX9_mark_27 h.1.t58 (by rw [show zN S (x + 58) = 4800 from h.1.n58]; exact vp_in_nI (by omega) (by decide)) ?_
    refine Wx.st' (S' := uA S (x + 58) (l * 200 + u) (nI (1))) (by rw [nI_clamp (by omega)]; rfl) ?_
    refine Wx.gp (fun T => XF F S0 T w x K (up2 E (1000 + (l * 200 + u)) (58) (1)) A c bx bu) (h.AA (i := l * 200 + u) (by decide)) (fun T (hx : XF F S0 T w x K (up2 E (1000 + (l * 200 + u)) (58) (1)) A c bx bu) => ?_)
    exact r_vret dX9_mark_28 rfl ⟨rfl, hx⟩
set_option maxRecDepth 4000 in
set_option maxHeartbeats 400000 in
theorem x_mark_no {G : GI} {F : Nat → Prop} {S0 S : Hp} {w : Nat → Nat} {x : Nat} {K : Nat → Nat} {E : Nat → Nat → Nat} {A c : Nat → Nat → Nat} {bx bu : Nat} (h : XF F S0 S w x K E A c bx bu) : Fn m_X9_mark G [.ref (x + 57), .int (nI (0)), .int ((-1))] S none S := by
  refine Cn.of rfl (by decide) (Nat.le_of_ble_eq_true rfl) (fun hN hM => ?_)
  show Wx _ G _ 0 [(0, .ref (x + 57)), (1, .int (nI (0))), (2, .int ((-1)))] [] _
  refine r_iload_n dX9_mark_0 rfl 1 rfl ?_
  refine r_sipush (v := nI 200) dX9_mark_1 (by decide) ?_
  refine r_imulN dX9_mark_4 ?_
  refine r_iload_n dX9_mark_5 rfl 2 rfl ?_
  refine r_iadd dX9_mark_6 ?_
  refine r_istore_n (lv' := [(3, .int ((nI 0) + ((-1)))), (0, .ref (x + 57)), (1, .int (nI (0))), (2, .int ((-1)))]) dX9_mark_7 rfl (by decide) rfl ?_
  refine r_iload_n dX9_mark_8 rfl 0 rfl ?_
  refine r_if_lt (tgt := 28) dX9_mark_9 (by decide) (fun h9 => ?_) (fun h9 => ?_)
  · exact r_vret dX9_mark_28 rfl ⟨rfl, rfl⟩
  · exact absurd (by decide) h9
set_option maxRecDepth 4000 in
set_option maxHeartbeats 400000 in
theorem x_follow {G : GI} {F : Nat → Prop} {S0 S : Hp} {w : Nat → Nat} {x : Nat} {K : Nat → Nat} {E : Nat → Nat → Nat} {A c : Nat → Nat → Nat} {bx bu : Nat} (h : XF F S0 S w x K E A c bx bu) (hk0 : K 0 < 11) {g : Nat → Nat} {N a : Nat} {Mk : Nat → Prop} (hr : Hol (A (K 0)) (c (K 0)) g N) (ha : a < g 0) (hmk : MarkP g a Mk) : Cn m_X9_follow G [.ref (x + 57), .ref (Pl x (K 0)), .int (nI a)] S (fun r T => r = .inl none ∧ ∃ E1, XF F S0 T w x K E1 A c bx bu ∧ RE E E1 (c (K 0)) g a Mk (g 0) 0) := by
  refine Cn.of rfl (by decide) (Nat.le_of_ble_eq_true rfl) (fun hN hM => ?_)
  show Wx _ G _ 0 [(0, .ref (x + 57)), (1, .ref (Pl x (K 0))), (2, .int (nI (a)))] [] _
  have h24 := hr.1.n24
  refine r_iconst (v := nI 0) dX9_follow_0 (by decide) ?_
  refine r_istore_n (lv' := [(3, .int (nI (0))), (0, .ref (x + 57)), (1, .ref (Pl x (K 0))), (2, .int (nI (a)))]) dX9_follow_1 rfl (by decide) rfl ?_
  refine Wx.sub [1, 2, 3, 0] rfl ?_
  refine Wx.loopR (fun i T lv => ∃ E1, XF F S0 T w x K E1 A c bx bu ∧ (∀ f b, b ≠ 57 → b ≠ 58 → E1 f b = E f b) ∧ (∀ j, j < i → E1 (1000 + j) 58 = 0) ∧ lv = [(0, .ref (x + 57)), (1, .ref (Pl x (K 0))), (2, .int (nI (a))), (3, .int (nI (i)))]) 4800 0 (Nat.zero_le _) ⟨E, h, fun _ _ _ _ => rfl, fun j hj => absurd hj (Nat.not_lt_zero j), rfl⟩ (fun i T lv hge hle hI9 next => ?_)
  obtain ⟨E1, h, hO, hZ, rfl⟩ := hI9
  refine r_iload_n dX9_follow_2 rfl 3 rfl ?_
  refine r_aload_n dX9_follow_3 rfl 0 rfl ?_
  refine r_getR (ci := 11) (k := 0) (b := x + 58) dX9_follow_4 fr_X9_9 h.1.t57 rfl h.1.p352 ?_
  refine r_alen106 dX9_follow_7 h.1.t58 ?_
  refine Wx.top (congrArg nI h.1.n58) ?_
  refine r_icmp_geN (tgt := 24) dX9_follow_8 (by decide) (by (first | omega | decide | (have hq1 : setM Mk l u (recI g Mk l) < 2 ^ 24 := setM_lt (by omega) (recI_lt (by omega)); have hq2 : 2 ^ l ≤ 2 ^ 23 := Nat.pow_le_pow_right (by decide) (by omega); omega))) (by (first | omega | decide | (have hq1 : setM Mk l u (recI g Mk l) < 2 ^ 24 := setM_lt (by omega) (recI_lt (by omega)); have hq2 : 2 ^ l ≤ 2 ^ 23 := Nat.pow_le_pow_right (by decide) (by omega); omega))) (fun h8 => ?_) (fun h8 => ?_)
  · obtain rfl : i = 4800 := by omega
    refine r_aload_n dX9_follow_24 rfl 0 rfl ?_
    refine r_iconst (v := nI 0) dX9_follow_25 (by decide) ?_
    refine r_putI (ci := 11) (k := 1) dX9_follow_26 fw_X9_follow_15 h.1.t57 rfl rfl rfl ?_
    refine Wx.gp (fun T => XF F S0 T w x K (up2 E1 353 (57) (0)) A c bx bu) (h.I (f := 353) (by decide) (by decide) (by decide)) (fun T (hx : XF F S0 T w x K (up2 E1 353 (57) (0)) A c bx bu) => ?_)
    refine r_iload_n dX9_follow_29 rfl 2 rfl ?_
    refine r_istore_n (lv' := [(3, .int (nI (a))), (0, .ref (x + 57)), (1, .ref (Pl x (K 0))), (2, .int (nI (a)))]) dX9_follow_30 rfl (by decide) rfl ?_
    refine Wx.sub [1, 2, 3, 0] rfl ?_
    refine Wx.loopR (fun l T lv => ∃ E1, XF F S0 T w x K E1 A c bx bu ∧ RE E E1 (c (K 0)) g a Mk l 0 ∧ lv = [(0, .ref (x + 57)), (1, .ref (Pl x (K 0))), (2, .int (nI (a))), (3, .int (nI (l)))]) (g 0) a (Nat.le_of_lt ha) ⟨_, hx, RE.init hr.1 hmk ha (fun f b b1 b2 => (u2_n (by omega)).trans (hO f b b1 b2)) u2_s (fun j hj => (u2_n (by omega)).trans (hZ j hj)), rfl⟩ (fun l T lv hge2 hle2 hI9 next2 => ?_)
    obtain ⟨E1, h, hR, rfl⟩ := hI9
    refine r_iload_n dX9_follow_31 rfl 3 rfl ?_
    refine r_aload_n dX9_follow_32 rfl 1 rfl ?_
    refine r_getI (ci := 9) (k := 5) dX9_follow_33 fr_X9_19 (h.1.off' (by (first | omega | decide | (have hq1 : setM Mk l u (recI g Mk l) < 2 ^ 24 := setM_lt (by omega) (recI_lt (by omega)); have hq2 : 2 ^ l ≤ 2 ^ 23 := Nat.pow_le_pow_right (by decide) (by omega); omega)))).1.1 rfl ?_
    refine Wx.top ((h.1.off' hk0).o0) ?_
    refine Wx.topN hr.1.c0 ?_
    refine r_icmp_geN (tgt := 138) dX9_follow_36 (by decide) (by (first | omega | decide | (have hq1 : setM Mk l u (recI g Mk l) < 2 ^ 24 := setM_lt (by omega) (recI_lt (by omega)); have hq2 : 2 ^ l ≤ 2 ^ 23 := Nat.pow_le_pow_right (by decide) (by omega); omega))) (by (first | omega | decide | (have hq1 : setM Mk l u (recI g Mk l) < 2 ^ 24 := setM_lt (by omega) (recI_lt (by omega)); have hq2 : 2 ^ l ≤ 2 ^ 23 := Nat.pow_le_pow_right (by decide) (by omega); omega))) (fun h36 => ?_) (fun h36 => ?_)
    · obtain rfl : l = g 0 := by omega
      exact r_vret dX9_follow_138 rfl ⟨rfl, _, h, hR⟩
    · have hl : l < g 0 := by omega
      have hl24 : l < 24 := by omega
      have hAl : A (K 0) l ≠ 0 := hr.2 l hl
      have hL := hr.1.lot hl
      have hz := hL.z
      refine r_aload_n dX9_follow_39 rfl 1 rfl ?_
      refine r_iload_n dX9_follow_40 rfl 3 rfl ?_
      refine r_fnV (M2 := m_X7_lotAt) (As := [.int (nI (l))]) (rest := []) (v := some (.ref (A (K 0) l))) dX9_follow_41 cc_X9_follow_24 rfl rfl rfl (Nat.le_of_ble_eq_true rfl) (h.1.off' (by (first | omega | decide | (have hq1 : setM Mk l u (recI g Mk l) < 2 ^ 24 := setM_lt (by omega) (recI_lt (by omega)); have hq2 : 2 ^ l ≤ 2 ^ 23 := Nat.pow_le_pow_right (by decide) (by omega); omega)))).1.1 rfl rfl (by decide) (o_lotAt (h.1.off' hk0) hr.1 hr.2 (l := l) hl) rfl ?_
      refine r_astore (lv' := [(4, .ref (A (K 0) l)), (0, .ref (x + 57)), (1, .ref (Pl x (K 0))), (2, .int (nI (a))), (3, .int (nI (l)))]) dX9_follow_44 (by decide) rfl ?_
      refine r_iconst (v := nI 0) dX9_follow_46 (by decide) ?_
      refine r_istore (lv' := [(5, .int (nI (0))), (4, .ref (A (K 0) l)), (0, .ref (x + 57)), (1, .ref (Pl x (K 0))), (2, .int (nI (a))), (3, .int (nI (l)))]) dX9_follow_47 (by decide) rfl ?_
      refine Wx.sub [2, 3, 4, 5, 1, 0] rfl ?_
      refine Wx.loopR (fun u T lv => ∃ E1, XF F S0 T w x K E1 A c bx bu ∧ RE E E1 (c (K 0)) g a Mk l u ∧ lv = [(0, .ref (x + 57)), (1, .ref (Pl x (K 0))), (2, .int (nI (a))), (3, .int (nI (l))), (4, .ref (A (K 0) l)), (5, .int (nI (u)))]) (g (90 + 13 * l + 1)) 0 (Nat.zero_le _) ⟨_, h, hR, rfl⟩ (fun u T lv hge3 hle3 hI9 next3 => ?_)
      obtain ⟨E1, h, hR, rfl⟩ := hI9
      refine r_aload dX9_follow_49 4 rfl ?_
      refine r_ifnull dX9_follow_51 ?_
      refine r_iload dX9_follow_54 5 rfl ?_
      refine r_aload dX9_follow_56 4 rfl ?_
      refine r_getI (ci := 7) (k := 2) dX9_follow_58 fr_X9_28 ((h.1.off' hk0).lo hl24 hAl).2.1 rfl ?_
      refine Wx.top ((h.1.off' hk0).l2 hl24 hAl) ?_
      refine Wx.topN (hL.h (f := 1) (by decide)) ?_
      refine r_icmp_geN (tgt := 132) dX9_follow_61 (by decide) (by (first | omega | decide | (have hq1 : setM Mk l u (recI g Mk l) < 2 ^ 24 := setM_lt (by omega) (recI_lt (by omega)); have hq2 : 2 ^ l ≤ 2 ^ 23 := Nat.pow_le_pow_right (by decide) (by omega); omega))) (by (first | omega | decide | (have hq1 : setM Mk l u (recI g Mk l) < 2 ^ 24 := setM_lt (by omega) (recI_lt (by omega)); have hq2 : 2 ^ l ≤ 2 ^ 23 := Nat.pow_le_pow_right (by decide) (by omega); omega))) (fun h61 => ?_) (fun h61 => ?_)
      · refine r_iincN (k := 1) (lv' := [(3, .int (nI (l + 1))), (0, .ref (x + 57)), (1, .ref (Pl x (K 0))), (2, .int (nI (a))), (4, .ref (A (K 0) l)), (5, .int (nI (u)))]) dX9_follow_132 (by decide) 3 rfl (by decide) rfl ?_
        refine r_goto (tgt := 31) dX9_follow_135 (by decide) ?_
        refine Wx.sub [1, 2, 3, 0] rfl ?_
        have hu9 : u = g (90 + 13 * l + 1) := by omega
        rw [hu9] at hR
        exact next2 _ _ (by omega) ⟨_, h, hR.row, rfl⟩
      · have hu : u < g (90 + 13 * l + 1) := by omega
        refine r_iload_n dX9_follow_64 rfl 3 rfl ?_
        refine r_iload_n dX9_follow_65 rfl 2 rfl ?_
        refine r_icmp_eqN (tgt := 79) dX9_follow_66 (by decide) (by (first | omega | decide | (have hq1 : setM Mk l u (recI g Mk l) < 2 ^ 24 := setM_lt (by omega) (recI_lt (by omega)); have hq2 : 2 ^ l ≤ 2 ^ 23 := Nat.pow_le_pow_right (by decide) (by omega); omega))) (by (first | omega | decide | (have hq1 : setM Mk l u (recI g Mk l) < 2 ^ 24 := setM_lt (by omega) (recI_lt (by omega)); have hq2 : 2 ^ l ≤ 2 ^ 23 := Nat.pow_le_pow_right (by decide) (by omega); omega))) (fun h66 => ?_) (fun h66 => ?_)
        · have hMk : Mk (200 * l + u) := (RQ_now hr.1 hmk hl hu).mp (Or.inl h66)
          refine r_aload_n dX9_follow_79 rfl 0 rfl ?_
          refine r_dup dX9_follow_80 rfl ?_
          refine r_getI (ci := 11) (k := 1) dX9_follow_81 fr_X9_15 h.1.t57 rfl ?_
          refine Wx.top (h.1.i (f := 353) (by decide) (by decide)) ?_
          refine Wx.topN hR.2.1 ?_
          refine r_iconst (v := nI 1) dX9_follow_84 (by decide) ?_
          refine r_iload_n dX9_follow_85 rfl 3 rfl ?_
          refine r_ishlN dX9_follow_86 (by (first | omega | decide | (have hq1 : setM Mk l u (recI g Mk l) < 2 ^ 24 := setM_lt (by omega) (recI_lt (by omega)); have hq2 : 2 ^ l ≤ 2 ^ 23 := Nat.pow_le_pow_right (by decide) (by omega); omega))) (by (first | omega | decide | (have hq1 : setM Mk l u (recI g Mk l) < 2 ^ 24 := setM_lt (by omega) (recI_lt (by omega)); have hq2 : 2 ^ l ≤ 2 ^ 23 := Nat.pow_le_pow_right (by decide) (by omega); omega))) ?_
          refine r_iorN dX9_follow_87 (by (first | omega | decide | (have hq1 : setM Mk l u (recI g Mk l) < 2 ^ 24 := setM_lt (by omega) (recI_lt (by omega)); have hq2 : 2 ^ l ≤ 2 ^ 23 := Nat.pow_le_pow_right (by decide) (by omega); omega))) (by (first | omega | decide | (have hq1 : setM Mk l u (recI g Mk l) < 2 ^ 24 := setM_lt (by omega) (recI_lt (by omega)); have hq2 : 2 ^ l ≤ 2 ^ 23 := Nat.pow_le_pow_right (by decide) (by omega); omega))) ?_
          refine r_putI (ci := 11) (k := 1) dX9_follow_88 fw_X9_follow_15 h.1.t57 rfl rfl rfl ?_
          refine Wx.gp (fun T => XF F S0 T w x K (up2 E1 353 (57) ((setM Mk l u (recI g Mk l)) ||| (1 * 2 ^ l))) A c bx bu) (h.I (f := 353) (by decide) (by decide) (by decide)) (fun T_1 (hx_1 : XF F S0 T_1 w x K (up2 E1 353 (57) ((setM Mk l u (recI g Mk l)) ||| (1 * 2 ^ l))) A c bx bu) => ?_)
          refine r_aload_n dX9_follow_91 rfl 0 rfl ?_
          refine r_iload_n dX9_follow_92 rfl 3 rfl ?_
          refine r_iload dX9_follow_93 5 rfl ?_
          refine r_callV (M2 := m_X9_mark) (As := [.int (nI (l)), .int (nI (u))]) (rest := []) dX9_follow_95 cc_X9_follow_37 rfl rfl rfl (Nat.le_of_ble_eq_true rfl) hx_1.1.t57 rfl rfl (by decide) (x_mark hx_1 (l := l) (u := u) (by omega) (by omega)) (fun v9 T_2 hq => ?_) (fun E9 T9 hq => by cases hq.1)
          obtain ⟨hv9, hx_2⟩ := hq
          cases hv9
          show Wx _ G T_2 98 [(0, .ref (x + 57)), (1, .ref (Pl x (K 0))), (2, .int (nI (a))), (3, .int (nI (l))), (4, .ref (A (K 0) l)), (5, .int (nI (u)))] [] _
          rcases used_place hr.1 hl hu with ⟨L', U', k', q1, q2, q3, q4, q5, he⟩ | he
          · have hz' := (hr.1.lot q1).z
            have hL24 : L' < 24 := Nat.lt_of_lt_of_le q1 hr.1.n24
            refine r_aload_n dX9_follow_98 rfl 0 rfl ?_
            refine r_aload dX9_follow_99 4 rfl ?_
            refine r_getR (ci := 7) (k := 15) (b := A (K 0) l + 6) dX9_follow_101 fr_X9_41 ((hx_2.1.off' hk0).lo hl24 hAl).2.1 rfl ((hx_2.1.off' hk0).lo hl24 hAl).2.2.1.2.2.2.2.2.1 ?_
            refine r_iload dX9_follow_104 5 rfl ?_
            refine r_iald dX9_follow_106 ((hx_2.1.off' hk0).lo hl24 hAl).2.2.2.2.2.2.2.2.1.1 (by rw [show zN T_2 (A (K 0) l + 6) = 200 from ((hx_2.1.off' hk0).lo hl24 hAl).2.2.2.2.2.2.2.2.1.2]; exact vp_in_nI (by (first | omega | decide | (have hq1 : setM Mk l u (recI g Mk l) < 2 ^ 24 := setM_lt (by omega) (recI_lt (by omega)); have hq2 : 2 ^ l ≤ 2 ^ 23 := Nat.pow_le_pow_right (by decide) (by omega); omega))) (by decide)) ?_
            refine Wx.top (congrArg (zA _ _) (nI_clamp (by (first | omega | decide | (have hq1 : setM Mk l u (recI g Mk l) < 2 ^ 24 := setM_lt (by omega) (recI_lt (by omega)); have hq2 : 2 ^ l ≤ 2 ^ 23 := Nat.pow_le_pow_right (by decide) (by omega); omega))))) ?_
            refine Wx.top ((hx_2.1.off' hk0).u4 hl24 hAl (by (first | omega | decide | (have hq1 : setM Mk l u (recI g Mk l) < 2 ^ 24 := setM_lt (by omega) (recI_lt (by omega)); have hq2 : 2 ^ l ≤ 2 ^ 23 := Nat.pow_le_pow_right (by decide) (by omega); omega)))) ?_
            refine Wx.topN he ?_
            refine r_sipush (v := nI 1000) dX9_follow_107 (by decide) ?_
            refine r_idivN dX9_follow_110 (by (first | omega | decide | (have hq1 : setM Mk l u (recI g Mk l) < 2 ^ 24 := setM_lt (by omega) (recI_lt (by omega)); have hq2 : 2 ^ l ≤ 2 ^ 23 := Nat.pow_le_pow_right (by decide) (by omega); omega))) (by (first | omega | decide | (have hq1 : setM Mk l u (recI g Mk l) < 2 ^ 24 := setM_lt (by omega) (recI_lt (by omega)); have hq2 : 2 ^ l ≤ 2 ^ 23 := Nat.pow_le_pow_right (by decide) (by omega); omega))) (by (first | omega | decide | (have hq1 : setM Mk l u (recI g Mk l) < 2 ^ 24 := setM_lt (by omega) (recI_lt (by omega)); have hq2 : 2 ^ l ≤ 2 ^ 23 := Nat.pow_le_pow_right (by decide) (by omega); omega))) ?_
            refine Wx.topN (show (1000 * L' + U') / 1000 = L' by omega) ?_
            refine r_aload dX9_follow_111 4 rfl ?_
            refine r_getR (ci := 7) (k := 15) (b := A (K 0) l + 6) dX9_follow_113 fr_X9_41 ((hx_2.1.off' hk0).lo hl24 hAl).2.1 rfl ((hx_2.1.off' hk0).lo hl24 hAl).2.2.1.2.2.2.2.2.1 ?_
            refine r_iload dX9_follow_116 5 rfl ?_
            refine r_iald dX9_follow_118 ((hx_2.1.off' hk0).lo hl24 hAl).2.2.2.2.2.2.2.2.1.1 (by rw [show zN T_2 (A (K 0) l + 6) = 200 from ((hx_2.1.off' hk0).lo hl24 hAl).2.2.2.2.2.2.2.2.1.2]; exact vp_in_nI (by (first | omega | decide | (have hq1 : setM Mk l u (recI g Mk l) < 2 ^ 24 := setM_lt (by omega) (recI_lt (by omega)); have hq2 : 2 ^ l ≤ 2 ^ 23 := Nat.pow_le_pow_right (by decide) (by omega); omega))) (by decide)) ?_
            refine Wx.top (congrArg (zA _ _) (nI_clamp (by (first | omega | decide | (have hq1 : setM Mk l u (recI g Mk l) < 2 ^ 24 := setM_lt (by omega) (recI_lt (by omega)); have hq2 : 2 ^ l ≤ 2 ^ 23 := Nat.pow_le_pow_right (by decide) (by omega); omega))))) ?_
            refine Wx.top ((hx_2.1.off' hk0).u4 hl24 hAl (by (first | omega | decide | (have hq1 : setM Mk l u (recI g Mk l) < 2 ^ 24 := setM_lt (by omega) (recI_lt (by omega)); have hq2 : 2 ^ l ≤ 2 ^ 23 := Nat.pow_le_pow_right (by decide) (by omega); omega)))) ?_
            refine Wx.topN he ?_
            refine r_sipush (v := nI 1000) dX9_follow_119 (by decide) ?_
            refine r_iremN dX9_follow_122 (by (first | omega | decide | (have hq1 : setM Mk l u (recI g Mk l) < 2 ^ 24 := setM_lt (by omega) (recI_lt (by omega)); have hq2 : 2 ^ l ≤ 2 ^ 23 := Nat.pow_le_pow_right (by decide) (by omega); omega))) (by (first | omega | decide | (have hq1 : setM Mk l u (recI g Mk l) < 2 ^ 24 := setM_lt (by omega) (recI_lt (by omega)); have hq2 : 2 ^ l ≤ 2 ^ 23 := Nat.pow_le_pow_right (by decide) (by omega); omega))) (by (first | omega | decide | (have hq1 : setM Mk l u (recI g Mk l) < 2 ^ 24 := setM_lt (by omega) (recI_lt (by omega)); have hq2 : 2 ^ l ≤ 2 ^ 23 := Nat.pow_le_pow_right (by decide) (by omega); omega))) ?_
            refine Wx.topN (show (1000 * L' + U') % 1000 = U' by omega) ?_
            refine r_callV (M2 := m_X9_mark) (As := [.int (nI (L')), .int (nI (U'))]) (rest := []) dX9_follow_123 cc_X9_follow_37 rfl rfl rfl (Nat.le_of_ble_eq_true rfl) hx_2.1.t57 rfl rfl (by decide) (x_mark hx_2 (l := L') (u := U') (by omega) (by omega)) (fun v9 T_3 hq => ?_) (fun E9 T9 hq => by cases hq.1)
            obtain ⟨hv9, hx_3⟩ := hq
            cases hv9
            show Wx _ G T_3 126 [(0, .ref (x + 57)), (1, .ref (Pl x (K 0))), (2, .int (nI (a))), (3, .int (nI (l))), (4, .ref (A (K 0) l)), (5, .int (nI (u)))] [] _
            refine r_iincN (k := 1) (lv' := [(5, .int (nI (u + 1))), (0, .ref (x + 57)), (1, .ref (Pl x (K 0))), (2, .int (nI (a))), (3, .int (nI (l))), (4, .ref (A (K 0) l))]) dX9_follow_126 (by decide) 5 rfl (by decide) rfl ?_
            refine r_goto (tgt := 49) dX9_follow_129 (by decide) ?_
            refine Wx.sub [1, 2, 3, 4, 5, 0] rfl ?_
            exact next3 _ _ (by omega) ⟨_, hx_3, hR.two hr.1 hmk hl hu hMk (by omega) (by omega) he, rfl⟩
          · refine r_aload_n dX9_follow_98 rfl 0 rfl ?_
            refine r_aload dX9_follow_99 4 rfl ?_
            refine r_getR (ci := 7) (k := 15) (b := A (K 0) l + 6) dX9_follow_101 fr_X9_41 ((hx_2.1.off' hk0).lo hl24 hAl).2.1 rfl ((hx_2.1.off' hk0).lo hl24 hAl).2.2.1.2.2.2.2.2.1 ?_
            refine r_iload dX9_follow_104 5 rfl ?_
            refine r_iald dX9_follow_106 ((hx_2.1.off' hk0).lo hl24 hAl).2.2.2.2.2.2.2.2.1.1 (by rw [show zN T_2 (A (K 0) l + 6) = 200 from ((hx_2.1.off' hk0).lo hl24 hAl).2.2.2.2.2.2.2.2.1.2]; exact vp_in_nI (by (first | omega | decide | (have hq1 : setM Mk l u (recI g Mk l) < 2 ^ 24 := setM_lt (by omega) (recI_lt (by omega)); have hq2 : 2 ^ l ≤ 2 ^ 23 := Nat.pow_le_pow_right (by decide) (by omega); omega))) (by decide)) ?_
            refine Wx.top (congrArg (zA _ _) (nI_clamp (by (first | omega | decide | (have hq1 : setM Mk l u (recI g Mk l) < 2 ^ 24 := setM_lt (by omega) (recI_lt (by omega)); have hq2 : 2 ^ l ≤ 2 ^ 23 := Nat.pow_le_pow_right (by decide) (by omega); omega))))) ?_
            refine Wx.top ((hx_2.1.off' hk0).u4 hl24 hAl (by (first | omega | decide | (have hq1 : setM Mk l u (recI g Mk l) < 2 ^ 24 := setM_lt (by omega) (recI_lt (by omega)); have hq2 : 2 ^ l ≤ 2 ^ 23 := Nat.pow_le_pow_right (by decide) (by omega); omega)))) ?_
            refine Wx.top (show nI (c (K 0) (402 + 8 * (200 * l + u) + 4)) = (-1) from by rw [he]; exact nI_m1) ?_
            refine r_sipush (v := nI 1000) dX9_follow_107 (by decide) ?_
            refine r_idiv dX9_follow_110 (by (first | omega | decide | (have hq1 : setM Mk l u (recI g Mk l) < 2 ^ 24 := setM_lt (by omega) (recI_lt (by omega)); have hq2 : 2 ^ l ≤ 2 ^ 23 := Nat.pow_le_pow_right (by decide) (by omega); omega))) ?_
            refine Wx.top (show (-1 : Int32) / (nI 1000) = nI 0 by decide) ?_
            refine r_aload dX9_follow_111 4 rfl ?_
            refine r_getR (ci := 7) (k := 15) (b := A (K 0) l + 6) dX9_follow_113 fr_X9_41 ((hx_2.1.off' hk0).lo hl24 hAl).2.1 rfl ((hx_2.1.off' hk0).lo hl24 hAl).2.2.1.2.2.2.2.2.1 ?_
            refine r_iload dX9_follow_116 5 rfl ?_
            refine r_iald dX9_follow_118 ((hx_2.1.off' hk0).lo hl24 hAl).2.2.2.2.2.2.2.2.1.1 (by rw [show zN T_2 (A (K 0) l + 6) = 200 from ((hx_2.1.off' hk0).lo hl24 hAl).2.2.2.2.2.2.2.2.1.2]; exact vp_in_nI (by (first | omega | decide | (have hq1 : setM Mk l u (recI g Mk l) < 2 ^ 24 := setM_lt (by omega) (recI_lt (by omega)); have hq2 : 2 ^ l ≤ 2 ^ 23 := Nat.pow_le_pow_right (by decide) (by omega); omega))) (by decide)) ?_
            refine Wx.top (congrArg (zA _ _) (nI_clamp (by (first | omega | decide | (have hq1 : setM Mk l u (recI g Mk l) < 2 ^ 24 := setM_lt (by omega) (recI_lt (by omega)); have hq2 : 2 ^ l ≤ 2 ^ 23 := Nat.pow_le_pow_right (by decide) (by omega); omega))))) ?_
            refine Wx.top ((hx_2.1.off' hk0).u4 hl24 hAl (by (first | omega | decide | (have hq1 : setM Mk l u (recI g Mk l) < 2 ^ 24 := setM_lt (by omega) (recI_lt (by omega)); have hq2 : 2 ^ l ≤ 2 ^ 23 := Nat.pow_le_pow_right (by decide) (by omega); omega)))) ?_
            refine Wx.top (show nI (c (K 0) (402 + 8 * (200 * l + u) + 4)) = (-1) from by rw [he]; exact nI_m1) ?_
            refine r_sipush (v := nI 1000) dX9_follow_119 (by decide) ?_
            refine r_irem dX9_follow_122 (by (first | omega | decide | (have hq1 : setM Mk l u (recI g Mk l) < 2 ^ 24 := setM_lt (by omega) (recI_lt (by omega)); have hq2 : 2 ^ l ≤ 2 ^ 23 := Nat.pow_le_pow_right (by decide) (by omega); omega))) ?_
            refine Wx.top (show (-1 : Int32) - (-1) / (nI 1000) * (nI 1000) = (-1) by decide) ?_
            refine r_fnV (M2 := m_X9_mark) (As := [.int (nI (0)), .int ((-1))]) (rest := []) (v := none) dX9_follow_123 cc_X9_follow_37 rfl rfl rfl (Nat.le_of_ble_eq_true rfl) hx_2.1.t57 rfl rfl (by decide) (x_mark_no hx_2) rfl ?_
            refine r_iincN (k := 1) (lv' := [(5, .int (nI (u + 1))), (0, .ref (x + 57)), (1, .ref (Pl x (K 0))), (2, .int (nI (a))), (3, .int (nI (l))), (4, .ref (A (K 0) l))]) dX9_follow_126 (by decide) 5 rfl (by decide) rfl ?_
            refine r_goto (tgt := 49) dX9_follow_129 (by decide) ?_
            refine Wx.sub [1, 2, 3, 4, 5, 0] rfl ?_
            exact next3 _ _ (by omega) ⟨_, hx_2, hR.one hr.1 hmk hl hu hMk he, rfl⟩
        · refine r_aload_n dX9_follow_69 rfl 0 rfl ?_
          refine r_iload_n dX9_follow_70 rfl 3 rfl ?_
          refine r_iload dX9_follow_71 5 rfl ?_
          refine r_fnV (M2 := m_X9_isMarked) (As := [.int (nI (l)), .int (nI (u))]) (rest := []) (v := some (.int (bI (RQ (c (K 0)) g a Mk l u (l * 200 + u))))) dX9_follow_73 cc_X9_follow_33 rfl rfl rfl (Nat.le_of_ble_eq_true rfl) h.1.t57 rfl rfl (by decide) (x_isMarked h hl24 (by omega) (hR.2.2 (l * 200 + u) (by omega))) rfl ?_
          refine r_if_eqB (tgt := 126) dX9_follow_76 (by decide) (fun h76 => ?_) (fun h76 => ?_)
          · refine r_iincN (k := 1) (lv' := [(5, .int (nI (u + 1))), (0, .ref (x + 57)), (1, .ref (Pl x (K 0))), (2, .int (nI (a))), (3, .int (nI (l))), (4, .ref (A (K 0) l))]) dX9_follow_126 (by decide) 5 rfl (by decide) rfl ?_
            refine r_goto (tgt := 49) dX9_follow_129 (by decide) ?_
            refine Wx.sub [1, 2, 3, 4, 5, 0] rfl ?_
            exact next3 _ _ (by omega) ⟨_, h, hR.skip hz (fun q => ((RQ_now hr.1 hmk hl hu).mpr q).elim h66 h76), rfl⟩
          · have hMk : Mk (200 * l + u) := (RQ_now hr.1 hmk hl hu).mp (Or.inr h76)
            refine r_aload_n dX9_follow_79 rfl 0 rfl ?_
            refine r_dup dX9_follow_80 rfl ?_
            refine r_getI (ci := 11) (k := 1) dX9_follow_81 fr_X9_15 h.1.t57 rfl ?_
            refine Wx.top (h.1.i (f := 353) (by decide) (by decide)) ?_
            refine Wx.topN hR.2.1 ?_
            refine r_iconst (v := nI 1) dX9_follow_84 (by decide) ?_
            refine r_iload_n dX9_follow_85 rfl 3 rfl ?_
            refine r_ishlN dX9_follow_86 (by (first | omega | decide | (have hq1 : setM Mk l u (recI g Mk l) < 2 ^ 24 := setM_lt (by omega) (recI_lt (by omega)); have hq2 : 2 ^ l ≤ 2 ^ 23 := Nat.pow_le_pow_right (by decide) (by omega); omega))) (by (first | omega | decide | (have hq1 : setM Mk l u (recI g Mk l) < 2 ^ 24 := setM_lt (by omega) (recI_lt (by omega)); have hq2 : 2 ^ l ≤ 2 ^ 23 := Nat.pow_le_pow_right (by decide) (by omega); omega))) ?_
            refine r_iorN dX9_follow_87 (by (first | omega | decide | (have hq1 : setM Mk l u (recI g Mk l) < 2 ^ 24 := setM_lt (by omega) (recI_lt (by omega)); have hq2 : 2 ^ l ≤ 2 ^ 23 := Nat.pow_le_pow_right (by decide) (by omega); omega))) (by (first | omega | decide | (have hq1 : setM Mk l u (recI g Mk l) < 2 ^ 24 := setM_lt (by omega) (recI_lt (by omega)); have hq2 : 2 ^ l ≤ 2 ^ 23 := Nat.pow_le_pow_right (by decide) (by omega); omega))) ?_
            refine r_putI (ci := 11) (k := 1) dX9_follow_88 fw_X9_follow_15 h.1.t57 rfl rfl rfl ?_
            refine Wx.gp (fun T => XF F S0 T w x K (up2 E1 353 (57) ((setM Mk l u (recI g Mk l)) ||| (1 * 2 ^ l))) A c bx bu) (h.I (f := 353) (by decide) (by decide) (by decide)) (fun T_4 (hx_4 : XF F S0 T_4 w x K (up2 E1 353 (57) ((setM Mk l u (recI g Mk l)) ||| (1 * 2 ^ l))) A c bx bu) => ?_)
            refine r_aload_n dX9_follow_91 rfl 0 rfl ?_
            refine r_iload_n dX9_follow_92 rfl 3 rfl ?_
            refine r_iload dX9_follow_93 5 rfl ?_
            refine r_callV (M2 := m_X9_mark) (As := [.int (nI (l)), .int (nI (u))]) (rest := []) dX9_follow_95 cc_X9_follow_37 rfl rfl rfl (Nat.le_of_ble_eq_true rfl) hx_4.1.t57 rfl rfl (by decide) (x_mark hx_4 (l := l) (u := u) (by omega) (by omega)) (fun v9 T_5 hq => ?_) (fun E9 T9 hq => by cases hq.1)
            obtain ⟨hv9, hx_5⟩ := hq
            cases hv9
            show Wx _ G T_5 98 [(0, .ref (x + 57)), (1, .ref (Pl x (K 0))), (2, .int (nI (a))), (3, .int (nI (l))), (4, .ref (A (K 0) l)), (5, .int (nI (u)))] [] _
            rcases used_place hr.1 hl hu with ⟨L', U', k', q1, q2, q3, q4, q5, he⟩ | he
            · have hz' := (hr.1.lot q1).z
              have hL24 : L' < 24 := Nat.lt_of_lt_of_le q1 hr.1.n24
              refine r_aload_n dX9_follow_98 rfl 0 rfl ?_
              refine r_aload dX9_follow_99 4 rfl ?_
              refine r_getR (ci := 7) (k := 15) (b := A (K 0) l + 6) dX9_follow_101 fr_X9_41 ((hx_5.1.off' hk0).lo hl24 hAl).2.1 rfl ((hx_5.1.off' hk0).lo hl24 hAl).2.2.1.2.2.2.2.2.1 ?_
              refine r_iload dX9_follow_104 5 rfl ?_
              refine r_iald dX9_follow_106 ((hx_5.1.off' hk0).lo hl24 hAl).2.2.2.2.2.2.2.2.1.1 (by rw [show zN T_5 (A (K 0) l + 6) = 200 from ((hx_5.1.off' hk0).lo hl24 hAl).2.2.2.2.2.2.2.2.1.2]; exact vp_in_nI (by (first | omega | decide | (have hq1 : setM Mk l u (recI g Mk l) < 2 ^ 24 := setM_lt (by omega) (recI_lt (by omega)); have hq2 : 2 ^ l ≤ 2 ^ 23 := Nat.pow_le_pow_right (by decide) (by omega); omega))) (by decide)) ?_
              refine Wx.top (congrArg (zA _ _) (nI_clamp (by (first | omega | decide | (have hq1 : setM Mk l u (recI g Mk l) < 2 ^ 24 := setM_lt (by omega) (recI_lt (by omega)); have hq2 : 2 ^ l ≤ 2 ^ 23 := Nat.pow_le_pow_right (by decide) (by omega); omega))))) ?_
              refine Wx.top ((hx_5.1.off' hk0).u4 hl24 hAl (by (first | omega | decide | (have hq1 : setM Mk l u (recI g Mk l) < 2 ^ 24 := setM_lt (by omega) (recI_lt (by omega)); have hq2 : 2 ^ l ≤ 2 ^ 23 := Nat.pow_le_pow_right (by decide) (by omega); omega)))) ?_
              refine Wx.topN he ?_
              refine r_sipush (v := nI 1000) dX9_follow_107 (by decide) ?_
              refine r_idivN dX9_follow_110 (by (first | omega | decide | (have hq1 : setM Mk l u (recI g Mk l) < 2 ^ 24 := setM_lt (by omega) (recI_lt (by omega)); have hq2 : 2 ^ l ≤ 2 ^ 23 := Nat.pow_le_pow_right (by decide) (by omega); omega))) (by (first | omega | decide | (have hq1 : setM Mk l u (recI g Mk l) < 2 ^ 24 := setM_lt (by omega) (recI_lt (by omega)); have hq2 : 2 ^ l ≤ 2 ^ 23 := Nat.pow_le_pow_right (by decide) (by omega); omega))) (by (first | omega | decide | (have hq1 : setM Mk l u (recI g Mk l) < 2 ^ 24 := setM_lt (by omega) (recI_lt (by omega)); have hq2 : 2 ^ l ≤ 2 ^ 23 := Nat.pow_le_pow_right (by decide) (by omega); omega))) ?_
              refine Wx.topN (show (1000 * L' + U') / 1000 = L' by omega) ?_
              refine r_aload dX9_follow_111 4 rfl ?_
              refine r_getR (ci := 7) (k := 15) (b := A (K 0) l + 6) dX9_follow_113 fr_X9_41 ((hx_5.1.off' hk0).lo hl24 hAl).2.1 rfl ((hx_5.1.off' hk0).lo hl24 hAl).2.2.1.2.2.2.2.2.1 ?_
              refine r_iload dX9_follow_116 5 rfl ?_
              refine r_iald dX9_follow_118 ((hx_5.1.off' hk0).lo hl24 hAl).2.2.2.2.2.2.2.2.1.1 (by rw [show zN T_5 (A (K 0) l + 6) = 200 from ((hx_5.1.off' hk0).lo hl24 hAl).2.2.2.2.2.2.2.2.1.2]; exact vp_in_nI (by (first | omega | decide | (have hq1 : setM Mk l u (recI g Mk l) < 2 ^ 24 := setM_lt (by omega) (recI_lt (by omega)); have hq2 : 2 ^ l ≤ 2 ^ 23 := Nat.pow_le_pow_right (by decide) (by omega); omega))) (by decide)) ?_
              refine Wx.top (congrArg (zA _ _) (nI_clamp (by (first | omega | decide | (have hq1 : setM Mk l u (recI g Mk l) < 2 ^ 24 := setM_lt (by omega) (recI_lt (by omega)); have hq2 : 2 ^ l ≤ 2 ^ 23 := Nat.pow_le_pow_right (by decide) (by omega); omega))))) ?_
              refine Wx.top ((hx_5.1.off' hk0).u4 hl24 hAl (by (first | omega | decide | (have hq1 : setM Mk l u (recI g Mk l) < 2 ^ 24 := setM_lt (by omega) (recI_lt (by omega)); have hq2 : 2 ^ l ≤ 2 ^ 23 := Nat.pow_le_pow_right (by decide) (by omega); omega)))) ?_
              refine Wx.topN he ?_
              refine r_sipush (v := nI 1000) dX9_follow_119 (by decide) ?_
              refine r_iremN dX9_follow_122 (by (first | omega | decide | (have hq1 : setM Mk l u (recI g Mk l) < 2 ^ 24 := setM_lt (by omega) (recI_lt (by omega)); have hq2 : 2 ^ l ≤ 2 ^ 23 := Nat.pow_le_pow_right (by decide) (by omega); omega))) (by (first | omega | decide | (have hq1 : setM Mk l u (recI g Mk l) < 2 ^ 24 := setM_lt (by omega) (recI_lt (by omega)); have hq2 : 2 ^ l ≤ 2 ^ 23 := Nat.pow_le_pow_right (by decide) (by omega); omega))) (by (first | omega | decide | (have hq1 : setM Mk l u (recI g Mk l) < 2 ^ 24 := setM_lt (by omega) (recI_lt (by omega)); have hq2 : 2 ^ l ≤ 2 ^ 23 := Nat.pow_le_pow_right (by decide) (by omega); omega))) ?_
              refine Wx.topN (show (1000 * L' + U') % 1000 = U' by omega) ?_
              refine r_callV (M2 := m_X9_mark) (As := [.int (nI (L')), .int (nI (U'))]) (rest := []) dX9_follow_123 cc_X9_follow_37 rfl rfl rfl (Nat.le_of_ble_eq_true rfl) hx_5.1.t57 rfl rfl (by decide) (x_mark hx_5 (l := L') (u := U') (by omega) (by omega)) (fun v9 T_6 hq => ?_) (fun E9 T9 hq => by cases hq.1)
              obtain ⟨hv9, hx_6⟩ := hq
              cases hv9
              show Wx _ G T_6 126 [(0, .ref (x + 57)), (1, .ref (Pl x (K 0))), (2, .int (nI (a))), (3, .int (nI (l))), (4, .ref (A (K 0) l)), (5, .int (nI (u)))] [] _
              refine r_iincN (k := 1) (lv' := [(5, .int (nI (u + 1))), (0, .ref (x + 57)), (1, .ref (Pl x (K 0))), (2, .int (nI (a))), (3, .int (nI (l))), (4, .ref (A (K 0) l))]) dX9_follow_126 (by decide) 5 rfl (by decide) rfl ?_
              refine r_goto (tgt := 49) dX9_follow_129 (by decide) ?_
              refine Wx.sub [1, 2, 3, 4, 5, 0] rfl ?_
              exact next3 _ _ (by omega) ⟨_, hx_6, hR.two hr.1 hmk hl hu hMk (by omega) (by omega) he, rfl⟩
            · refine r_aload_n dX9_follow_98 rfl 0 rfl ?_
              refine r_aload dX9_follow_99 4 rfl ?_
              refine r_getR (ci := 7) (k := 15) (b := A (K 0) l + 6) dX9_follow_101 fr_X9_41 ((hx_5.1.off' hk0).lo hl24 hAl).2.1 rfl ((hx_5.1.off' hk0).lo hl24 hAl).2.2.1.2.2.2.2.2.1 ?_
              refine r_iload dX9_follow_104 5 rfl ?_
              refine r_iald dX9_follow_106 ((hx_5.1.off' hk0).lo hl24 hAl).2.2.2.2.2.2.2.2.1.1 (by rw [show zN T_5 (A (K 0) l + 6) = 200 from ((hx_5.1.off' hk0).lo hl24 hAl).2.2.2.2.2.2.2.2.1.2]; exact vp_in_nI (by (first | omega | decide | (have hq1 : setM Mk l u (recI g Mk l) < 2 ^ 24 := setM_lt (by omega) (recI_lt (by omega)); have hq2 : 2 ^ l ≤ 2 ^ 23 := Nat.pow_le_pow_right (by decide) (by omega); omega))) (by decide)) ?_
              refine Wx.top (congrArg (zA _ _) (nI_clamp (by (first | omega | decide | (have hq1 : setM Mk l u (recI g Mk l) < 2 ^ 24 := setM_lt (by omega) (recI_lt (by omega)); have hq2 : 2 ^ l ≤ 2 ^ 23 := Nat.pow_le_pow_right (by decide) (by omega); omega))))) ?_
              refine Wx.top ((hx_5.1.off' hk0).u4 hl24 hAl (by (first | omega | decide | (have hq1 : setM Mk l u (recI g Mk l) < 2 ^ 24 := setM_lt (by omega) (recI_lt (by omega)); have hq2 : 2 ^ l ≤ 2 ^ 23 := Nat.pow_le_pow_right (by decide) (by omega); omega)))) ?_
              refine Wx.top (show nI (c (K 0) (402 + 8 * (200 * l + u) + 4)) = (-1) from by rw [he]; exact nI_m1) ?_
              refine r_sipush (v := nI 1000) dX9_follow_107 (by decide) ?_
              refine r_idiv dX9_follow_110 (by (first | omega | decide | (have hq1 : setM Mk l u (recI g Mk l) < 2 ^ 24 := setM_lt (by omega) (recI_lt (by omega)); have hq2 : 2 ^ l ≤ 2 ^ 23 := Nat.pow_le_pow_right (by decide) (by omega); omega))) ?_
              refine Wx.top (show (-1 : Int32) / (nI 1000) = nI 0 by decide) ?_
              refine r_aload dX9_follow_111 4 rfl ?_
              refine r_getR (ci := 7) (k := 15) (b := A (K 0) l + 6) dX9_follow_113 fr_X9_41 ((hx_5.1.off' hk0).lo hl24 hAl).2.1 rfl ((hx_5.1.off' hk0).lo hl24 hAl).2.2.1.2.2.2.2.2.1 ?_
              refine r_iload dX9_follow_116 5 rfl ?_
              refine r_iald dX9_follow_118 ((hx_5.1.off' hk0).lo hl24 hAl).2.2.2.2.2.2.2.2.1.1 (by rw [show zN T_5 (A (K 0) l + 6) = 200 from ((hx_5.1.off' hk0).lo hl24 hAl).2.2.2.2.2.2.2.2.1.2]; exact vp_in_nI (by (first | omega | decide | (have hq1 : setM Mk l u (recI g Mk l) < 2 ^ 24 := setM_lt (by omega) (recI_lt (by omega)); have hq2 : 2 ^ l ≤ 2 ^ 23 := Nat.pow_le_pow_right (by decide) (by omega); omega))) (by decide)) ?_
              refine Wx.top (congrArg (zA _ _) (nI_clamp (by (first | omega | decide | (have hq1 : setM Mk l u (recI g Mk l) < 2 ^ 24 := setM_lt (by omega) (recI_lt (by omega)); have hq2 : 2 ^ l ≤ 2 ^ 23 := Nat.pow_le_pow_right (by decide) (by omega); omega))))) ?_
              refine Wx.top ((hx_5.1.off' hk0).u4 hl24 hAl (by (first | omega | decide | (have hq1 : setM Mk l u (recI g Mk l) < 2 ^ 24 := setM_lt (by omega) (recI_lt (by omega)); have hq2 : 2 ^ l ≤ 2 ^ 23 := Nat.pow_le_pow_right (by decide) (by omega); omega)))) ?_
              refine Wx.top (show nI (c (K 0) (402 + 8 * (200 * l + u) + 4)) = (-1) from by rw [he]; exact nI_m1) ?_
              refine r_sipush (v := nI 1000) dX9_follow_119 (by decide) ?_
              refine r_irem dX9_follow_122 (by (first | omega | decide | (have hq1 : setM Mk l u (recI g Mk l) < 2 ^ 24 := setM_lt (by omega) (recI_lt (by omega)); have hq2 : 2 ^ l ≤ 2 ^ 23 := Nat.pow_le_pow_right (by decide) (by omega); omega))) ?_
              refine Wx.top (show (-1 : Int32) - (-1) / (nI 1000) * (nI 1000) = (-1) by decide) ?_
              refine r_fnV (M2 := m_X9_mark) (As := [.int (nI (0)), .int ((-1))]) (rest := []) (v := none) dX9_follow_123 cc_X9_follow_37 rfl rfl rfl (Nat.le_of_ble_eq_true rfl) hx_5.1.t57 rfl rfl (by decide) (x_mark_no hx_5) rfl ?_
              refine r_iincN (k := 1) (lv' := [(5, .int (nI (u + 1))), (0, .ref (x + 57)), (1, .ref (Pl x (K 0))), (2, .int (nI (a))), (3, .int (nI (l))), (4, .ref (A (K 0) l))]) dX9_follow_126 (by decide) 5 rfl (by decide) rfl ?_
              refine r_goto (tgt := 49) dX9_follow_129 (by decide) ?_
              refine Wx.sub [1, 2, 3, 4, 5, 0] rfl ?_
              exact next3 _ _ (by omega) ⟨_, hx_5, hR.one hr.1 hmk hl hu hMk he, rfl⟩
  · refine r_aload_n dX9_follow_11 rfl 0 rfl ?_
    refine r_getR (ci := 11) (k := 0) (b := x + 58) dX9_follow_12 fr_X9_9 h.1.t57 rfl h.1.p352 ?_
    refine r_iload_n dX9_follow_15 rfl 3 rfl ?_
    refine r_iconst (v := nI 0) dX9_follow_16 (by decide) ?_
    refine r_zast dX9_follow_17 h.1.t58 (by rw [show zN T (x + 58) = 4800 from h.1.n58]; exact vp_in_nI (by (first | omega | decide | (have hq1 : setM Mk l u (recI g Mk l) < 2 ^ 24 := setM_lt (by omega) (recI_lt (by omega)); have hq2 : 2 ^ l ≤ 2 ^ 23 := Nat.pow_le_pow_right (by decide) (by omega); omega))) (by decide)) ?_
    refine Wx.st' (S' := uA T (x + 58) (i) (nI (0))) (by rw [nI_clamp (by (first | omega | decide | (have hq1 : setM Mk l u (recI g Mk l) < 2 ^ 24 := setM_lt (by omega) (recI_lt (by omega)); have hq2 : 2 ^ l ≤ 2 ^ 23 := Nat.pow_le_pow_right (by decide) (by omega); omega)))]; rfl) ?_
    refine Wx.gp (fun T => XF F S0 T w x K (up2 E1 (1000 + i) (58) (0)) A c bx bu) (h.AA (i := i) (by decide)) (fun T_7 (hx_7 : XF F S0 T_7 w x K (up2 E1 (1000 + i) (58) (0)) A c bx bu) => ?_)
    refine r_iincN (k := 1) (lv' := [(3, .int (nI (i + 1))), (0, .ref (x + 57)), (1, .ref (Pl x (K 0))), (2, .int (nI (a)))]) dX9_follow_18 (by decide) 3 rfl (by decide) rfl ?_
    refine r_goto (tgt := 2) dX9_follow_21 (by decide) ?_
    refine Wx.sub [1, 2, 3, 0] rfl ?_
    exact next _ _ (by omega) ⟨_, hx_7, fun f b b1 b2 => (u2_n (by omega)).trans (hO f b b1 b2), fun j hj => by
      by_cases e : j = i
      · subst e; exact u2_s
      · exact (u2_n (by omega)).trans (hZ j (by omega)), rfl⟩
set_option maxRecDepth 4000 in
set_option maxHeartbeats 400000 in
theorem x_unitsIn {G : GI} {F : Nat → Prop} {S0 S : Hp} {w : Nat → Nat} {x : Nat} {K : Nat → Nat} {E : Nat → Nat → Nat} {A c : Nat → Nat → Nat} {bx bu : Nat} (h : XF F S0 S w x K E A c bx bu) (hk0 : K 0 < 11) {g : Nat → Nat} {N : Nat} {Mk : Nat → Prop} (hr : Hol (A (K 0)) (c (K 0)) g N) (hrow : ∀ l u, l < g 0 → u < g (90 + 13 * l + 1) → E (1000 + (l * 200 + u)) 58 = bN (Mk (200 * l + u))) {k : Nat} (hk5 : k < 5) : Fn m_X9_unitsIn G [.ref (x + 57), .ref (Pl x (K 0)), .int (nI (k))] S (some (.int (nI (sumN (rclN g Mk k) (g 0))))) S := by
  refine Cn.of rfl (by decide) (Nat.le_of_ble_eq_true rfl) (fun hN hM => ?_)
  show Wx _ G _ 0 [(0, .ref (x + 57)), (1, .ref (Pl x (K 0))), (2, .int (nI (k)))] [] _
  have h24 := hr.1.n24
  refine r_iconst (v := nI 0) dX9_unitsIn_0 (by decide) ?_
  refine r_istore_n (lv' := [(3, .int (nI (0))), (0, .ref (x + 57)), (1, .ref (Pl x (K 0))), (2, .int (nI (k)))]) dX9_unitsIn_1 rfl (by decide) rfl ?_
  refine r_iconst (v := nI 0) dX9_unitsIn_2 (by decide) ?_
  refine r_istore (lv' := [(4, .int (nI (0))), (3, .int (nI (0))), (0, .ref (x + 57)), (1, .ref (Pl x (K 0))), (2, .int (nI (k)))]) dX9_unitsIn_3 (by decide) rfl ?_
  refine Wx.sub [2, 3, 4, 1, 0] rfl ?_
  refine Wx.loopR (fun l T lv => T = S ∧ lv = [(0, .ref (x + 57)), (1, .ref (Pl x (K 0))), (2, .int (nI (k))), (3, .int (nI (sumN (rclN g Mk k) l))), (4, .int (nI (l)))]) (g 0) 0 (Nat.zero_le _) ⟨rfl, rfl⟩ (fun l T lv hge hle hI9 next => ?_)
  obtain ⟨rfl, rfl⟩ := hI9
  refine r_iload dX9_unitsIn_5 4 rfl ?_
  refine r_aload_n dX9_unitsIn_7 rfl 1 rfl ?_
  refine r_getI (ci := 9) (k := 5) dX9_unitsIn_8 fr_X9_19 (h.1.off' (by (first | omega | (have := sW_lt (g (402 + 2 * (200 * l + u))); omega)))).1.1 rfl ?_
  refine Wx.top ((h.1.off' hk0).o0) ?_
  refine Wx.topN hr.1.c0 ?_
  refine r_icmp_geN (tgt := 78) dX9_unitsIn_11 (by decide) (by (first | omega | (have := sW_lt (g (402 + 2 * (200 * l + u))); omega))) (by (first | omega | (have := sW_lt (g (402 + 2 * (200 * l + u))); omega))) (fun h11 => ?_) (fun h11 => ?_)
  · refine r_iload_n dX9_unitsIn_78 rfl 3 rfl ?_
    obtain rfl : l = g 0 := by omega
    exact r_iret (ty := .int) dX9_unitsIn_79 rfl rfl ⟨rfl, rfl⟩
  · have hl : l < g 0 := by omega
    have hl24 : l < 24 := by omega
    have hAl : A (K 0) l ≠ 0 := hr.2 l hl
    have hL := hr.1.lot hl
    have hz := hL.z
    refine r_aload_n dX9_unitsIn_14 rfl 1 rfl ?_
    refine r_iload dX9_unitsIn_15 4 rfl ?_
    refine r_fnV (M2 := m_X7_lotAt) (As := [.int (nI (l))]) (rest := []) (v := some (.ref (A (K 0) l))) dX9_unitsIn_17 cc_X9_unitsIn_24 rfl rfl rfl (Nat.le_of_ble_eq_true rfl) (h.1.off' (by (first | omega | (have := sW_lt (g (402 + 2 * (200 * l + u))); omega)))).1.1 rfl rfl (by decide) (o_lotAt (h.1.off' hk0) hr.1 hr.2 (l := l) hl) rfl ?_
    refine r_astore (lv' := [(5, .ref (A (K 0) l)), (0, .ref (x + 57)), (1, .ref (Pl x (K 0))), (2, .int (nI (k))), (3, .int (nI (sumN (rclN g Mk k) l))), (4, .int (nI (l)))]) dX9_unitsIn_20 (by decide) rfl ?_
    refine r_iconst (v := nI 0) dX9_unitsIn_22 (by decide) ?_
    refine r_istore (lv' := [(6, .int (nI (0))), (5, .ref (A (K 0) l)), (0, .ref (x + 57)), (1, .ref (Pl x (K 0))), (2, .int (nI (k))), (3, .int (nI (sumN (rclN g Mk k) l))), (4, .int (nI (l)))]) dX9_unitsIn_23 (by decide) rfl ?_
    refine Wx.sub [2, 3, 4, 5, 6, 1, 0] rfl ?_
    refine Wx.loopR (fun u T2 lv => T2 = T ∧ lv = [(0, .ref (x + 57)), (1, .ref (Pl x (K 0))), (2, .int (nI (k))), (3, .int (nI (sumN (rclN g Mk k) l + cnt (fun u => Mk (200 * l + u) ∧ sW (g (402 + 2 * (200 * l + u))) = k) u))), (4, .int (nI (l))), (5, .ref (A (K 0) l)), (6, .int (nI (u)))]) (g (90 + 13 * l + 1)) 0 (Nat.zero_le _) ⟨rfl, rfl⟩ (fun u T2 lv hge2 hle2 hI9 next2 => ?_)
    obtain ⟨rfl, rfl⟩ := hI9
    refine r_aload dX9_unitsIn_25 5 rfl ?_
    refine r_ifnull dX9_unitsIn_27 ?_
    refine r_iload dX9_unitsIn_30 6 rfl ?_
    refine r_aload dX9_unitsIn_32 5 rfl ?_
    refine r_getI (ci := 7) (k := 2) dX9_unitsIn_34 fr_X9_28 ((h.1.off' hk0).lo hl24 hAl).2.1 rfl ?_
    refine Wx.top ((h.1.off' hk0).l2 hl24 hAl) ?_
    refine Wx.topN (hL.h (f := 1) (by decide)) ?_
    refine r_icmp_geN (tgt := 72) dX9_unitsIn_37 (by decide) (by (first | omega | (have := sW_lt (g (402 + 2 * (200 * l + u))); omega))) (by (first | omega | (have := sW_lt (g (402 + 2 * (200 * l + u))); omega))) (fun h37 => ?_) (fun h37 => ?_)
    · refine r_iincN (k := 1) (lv' := [(4, .int (nI (l + 1))), (0, .ref (x + 57)), (1, .ref (Pl x (K 0))), (2, .int (nI (k))), (3, .int (nI (sumN (rclN g Mk k) l + cnt (fun u => Mk (200 * l + u) ∧ sW (g (402 + 2 * (200 * l + u))) = k) u))), (5, .ref (A (K 0) l)), (6, .int (nI (u)))]) dX9_unitsIn_72 (by decide) 4 rfl (by decide) rfl ?_
      refine r_goto (tgt := 5) dX9_unitsIn_75 (by decide) ?_
      refine Wx.sub [1, 2, 3, 4, 0] rfl ?_
      obtain rfl : u = g (90 + 13 * l + 1) := by omega
      exact next _ _ (by omega) ⟨rfl, rfl⟩
    · have hu : u < g (90 + 13 * l + 1) := by omega
      refine r_aload_n dX9_unitsIn_40 rfl 0 rfl ?_
      refine r_iload dX9_unitsIn_41 4 rfl ?_
      refine r_iload dX9_unitsIn_43 6 rfl ?_
      refine r_fnV (M2 := m_X9_isMarked) (As := [.int (nI (l)), .int (nI (u))]) (rest := []) (v := some (.int (bI (Mk (200 * l + u))))) dX9_unitsIn_45 cc_X9_unitsIn_33 rfl rfl rfl (Nat.le_of_ble_eq_true rfl) h.1.t57 rfl rfl (by decide) (x_isMarked h hl24 (by omega) (hrow l u hl hu)) rfl ?_
      refine r_if_eqB (tgt := 66) dX9_unitsIn_48 (by decide) (fun h48 => ?_) (fun h48 => ?_)
      · refine r_iincN (k := 1) (lv' := [(6, .int (nI (u + 1))), (0, .ref (x + 57)), (1, .ref (Pl x (K 0))), (2, .int (nI (k))), (3, .int (nI (sumN (rclN g Mk k) l + cnt (fun u => Mk (200 * l + u) ∧ sW (g (402 + 2 * (200 * l + u))) = k) u))), (4, .int (nI (l))), (5, .ref (A (K 0) l))]) dX9_unitsIn_66 (by decide) 6 rfl (by decide) rfl ?_
        refine r_goto (tgt := 25) dX9_unitsIn_69 (by decide) ?_
        refine Wx.sub [1, 2, 3, 4, 5, 6, 0] rfl ?_
        exact next2 _ _ (by omega) ⟨rfl, by rw [cnt_f (p := fun u => Mk (200 * l + u) ∧ sW (g (402 + 2 * (200 * l + u))) = k) (fun q => h48 q.1)]; rfl⟩
      · refine r_aload dX9_unitsIn_51 5 rfl ?_
        refine r_getR (ci := 7) (k := 11) (b := A (K 0) l + 2) dX9_unitsIn_53 fr_X9_45 ((h.1.off' hk0).lo hl24 hAl).2.1 rfl ((h.1.off' hk0).lo hl24 hAl).2.2.1.2.1 ?_
        refine r_iload dX9_unitsIn_56 6 rfl ?_
        refine r_iald dX9_unitsIn_58 ((h.1.off' hk0).lo hl24 hAl).2.2.2.2.1.1 (by rw [show zN T2 (A (K 0) l + 2) = 200 from ((h.1.off' hk0).lo hl24 hAl).2.2.2.2.1.2]; exact vp_in_nI (by (first | omega | (have := sW_lt (g (402 + 2 * (200 * l + u))); omega))) (by decide)) ?_
        refine Wx.top (congrArg (zA _ _) (nI_clamp (by (first | omega | (have := sW_lt (g (402 + 2 * (200 * l + u))); omega))))) ?_
        refine Wx.top ((h.1.off' hk0).u0 hl24 hAl (by (first | omega | (have := sW_lt (g (402 + 2 * (200 * l + u))); omega)))) ?_
        refine Wx.topN (hL.u0 hu) ?_
        refine r_iload_n dX9_unitsIn_59 rfl 2 rfl ?_
        refine r_icmp_neN (tgt := 66) dX9_unitsIn_60 (by decide) (by (first | omega | (have := sW_lt (g (402 + 2 * (200 * l + u))); omega))) (by (first | omega | (have := sW_lt (g (402 + 2 * (200 * l + u))); omega))) (fun h60 => ?_) (fun h60 => ?_)
        · refine r_iincN (k := 1) (lv' := [(6, .int (nI (u + 1))), (0, .ref (x + 57)), (1, .ref (Pl x (K 0))), (2, .int (nI (k))), (3, .int (nI (sumN (rclN g Mk k) l + cnt (fun u => Mk (200 * l + u) ∧ sW (g (402 + 2 * (200 * l + u))) = k) u))), (4, .int (nI (l))), (5, .ref (A (K 0) l))]) dX9_unitsIn_66 (by decide) 6 rfl (by decide) rfl ?_
          refine r_goto (tgt := 25) dX9_unitsIn_69 (by decide) ?_
          refine Wx.sub [1, 2, 3, 4, 5, 6, 0] rfl ?_
          exact next2 _ _ (by omega) ⟨rfl, by rw [cnt_f (p := fun u => Mk (200 * l + u) ∧ sW (g (402 + 2 * (200 * l + u))) = k) (fun q => h60 q.2)]; rfl⟩
        · refine r_iincN (k := 1) (lv' := [(3, .int (nI (sumN (rclN g Mk k) l + cnt (fun u => Mk (200 * l + u) ∧ sW (g (402 + 2 * (200 * l + u))) = k) u + 1))), (0, .ref (x + 57)), (1, .ref (Pl x (K 0))), (2, .int (nI (k))), (4, .int (nI (l))), (5, .ref (A (K 0) l)), (6, .int (nI (u)))]) dX9_unitsIn_63 (by decide) 3 rfl (by decide) rfl ?_
          refine r_iincN (k := 1) (lv' := [(6, .int (nI (u + 1))), (3, .int (nI (sumN (rclN g Mk k) l + cnt (fun u => Mk (200 * l + u) ∧ sW (g (402 + 2 * (200 * l + u))) = k) u + 1))), (0, .ref (x + 57)), (1, .ref (Pl x (K 0))), (2, .int (nI (k))), (4, .int (nI (l))), (5, .ref (A (K 0) l))]) dX9_unitsIn_66 (by decide) 6 rfl (by decide) rfl ?_
          refine r_goto (tgt := 25) dX9_unitsIn_69 (by decide) ?_
          refine Wx.sub [2, 3, 4, 1, 5, 6, 0] rfl ?_
          exact next2 _ _ (by omega) ⟨rfl, by rw [cnt_t (p := fun u => Mk (200 * l + u) ∧ sW (g (402 + 2 * (200 * l + u))) = k) ⟨h48, h60⟩]; rfl⟩
set_option maxRecDepth 4000 in
set_option maxHeartbeats 400000 in
theorem s_recall_0 {G : GI} {F : Nat → Prop} {S : Hp} {x bx bu : Nat} {D : Nat → Nat → Nat} {g : Nat → Nat} {N ps : Nat} {gq : Nat → Nat → Nat} {ik : Nat} {gk : Nat → Nat} (h : CSt F S x bx bu D g N ps gq ik gk) {a : Nat} {Mk : Nat → Prop} (ha : a < g 0) (hmk : MarkP g a Mk) : Cn m_X12_recall G [.ref (x), .int (nI (a))] S (fun r T => r = .inl (some (.int (nI (recI g Mk (g 0))))) ∧ CSt F T x bx bu D g N ps gq ik gk ∧ FrF F S T) := by
  refine Cn.of rfl (by decide) (Nat.le_of_ble_eq_true rfl) (fun hN hM => ?_)
  show Wx _ G _ 0 [(0, .ref (x)), (1, .int (nI (a)))] [] _
  obtain ⟨w, K, E, A, c, hX, hp, hr, hD, ⟨np, hnp, e1, e2, hps, hq⟩, ⟨e3, hik, hk⟩, hF⟩ := h
  have h : XF F S S w x K E A c bx bu := ⟨hX, FrF.rfl, hF⟩
  have hk0 : K 0 < 11 := (hp 0 (by decide)).1
  have n01 : K 0 ≠ K 1 := hp.ne (by decide) (by decide) (by decide)
  have n02 : K 0 ≠ 2 := (hp 0 (by decide)).2.1
  have h24 := hr.1.n24
  refine r_aload_n dX12_recall_0 rfl 0 rfl ?_
  refine r_iload_n dX12_recall_1 rfl 1 rfl ?_
  refine r_fnV (M2 := m_X12_existingLot) (As := [.int (nI (a))]) (rest := []) (v := some (.ref (A (K 0) a))) dX12_recall_2 cc_X12_recall_152 rfl rfl rfl (Nat.le_of_ble_eq_true rfl) h.1.t0 rfl rfl (by decide) (f_lot h.1.t0 h.1.p416 (h.1.off' hk0) hr.1 hr.2 ha) rfl ?_
  refine r_pop dX12_recall_5 rfl ?_
  refine r_aload_n dX12_recall_6 rfl 0 rfl ?_
  refine r_getR (ci := 13) (k := 10) (b := x + 57) dX12_recall_7 fr_X12_49 h.1.t0 rfl h.1.p426 ?_
  refine r_aload_n dX12_recall_10 rfl 0 rfl ?_
  refine r_getR (ci := 13) (k := 0) (b := Pl x (K 0)) dX12_recall_11 fr_X12_10 h.1.t0 rfl h.1.p416 ?_
  refine r_iload_n dX12_recall_14 rfl 1 rfl ?_
  refine r_callV (M2 := m_X9_follow) (As := [.ref (Pl x (K 0)), .int (nI (a))]) (rest := []) dX12_recall_15 cc_X12_recall_227 rfl rfl rfl (Nat.le_of_ble_eq_true rfl) h.1.t57 rfl rfl (by decide) (x_follow h hk0 hr ha hmk) (fun v9 T9 hq => ?_) (fun E9 T9 hq => by cases hq.1)
  obtain ⟨hv9, E1, hx9, hR⟩ := hq
  cases hv9
  show Wx _ G T9 18 [(0, .ref (x)), (1, .int (nI (a)))] [] _
  refine r_aload_n dX12_recall_18 rfl 0 rfl ?_
  refine r_getR (ci := 13) (k := 10) (b := x + 57) dX12_recall_19 fr_X12_49 hx9.1.t0 rfl hx9.1.p426 ?_
  refine r_getI (ci := 11) (k := 1) dX12_recall_22 fr_X12_231 hx9.1.t57 rfl ?_
  refine Wx.top (hx9.1.i (f := 353) (by decide) (by decide)) ?_
  refine Wx.topN (hR.2.1.trans setM_0) ?_
  exact r_iret (ty := .int) dX12_recall_25 rfl rfl ⟨rfl, ⟨w, K, _, A, c, hx9.1, hp, hr, (fun f b hb => (hR.1 f b (by omega) (by omega)).trans (hD f b hb)), ⟨np, hnp, (hR.1 _ _ (by decide) (by decide)).trans e1, (hR.1 _ _ (by decide) (by decide)).trans e2, hps, hq⟩, ⟨(hR.1 _ _ (by decide) (by decide)).trans e3, hik, hk⟩, hx9.2.2⟩, hx9.2.1⟩
set_option maxRecDepth 4000 in
set_option maxHeartbeats 400000 in
theorem s_recall_1 {G : GI} {F : Nat → Prop} {S : Hp} {x bx bu : Nat} {D : Nat → Nat → Nat} {g : Nat → Nat} {N ps : Nat} {gq : Nat → Nat → Nat} {ik : Nat} {gk : Nat → Nat} (h : CSt F S x bx bu D g N ps gq ik gk) (h1 : bx + 1 ≤ gN G) (h2 : bu + 6 ≤ gM G) {y : Int32} (hno : ¬ vp_in y (g 0)) : Cn m_X12_recall G [.ref (x), .int (y)] S (fun r T => r = .inr "java/lang/IndexOutOfBoundsException" ∧ CSt F T x (bx + 1) (bu + 6) D g N ps gq ik gk ∧ FrF F S T) := by
  refine Cn.of rfl (by decide) (Nat.le_of_ble_eq_true rfl) (fun hN hM => ?_)
  show Wx _ G _ 0 [(0, .ref (x)), (1, .int (y))] [] _
  obtain ⟨w, K, E, A, c, hX, hp, hr, hD, ⟨np, hnp, e1, e2, hps, hq⟩, ⟨e3, hik, hk⟩, hF⟩ := h
  have h : XF F S S w x K E A c bx bu := ⟨hX, FrF.rfl, hF⟩
  have hk0 : K 0 < 11 := (hp 0 (by decide)).1
  have n01 : K 0 ≠ K 1 := hp.ne (by decide) (by decide) (by decide)
  have n02 : K 0 ≠ 2 := (hp 0 (by decide)).2.1
  refine r_aload_n dX12_recall_0 rfl 0 rfl ?_
  refine r_iload_n dX12_recall_1 rfl 1 rfl ?_
  exact r_ftV (M2 := m_X12_existingLot) (As := [.int (y)]) (rest := []) dX12_recall_2 cc_X12_recall_152 rfl rfl rfl (Nat.le_of_ble_eq_true rfl) h.1.t0 rfl rfl (by decide) (f_lot_no h.1.t0 h.1.p416 (h.1.off' hk0) hr.1 hr.2 (h.hc1 h1) (h.hu6 h2) hno) rfl (fun y u h1 h2 => ⟨rfl, ⟨w, K, E, A, c, (h.X h1 h2).1, hp, hr, hD, ⟨np, hnp, e1, e2, hps, hq⟩, ⟨e3, hik, hk⟩, hF⟩, (h.X h1 h2).2.1⟩)
set_option maxRecDepth 4000 in
set_option maxHeartbeats 400000 in
theorem s_recalled_0 {G : GI} {F : Nat → Prop} {S : Hp} {x bx bu : Nat} {D : Nat → Nat → Nat} {g : Nat → Nat} {N ps : Nat} {gq : Nat → Nat → Nat} {ik : Nat} {gk : Nat → Nat} (h : CSt F S x bx bu D g N ps gq ik gk) {a : Nat} {Mk : Nat → Prop} (ha : a < g 0) (hmk : MarkP g a Mk) {k : Nat} (hk5 : k < 5) : Cn m_X12_recalled G [.ref (x), .int (nI (a)), .int (nI (k))] S (fun r T => r = .inl (some (.int (nI (sumN (rclN g Mk k) (g 0))))) ∧ CSt F T x bx bu D g N ps gq ik gk ∧ FrF F S T) := by
  refine Cn.of rfl (by decide) (Nat.le_of_ble_eq_true rfl) (fun hN hM => ?_)
  show Wx _ G _ 0 [(0, .ref (x)), (1, .int (nI (a))), (2, .int (nI (k)))] [] _
  obtain ⟨w, K, E, A, c, hX, hp, hr, hD, ⟨np, hnp, e1, e2, hps, hq⟩, ⟨e3, hik, hk⟩, hF⟩ := h
  have h : XF F S S w x K E A c bx bu := ⟨hX, FrF.rfl, hF⟩
  have hk0 : K 0 < 11 := (hp 0 (by decide)).1
  have n01 : K 0 ≠ K 1 := hp.ne (by decide) (by decide) (by decide)
  have n02 : K 0 ≠ 2 := (hp 0 (by decide)).2.1
  have h24 := hr.1.n24
  refine r_aload_n dX12_recalled_0 rfl 0 rfl ?_
  refine r_iload_n dX12_recalled_1 rfl 1 rfl ?_
  refine r_fnV (M2 := m_X12_existingLot) (As := [.int (nI (a))]) (rest := []) (v := some (.ref (A (K 0) a))) dX12_recalled_2 cc_X12_recalled_152 rfl rfl rfl (Nat.le_of_ble_eq_true rfl) h.1.t0 rfl rfl (by decide) (f_lot h.1.t0 h.1.p416 (h.1.off' hk0) hr.1 hr.2 ha) rfl ?_
  refine r_pop dX12_recalled_5 rfl ?_
  refine r_iload_n dX12_recalled_6 rfl 2 rfl ?_
  refine r_if_ltN (tgt := 15) dX12_recalled_7 (by decide) (by omega) ?_
  refine r_iload_n dX12_recalled_10 rfl 2 rfl ?_
  refine r_iconst (v := nI 4) dX12_recalled_11 (by decide) ?_
  refine r_icmp_leN (tgt := 23) dX12_recalled_12 (by decide) (by omega) (by omega) (fun h12 => ?_) (fun h12 => ?_)
  · refine r_aload_n dX12_recalled_23 rfl 0 rfl ?_
    refine r_getR (ci := 13) (k := 10) (b := x + 57) dX12_recalled_24 fr_X12_49 h.1.t0 rfl h.1.p426 ?_
    refine r_aload_n dX12_recalled_27 rfl 0 rfl ?_
    refine r_getR (ci := 13) (k := 0) (b := Pl x (K 0)) dX12_recalled_28 fr_X12_10 h.1.t0 rfl h.1.p416 ?_
    refine r_iload_n dX12_recalled_31 rfl 1 rfl ?_
    refine r_callV (M2 := m_X9_follow) (As := [.ref (Pl x (K 0)), .int (nI (a))]) (rest := []) dX12_recalled_32 cc_X12_recalled_227 rfl rfl rfl (Nat.le_of_ble_eq_true rfl) h.1.t57 rfl rfl (by decide) (x_follow h hk0 hr ha hmk) (fun v9 T9 hq => ?_) (fun E9 T9 hq => by cases hq.1)
    obtain ⟨hv9, E1, hx9, hR⟩ := hq
    cases hv9
    show Wx _ G T9 35 [(0, .ref (x)), (1, .int (nI (a))), (2, .int (nI (k)))] [] _
    refine r_aload_n dX12_recalled_35 rfl 0 rfl ?_
    refine r_getR (ci := 13) (k := 10) (b := x + 57) dX12_recalled_36 fr_X12_49 hx9.1.t0 rfl hx9.1.p426 ?_
    refine r_aload_n dX12_recalled_39 rfl 0 rfl ?_
    refine r_getR (ci := 13) (k := 0) (b := Pl x (K 0)) dX12_recalled_40 fr_X12_10 hx9.1.t0 rfl hx9.1.p416 ?_
    refine r_iload_n dX12_recalled_43 rfl 2 rfl ?_
    refine r_fnV (M2 := m_X9_unitsIn) (As := [.ref (Pl x (K 0)), .int (nI (k))]) (rest := []) (v := some (.int (nI (sumN (rclN g Mk k) (g 0))))) dX12_recalled_44 cc_X12_recalled_234 rfl rfl rfl (Nat.le_of_ble_eq_true rfl) hx9.1.t57 rfl rfl (by decide) (x_unitsIn hx9 hk0 (Mk := Mk) hr (fun l u hl hu => (hR.2.2 _ (by have := (hr.1.lot hl).z; omega)).trans (bN_iff (RQ_end hr.1 hmk hl hu))) hk5) rfl ?_
    exact r_iret (ty := .int) dX12_recalled_47 rfl rfl ⟨rfl, ⟨w, K, _, A, c, hx9.1, hp, hr, (fun f b hb => (hR.1 f b (by omega) (by omega)).trans (hD f b hb)), ⟨np, hnp, (hR.1 _ _ (by decide) (by decide)).trans e1, (hR.1 _ _ (by decide) (by decide)).trans e2, hps, hq⟩, ⟨(hR.1 _ _ (by decide) (by decide)).trans e3, hik, hk⟩, hx9.2.2⟩, hx9.2.1⟩
  · exact absurd h12 (by omega)
set_option maxRecDepth 4000 in
set_option maxHeartbeats 400000 in
theorem s_recalled_1 {G : GI} {F : Nat → Prop} {S : Hp} {x bx bu : Nat} {D : Nat → Nat → Nat} {g : Nat → Nat} {N ps : Nat} {gq : Nat → Nat → Nat} {ik : Nat} {gk : Nat → Nat} (h : CSt F S x bx bu D g N ps gq ik gk) (h1 : bx + 1 ≤ gN G) (h2 : bu + 6 ≤ gM G) {y : Int32} (hno : ¬ vp_in y (g 0)) {z : Int32} : Cn m_X12_recalled G [.ref (x), .int (y), .int (z)] S (fun r T => r = .inr "java/lang/IndexOutOfBoundsException" ∧ CSt F T x (bx + 1) (bu + 6) D g N ps gq ik gk ∧ FrF F S T) := by
  refine Cn.of rfl (by decide) (Nat.le_of_ble_eq_true rfl) (fun hN hM => ?_)
  show Wx _ G _ 0 [(0, .ref (x)), (1, .int (y)), (2, .int (z))] [] _
  obtain ⟨w, K, E, A, c, hX, hp, hr, hD, ⟨np, hnp, e1, e2, hps, hq⟩, ⟨e3, hik, hk⟩, hF⟩ := h
  have h : XF F S S w x K E A c bx bu := ⟨hX, FrF.rfl, hF⟩
  have hk0 : K 0 < 11 := (hp 0 (by decide)).1
  have n01 : K 0 ≠ K 1 := hp.ne (by decide) (by decide) (by decide)
  have n02 : K 0 ≠ 2 := (hp 0 (by decide)).2.1
  refine r_aload_n dX12_recalled_0 rfl 0 rfl ?_
  refine r_iload_n dX12_recalled_1 rfl 1 rfl ?_
  exact r_ftV (M2 := m_X12_existingLot) (As := [.int (y)]) (rest := []) dX12_recalled_2 cc_X12_recalled_152 rfl rfl rfl (Nat.le_of_ble_eq_true rfl) h.1.t0 rfl rfl (by decide) (f_lot_no h.1.t0 h.1.p416 (h.1.off' hk0) hr.1 hr.2 (h.hc1 h1) (h.hu6 h2) hno) rfl (fun y u h1 h2 => ⟨rfl, ⟨w, K, E, A, c, (h.X h1 h2).1, hp, hr, hD, ⟨np, hnp, e1, e2, hps, hq⟩, ⟨e3, hik, hk⟩, hF⟩, (h.X h1 h2).2.1⟩)
set_option maxRecDepth 4000 in
set_option maxHeartbeats 400000 in
theorem s_recalled_2 {G : GI} {F : Nat → Prop} {S : Hp} {x bx bu : Nat} {D : Nat → Nat → Nat} {g : Nat → Nat} {N ps : Nat} {gq : Nat → Nat → Nat} {ik : Nat} {gk : Nat → Nat} (h : CSt F S x bx bu D g N ps gq ik gk) (h1 : bx + 1 ≤ gN G) (h2 : bu + 6 ≤ gM G) {a : Nat} (ha : a < g 0) {z : Int32} (hz : ¬ vp_in z 5) : Cn m_X12_recalled G [.ref (x), .int (nI (a)), .int (z)] S (fun r T => r = .inr "java/lang/IllegalArgumentException" ∧ CSt F T x (bx + 1) (bu + 6) D g N ps gq ik gk ∧ FrF F S T) := by
  refine Cn.of rfl (by decide) (Nat.le_of_ble_eq_true rfl) (fun hN hM => ?_)
  show Wx _ G _ 0 [(0, .ref (x)), (1, .int (nI (a))), (2, .int (z))] [] _
  obtain ⟨w, K, E, A, c, hX, hp, hr, hD, ⟨np, hnp, e1, e2, hps, hq⟩, ⟨e3, hik, hk⟩, hF⟩ := h
  have h : XF F S S w x K E A c bx bu := ⟨hX, FrF.rfl, hF⟩
  have hk0 : K 0 < 11 := (hp 0 (by decide)).1
  have n01 : K 0 ≠ K 1 := hp.ne (by decide) (by decide) (by decide)
  have n02 : K 0 ≠ 2 := (hp 0 (by decide)).2.1
  refine r_aload_n dX12_recalled_0 rfl 0 rfl ?_
  refine r_iload_n dX12_recalled_1 rfl 1 rfl ?_
  refine r_fnV (M2 := m_X12_existingLot) (As := [.int (nI (a))]) (rest := []) (v := some (.ref (A (K 0) a))) dX12_recalled_2 cc_X12_recalled_152 rfl rfl rfl (Nat.le_of_ble_eq_true rfl) h.1.t0 rfl rfl (by decide) (f_lot h.1.t0 h.1.p416 (h.1.off' hk0) hr.1 hr.2 ha) rfl ?_
  refine r_pop dX12_recalled_5 rfl ?_
  refine r_iload_n dX12_recalled_6 rfl 2 rfl ?_
  refine r_if_lt (tgt := 15) dX12_recalled_7 (by decide) (fun h7 => ?_) (fun h7 => ?_)
  · exact r_throw (ft_IA (by decide)) rfl dX12_recalled_15 dX12_recalled_18 dX12_recalled_19 dX12_recalled_22 (by decide) (h.hc1 h1) (h.hu6 h2) (fun y u h1 h2 h3 h4 => ⟨rfl, ⟨w, K, E, A, c, (h.X ⟨h1, h2⟩ ⟨h3, h4⟩).1, hp, hr, hD, ⟨np, hnp, e1, e2, hps, hq⟩, ⟨e3, hik, hk⟩, hF⟩, (h.X ⟨h1, h2⟩ ⟨h3, h4⟩).2.1⟩)
  · refine r_iload_n dX12_recalled_10 rfl 2 rfl ?_
    refine r_iconst (v := nI 4) dX12_recalled_11 (by decide) ?_
    refine r_icmp_le (tgt := 23) dX12_recalled_12 (by decide) (fun h12 => ?_) (fun h12 => ?_)
    · exact absurd (vp_le (n := 4) (by decide) h7 h12) hz
    · exact r_throw (ft_IA (by decide)) rfl dX12_recalled_15 dX12_recalled_18 dX12_recalled_19 dX12_recalled_22 (by decide) (h.hc1 h1) (h.hu6 h2) (fun y u h1 h2 h3 h4 => ⟨rfl, ⟨w, K, E, A, c, (h.X ⟨h1, h2⟩ ⟨h3, h4⟩).1, hp, hr, hD, ⟨np, hnp, e1, e2, hps, hq⟩, ⟨e3, hik, hk⟩, hF⟩, (h.X ⟨h1, h2⟩ ⟨h3, h4⟩).2.1⟩)
