/-! THE CLASS MADE -/
def xT (a : Nat) : Nat := if a = 56 then 104 else mT a
def xL (a : Nat) : Nat := if a = 56 then 16 else mL a
def xP (f a : Nat) : Nat := if a = 55 ∧ f = 32 then 56 else if a = 0 ∧ f = 416 then 1 else if a = 0 ∧ f = 417 then 17 else mP f a
/-- the owners, by the layout -/
def xw (x b : Nat) : Nat := if b < x ∨ x + 210 ≤ b then 384 else if 1 ≤ b - x ∧ b - x < 17 then 0 else if 17 ≤ b - x ∧ b - x < 33 then 32 else if 34 ≤ b - x ∧ b - x < 50 then 64 else if 62 ≤ b - x ∧ b - x < 190 then 32 * (3 + (b - x - 62) / 16) else 352
theorem xT_z {a : Nat} (h : (1 ≤ a ∧ a < 33) ∨ (34 ≤ a ∧ a < 50) ∨ (62 ≤ a ∧ a < 190) ∨ 210 ≤ a) : xT a = 0 := by
  unfold xT mT
  rw [if_neg (by omega), if_neg (by omega), if_neg (by omega), if_neg (by omega), if_neg (by omega), if_neg (by omega), if_neg (by omega), if_neg (by omega), if_neg (by omega), if_neg (by omega), if_neg (by omega), if_neg (by omega), if_neg (by omega), if_neg (by omega), if_neg (by omega)]
theorem xT_in {a : Nat} (ha : xT a ≠ 0) : ¬ ((1 ≤ a ∧ a < 33) ∨ (34 ≤ a ∧ a < 50) ∨ (62 ≤ a ∧ a < 190) ∨ 210 ≤ a) := fun h => ha (xT_z h)
theorem xw_own {x a : Nat} (ha : xT a ≠ 0) : xw x (x + a) = 352 := by
  have h := xT_in ha
  unfold xw
  rw [if_neg (by omega), if_neg (by omega), if_neg (by omega), if_neg (by omega), if_neg (by omega)]
theorem Pl_r {e : Nat} (he : e < 11) : (e = 0 ∧ Pl 0 e = 1) ∨ (e = 1 ∧ Pl 0 e = 17) ∨ (e = 2 ∧ Pl 0 e = 34) ∨ (3 ≤ e ∧ Pl 0 e = 62 + 16 * (e - 3)) := by
  unfold Pl
  by_cases h0 : e = 0
  · rw [if_pos h0]; omega
  by_cases h1 : e = 1
  · rw [if_neg h0, if_pos h1]; omega
  by_cases h2 : e = 2
  · rw [if_neg h0, if_neg h1, if_pos h2]; omega
  · rw [if_neg h0, if_neg h1, if_neg h2]; omega
theorem Pl_x {x e : Nat} : Pl x e = x + Pl 0 e := by
  unfold Pl
  by_cases h0 : e = 0
  · simp only [if_pos h0] <;> omega
  by_cases h1 : e = 1
  · simp only [if_neg h0, if_pos h1] <;> omega
  by_cases h2 : e = 2
  · simp only [if_neg h0, if_neg h1, if_pos h2] <;> omega
  · simp only [if_neg h0, if_neg h1, if_neg h2] <;> omega
theorem xw_off {x e j : Nat} (he : e < 11) (hj : j < 16) : xw x (Pl x e + j) = 32 * e := by
  rw [Pl_x]
  have h := Pl_r he
  unfold xw
  rcases h with ⟨h1, h2⟩ | ⟨h1, h2⟩ | ⟨h1, h2⟩ | ⟨h1, h2⟩
  · rw [if_neg (by omega), if_pos (by omega)]; omega
  · rw [if_neg (by omega), if_neg (by omega), if_pos (by omega)]; omega
  · rw [if_neg (by omega), if_neg (by omega), if_neg (by omega), if_pos (by omega)]; omega
  · rw [if_neg (by omega), if_neg (by omega), if_neg (by omega), if_neg (by omega), if_pos (by omega)]; omega
/-- built up to the place x + j; L: pointers that are set; C: Commands' error place is; np pasts, nd drawers stand in their rows -/
def XB (S0 : Hp) (x j u : Nat) (L : List (Nat × Nat)) (C : Prop) (np nd : Nat) (T : Hp) : Prop :=
  (zX T = x + j ∧ zU T ≤ zU S0 + u ∧ FS T ∧ Lw S0 T x) ∧
  (∀ a, a < j → xT a ≠ 0 → (zT T (x + a) = xT a ∧ (100 < xT a → zN T (x + a) = xL a ∧ zA T (x + a) = fun _ => 0)) ∧ ∀ f, xT a < 100 → a ≠ 61 → (a = 51 → f ≠ 163) → zI T f (x + a) = 0) ∧
  ((∀ q ∈ L, q.2 < j ∧ zP T q.1 (x + q.2) = some (x + xP q.1 q.2)) ∧ (51 < j → zP T 165 (x + 51) = none) ∧ (C → 51 < j ∧ zI T 163 (x + 51) = (-1))) ∧
  (∀ e, e < 11 → Pl 0 e < j → OR T (xw x) e (Pl x e) (fun _ => 0) oiC) ∧
  (∀ i, i < np → 33 < j ∧ zQ T (x + 33) i = some (x + (62 + 16 * i))) ∧ ∀ i, i < nd → (50 < j ∧ zQ T (x + 50) i = some (x + (190 + 5 * i))) ∧ ∀ k, k < 4 → 190 + 5 * i < j ∧ zP T (194 + k) (x + (190 + 5 * i)) = some (x + (190 + 5 * i + (1 + k)))
section XbRules
variable {S0 T T1 : Hp} {x j j' u u' : Nat} {L L' : List (Nat × Nat)} {C C' : Prop} {np np' nd nd' : Nat}
theorem XB.new (hF : FS S0) (hx : x = zX S0) : XB S0 x 0 0 [] False 0 0 S0 :=
  ⟨⟨hx.symm, Nat.le_refl _, hF, Lw.rfl⟩, fun a ha => absurd ha (Nat.not_lt_zero _), ⟨fun q hq => absurd hq List.not_mem_nil, fun h => absurd h (by decide), fun h => h.elim⟩, fun e he hp => absurd hp (Nat.not_lt_zero _), fun i hi => absurd hi (Nat.not_lt_zero _), fun i hi => absurd hi (Nat.not_lt_zero _)⟩
theorem XB.grow (h : XB S0 x j u L C np nd T) (hj : j ≤ j') (hL : Lw T T1 (x + j)) (hX : zX T1 = x + j') (hU : zU T1 ≤ zU S0 + u') (hF : FS T1)
    (hnc : ∀ a, j ≤ a → a < j' → xT a ≠ 0 → (zT T1 (x + a) = xT a ∧ (100 < xT a → zN T1 (x + a) = xL a ∧ zA T1 (x + a) = fun _ => 0)) ∧ ∀ f, xT a < 100 → a ≠ 61 → (a = 51 → f ≠ 163) → zI T1 f (x + a) = 0)
    (h5 : j ≤ 51 → 51 < j' → zP T1 165 (x + 51) = none)
    (ho : ∀ e, e < 11 → j ≤ Pl 0 e → Pl 0 e < j' → OR T1 (xw x) e (Pl x e) (fun _ => 0) oiC) : XB S0 x j' u' L C np nd T1 := by
  obtain ⟨⟨h1, h2, h3, h4⟩, hcell, ⟨hp, h165, hC⟩, hof, hq, hd⟩ := h
  refine ⟨⟨hX, hU, hF, h4.trans (hL.le (by omega))⟩, fun a ha hz => ?_, ⟨fun q hqL => ?_, fun h51 => ?_, fun hc => ?_⟩, fun e he hpe => ?_, fun i hi => ?_, fun i hi => ?_⟩
  · by_cases c : a < j
    · obtain ⟨⟨q1, q2⟩, q3⟩ := hcell a c hz
      obtain ⟨⟨e1, e2⟩, e3, e4, e5, -⟩ := hL (x + a) (by omega)
      exact ⟨⟨e1.trans q1, fun z => ⟨e2.trans (q2 z).1, e5.trans (q2 z).2⟩⟩, fun f z1 z2 z3 => (e3 f).trans (q3 f z1 z2 z3)⟩
    · exact hnc a (by omega) ha hz
  · obtain ⟨q1, q2⟩ := hp q hqL
    exact ⟨by omega, ((hL (x + q.2) (by omega)).2.2.1 _).trans q2⟩
  · by_cases c : 51 < j
    · exact ((hL (x + 51) (by omega)).2.2.1 _).trans (h165 c)
    · exact h5 (by omega) h51
  · obtain ⟨q1, q2⟩ := hC hc
    exact ⟨by omega, ((hL (x + 51) (by omega)).2.1 _).trans q2⟩
  · by_cases c : Pl 0 e < j
    · exact OR.fr (k := 12) (by omega) (hL.fr h3 (by omega)) (fun _ _ => rfl) hF (hof e he c)
    · exact ho e he (by omega) hpe
  · obtain ⟨q1, q2⟩ := hq i hi
    exact ⟨by omega, (congrFun (hL (x + 33) (by omega)).2.2.2.2.2.2 i).trans q2⟩
  · obtain ⟨⟨q1, q2⟩, q3⟩ := hd i hi
    exact ⟨⟨by omega, (congrFun (hL (x + 50) (by omega)).2.2.2.2.2.2 i).trans q2⟩, fun k hk => ⟨by have := (q3 k hk).1; omega, ((hL (x + (190 + 5 * i)) (by have := (q3 k hk).1; omega)).2.2.1 _).trans (q3 k hk).2⟩⟩
theorem XB.obj {t n : Nat} (ht : t = xT j) (ht2 : xT j < 100) (hne : j ≠ 1 ∧ j ≠ 17 ∧ j ≠ 34 ∧ (j < 62 ∨ 190 ≤ j)) (hu : u + n ≤ u') (h : XB S0 x j u L C np nd T) : XB S0 x (j + 1) u' L C np nd (nO T t n) := by
  have hx := h.1.1
  have hU := h.1.2.1
  refine h.grow (Nat.le_succ j) (Lw.nO (by omega)) (show zX T + 1 = x + (j + 1) by omega) (show zU T + n ≤ zU S0 + u' by omega) (fun b hb => ?_) (fun a a1 a2 _ => ?_) (fun a1 a2 => ?_) (fun e he e1 e2 => absurd (Pl_r he) (by omega))
  · have hb2 : zX T + 1 ≤ b := hb
    exact (up1_n (by omega)).trans (h.1.2.2.1 b (by omega))
  · have e : a = j := by omega
    subst e
    rw [← hx]
    exact ⟨⟨(up1_s).trans ht, fun z => absurd z (by omega)⟩, fun f _ _ _ => if_pos rfl⟩
  · have e : j = 51 := by omega
    subst e
    rw [← hx]
    exact if_pos rfl
theorem XB.row {t n : Nat} (ht : t = xT j) (ht2 : 100 < xT j) (hn : n = xL j) (hne : j ≠ 1 ∧ j ≠ 17 ∧ j ≠ 34 ∧ (j < 62 ∨ 190 ≤ j)) (hu : u + n ≤ u') (h : XB S0 x j u L C np nd T) : XB S0 x (j + 1) u' L C np nd (nA T t n) := by
  have hx := h.1.1
  have hU := h.1.2.1
  refine h.grow (Nat.le_succ j) (Lw.nA (by omega)) (show zX T + 1 = x + (j + 1) by omega) (show zU T + n ≤ zU S0 + u' by omega) (fun b hb => ?_) (fun a a1 a2 _ => ?_) (fun a1 a2 => ?_) (fun e he e1 e2 => absurd (Pl_r he) (by omega))
  · have hb2 : zX T + 1 ≤ b := hb
    exact (up1_n (by omega)).trans (h.1.2.2.1 b (by omega))
  · have e : a = j := by omega
    subst e
    rw [← hx]
    exact ⟨⟨(up1_s).trans ht, fun _ => ⟨(up1_s).trans hn, up1_s⟩⟩, fun f z => absurd z (by omega)⟩
  · have e : j = 51 := by omega
    subst e
    exact absurd ht2 (by decide)
theorem XB.off {k : Nat} (hk : k < 11) (hj : j = Pl 0 k) (hu : u + 325 ≤ u') (hON : ON (nO T 10 9) (xw x) k (zX T) T1) (h : XB S0 x j u L C np nd T) : XB S0 x (j + 16) u' L C np nd T1 := by
  have hx := h.1.1
  have hU := h.1.2.1
  have hr := Pl_r hk
  obtain ⟨o1, o2, o3, o4⟩ := hON
  have o2' : zX T1 = zX T + 1 + 15 := o2
  have o3' : zU T1 = zU T + 9 + 316 := o3
  refine h.grow (by omega) ((Lw.nO (t := 10) (n := 9) (by omega)).trans (by rw [← hx]; exact o4)) (by omega) (by omega) o1.2.2.2.2 (fun a a1 a2 hz => absurd (xT_in hz) (by omega)) (fun a1 a2 => absurd hr (by omega)) (fun e he e1 e2 => ?_)
  have he2 := Pl_r he
  have ek : e = k := by omega
  subst ek
  have ep : Pl x e = zX T := by rw [Pl_x]; omega
  rw [ep]
  exact o1
theorem XB.own {a0 : Nat} (h : XB S0 x j u L C np nd T) (ha : xT a0 ≠ 0) (eT : zT T1 = zT T) (eN : zN T1 = zN T) (eX : zX T1 = zX T) (eU : zU T1 = zU T) (hs : ∀ b, b ≠ x + a0 → Same T T1 b) (eA : zA T1 (x + a0) = zA T (x + a0)) (eI : ∀ f, a0 < j → xT a0 < 100 → a0 ≠ 61 → (a0 = 51 → f ≠ 163) → zI T1 f (x + a0) = 0)
    (hp : ∀ q ∈ L', q.2 < j ∧ zP T1 q.1 (x + q.2) = some (x + xP q.1 q.2)) (h165 : 51 < j → zP T1 165 (x + 51) = none) (hC : C' → 51 < j ∧ zI T1 163 (x + 51) = (-1))
    (hq : ∀ i, i < np' → 33 < j ∧ zQ T1 (x + 33) i = some (x + (62 + 16 * i))) (hd : ∀ i, i < nd' → (50 < j ∧ zQ T1 (x + 50) i = some (x + (190 + 5 * i))) ∧ ∀ k, k < 4 → 190 + 5 * i < j ∧ zP T1 (194 + k) (x + (190 + 5 * i)) = some (x + (190 + 5 * i + (1 + k)))) : XB S0 x j u L' C' np' nd' T1 := by
  have hFS : FS T1 := by unfold FS; rw [eT, eX]; exact h.1.2.2.1
  refine ⟨⟨eX.trans h.1.1, by rw [eU]; exact h.1.2.1, hFS, h.1.2.2.2.trans (fun b hb => ⟨⟨by rw [eT], by rw [eN]⟩, hs b (by omega)⟩)⟩, fun a haj hz => ?_, ⟨hp, h165, hC⟩, fun e he hpe => ?_, hq, hd⟩
  · obtain ⟨⟨q1, q2⟩, q3⟩ := h.2.1 a haj hz
    rw [eT, eN]
    by_cases c : a = a0
    · subst c
      rw [eA]
      exact ⟨⟨q1, q2⟩, fun f z1 z2 z3 => eI f haj z1 z2 z3⟩
    · have e := hs (x + a) (by omega)
      rw [e.2.2.1]
      exact ⟨⟨q1, q2⟩, fun f z1 z2 z3 => (e.1 f).trans (q3 f z1 z2 z3)⟩
  · exact OR.fr (k := 11) (by omega) (fr_one eT eN hs (by rw [xw_own ha])) (fun _ _ => rfl) hFS (h.2.2.2.1 e he hpe)
theorem XB.put {f b v a0 : Nat} (hb : b = x + a0) (hv : v = x + xP f a0) (ha : xT a0 ≠ 0) (haj : a0 < j) (h5 : ¬ (a0 = 51 ∧ f = 165)) (hnd : ∀ i, i < nd → a0 ≠ 190 + 5 * i) (h : XB S0 x j u L C np nd T) : XB S0 x j u ((f, a0) :: L) C np nd (uP T f b (some v)) := by
  subst hb hv
  refine h.own (a0 := a0) ha rfl rfl rfl rfl (fun b hb => same_uP hb) rfl (fun f' z0 z1 z2 z3 => (h.2.1 a0 z0 ha).2 f' z1 z2 z3) (fun q hq => ?_) (fun z => ?_) h.2.2.1.2.2 h.2.2.2.2.1 (fun i hi => ⟨(h.2.2.2.2.2 i hi).1, fun k hk => ⟨((h.2.2.2.2.2 i hi).2 k hk).1, ?_⟩⟩)
  · show q.2 < j ∧ (if q.1 = f ∧ x + q.2 = x + a0 then some (x + xP f a0) else zP T q.1 (x + q.2)) = _
    by_cases c : q.1 = f ∧ x + q.2 = x + a0
    · have e2 : q.2 = a0 := by omega
      rw [if_pos c, e2, c.1]
      exact ⟨haj, rfl⟩
    · rw [if_neg c]
      rcases List.mem_cons.mp hq with e | e
      · subst e; exact absurd ⟨rfl, rfl⟩ c
      · exact h.2.2.1.1 q e
  · exact (if_neg (fun c => h5 (by omega))).trans (h.2.2.1.2.1 z)
  · exact (if_neg (fun c => by have := hnd i hi; omega)).trans ((h.2.2.2.2.2 i hi).2 k hk).2
theorem XB.int0 {f b a0 : Nat} {v : Int32} (hb : b = x + a0) (hv : v = 0) (ha : xT a0 ≠ 0) (h5 : a0 ≠ 51) (h : XB S0 x j u L C np nd T) : XB S0 x j u L C np nd (uI T f b v) := by
  subst hb hv
  refine h.own (a0 := a0) ha rfl rfl rfl rfl (fun b hb => same_uI hb) rfl (fun f' z0 z1 z2 z3 => ?_) h.2.2.1.1 h.2.2.1.2.1 (fun c => ⟨(h.2.2.1.2.2 c).1, ?_⟩) h.2.2.2.2.1 h.2.2.2.2.2
  · show (if f' = f ∧ x + a0 = x + a0 then (0 : Int32) else zI T f' (x + a0)) = 0
    by_cases c : f' = f ∧ x + a0 = x + a0
    · rw [if_pos c]
    · rw [if_neg c]; exact (h.2.1 a0 z0 ha).2 f' z1 z2 z3
  · exact (if_neg (fun q => by omega)).trans (h.2.2.1.2.2 c).2
theorem XB.int51 {b : Nat} {v : Int32} (hb : b = x + 51) (hv : v = (-1)) (haj : 51 < j) (h : XB S0 x j u L C np nd T) : XB S0 x j u L True np nd (uI T 163 b v) := by
  subst hb hv
  refine h.own (a0 := 51) (by decide) rfl rfl rfl rfl (fun b hb => same_uI hb) rfl (fun f' z0 z1 z2 z3 => ?_) h.2.2.1.1 h.2.2.1.2.1 (fun c => ⟨haj, if_pos ⟨rfl, rfl⟩⟩) h.2.2.2.2.1 h.2.2.2.2.2
  exact (if_neg (fun q => z3 rfl q.1)).trans ((h.2.1 51 z0 (by decide)).2 f' z1 z2 z3)
theorem XB.p4 {b : Nat} (hb : b = x + 61) (h : XB S0 x j u L C np nd T) : XB S0 x j u L C np nd (P4 T b) := by
  subst hb
  refine h.own (a0 := 61) (by decide) rfl rfl rfl rfl (fun b hb => ⟨fun f => P4_n hb, fun f => rfl, rfl, rfl, rfl, rfl⟩) rfl (fun f' z0 z1 z2 z3 => absurd rfl z2) h.2.2.1.1 h.2.2.1.2.1 (fun c => ⟨(h.2.2.1.2.2 c).1, ?_⟩) h.2.2.2.2.1 h.2.2.2.2.2
  exact (P4_n (by omega)).trans (h.2.2.1.2.2 c).2
theorem XB.q33 {b v : Nat} (hb : b = x + 33) (hv : v = x + (62 + 16 * np)) (haj : 33 < j) (h : XB S0 x j u L C np nd T) : XB S0 x j u L C (np + 1) nd (uQ T b np (some v)) := by
  subst hb hv
  refine h.own (a0 := 33) (by decide) rfl rfl rfl rfl (fun b hb => same_uQ hb) rfl (fun f' z0 z1 z2 z3 => absurd z1 (by decide)) h.2.2.1.1 h.2.2.1.2.1 h.2.2.1.2.2 (fun i hi => ⟨haj, ?_⟩) (fun i hi => ⟨⟨(h.2.2.2.2.2 i hi).1.1, (if_neg (fun q => by omega)).trans (h.2.2.2.2.2 i hi).1.2⟩, (h.2.2.2.2.2 i hi).2⟩)
  show (if x + 33 = x + 33 ∧ i = np then some (x + (62 + 16 * np)) else zQ T (x + 33) i) = _
  by_cases c : i = np
  · rw [if_pos ⟨rfl, c⟩, c]
  · rw [if_neg (fun q => c q.2)]; exact (h.2.2.2.2.1 i (by omega)).2
theorem xP_d {i k : Nat} (hi : i < 4) (hk : k < 4) : xP (194 + k) (190 + 5 * i) = 190 + 5 * i + (1 + k) := by
  unfold xP
  rw [if_neg (by omega), if_neg (by omega), if_neg (by omega)]
  exact mP_d hi hk
theorem xT_d {i k : Nat} (hi : i < 4) (hk : k < 5) : xT (190 + 5 * i + k) = (if k = 0 then 7 else 101) ∧ xL (190 + 5 * i + k) = 5 := by
  have e1 : xT (190 + 5 * i + k) = mT (190 + 5 * i + k) := if_neg (by omega)
  have e2 : xL (190 + 5 * i + k) = mL (190 + 5 * i + k) := if_neg (by omega)
  exact ⟨e1.trans (mT_d hi hk), e2.trans (mL_d hi hk)⟩
theorem XB.q50 {b v : Nat} (hb : b = x + 50) (hv : v = x + (190 + 5 * nd)) (hi4 : nd < 4) (haj : 190 + 5 * nd < j) (h : XB S0 x j u ((197, 190 + 5 * nd) :: (196, 190 + 5 * nd) :: (195, 190 + 5 * nd) :: (194, 190 + 5 * nd) :: L) C np nd T) : XB S0 x j u L C np (nd + 1) (uQ T b nd (some v)) := by
  subst hb hv
  refine h.own (a0 := 50) (by decide) rfl rfl rfl rfl (fun b hb => same_uQ hb) rfl (fun f' z0 z1 z2 z3 => absurd z1 (by decide)) (fun q hq => h.2.2.1.1 q (List.mem_cons_of_mem _ (List.mem_cons_of_mem _ (List.mem_cons_of_mem _ (List.mem_cons_of_mem _ hq))))) h.2.2.1.2.1 h.2.2.1.2.2 (fun i hi => ⟨(h.2.2.2.2.1 i hi).1, (if_neg (fun q => by omega)).trans (h.2.2.2.2.1 i hi).2⟩) (fun i hi => ?_)
  by_cases c : i = nd
  · subst c
    refine ⟨⟨by omega, if_pos ⟨rfl, rfl⟩⟩, fun k hk => ⟨haj, ?_⟩⟩
    have hm : (194 + k, 190 + 5 * i) ∈ ((197, 190 + 5 * i) :: (196, 190 + 5 * i) :: (195, 190 + 5 * i) :: (194, 190 + 5 * i) :: L) := by
      obtain rfl | rfl | rfl | rfl : k = 0 ∨ k = 1 ∨ k = 2 ∨ k = 3 := by omega
      · exact List.mem_cons_of_mem _ (List.mem_cons_of_mem _ (List.mem_cons_of_mem _ List.mem_cons_self))
      · exact List.mem_cons_of_mem _ (List.mem_cons_of_mem _ List.mem_cons_self)
      · exact List.mem_cons_of_mem _ List.mem_cons_self
      · exact List.mem_cons_self
    have z : zP T (194 + k) (x + (190 + 5 * i)) = some (x + xP (194 + k) (190 + 5 * i)) := (h.2.2.1.1 _ hm).2
    rw [xP_d hi4 hk] at z
    exact z
  · have z := h.2.2.2.2.2 i (by omega)
    exact ⟨⟨z.1.1, (if_neg (fun q => c q.2)).trans z.1.2⟩, z.2⟩
theorem XB.tt {a t : Nat} (h : XB S0 x j u L C np nd T) (haj : a < j) (ht : xT a = t) (h0 : xT a ≠ 0) : zT T (x + a) = t := (h.2.1 a haj h0).1.1.trans ht
theorem XB.t0 (h : XB S0 x j u L C np nd T) (haj : 0 < j) : zT T x = 14 := h.tt (a := 0) haj rfl (by decide)
theorem XB.nn {a n : Nat} (h : XB S0 x j u L C np nd T) (haj : a < j) (hn : xL a = n) (h0 : 100 < xT a) : zN T (x + a) = n := ((h.2.1 a haj (by omega)).1.2 h0).1.trans hn
theorem XB.pp {f a p : Nat} (h : XB S0 x j u L C np nd T) (hm : (f, a) ∈ L) (hp : xP f a = p) : zP T f (x + a) = some (x + p) := hp ▸ (h.2.2.1.1 _ hm).2
end XbRules
theorem fsO {S : Hp} {t n : Nat} (h : FS S) : FS (nO S t n) := fun b hb => by
  have hb2 : zX S + 1 ≤ b := hb
  exact (up1_n (by omega)).trans (h b (by omega))
abbrev xLL : List (Nat × Nat) := [(428, 0), (427, 0), (128, 59), (426, 0), (352, 57), (425, 0), (384, 54), (32, 55), (424, 0), (166, 51), (160, 51), (423, 0), (421, 0), (418, 0), (417, 0), (416, 0)]
set_option maxRecDepth 4000 in
set_option maxHeartbeats 1000000 in
theorem k_xInit {G : GI} {S0 : Hp} {x : Nat} (hF : FS S0) (hx : x = zX S0) (g1 : zX S0 + 210 ≤ gN G) (g2 : zU S0 + 8643 ≤ gM G) : Cn m_X12_init G [.ref x] (nO S0 14 13) (fun r T => r = .inl none ∧ XB S0 x (190 + 5 * 4) (8539 + 26 * 4) xLL True 8 4 T) := by
  refine Cn.of rfl (by decide) (Nat.le_of_ble_eq_true rfl) (fun hN hM => ?_)
  show Wx _ G _ 0 [(0, .ref x)] [] _
  refine Wx.gp (XB S0 x 1 13 [] False 0 0) ((XB.new hF hx).obj (t := 14) (n := 13) rfl (by decide) (by decide) (by decide)) (fun T0 h0 => ?_)
  refine r_aload_n dX12_init_0 rfl 0 rfl ?_
  refine r_objInit dX12_init_1 (sg1 44 rfl rfl) (sg1 45 rfl rfl) (sg1 46 rfl rfl) (by decide) (by decide) ?_
  refine r_aload_n dX12_init_4 rfl 0 rfl ?_
  refine r_new (ci := 9) dX12_init_5 fn_xoffice (by have := h0.1.1; omega) (by have := h0.1.2.1; omega) ?_
  refine r_dup dX12_init_8 rfl ?_
  have hx0 : zX T0 = Pl x 0 := h0.1.1
  refine r_callI (M2 := m_X7_init) (As := []) (rest := [.ref (zX T0), .ref x]) dX12_init_9 cc_X12_init_9 rfl rfl rfl (Nat.le_of_ble_eq_true rfl) (k_officeInit (S := nO T0 10 9) (w := xw x) (k := 0) (a := zX T0) (fun j hj => by rw [hx0]; exact xw_off (by decide) hj) rfl zT_nO (fun f => if_pos rfl) (fsO h0.1.2.2.1) (show zX T0 + 1 + 15 ≤ gN G by have := h0.1.1; omega) (show zU T0 + 9 + 316 ≤ gM G by have := h0.1.2.1; omega)) (fun v9 U0 hq => ?_) (fun E9 T9 hq => by obtain ⟨z, -⟩ := hq; cases z)
  obtain ⟨z, hON⟩ := hq
  cases z
  show Wx _ G U0 12 [(0, .ref x)] [.ref (zX T0), .ref x] _
  have hU0 := h0.off (u' := 338) (k := 0) (by decide) rfl (by decide) hON
  refine r_putP (ci := 13) (k := 0) (x := some (zX T0)) dX12_init_12 fw_X12_init_10 (hU0.t0 (by decide)) rfl rfl ?_
  refine Wx.gp (XB S0 x 17 338 [(416, 0)] False 0 0) (hU0.put (f := 416) (a0 := 0) rfl h0.1.1 (by decide) (by decide) (by decide) (fun i hi => absurd hi (Nat.not_lt_zero i))) (fun T1 h1 => ?_)
  refine r_aload_n dX12_init_15 rfl 0 rfl ?_
  refine r_new (ci := 9) dX12_init_16 fn_xoffice (by have := h1.1.1; omega) (by have := h1.1.2.1; omega) ?_
  refine r_dup dX12_init_19 rfl ?_
  have hx1 : zX T1 = Pl x 1 := h1.1.1
  refine r_callI (M2 := m_X7_init) (As := []) (rest := [.ref (zX T1), .ref x]) dX12_init_20 cc_X12_init_9 rfl rfl rfl (Nat.le_of_ble_eq_true rfl) (k_officeInit (S := nO T1 10 9) (w := xw x) (k := 1) (a := zX T1) (fun j hj => by rw [hx1]; exact xw_off (by decide) hj) rfl zT_nO (fun f => if_pos rfl) (fsO h1.1.2.2.1) (show zX T1 + 1 + 15 ≤ gN G by have := h1.1.1; omega) (show zU T1 + 9 + 316 ≤ gM G by have := h1.1.2.1; omega)) (fun v9 U1 hq => ?_) (fun E9 T9 hq => by obtain ⟨z, -⟩ := hq; cases z)
  obtain ⟨z, hON⟩ := hq
  cases z
  show Wx _ G U1 23 [(0, .ref x)] [.ref (zX T1), .ref x] _
  have hU1 := h1.off (u' := 663) (k := 1) (by decide) rfl (by decide) hON
  refine r_putP (ci := 13) (k := 1) (x := some (zX T1)) dX12_init_23 fw_X12_init_16 (hU1.t0 (by decide)) rfl rfl ?_
  refine Wx.gp (XB S0 x 33 663 [(417, 0), (416, 0)] False 0 0) (hU1.put (f := 417) (a0 := 0) rfl h1.1.1 (by decide) (by decide) (by decide) (fun i hi => absurd hi (Nat.not_lt_zero i))) (fun T2 h2 => ?_)
  refine r_aload_n dX12_init_26 rfl 0 rfl ?_
  refine r_bipush (v := nI 8) dX12_init_27 (by decide) ?_
  refine r_anew114 (N := 8) dX12_init_29 (sg1 47 rfl rfl) (nI_nn (by decide)) (nI_clamp (by decide)) (by decide) (by have := h2.1.1; omega) (by have := h2.1.2.1; omega) ?_
  have hU2 := h2.row (u' := 671) (t := 114) (n := 8) rfl (by decide) rfl (by decide) (by decide)
  refine r_putP (ci := 13) (k := 2) (x := some (zX T2)) dX12_init_32 fw_X12_init_19 (hU2.t0 (by decide)) rfl rfl ?_
  refine Wx.gp (XB S0 x 34 671 [(418, 0), (417, 0), (416, 0)] False 0 0) (hU2.put (f := 418) (a0 := 0) rfl h2.1.1 (by decide) (by decide) (by decide) (fun i hi => absurd hi (Nat.not_lt_zero i))) (fun T3 h3 => ?_)
  refine r_aload_n dX12_init_35 rfl 0 rfl ?_
  refine r_new (ci := 9) dX12_init_36 fn_xoffice (by have := h3.1.1; omega) (by have := h3.1.2.1; omega) ?_
  refine r_dup dX12_init_39 rfl ?_
  have hx3 : zX T3 = Pl x 2 := h3.1.1
  refine r_callI (M2 := m_X7_init) (As := []) (rest := [.ref (zX T3), .ref x]) dX12_init_40 cc_X12_init_9 rfl rfl rfl (Nat.le_of_ble_eq_true rfl) (k_officeInit (S := nO T3 10 9) (w := xw x) (k := 2) (a := zX T3) (fun j hj => by rw [hx3]; exact xw_off (by decide) hj) rfl zT_nO (fun f => if_pos rfl) (fsO h3.1.2.2.1) (show zX T3 + 1 + 15 ≤ gN G by have := h3.1.1; omega) (show zU T3 + 9 + 316 ≤ gM G by have := h3.1.2.1; omega)) (fun v9 U3 hq => ?_) (fun E9 T9 hq => by obtain ⟨z, -⟩ := hq; cases z)
  obtain ⟨z, hON⟩ := hq
  cases z
  show Wx _ G U3 43 [(0, .ref x)] [.ref (zX T3), .ref x] _
  have hU3 := h3.off (u' := 996) (k := 2) (by decide) rfl (by decide) hON
  refine r_putP (ci := 13) (k := 5) (x := some (zX T3)) dX12_init_43 fw_X12_init_23 (hU3.t0 (by decide)) rfl rfl ?_
  refine Wx.gp (XB S0 x 50 996 [(421, 0), (418, 0), (417, 0), (416, 0)] False 0 0) (hU3.put (f := 421) (a0 := 0) rfl h3.1.1 (by decide) (by decide) (by decide) (fun i hi => absurd hi (Nat.not_lt_zero i))) (fun T4 h4 => ?_)
  refine r_aload_n dX12_init_46 rfl 0 rfl ?_
  refine r_iconst (v := nI 4) dX12_init_47 (by decide) ?_
  refine r_anew111 (N := 4) dX12_init_48 (sg1 156 rfl rfl) (nI_nn (by decide)) (nI_clamp (by decide)) (by decide) (by have := h4.1.1; omega) (by have := h4.1.2.1; omega) ?_
  have hU4 := h4.row (u' := 1000) (t := 111) (n := 4) rfl (by decide) rfl (by decide) (by decide)
  refine r_putP (ci := 13) (k := 7) (x := some (zX T4)) dX12_init_51 fw_X12_init_28 (hU4.t0 (by decide)) rfl rfl ?_
  refine Wx.gp (XB S0 x 51 1000 [(423, 0), (421, 0), (418, 0), (417, 0), (416, 0)] False 0 0) (hU4.put (f := 423) (a0 := 0) rfl h4.1.1 (by decide) (by decide) (by decide) (fun i hi => absurd hi (Nat.not_lt_zero i))) (fun T5 h5 => ?_)
  refine r_aload_n dX12_init_54 rfl 0 rfl ?_
  refine r_new (ci := 5) dX12_init_55 fn_xcommands (by have := h5.1.1; omega) (by have := h5.1.2.1; omega) ?_
  refine r_dup dX12_init_58 rfl ?_
  refine r_fnI (M2 := m_X3_init) (As := []) (rest := [.ref (zX T5), .ref x]) (v := none) dX12_init_59 cc_X12_init_34 rfl rfl rfl (Nat.le_of_ble_eq_true rfl) (k_commandsInit (S := nO T5 6 7) (b := zX T5) zT_nO (fsO h5.1.2.2.1) (show zX T5 + 1 + 2 ≤ gN G by have := h5.1.1; omega) (show zU T5 + 7 + 66 ≤ gM G by have := h5.1.2.1; omega)) rfl ?_
  have hx5 : zX T5 = x + 51 := h5.1.1
  have c5_0 := h5.obj (u' := 1007) (t := 6) (n := 7) rfl (by decide) (by decide) (by decide)
  have c5_1 := c5_0.row (u' := 1067) (t := 105) (n := 60) rfl (by decide) rfl (by decide) (by decide)
  have c5_2 := c5_1.put (f := 160) (b := zX T5) (v := zX T5 + 1) (a0 := 51) (show zX T5 = x + 51 by omega) (show zX T5 + 1 = x + 52 by omega) (by decide) (by decide) (by decide) (fun i hi => absurd hi (Nat.not_lt_zero i))
  have c5_3 := c5_2.int51 (b := zX T5) (v := (-1)) (show zX T5 = x + 51 by omega) rfl (by decide)
  have c5_4 := c5_3.row (u' := 1073) (t := 101) (n := 6) rfl (by decide) rfl (by decide) (by decide)
  have c5_5 := c5_4.put (f := 166) (b := zX T5) (v := zX T5 + 2) (a0 := 51) (show zX T5 = x + 51 by omega) (show zX T5 + 2 = x + 53 by omega) (by decide) (by decide) (by decide) (fun i hi => absurd hi (Nat.not_lt_zero i))
  refine r_putP (ci := 13) (k := 8) (x := some (zX T5)) dX12_init_62 fw_X12_init_35 (c5_5.t0 (by decide)) rfl rfl ?_
  refine Wx.gp (XB S0 x 54 1073 [(424, 0), (166, 51), (160, 51), (423, 0), (421, 0), (418, 0), (417, 0), (416, 0)] True 0 0) (c5_5.put (f := 424) (b := x) (v := zX T5) (a0 := 0) rfl hx5 (by decide) (by decide) (by decide) (fun i hi => absurd hi (Nat.not_lt_zero i))) (fun T6 h6 => ?_)
  refine r_aload_n dX12_init_65 rfl 0 rfl ?_
  refine r_new (ci := 12) dX12_init_66 fn_xreport (by have := h6.1.1; omega) (by have := h6.1.2.1; omega) ?_
  refine r_dup dX12_init_69 rfl ?_
  refine r_fnI (M2 := m_X10_init) (As := []) (rest := [.ref (zX T6), .ref x]) (v := none) dX12_init_70 cc_X12_init_41 rfl rfl rfl (Nat.le_of_ble_eq_true rfl) (k_reportInit (S := nO T6 13 1) (b := zX T6) zT_nO (fsO h6.1.2.2.1) (show zX T6 + 1 + 2 ≤ gN G by have := h6.1.1; omega) (show zU T6 + 1 + 20 ≤ gM G by have := h6.1.2.1; omega)) rfl ?_
  have hx6 : zX T6 = x + 54 := h6.1.1
  have c6_0 := h6.obj (u' := 1074) (t := 13) (n := 1) rfl (by decide) (by decide) (by decide)
  have c6_1 := c6_0.obj (u' := 1078) (t := 2) (n := 4) rfl (by decide) (by decide) (by decide)
  have c6_2 := c6_1.row (u' := 1094) (t := 104) (n := 16) rfl (by decide) rfl (by decide) (by decide)
  have c6_3 := c6_2.put (f := 32) (b := zX T6 + 1) (v := zX T6 + 2) (a0 := 55) (show zX T6 + 1 = x + 55 by omega) (show zX T6 + 2 = x + 56 by omega) (by decide) (by decide) (by decide) (fun i hi => absurd hi (Nat.not_lt_zero i))
  have c6_4 := c6_3.int0 (f := 33) (b := zX T6 + 1) (a0 := 55) (show zX T6 + 1 = x + 55 by omega) nI_0 (by decide) (by decide)
  have c6_5 := c6_4.put (f := 384) (b := zX T6) (v := zX T6 + 1) (a0 := 54) (show zX T6 = x + 54 by omega) (show zX T6 + 1 = x + 55 by omega) (by decide) (by decide) (by decide) (fun i hi => absurd hi (Nat.not_lt_zero i))
  refine r_putP (ci := 13) (k := 9) (x := some (zX T6)) dX12_init_73 fw_X12_init_42 (c6_5.t0 (by decide)) rfl rfl ?_
  refine Wx.gp (XB S0 x 57 1094 [(425, 0), (384, 54), (32, 55), (424, 0), (166, 51), (160, 51), (423, 0), (421, 0), (418, 0), (417, 0), (416, 0)] True 0 0) (c6_5.put (f := 425) (b := x) (v := zX T6) (a0 := 0) rfl hx6 (by decide) (by decide) (by decide) (fun i hi => absurd hi (Nat.not_lt_zero i))) (fun T7 h7 => ?_)
  refine r_aload_n dX12_init_76 rfl 0 rfl ?_
  refine r_new (ci := 11) dX12_init_77 fn_xrecall (by have := h7.1.1; omega) (by have := h7.1.2.1; omega) ?_
  refine r_dup dX12_init_80 rfl ?_
  refine r_fnI (M2 := m_X9_init) (As := []) (rest := [.ref (zX T7), .ref x]) (v := none) dX12_init_81 cc_X12_init_48 rfl rfl rfl (Nat.le_of_ble_eq_true rfl) (k_recallInit (S := nO T7 12 2) (b := zX T7) zT_nO (fsO h7.1.2.2.1) (show zX T7 + 1 + 1 ≤ gN G by have := h7.1.1; omega) (show zU T7 + 2 + 4800 ≤ gM G by have := h7.1.2.1; omega)) rfl ?_
  have hx7 : zX T7 = x + 57 := h7.1.1
  have c7_0 := h7.obj (u' := 1096) (t := 12) (n := 2) rfl (by decide) (by decide) (by decide)
  have c7_1 := c7_0.row (u' := 5896) (t := 106) (n := 4800) rfl (by decide) rfl (by decide) (by decide)
  have c7_2 := c7_1.put (f := 352) (b := zX T7) (v := zX T7 + 1) (a0 := 57) (show zX T7 = x + 57 by omega) (show zX T7 + 1 = x + 58 by omega) (by decide) (by decide) (by decide) (fun i hi => absurd hi (Nat.not_lt_zero i))
  refine r_putP (ci := 13) (k := 10) (x := some (zX T7)) dX12_init_84 fw_X12_init_49 (c7_2.t0 (by decide)) rfl rfl ?_
  refine Wx.gp (XB S0 x 59 5896 [(426, 0), (352, 57), (425, 0), (384, 54), (32, 55), (424, 0), (166, 51), (160, 51), (423, 0), (421, 0), (418, 0), (417, 0), (416, 0)] True 0 0) (c7_2.put (f := 426) (b := x) (v := zX T7) (a0 := 0) rfl hx7 (by decide) (by decide) (by decide) (fun i hi => absurd hi (Nat.not_lt_zero i))) (fun T8 h8 => ?_)
  refine r_aload_n dX12_init_87 rfl 0 rfl ?_
  refine r_new (ci := 4) dX12_init_88 fn_xchance (by have := h8.1.1; omega) (by have := h8.1.2.1; omega) ?_
  refine r_dup dX12_init_91 rfl ?_
  refine r_fnI (M2 := m_X2_init) (As := []) (rest := [.ref (zX T8), .ref x]) (v := none) dX12_init_92 cc_X12_init_55 rfl rfl rfl (Nat.le_of_ble_eq_true rfl) (k_chanceInit (S := nO T8 5 1) (b := zX T8) zT_nO (fsO h8.1.2.2.1) (show zX T8 + 1 + 1 ≤ gN G by have := h8.1.1; omega) (show zU T8 + 1 + 33 ≤ gM G by have := h8.1.2.1; omega)) rfl ?_
  have hx8 : zX T8 = x + 59 := h8.1.1
  have c8_0 := h8.obj (u' := 5897) (t := 5) (n := 1) rfl (by decide) (by decide) (by decide)
  have c8_1 := c8_0.row (u' := 5930) (t := 103) (n := 33) rfl (by decide) rfl (by decide) (by decide)
  have c8_2 := c8_1.put (f := 128) (b := zX T8) (v := zX T8 + 1) (a0 := 59) (show zX T8 = x + 59 by omega) (show zX T8 + 1 = x + 60 by omega) (by decide) (by decide) (by decide) (fun i hi => absurd hi (Nat.not_lt_zero i))
  refine r_putP (ci := 13) (k := 11) (x := some (zX T8)) dX12_init_95 fw_X12_init_56 (c8_2.t0 (by decide)) rfl rfl ?_
  refine Wx.gp (XB S0 x 61 5930 [(427, 0), (128, 59), (426, 0), (352, 57), (425, 0), (384, 54), (32, 55), (424, 0), (166, 51), (160, 51), (423, 0), (421, 0), (418, 0), (417, 0), (416, 0)] True 0 0) (c8_2.put (f := 427) (b := x) (v := zX T8) (a0 := 0) rfl hx8 (by decide) (by decide) (by decide) (fun i hi => absurd hi (Nat.not_lt_zero i))) (fun T9 h9 => ?_)
  refine r_aload_n dX12_init_98 rfl 0 rfl ?_
  refine r_new (ci := 10) dX12_init_99 fn_xtrial (by have := h9.1.1; omega) (by have := h9.1.2.1; omega) ?_
  refine r_dup dX12_init_102 rfl ?_
  refine r_fnI (M2 := m_X8_init) (As := []) (rest := [.ref (zX T9), .ref x]) (v := none) dX12_init_103 cc_X12_init_62 rfl rfl rfl (Nat.le_of_ble_eq_true rfl) (k_prodInit (S := nO T9 11 9) (a := zX T9) zT_nO) rfl ?_
  have hx9 : zX T9 = x + 61 := h9.1.1
  have c9_0 := h9.obj (u' := 5939) (t := 11) (n := 9) rfl (by decide) (by decide) (by decide)
  have c9_1 := c9_0.p4 (b := zX T9) (show zX T9 = x + 61 by omega)
  refine r_putP (ci := 13) (k := 12) (x := some (zX T9)) dX12_init_106 fw_X12_init_63 (c9_1.t0 (by decide)) rfl rfl ?_
  refine Wx.gp (XB S0 x 62 5939 [(428, 0), (427, 0), (128, 59), (426, 0), (352, 57), (425, 0), (384, 54), (32, 55), (424, 0), (166, 51), (160, 51), (423, 0), (421, 0), (418, 0), (417, 0), (416, 0)] True 0 0) (c9_1.put (f := 428) (b := x) (v := zX T9) (a0 := 0) rfl hx9 (by decide) (by decide) (by decide) (fun i hi => absurd hi (Nat.not_lt_zero i))) (fun T10 h10 => ?_)
  replace h10 : XB S0 x (62 + 16 * 0) (5939 + 325 * 0) [(428, 0), (427, 0), (128, 59), (426, 0), (352, 57), (425, 0), (384, 54), (32, 55), (424, 0), (166, 51), (160, 51), (423, 0), (421, 0), (418, 0), (417, 0), (416, 0)] True 0 0 T10 := h10
  refine r_iconst (v := nI 0) dX12_init_109 (by decide) ?_
  refine r_istore_n (lv' := [(1, .int (nI 0)), (0, .ref x)]) dX12_init_110 rfl (by decide) rfl ?_
  refine Wx.sub [1, 0] rfl ?_
  refine Wx.loopR (fun i T lv => XB S0 x (62 + 16 * i) (5939 + 325 * i) [(428, 0), (427, 0), (128, 59), (426, 0), (352, 57), (425, 0), (384, 54), (32, 55), (424, 0), (166, 51), (160, 51), (423, 0), (421, 0), (418, 0), (417, 0), (416, 0)] True i 0 T ∧ lv = [(0, .ref x), (1, .int (nI i))]) 8 0 (Nat.zero_le _) ⟨h10, rfl⟩ (fun i T lv hge hle hI9 next => ?_)
  obtain ⟨h, rfl⟩ := hI9
  refine r_iload_n dX12_init_111 rfl 1 rfl ?_
  refine r_aload_n dX12_init_112 rfl 0 rfl ?_
  refine r_getR (ci := 13) (k := 2) (b := x + 33) dX12_init_113 fr_X12_19 (h.t0 (by omega)) rfl (h.pp (f := 418) (a := 0) (by decide) rfl) ?_
  refine r_alenQ dX12_init_116 (h.tt (t := 114) (by omega) rfl (by decide)) (by decide) (by decide) ?_
  refine Wx.top (congrArg nI (h.nn (n := 8) (by omega) rfl (by decide))) ?_
  refine r_icmp_geN (tgt := 139) dX12_init_117 (by decide) (by omega) (by omega) (fun hg => ?_) (fun hg => ?_)
  · have ei : i = 8 := by omega
    subst ei
    replace h : XB S0 x (190 + 5 * 0) (8539 + 26 * 0) [(428, 0), (427, 0), (128, 59), (426, 0), (352, 57), (425, 0), (384, 54), (32, 55), (424, 0), (166, 51), (160, 51), (423, 0), (421, 0), (418, 0), (417, 0), (416, 0)] True 8 0 T := h
    refine r_iconst (v := nI 0) dX12_init_139 (by decide) ?_
    refine r_istore_n (lv' := [(1, .int (nI 0)), (0, .ref x)]) dX12_init_140 rfl (by decide) rfl ?_
    refine Wx.sub [1, 0] rfl ?_
    refine Wx.loopR (fun i T lv => XB S0 x (190 + 5 * i) (8539 + 26 * i) [(428, 0), (427, 0), (128, 59), (426, 0), (352, 57), (425, 0), (384, 54), (32, 55), (424, 0), (166, 51), (160, 51), (423, 0), (421, 0), (418, 0), (417, 0), (416, 0)] True 8 i T ∧ lv = [(0, .ref x), (1, .int (nI i))]) 4 0 (Nat.zero_le _) ⟨h, rfl⟩ (fun i T lv hge hle hI9 next => ?_)
    obtain ⟨h, rfl⟩ := hI9
    refine r_iload_n dX12_init_141 rfl 1 rfl ?_
    refine r_aload_n dX12_init_142 rfl 0 rfl ?_
    refine r_getR (ci := 13) (k := 7) (b := x + 50) dX12_init_143 fr_X12_28 (h.t0 (by omega)) rfl (h.pp (f := 423) (a := 0) (by decide) rfl) ?_
    refine r_alenQ dX12_init_146 (h.tt (t := 111) (by omega) rfl (by decide)) (by decide) (by decide) ?_
    refine Wx.top (congrArg nI (h.nn (n := 4) (by omega) rfl (by decide))) ?_
    refine r_icmp_geN (tgt := 169) dX12_init_147 (by decide) (by omega) (by omega) (fun hg => ?_) (fun hg => ?_)
    · have ei : i = 4 := by omega
      subst ei
      exact r_vret dX12_init_169 rfl ⟨rfl, h⟩
    · refine r_aload_n dX12_init_150 rfl 0 rfl ?_
      refine r_getR (ci := 13) (k := 7) (b := x + 50) dX12_init_151 fr_X12_28 (h.t0 (by omega)) rfl (h.pp (f := 423) (a := 0) (by decide) rfl) ?_
      refine r_iload_n dX12_init_154 rfl 1 rfl ?_
      have hx := h.1.1
      have hu := h.1.2.1
      have hi4 : i < 4 := by omega
      refine r_new (ci := 6) dX12_init_155 fn_xdrawer (by omega) (by omega) ?_
      refine r_dup dX12_init_158 rfl ?_
      refine r_fnI (M2 := m_X4_init) (As := []) (rest := [.ref (zX T), .int (nI i), .ref (x + 50)]) (v := none) dX12_init_159 cc_X12_init_67 rfl rfl rfl (Nat.le_of_ble_eq_true rfl) (k_drawerInit (S := nO T 7 6) (b := zX T) zT_nO (fsO h.1.2.2.1) (show zX T + 1 + 4 ≤ gN G by omega) (show zU T + 6 + 20 ≤ gM G by omega)) rfl ?_
      have hd0 := xT_d (k := 0) hi4 (by decide)
      have hd1 := xT_d (k := 1) hi4 (by decide)
      have hd2 := xT_d (k := 2) hi4 (by decide)
      have hd3 := xT_d (k := 3) hi4 (by decide)
      have hd4 := xT_d (k := 4) hi4 (by decide)
      have e0 : xT (190 + 5 * i) = 7 := hd0.1
      have e1 : xT (190 + 5 * i + 1) = 101 := hd1.1
      have n1 : xL (190 + 5 * i + 1) = 5 := hd1.2
      have e2 : xT (190 + 5 * i + 1 + 1) = 101 := hd2.1
      have n2 : xL (190 + 5 * i + 1 + 1) = 5 := hd2.2
      have e3 : xT (190 + 5 * i + 1 + 1 + 1) = 101 := hd3.1
      have n3 : xL (190 + 5 * i + 1 + 1 + 1) = 5 := hd3.2
      have e4 : xT (190 + 5 * i + 1 + 1 + 1 + 1) = 101 := hd4.1
      have n4 : xL (190 + 5 * i + 1 + 1 + 1 + 1) = 5 := hd4.2
      have c0 := h.obj (u' := 8539 + 26 * i + 6) (t := 7) (n := 6) e0.symm (by omega) (by omega) (by omega)
      have c1 := c0.int0 (f := 192) (b := zX T) (a0 := 190 + 5 * i) hx nI_0 (by omega) (by omega)
      have r0 := c1.row (u' := 8539 + 26 * i + 11) (t := 101) (n := 5) e1.symm (by omega) n1.symm (by omega) (by omega)
      have p0 := r0.put (f := 194) (b := zX T) (v := zX T + 1) (a0 := 190 + 5 * i) hx (show zX T + 1 = x + xP (194 + 0) (190 + 5 * i) by rw [xP_d hi4 (by decide)]; omega) (by omega) (by omega) (by omega) (fun q hq => by omega)
      have r1 := p0.row (u' := 8539 + 26 * i + 16) (t := 101) (n := 5) e2.symm (by omega) n2.symm (by omega) (by omega)
      have p1 := r1.put (f := 195) (b := zX T) (v := zX T + 2) (a0 := 190 + 5 * i) hx (show zX T + 2 = x + xP (194 + 1) (190 + 5 * i) by rw [xP_d hi4 (by decide)]; omega) (by omega) (by omega) (by omega) (fun q hq => by omega)
      have r2 := p1.row (u' := 8539 + 26 * i + 21) (t := 101) (n := 5) e3.symm (by omega) n3.symm (by omega) (by omega)
      have p2 := r2.put (f := 196) (b := zX T) (v := zX T + 3) (a0 := 190 + 5 * i) hx (show zX T + 3 = x + xP (194 + 2) (190 + 5 * i) by rw [xP_d hi4 (by decide)]; omega) (by omega) (by omega) (by omega) (fun q hq => by omega)
      have r3 := p2.row (u' := 8539 + 26 * (i + 1)) (t := 101) (n := 5) e4.symm (by omega) n4.symm (by omega) (by omega)
      have p3 := r3.put (f := 197) (b := zX T) (v := zX T + 4) (a0 := 190 + 5 * i) hx (show zX T + 4 = x + xP (194 + 3) (190 + 5 * i) by rw [xP_d hi4 (by decide)]; omega) (by omega) (by omega) (by omega) (fun q hq => by omega)
      refine r_aast (r := _) dX12_init_162 (p3.tt (a := 50) (t := 111) (by omega) rfl (by decide)) (by decide) 6 rfl ((congrArg (zT _) hx).trans (p3.tt (a := 190 + 5 * i) (t := 7) (by omega) e0 (by omega))) rfl (by decide) (Eq.mpr (congrArg (vp_in (nI i)) (p3.nn (a := 50) (n := 4) (by omega) rfl (by decide))) (vp_in_nI (by omega) (by decide))) ?_
      rw [nI_clamp (by omega)]
      refine r_iincN (k := 1) (lv' := [(1, .int (nI (i + 1))), (0, .ref x)]) dX12_init_163 (by decide) 1 rfl (by decide) rfl ?_
      refine r_goto (tgt := 141) dX12_init_166 (by decide) ?_
      refine Wx.sub [1, 0] rfl ?_
      have hV := p3.q50 (b := x + 50) (v := zX T) rfl hx hi4 (by omega)
      rw [show 190 + 5 * i + 1 + 1 + 1 + 1 + 1 = 190 + 5 * (i + 1) by omega] at hV
      exact next _ _ (by omega) ⟨hV, rfl⟩
  · refine r_aload_n dX12_init_120 rfl 0 rfl ?_
    refine r_getR (ci := 13) (k := 2) (b := x + 33) dX12_init_121 fr_X12_19 (h.t0 (by omega)) rfl (h.pp (f := 418) (a := 0) (by decide) rfl) ?_
    refine r_iload_n dX12_init_124 rfl 1 rfl ?_
    have hx := h.1.1
    have hu := h.1.2.1
    refine r_new (ci := 9) dX12_init_125 fn_xoffice (by omega) (by omega) ?_
    refine r_dup dX12_init_128 rfl ?_
    have hPl : Pl 0 (i + 3) = 62 + 16 * i := by have := Pl_r (e := i + 3) (by omega); omega
    have hxe : zX T = Pl x (i + 3) := by rw [Pl_x, hPl]; exact hx
    refine r_callI (M2 := m_X7_init) (As := []) (rest := [.ref (zX T), .int (nI i), .ref (x + 33)]) dX12_init_129 cc_X12_init_9 rfl rfl rfl (Nat.le_of_ble_eq_true rfl) (k_officeInit (S := nO T 10 9) (w := xw x) (k := i + 3) (a := zX T) (fun j hj => by rw [hxe]; exact xw_off (by omega) hj) rfl zT_nO (fun f => if_pos rfl) (fsO h.1.2.2.1) (show zX T + 1 + 15 ≤ gN G by omega) (show zU T + 9 + 316 ≤ gM G by omega)) (fun v9 U hq => ?_) (fun E9 T9 hq => by obtain ⟨z, -⟩ := hq; cases z)
    obtain ⟨z, hON⟩ := hq
    cases z
    show Wx _ G U 132 [(0, .ref x), (1, .int (nI i))] [.ref (zX T), .int (nI i), .ref (x + 33)] _
    have hU := h.off (u' := 5939 + 325 * (i + 1)) (k := i + 3) (by omega) hPl.symm (by omega) hON
    refine r_aast (r := _) dX12_init_132 (hU.tt (a := 33) (t := 114) (by omega) rfl (by decide)) (by decide) 9 rfl hON.1.1.1 rfl (by decide) (by rw [hU.nn (a := 33) (n := 8) (by omega) rfl (by decide)]; exact vp_in_nI (by omega) (by decide)) ?_
    rw [nI_clamp (by omega)]
    refine r_iincN (k := 1) (lv' := [(1, .int (nI (i + 1))), (0, .ref x)]) dX12_init_133 (by decide) 1 rfl (by decide) rfl ?_
    refine r_goto (tgt := 111) dX12_init_136 (by decide) ?_
    refine Wx.sub [1, 0] rfl ?_
    have hV := hU.q33 (b := x + 33) (v := zX T) rfl hx (by omega)
    rw [show 62 + 16 * i + 16 = 62 + 16 * (i + 1) by omega] at hV
    exact next _ _ (by omega) ⟨hV, rfl⟩
