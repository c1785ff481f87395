/-! THE STATE OF THE LAW: class and reference in one heap -/
theorem rput_self {T : Hp} {m : Nat} {V : RVal} {od : Nat → UInt64} (hI : ∀ f, 448 ≤ f → zI T f m = V 0 (f - 448)) (hA : ∀ a i, m + 1 ≤ a → a ≤ m + 10 → zA T a i = V (a - m) i) (hD : ∀ i, zD T (m + 6) i = od i) : rput T m V od = T := by
  have e1 : (fun f a => if a = m ∧ 448 ≤ f then V 0 (f - 448) else zI T f a) = zI T := funext fun f => funext fun a => by
    by_cases h : a = m ∧ 448 ≤ f
    · rw [if_pos h, h.1]; exact (hI f h.2).symm
    · rw [if_neg h]
  have e2 : (fun a i => if m + 1 ≤ a ∧ a ≤ m + 10 then V (a - m) i else zA T a i) = zA T := funext fun a => funext fun i => by
    by_cases h : m + 1 ≤ a ∧ a ≤ m + 10
    · rw [if_pos h]; exact (hA a i h.1 h.2).symm
    · rw [if_neg h]
  have e3 : (fun a i => if a = m + 6 then od i else zD T a i) = zD T := funext fun a => funext fun i => by
    by_cases h : a = m + 6
    · rw [if_pos h, h]; exact (hD i).symm
    · rw [if_neg h]
  unfold rput
  rw [e1, e2, e3]
  rfl
theorem RS.fr {F : Nat → Prop} {S T : Hp} {m : Nat} (hm : ∀ a, m ≤ a → a ≤ m + 10 → F a) (h : FrF F S T) (hs : RS S m) : RS T m := by
  obtain ⟨h1, ⟨p1, p2, p3, p4, p5, p6, p7, p8, p9, p10, p11⟩, ⟨t1, t2, t3, t4, t5, t6, t7, t8, t9, t10⟩, n1, n2, n3, n4, n5, n6, n7, n8, n9, n10⟩ := hs
  have hT : ∀ j, j ≤ 10 → zT T (m + j) = zT S (m + j) := fun j hj => (h (m + j) (hm _ (by omega) (by omega))).1.1
  have hN : ∀ j, j ≤ 10 → zN T (m + j) = zN S (m + j) := fun j hj => (h (m + j) (hm _ (by omega) (by omega))).1.2
  have hP : ∀ f, zP T f m = zP S f m := (h m (hm _ (by omega) (by omega))).2.2.1
  exact ⟨(hT 0 (by decide)).trans h1, ⟨(hP _).trans p1, (hP _).trans p2, (hP _).trans p3, (hP _).trans p4, (hP _).trans p5, (hP _).trans p6, (hP _).trans p7, (hP _).trans p8, (hP _).trans p9, (hP _).trans p10, (hP _).trans p11⟩,
    ⟨(hT 1 (by decide)).trans t1, (hT 2 (by decide)).trans t2, (hT 3 (by decide)).trans t3, (hT 4 (by decide)).trans t4, (hT 5 (by decide)).trans t5, (hT 6 (by decide)).trans t6, (hT 7 (by decide)).trans t7, (hT 8 (by decide)).trans t8, (hT 9 (by decide)).trans t9, (hT 10 (by decide)).trans t10⟩,
    (hN 1 (by decide)).trans n1, (hN 2 (by decide)).trans n2, (hN 3 (by decide)).trans n3, (hN 4 (by decide)).trans n4, (hN 5 (by decide)).trans n5, (hN 6 (by decide)).trans n6, (hN 7 (by decide)).trans n7, (hN 8 (by decide)).trans n8, (hN 9 (by decide)).trans n9, (hN 10 (by decide)).trans n10⟩
/-- what the class does leaves the reference as it is -/
theorem frf_rput {F : Nat → Prop} {T T' : Hp} {m : Nat} {V : RVal} {od : Nat → UInt64} (hm : ∀ a, m ≤ a → a ≤ m + 10 → F a) (h : FrF F (rput T m V od) T') (hs : RS T m) : rput T' m V od = T' ∧ RS T' m := by
  refine ⟨rput_self (fun f hf => ?_) (fun a i h1 h2 => ?_) (fun i => ?_), RS.fr hm h hs⟩
  · refine ((h m (hm _ (by omega) (by omega))).2.1 f).trans ?_
    exact if_pos ⟨rfl, hf⟩
  · refine (congrFun (h a (hm _ (by omega) (by omega))).2.2.2.1 i).trans ?_
    exact if_pos ⟨h1, h2⟩
  · refine (congrFun (h (m + 6) (hm _ (by omega) (by omega))).2.2.2.2.2.1 i).trans ?_
    exact if_pos rfl
section FarRules
variable {F F' : Nat → Prop} {S S' : Hp} {x bx bu bx' bu' : Nat} {D : Nat → Nat → Nat} {g : Nat → Nat} {N ps : Nat} {gq : Nat → Nat → Nat} {ik : Nat} {gk : Nat → Nat}
theorem CSt.far (h : CSt F S x bx bu D g N ps gq ik gk) (hf : ∀ a, zT S a ≠ 0 → (zT S' a = zT S a ∧ zN S' a = zN S a) ∧ (¬ F a → Same S S' a)) (hS : FS S') (hX : zX S ≤ zX S') (hb : zX S' + bx ≤ zX S + bx' ∧ zU S' + bu ≤ zU S + bu') (hF : ∀ a, F' a → zT S' a ≠ 0 ∧ (F a ∨ zX S ≤ a)) : CSt F' S' x bx' bu' D g N ps gq ik gk := by
  obtain ⟨w, K, E, A, c, hX1, hp, hr, hD, hq, hk, hF1⟩ := h
  have hFr : Fr w 12 S S' := fun a ha => ⟨(hf a ha).1, fun hw => (hf a ha).2 (fun hFa => hw (by rw [(hF1 a hFa).2]))⟩
  have hw : ∀ a, a < zX S → (fun a => if a < zX S then w a else 384) a = w a := fun a ha => if_pos ha
  refine ⟨fun a => if a < zX S then w a else 384, K, E, A, c, ⟨MX.fr (by decide) hFr hw hX1.fs hX1.1, fun e he => OR.fr (by omega) hFr hw hS (hX1.2.1 e he), ⟨by have := hX1.2.2.1.1; omega, by have := hX1.2.2.1.2; omega⟩, hS⟩, hp, hr, hD, hq, hk, fun a ha => ?_⟩
  obtain ⟨h1, h2⟩ := hF a ha
  refine ⟨h1, ?_⟩
  by_cases r : a < zX S
  · show (if a < zX S then w a else 384) = 384
    rw [if_pos r]
    exact (hF1 a (h2.resolve_right (by omega))).2
  · exact if_neg r
theorem CSt.fs (h : CSt F S x bx bu D g N ps gq ik gk) : FS S := by
  obtain ⟨w, K, E, A, c, hX1, -⟩ := h
  exact hX1.fs
theorem CSt.rp {T : Hp} {m : Nat} {V V' : RVal} {od od' : Nat → UInt64} (h : CSt F (rput T m V od) x bx bu D g N ps gq ik gk) (hm : ∀ a, m ≤ a → a ≤ m + 10 → F a) : CSt F (rput T m V' od') x bx bu D g N ps gq ik gk := by
  have hF1 : ∀ a, F a → zT (rput T m V od) a ≠ 0 := by
    obtain ⟨w, K, E, A, c, -, -, -, -, -, -, hF1⟩ := h
    exact fun a ha => (hF1 a ha).1
  refine h.far (F' := F) (fun a _ => ⟨⟨rfl, rfl⟩, fun hn => ?_⟩) h.fs (Nat.le_refl _) ⟨Nat.le_refl _, Nat.le_refl _⟩ (fun a ha => ⟨hF1 a ha, Or.inl ha⟩)
  have k : ∀ j, j ≤ 10 → a ≠ m + j := fun j hj e => hn (hm a (by omega) (by omega))
  have k0 := k 0 (by decide)
  have k1 : ¬ (m + 1 ≤ a ∧ a ≤ m + 10) := fun q => k (a - m) (by omega) (by omega)
  refine ⟨fun f => ?_, fun f => rfl, funext fun i => ?_, rfl, funext fun i => ?_, rfl⟩
  · show (if a = m ∧ 448 ≤ f then V' 0 (f - 448) else zI T f a) = (if a = m ∧ 448 ≤ f then V 0 (f - 448) else zI T f a)
    rw [if_neg (fun q => k0 q.1), if_neg (fun q => k0 q.1)]
  · show (if m + 1 ≤ a ∧ a ≤ m + 10 then V' (a - m) i else zA T a i) = (if m + 1 ≤ a ∧ a ≤ m + 10 then V (a - m) i else zA T a i)
    rw [if_neg k1, if_neg k1]
  · show (if a = m + 6 then od' i else zD T a i) = (if a = m + 6 then od i else zD T a i)
    rw [if_neg (k 6 (by decide)), if_neg (k 6 (by decide))]
theorem CSt.uL {b i : Nat} {v : Int64} (h : CSt F S x bx bu D g N ps gq ik gk) (hb : F b) : CSt F (uL S b i v) x bx bu D g N ps gq ik gk := by
  have hF1 : ∀ a, F a → zT S a ≠ 0 := by
    obtain ⟨w, K, E, A, c, -, -, -, -, -, -, hF1⟩ := h
    exact fun a ha => (hF1 a ha).1
  refine h.far (F' := F) (fun a _ => ⟨⟨rfl, rfl⟩, fun hn => ⟨fun f => rfl, fun f => rfl, rfl, funext fun j => ?_, rfl, rfl⟩⟩) h.fs (Nat.le_refl _) ⟨Nat.le_refl _, Nat.le_refl _⟩ (fun a ha => ⟨hF1 a ha, Or.inl ha⟩)
  show up2 (zL S) b i v a j = zL S a j
  exact if_neg (fun (q : a = b ∧ j = i) => hn (q.1 ▸ hb))
theorem CSt.le (h : CSt F S x bx bu D g N ps gq ik gk) (h1 : bx ≤ bx') (h2 : bu ≤ bu') : CSt F S x bx' bu' D g N ps gq ik gk := by
  obtain ⟨w, K, E, A, c, hX1, hr⟩ := h
  exact ⟨w, K, E, A, c, hX1.le h1 h2, hr⟩
theorem CSt.rel (h : CSt F S x bx bu D g N ps gq ik gk) : ∃ c, Rel c g N := by
  obtain ⟨w, K, E, A, c, hX1, hp, hr, -⟩ := h
  exact ⟨_, hr.1⟩
theorem CSt.t0 (h : CSt F S x bx bu D g N ps gq ik gk) : zT S x = 14 := by
  obtain ⟨w, K, E, A, c, hX1, -⟩ := h
  exact hX1.t0
theorem CSt.fz (h : CSt F S x bx bu D g N ps gq ik gk) {a : Nat} (ha : F a) : zT S a ≠ 0 := by
  obtain ⟨w, K, E, A, c, -, -, -, -, -, -, hF1⟩ := h
  exact (hF1 a ha).1
end FarRules
theorem uL_rput {T : Hp} {m b i : Nat} {V : RVal} {od : Nat → UInt64} {v : Int64} : uL (rput T m V od) b i v = rput (uL T b i v) m V od := rfl
theorem PM.fr {F : Nat → Prop} {S T : Hp} {m v cap : Nat} {pp : List (Nat × Nat)} (h : PM S m v cap pp) (hf : FrF F S T) (h1 : F (m + 11)) (h2 : F v) (hS : FS T) : PM T m v cap pp := by
  obtain ⟨y, hy, hb⟩ := h
  have e1 := hf _ h1
  have e2 := hf _ h2
  exact ⟨y, JB.start (e1.1.1.trans hy.tb) ((e1.2.2.1 32).trans hy.pv) (e2.1.1.trans hy.tv) (e2.1.2.trans hy.nv) ((e1.2.1 33).trans hy.co) ((e1.2.1 35).trans hy.cn) hy.ok hy.le (e2.2.2.2.1.trans hy.2.2.1.1) hy.2.2.1.2 hS, hb⟩
/-- the cells that are not the class's: the reference, its paper's row, the answer, the input -/
def LF (m b a0 pv : Nat) : Nat → Prop := fun a => (m ≤ a ∧ a ≤ m + 11) ∨ a = pv ∨ a = b ∨ a = a0
/-- drawers, text, the error's place: of both -/
def DV (V : RVal) (D : Nat → Nat → Nat) : Prop :=
  (∀ d, d < 4 → V 8 (22 * d) = nI (D 192 (190 + 5 * d)) ∧ D 192 (190 + 5 * d) ≤ 2 ∧ V 8 (22 * d + 1) = nI (D 193 (190 + 5 * d)) ∧ D 193 (190 + 5 * d) ≤ 5 ∧ ∀ i k, i < 5 → k < 4 → V 8 (22 * d + 2 + 4 * i + k) = nI (D (1000 + i) (190 + 5 * d + (1 + k)))) ∧
  (V 0 14 = nI (D 161 51) ∧ D 161 51 ≤ 60 ∧ ∀ i, i < D 161 51 → V 9 i = nI (D (1000 + i) 52) ∧ D (1000 + i) 52 < 128) ∧ V 0 15 = nI (D 163 51)
/-- what is kept -/
def KV (V : RVal) (ik : Nat) (gk : Nat → Nat) : Prop := V 0 3 = nI ik ∧ (ik = 1 → gk 0 ≤ 24 ∧ ∀ i, i < 402 + 400 * gk 0 → V 2 i = nI (gk i))
theorem DV.cg {V V' : RVal} {D : Nat → Nat → Nat} (h : DV V D) (e8 : ∀ i, V' 8 i = V 8 i) (e9 : ∀ i, V' 9 i = V 9 i) (e1 : V' 0 14 = V 0 14) (e2 : V' 0 15 = V 0 15) : DV V' D :=
  ⟨fun d hd => by obtain ⟨a1, a2, a3, a4, a5⟩ := h.1 d hd; exact ⟨(e8 _).trans a1, a2, (e8 _).trans a3, a4, fun i k hi hk => (e8 _).trans (a5 i k hi hk)⟩, ⟨e1.trans h.2.1.1, h.2.1.2.1, fun i hi => ⟨(e9 _).trans (h.2.1.2.2 i hi).1, (h.2.1.2.2 i hi).2⟩⟩, e2.trans h.2.2⟩
theorem KV.cg {V V' : RVal} {ik : Nat} {gk : Nat → Nat} (h : KV V ik gk) (e1 : V' 0 3 = V 0 3) (e2 : ∀ i, V' 2 i = V 2 i) : KV V' ik gk := ⟨e1.trans h.1, fun q => ⟨(h.2 q).1, fun i hi => (e2 _).trans ((h.2 q).2 i hi)⟩⟩
/-- what is counted as sampled, now and in what is stored, beside the text's length -/
def B8 (g : Nat → Nat) (gq : Nat → Nat → Nat) (ps ik : Nat) (gk : Nat → Nat) (L k : Nat) : Prop := ∀ p, p < 4 → g (22 + 10 * p + 8) + 6 * L ≤ 32 * k ∧ (∀ j, j < ps → gq j (22 + 10 * p + 8) + 6 * L ≤ 32 * k) ∧ (ik = 1 → gk (22 + 10 * p + 8) + 6 * L ≤ 32 * k)
section B8Rules
variable {g g' gk : Nat → Nat} {gq : Nat → Nat → Nat} {ps ik L L' k : Nat}
theorem B8.q (h : B8 g gq ps ik gk L k) (hL : L' ≤ L + 4) : B8 g gq ps ik gk L' (k + 1) := fun p hp => by
  obtain ⟨a, b, c⟩ := h p hp
  exact ⟨by omega, fun j hj => by have := b j hj; omega, fun e => by have := c e; omega⟩
theorem B8.push (h : B8 g gq ps ik gk L k) (hL : L' ≤ L) (hg : ∀ p, p < 4 → g' (22 + 10 * p + 8) + 6 * L' ≤ g (22 + 10 * p + 8) + 6 * L + 32) : B8 g' (psh g gq) (if ps < 8 then ps + 1 else ps) ik gk L' (k + 1) := fun p hp => by
  obtain ⟨a, b, c⟩ := h p hp
  refine ⟨by have := hg p hp; omega, fun j hj => ?_, fun e => by have := c e; omega⟩
  cases j with
  | zero => show g (22 + 10 * p + 8) + 6 * L' ≤ _; omega
  | succ j =>
    have hj2 : j < ps := by split at hj <;> omega
    have := b j hj2
    show gq j (22 + 10 * p + 8) + 6 * L' ≤ _
    omega
theorem B8.undo (h : B8 g gq ps ik gk L k) (h0 : 0 < ps) (hg : ∀ p, p < 4 → g' (22 + 10 * p + 8) = gq 0 (22 + 10 * p + 8)) : B8 g' (fun j => gq (j + 1)) (ps - 1) ik gk L (k + 1) := fun p hp => by
  obtain ⟨a, b, c⟩ := h p hp
  exact ⟨by rw [hg p hp]; have := b 0 h0; omega, fun j hj => by have := b (j + 1) (by omega); show gq (j + 1) (22 + 10 * p + 8) + 6 * L ≤ _; omega, fun e => by have := c e; omega⟩
theorem B8.rest (h : B8 g gq ps ik gk L k) (h0 : ik = 1) (hg : ∀ p, p < 4 → g' (22 + 10 * p + 8) = gk (22 + 10 * p + 8)) : B8 g' gq 0 ik gk L (k + 1) := fun p hp => by
  obtain ⟨a, b, c⟩ := h p hp
  exact ⟨by rw [hg p hp]; have := c h0; omega, fun j hj => absurd hj (Nat.not_lt_zero j), fun e => by have := c e; omega⟩
theorem B8.save (h : B8 g gq ps ik gk L k) : B8 g gq ps 1 g L (k + 1) := fun p hp => by
  obtain ⟨a, b, c⟩ := h p hp
  exact ⟨by omega, fun j hj => by have := b j hj; omega, fun _ => by omega⟩
theorem B8.eqv (h : B8 g gq ps ik gk L k) (hg : ∀ p, p < 4 → g' (22 + 10 * p + 8) = g (22 + 10 * p + 8)) (hL : L' ≤ L) : B8 g' gq ps ik gk L' (k + 1) := fun p hp => by
  obtain ⟨a, b, c⟩ := h p hp
  exact ⟨by rw [hg p hp]; omega, fun j hj => by have := b j hj; omega, fun e => by have := c e; omega⟩
end B8Rules
/-- k events have been gone through -/
def JS (S : Hp) (x m b a0 : Nat) (inp : Nat → Int32) (n B0 U0 k : Nat) : Prop := ∃ T V g od N ps gq ik gk D pv cap pp bx bu, S = rput T m (sg V g) od ∧ RS T m ∧ CSt (LF m b a0 pv) S x bx bu D g N ps gq ik gk ∧ (PsV V ps gq ∧ KV V ik gk ∧ DV V D) ∧ (PM S m pv cap pp ∧ PD D pp) ∧ (((a0 = b ∧ m + 11 < b) ∧ m + 11 < pv ∧ pv ≠ b) ∧ (zT S b = 102 ∧ zN S b = 1) ∧ zT S a0 = 102 ∧ zN S a0 = n ∧ ∀ i, i < n → zA S a0 i = inp i) ∧ (bx + fX (D 999 56) + fX cap ≤ B0 + k ∧ bu + fU (D 999 56) + fU cap ≤ U0 + 6 * k) ∧ N ≤ 10000 * k ∧ B8 g gq ps ik gk (D 161 51) k
