/-! THE CLASS's STATE beside what the reference holds -/
/-- K 0 the office, K 1 the spare, K 2 .. K 9 the pasts: ten different ones, none the kept -/
def Perm (K : Nat → Nat) : Prop := ∀ i, i < 10 → K i < 11 ∧ K i ≠ 2 ∧ ∀ j, j < 10 → K i = K j → i = j
theorem Perm.swap {K : Nat → Nat} (h : Perm K) {i j : Nat} (hi : i < 10) (hj : j < 10) : Perm (up1 (up1 K i (K j)) j (K i)) := by
  have e : ∀ q, q < 10 → ∃ r, r < 10 ∧ up1 (up1 K i (K j)) j (K i) q = K r ∧ (r = if q = j then i else if q = i then j else q) := fun q hq => by
    by_cases c1 : q = j
    · subst c1; exact ⟨i, hi, by rw [up1_s], by rw [if_pos rfl]⟩
    · by_cases c2 : q = i
      · subst c2; exact ⟨j, hj, by rw [up1_n c1, up1_s], by rw [if_neg c1, if_pos rfl]⟩
      · exact ⟨q, hq, by rw [up1_n c1, up1_n c2], by rw [if_neg c1, if_neg c2]⟩
  intro q hq
  obtain ⟨r, hr, e1, e2⟩ := e q hq
  rw [e1]
  refine ⟨(h r hr).1, (h r hr).2.1, fun p hp hqp => ?_⟩
  obtain ⟨t, ht, e3, e4⟩ := e p hp
  rw [e3] at hqp
  have := (h r hr).2.2 t ht hqp
  subst e2 e4
  split at this <;> split at this <;> (first | omega | (split at this <;> first | omega | (split at this <;> omega)))
theorem Rel.mono {c g : Nat → Nat} {N N' : Nat} (hN : N ≤ N') (h : Rel c g N) : Rel c g N' :=
  Rel.head hN (fun _ _ _ => rfl) (fun _ _ => rfl) rfl ⟨fun i hi => h.1.2.1 i hi, h.g3, Nat.le_trans h.g1 hN, Nat.le_trans h.g2 hN⟩ (fun i hi => ⟨(h.2.1 i hi).1, (h.mb hi).1, (h.mb hi).2.1, Nat.le_trans (h.mb hi).2.2 hN⟩) (fun p hp => HdP.congr hp hN (fun _ _ _ => rfl) (fun _ _ _ => rfl) (h.p hp)) (fun j hj => ⟨h.b hj, Nat.le_trans (h.bb hj) hN⟩) (fun _ _ => Nat.le_refl _) h
/-- an office holds what the row g holds -/
def Hol (A c : Nat → Nat) (g : Nat → Nat) (N : Nat) : Prop := Rel c g N ∧ ∀ l, l < g 0 → A l ≠ 0
/-- the j-th latest past's place -/
def pasI (np j : Nat) : Nat := 2 + (np + 7 - j) % 8
/-- D: the numbers of the drawers, the buffer, the report ..; ps pasts gq 0, gq 1 .. (the latest first); ik, gk: what is kept; F: cells of others -/
def CSt (F : Nat → Prop) (S : Hp) (x bx bu : Nat) (D : Nat → Nat → Nat) (g : Nat → Nat) (N ps : Nat) (gq : Nat → Nat → Nat) (ik : Nat) (gk : Nat → Nat) : Prop :=
  ∃ w K E A c, XR S w x K E A c bx bu ∧ Perm K ∧ Hol (A (K 0)) (c (K 0)) g N ∧ (∀ f a, (a = 52 ∨ a = 55 ∨ a = 56 ∨ 190 ≤ a ∨ a = 51 ∧ (f = 161 ∨ f = 163)) → E f a = D f a) ∧ (∃ np, np < 8 ∧ E 419 0 = np ∧ E 420 0 = ps ∧ ps ≤ 8 ∧ ∀ j, j < ps → Hol (A (K (pasI np j))) (c (K (pasI np j))) (gq j) N) ∧ (E 422 0 = ik ∧ ik < 2 ∧ (ik = 1 → Hol (A 2) (c 2) gk N)) ∧ ∀ a, F a → zT S a ≠ 0 ∧ w a = 384
def psh (g : Nat → Nat) (gq : Nat → Nat → Nat) : Nat → Nat → Nat := fun j => if j = 0 then g else gq (j - 1)
/-- others' cells stay -/
def FrF (F : Nat → Prop) (S T : Hp) : Prop := ∀ a, F a → (zT T a = zT S a ∧ zN T a = zN S a) ∧ Same S T a
theorem FrF.rfl {F : Nat → Prop} {S : Hp} : FrF F S S := fun _ _ => ⟨⟨_root_.rfl, _root_.rfl⟩, Same.rfl⟩
theorem FrF.trans {F : Nat → Prop} {S T U : Hp} (h : FrF F S T) (q : FrF F T U) : FrF F S U := fun a ha => ⟨⟨(q a ha).1.1.trans (h a ha).1.1, (q a ha).1.2.trans (h a ha).1.2⟩, (h a ha).2.trans (q a ha).2⟩
theorem Fr.frF {F : Nat → Prop} {w : Nat → Nat} {k : Nat} {S T : Hp} (h : Fr w k S T) (hk : k < 12) (hF : ∀ a, F a → zT S a ≠ 0 ∧ w a = 384) : FrF F S T := fun a ha => ⟨(h a (hF a ha).1).1, (h a (hF a ha).1).2 (by rw [(hF a ha).2]; omega)⟩
theorem Hol.mono {A c g : Nat → Nat} {N N' : Nat} (hN : N ≤ N') (h : Hol A c g N) : Hol A c g N' := ⟨Rel.mono hN h.1, h.2⟩
theorem keepF {F : Nat → Prop} {S T : Hp} {w w' : Nat → Nat} (hF : ∀ a, F a → zT S a ≠ 0 ∧ w a = 384) (hS : FS S) (h : FrF F S T) (hw : ∀ a, a < zX S → w' a = w a) : ∀ a, F a → zT T a ≠ 0 ∧ w' a = 384 := fun a ha => ⟨by rw [(h a ha).1.1]; exact (hF a ha).1, (hw a (hS.lt (hF a ha).1)).trans (hF a ha).2⟩
/-- what a change leaves of the other offices -/
theorem up1_ne {α : Type} {f : Nat → α} {i j : Nat} {v : α} (h : j ≠ i) : up1 f i v j = f j := up1_n h
theorem u2_e {α : Type} {f : Nat → Nat → α} {i j a b : Nat} {v : α} (h1 : a = i) (h2 : b = j) : up2 f i j v a b = v := by subst h1; subst h2; exact u2_s
/-- everything of the class, and since S0 nothing of others changed -/
def XF (F : Nat → Prop) (S0 S : Hp) (w : Nat → Nat) (x : Nat) (K : Nat → Nat) (E : Nat → Nat → Nat) (A c : Nat → Nat → Nat) (bx bu : Nat) : Prop := XR S w x K E A c bx bu ∧ FrF F S0 S ∧ ∀ a, F a → zT S a ≠ 0 ∧ w a = 384
section XfRules
variable {F : Nat → Prop} {S0 S : Hp} {w : Nat → Nat} {x : Nat} {K : Nat → Nat} {E : Nat → Nat → Nat} {A c : Nat → Nat → Nat} {bx bu : Nat}
theorem XF.one {S' : Hp} {K' : Nat → Nat} {E' : Nat → Nat → Nat} (h : XF F S0 S w x K E A c bx bu) {a0 : Nat} (ha0 : w a0 = 352) (hT : zT S' = zT S) (hN : zN S' = zN S) (hs : ∀ b, b ≠ a0 → Same S S' b) (hx : XR S' w x K' E' A c bx bu) : XF F S0 S' w x K' E' A c bx bu :=
  ⟨hx, h.2.1.trans (fun a ha => ⟨⟨by rw [hT], by rw [hN]⟩, hs a fun e => by have := (h.2.2 a ha).2; rw [e, ha0] at this; exact absurd this (by decide)⟩), fun a ha => ⟨by rw [hT]; exact (h.2.2 a ha).1, (h.2.2 a ha).2⟩⟩
theorem XF.wo (h : XF F S0 S w x K E A c bx bu) {a : Nat} (ha : mT a ≠ 0) : w (x + a) = 352 := (h.1.1.1 a ha).1.2.2
theorem XF.I (h : XF F S0 S w x K E A c bx bu) {a f v : Nat} (ha : mT a ≠ 0) (hf : f < 1000) (hz : f ≠ 999) : XF F S0 (uI S f (x + a) (nI v)) w x K (up2 E f a v) A c bx bu := h.one (h.wo ha) rfl rfl (fun b hb => same_uI hb) (h.1.I ha hf hz)
theorem XF.I0 (h : XF F S0 S w x K E A c bx bu) {f v : Nat} (hf : f < 1000) (hz : f ≠ 999) : XF F S0 (uI S f x (nI v)) w x K (up2 E f 0 v) A c bx bu := h.I (a := 0) (by decide) hf hz
theorem XF.AA (h : XF F S0 S w x K E A c bx bu) {a i v : Nat} (ha : mT a ≠ 0) : XF F S0 (uA S (x + a) i (nI v)) w x K (up2 E (1000 + i) a v) A c bx bu := h.one (h.wo ha) rfl rfl (fun b hb => same_uA hb) (h.1.AA ha)
theorem XF.P0 (h : XF F S0 S w x K E A c bx bu) {e : Nat} : XF F S0 (uP S 416 x (some (Pl x e))) w x (up1 K 0 e) E A c bx bu := h.one (a0 := x) (h.wo (a := 0) (by decide)) rfl rfl (fun b hb => same_uP hb) h.1.P0
theorem XF.P1 (h : XF F S0 S w x K E A c bx bu) {e : Nat} : XF F S0 (uP S 417 x (some (Pl x e))) w x (up1 K 1 e) E A c bx bu := h.one (a0 := x) (h.wo (a := 0) (by decide)) rfl rfl (fun b hb => same_uP hb) h.1.P1
theorem XF.PW (h : XF F S0 S w x K E A c bx bu) {n : Nat} : XF F S0 (uP S 165 (x + 51) (wdP n)) w x (up1 K 11 n) E A c bx bu := h.one (h.wo (a := 51) (by decide)) rfl rfl (fun b hb => same_uP hb) h.1.PW
theorem XF.Q (h : XF F S0 S w x K E A c bx bu) {e i : Nat} (hi : i < 8) : XF F S0 (uQ S (x + 33) i (some (Pl x e))) w x (up1 K (2 + i) e) E A c bx bu := h.one (h.wo (a := 33) (by decide)) rfl rfl (fun b hb => same_uQ hb) (h.1.Q hi)
theorem XF.D (h : XF F S0 S w x K E A c bx bu) {a i : Nat} {v : UInt64} (ha : mT a ≠ 0) : XF F S0 (uD S (x + a) i v) w x K E A c bx bu := h.one (h.wo ha) rfl rfl (fun b hb => same_uD hb) (h.1.D ha)
theorem XF.X (h : XF F S0 S w x K E A c bx bu) {y u : Nat} (h1 : zX S ≤ y ∧ y ≤ zX S + 1) (h2 : zU S ≤ u ∧ u ≤ zU S + 6) : XF F S0 (uX S y u) w x K E A c (bx + 1) (bu + 6) := ⟨h.1.X h1.1 (by omega) (by omega), h.2.1.trans (fun _ _ => ⟨⟨rfl, rfl⟩, ⟨fun _ => rfl, fun _ => rfl, rfl, rfl, rfl, rfl⟩⟩), h.2.2⟩
theorem XF.le (h : XF F S0 S w x K E A c bx bu) {bx' bu' : Nat} (h1 : bx ≤ bx') (h2 : bu ≤ bu') : XF F S0 S w x K E A c bx' bu' := ⟨h.1.le h1 h2, h.2⟩
theorem XF.off {T : Hp} {w' A' c' : Nat → Nat} {e : Nat} (h : XF F S0 S w x K E A c bx bu) (he : e < 11) (hx : OX S w (A e) T w' e (Pl x e) A' c') : XF F S0 T w' x K E (up1 A e A') (up1 c e c') bx bu :=
  have hf : FrF F S T := hx.2.1.frF (by omega) h.2.2
  ⟨h.1.off he hx, h.2.1.trans hf, keepF h.2.2 h.1.2.2.2 hf hx.2.2.1⟩
theorem XF.hc1 {G : GI} (h : XF F S0 S w x K E A c bx bu) (h1 : bx + 1 ≤ gN G) : zX S + 1 ≤ gN G := by have := h.1.2.2.1.1; omega
theorem XF.hu6 {G : GI} (h : XF F S0 S w x K E A c bx bu) (h1 : bu + 6 ≤ gM G) : zU S + 6 ≤ gM G := by have := h.1.2.2.1.2; omega
end XfRules
/-- what is copied of an office that holds g -/
theorem Hol.cp {A c g : Nat → Nat} {N : Nat} (h : Hol A c g N) : c 0 ≤ 24 ∧ (∀ l, l < c 0 → A l ≠ 0) ∧ (∀ l, l < c 0 → c (90 + 13 * l + 1) ≤ 200) ∧ ∀ l u, l < c 0 → u < c (90 + 13 * l + 1) → c (402 + 8 * (200 * l + u) + 5) < 2 := by
  have e0 := h.1.c0
  have ez : ∀ l, l < c 0 → c (90 + 13 * l + 1) = g (90 + 13 * l + 1) := fun l hl => (h.1.lot (by omega)).h (f := 1) (by decide)
  refine ⟨by rw [e0]; exact h.1.n24, fun l hl => h.2 l (by omega), fun l hl => ?_, fun l u hl hu => ?_⟩
  · rw [ez l hl]; exact (h.1.lot (by omega)).z
  · rw [ez l hl] at hu
    rw [(h.1.lot (l := l) (by omega)).u5 hu]
    exact fld_lt 9 1 _
theorem Hol.kc {A c cs A' g : Nat → Nat} {N : Nat} (h : Hol A cs g N) (hk : KC c cs) (hl : ∀ l, l < cs 0 → A' l ≠ 0) : Hol A' c g N := ⟨Rel.kc h.1 hk, fun l hl9 => hl l (by rw [h.1.c0]; exact hl9)⟩
set_option maxRecDepth 4000 in
set_option maxHeartbeats 400000 in
theorem x_refuse1 {G : GI} {S : Hp} (hc1 : zX S + 1 ≤ gN G) (hu6 : zU S + 6 ≤ gM G) : FT m_X12_refuse G [.int (-1)] S "java/lang/IndexOutOfBoundsException" := by
  refine Cn.of rfl (by decide) (Nat.le_of_ble_eq_true rfl) (fun hN hM => ?_)
  show Wx _ G _ 0 [(0, .int ((-1)))] [] _
  refine r_iload_n dX12_refuse_0 rfl 0 rfl ?_
  refine r_tableIn (off := 31) (tgt := 32) dX12_refuse_1 (by decide) (by decide) rfl (by decide) ?_
  exact r_throw (ft_IO (by decide)) rfl dX12_refuse_32 dX12_refuse_35 dX12_refuse_36 dX12_refuse_39 (by decide) hc1 hu6 (fun y u h1 h2 h3 h4 => ⟨rfl, y, u, ⟨h1, h2⟩, ⟨h3, h4⟩, rfl⟩)
set_option maxRecDepth 4000 in
set_option maxHeartbeats 400000 in
theorem x_refuse2 {G : GI} {S : Hp} (hc1 : zX S + 1 ≤ gN G) (hu6 : zU S + 6 ≤ gM G) : FT m_X12_refuse G [.int (-2)] S "java/lang/IllegalArgumentException" := by
  refine Cn.of rfl (by decide) (Nat.le_of_ble_eq_true rfl) (fun hN hM => ?_)
  show Wx _ G _ 0 [(0, .int ((-2)))] [] _
  refine r_iload_n dX12_refuse_0 rfl 0 rfl ?_
  refine r_tableIn (off := 39) (tgt := 40) dX12_refuse_1 (by decide) (by decide) rfl (by decide) ?_
  exact r_throw (ft_IA (by decide)) rfl dX12_refuse_40 dX12_refuse_43 dX12_refuse_44 dX12_refuse_47 (by decide) hc1 hu6 (fun y u h1 h2 h3 h4 => ⟨rfl, y, u, ⟨h1, h2⟩, ⟨h3, h4⟩, rfl⟩)
set_option maxRecDepth 4000 in
set_option maxHeartbeats 400000 in
theorem x_refuse3 {G : GI} {S : Hp} (hc1 : zX S + 1 ≤ gN G) (hu6 : zU S + 6 ≤ gM G) : FT m_X12_refuse G [.int (-3)] S "java/lang/IllegalStateException" := by
  refine Cn.of rfl (by decide) (Nat.le_of_ble_eq_true rfl) (fun hN hM => ?_)
  show Wx _ G _ 0 [(0, .int ((-3)))] [] _
  refine r_iload_n dX12_refuse_0 rfl 0 rfl ?_
  refine r_tableIn (off := 47) (tgt := 48) dX12_refuse_1 (by decide) (by decide) rfl (by decide) ?_
  exact r_throw (ft_IS (by decide)) rfl dX12_refuse_48 dX12_refuse_51 dX12_refuse_52 dX12_refuse_55 (by decide) hc1 hu6 (fun y u h1 h2 h3 h4 => ⟨rfl, y, u, ⟨h1, h2⟩, ⟨h3, h4⟩, rfl⟩)
set_option maxRecDepth 4000 in
set_option maxHeartbeats 400000 in
theorem x_refuse4 {G : GI} {S : Hp} (hc1 : zX S + 1 ≤ gN G) (hu6 : zU S + 6 ≤ gM G) : FT m_X12_refuse G [.int (-4)] S "java/util/NoSuchElementException" := by
  refine Cn.of rfl (by decide) (Nat.le_of_ble_eq_true rfl) (fun hN hM => ?_)
  show Wx _ G _ 0 [(0, .int ((-4)))] [] _
  refine r_iload_n dX12_refuse_0 rfl 0 rfl ?_
  refine r_tableIn (off := 55) (tgt := 56) dX12_refuse_1 (by decide) (by decide) rfl (by decide) ?_
  exact r_throw (ft_NS (by decide)) rfl dX12_refuse_56 dX12_refuse_59 dX12_refuse_60 dX12_refuse_63 (by decide) hc1 hu6 (fun y u h1 h2 h3 h4 => ⟨rfl, y, u, ⟨h1, h2⟩, ⟨h3, h4⟩, rfl⟩)
set_option maxRecDepth 4000 in
set_option maxHeartbeats 400000 in
theorem x_refuse0 {G : GI} {S : Hp} {v : Nat} (hv : v < 2 ^ 31) : Fn m_X12_refuse G [.int (nI v)] S none S := by
  refine Cn.of rfl (by decide) (Nat.le_of_ble_eq_true rfl) (fun hN hM => ?_)
  show Wx _ G _ 0 [(0, .int (nI (v)))] [] _
  refine r_iload_n dX12_refuse_0 rfl 0 rfl ?_
  refine r_tableOut (tgt := 64) dX12_refuse_1 (Or.inr (by rw [nI_toInt hv]; omega)) (by decide) ?_
  exact r_vret dX12_refuse_64 rfl ⟨rfl, rfl⟩
theorem u2_self {α : Type} {f : Nat → Nat → α} {i j : Nat} {v : α} (h : f i j = v) : up2 f i j v = f := by
  funext a b
  by_cases e : a = i ∧ b = j
  · obtain ⟨rfl, rfl⟩ := e; rw [u2_s, h]
  · exact u2_n (by omega)
set_option maxRecDepth 4000 in
set_option maxHeartbeats 400000 in
theorem x_end {G : GI} {F : Nat → Prop} {S0 S : Hp} {w : Nat → Nat} {x : Nat} {K : Nat → Nat} {E : Nat → Nat → Nat} {A c : Nat → Nat → Nat} {bx bu : Nat} (h : XF F S0 S w x K E A c bx bu) (hp : Perm K) {np ud v : Nat} (hv : v < 2 ^ 31) (hnp : np < 8) (e1 : E 419 0 = np) (e2 : E 420 0 = ud) (hud : ud ≤ 8) : Cn m_X12_endChange G [.ref (x), .int (nI v)] S (fun r T => r = .inl (some (.int (nI v))) ∧ XF F S0 T w x (up1 (up1 K (2 + np) (K 1)) 1 (K (2 + np))) (up2 (up2 E 419 0 (if np = 7 then 0 else np + 1)) 420 0 (if ud < 8 then ud + 1 else ud)) A c bx bu) := by
  refine Cn.of rfl (by decide) (Nat.le_of_ble_eq_true rfl) (fun hN hM => ?_)
  show Wx _ G _ 0 [(0, .ref (x)), (1, .int (nI (v)))] [] _
  have hk0 : K 0 < 11 := (hp 0 (by decide)).1
  have hk1 : K 1 < 11 := (hp 1 (by decide)).1
  have hne : K 0 ≠ K 1 := fun e9 => absurd ((hp 0 (by decide)).2.2 1 (by decide) e9) (by decide)
  refine r_iload_n dX12_endChange_0 rfl 1 rfl ?_
  refine r_fnS (M2 := m_X12_refuse) (As := [.int (nI (v))]) (rest := []) (v := none) dX12_endChange_1 cc_X12_endChange_376 rfl rfl rfl (Nat.le_of_ble_eq_true rfl) (x_refuse0 hv) rfl ?_
  refine r_aload_n dX12_endChange_4 rfl 0 rfl ?_
  refine r_getR (ci := 13) (k := 2) (b := x + 33) dX12_endChange_5 fr_X12_19 h.1.t0 rfl h.1.p418 ?_
  refine r_aload_n dX12_endChange_8 rfl 0 rfl ?_
  refine r_getI (ci := 13) (k := 3) dX12_endChange_9 fr_X12_346 h.1.t0 rfl ?_
  refine Wx.top (h.1.i0 (f := 419) (by decide)) ?_
  refine Wx.topN e1 ?_
  refine r_aaldR (b := Pl x (K (2 + np))) dX12_endChange_12 h.1.t33 (by decide) (by decide) (by rw [show zN S (x + 33) = 8 from h.1.n33]; exact vp_in_nI (by omega) (by decide)) (by rw [nI_clamp (by omega)]; exact h.1.q33 (by omega)) ?_
  refine r_astore_n (lv' := [(2, .ref (Pl x (K (2 + np)))), (0, .ref (x)), (1, .int (nI (v)))]) dX12_endChange_13 rfl (by decide) rfl ?_
  refine r_aload_n dX12_endChange_14 rfl 1 rfl ?_
  refine r_getR (ci := 13) (k := 2) (b := x + 33) dX12_endChange_15 fr_X12_19 h.1.t0 rfl h.1.p418 ?_
  refine r_aload_n dX12_endChange_18 rfl 1 rfl ?_
  refine r_getI (ci := 13) (k := 3) dX12_endChange_19 fr_X12_346 h.1.t0 rfl ?_
  refine Wx.top (h.1.i0 (f := 419) (by decide)) ?_
  refine Wx.topN e1 ?_
  refine r_aload_n dX12_endChange_22 rfl 1 rfl ?_
  refine r_getR (ci := 13) (k := 1) (b := Pl x (K 1)) dX12_endChange_23 fr_X12_16 h.1.t0 rfl h.1.p417 ?_
  refine r_aast (r := _) dX12_endChange_26 h.1.t33 (by decide) 9 rfl (h.1.off' hk1).1.1 rfl (by decide) (by rw [show zN S (x + 33) = 8 from h.1.n33]; exact vp_in_nI (by omega) (by decide)) ?_
  rw [nI_clamp (by omega)]
  refine Wx.gp (fun T => XF F S0 T w x (up1 K (2 + np) (K 1)) E A c bx bu) (h.Q (e := K 1) (by omega)) (fun T (hx : XF F S0 T w x (up1 K (2 + np) (K 1)) E A c bx bu) => ?_)
  refine r_aload_n dX12_endChange_27 rfl 1 rfl ?_
  refine r_aload_n dX12_endChange_28 rfl 0 rfl ?_
  refine r_putP (ci := 13) (k := 1) (x := some (Pl x (K (2 + np)))) dX12_endChange_29 fw_X12_endChange_16 hx.1.t0 rfl rfl ?_
  refine Wx.gp (fun T => XF F S0 T w x (up1 (up1 K (2 + np) (K 1)) 1 (K (2 + np))) E A c bx bu) (hx.P1 (e := K (2 + np))) (fun T_1 (hx_1 : XF F S0 T_1 w x (up1 (up1 K (2 + np) (K 1)) 1 (K (2 + np))) E A c bx bu) => ?_)
  refine r_aload_n dX12_endChange_32 rfl 1 rfl ?_
  refine r_aload_n dX12_endChange_33 rfl 1 rfl ?_
  refine r_getI (ci := 13) (k := 3) dX12_endChange_34 fr_X12_346 hx_1.1.t0 rfl ?_
  refine Wx.top (hx_1.1.i0 (f := 419) (by decide)) ?_
  refine Wx.topN e1 ?_
  refine r_aload_n dX12_endChange_37 rfl 1 rfl ?_
  refine r_getR (ci := 13) (k := 2) (b := x + 33) dX12_endChange_38 fr_X12_19 hx_1.1.t0 rfl hx_1.1.p418 ?_
  refine r_alenQ dX12_endChange_41 hx_1.1.t33 (by decide) (by decide) ?_
  refine Wx.top (congrArg nI hx_1.1.n33) ?_
  refine r_iconst (v := nI 1) dX12_endChange_42 (by decide) ?_
  refine r_isubN dX12_endChange_43 (by omega) ?_
  refine r_icmp_neN (tgt := 51) dX12_endChange_44 (by decide) (by omega) (by omega) (fun h44 => ?_) (fun h44 => ?_)
  · refine r_aload_n dX12_endChange_51 rfl 1 rfl ?_
    refine r_getI (ci := 13) (k := 3) dX12_endChange_52 fr_X12_346 hx_1.1.t0 rfl ?_
    refine Wx.top (hx_1.1.i0 (f := 419) (by decide)) ?_
    refine Wx.topN e1 ?_
    refine r_iconst (v := nI 1) dX12_endChange_55 (by decide) ?_
    refine r_iaddN dX12_endChange_56 ?_
    refine r_putI (ci := 13) (k := 3) dX12_endChange_57 fw_X12_endChange_346 hx_1.1.t0 rfl rfl rfl ?_
    refine Wx.gp (fun T => XF F S0 T w x (up1 (up1 K (2 + np) (K 1)) 1 (K (2 + np))) (up2 E 419 (0) (np + 1)) A c bx bu) (hx_1.I0 (f := 419) (by decide) (by decide)) (fun T_2 (hx_2 : XF F S0 T_2 w x (up1 (up1 K (2 + np) (K 1)) 1 (K (2 + np))) (up2 E 419 (0) (np + 1)) A c bx bu) => ?_)
    refine r_aload_n dX12_endChange_60 rfl 1 rfl ?_
    refine r_getI (ci := 13) (k := 4) dX12_endChange_61 fr_X12_343 hx_2.1.t0 rfl ?_
    refine Wx.top (hx_2.1.i0 (f := 420) (by decide)) ?_
    refine Wx.topN (u2_n (by omega)) ?_
    refine Wx.topN e2 ?_
    refine r_aload_n dX12_endChange_64 rfl 1 rfl ?_
    refine r_getR (ci := 13) (k := 2) (b := x + 33) dX12_endChange_65 fr_X12_19 hx_2.1.t0 rfl hx_2.1.p418 ?_
    refine r_alenQ dX12_endChange_68 hx_2.1.t33 (by decide) (by decide) ?_
    refine Wx.top (congrArg nI hx_2.1.n33) ?_
    refine r_icmp_geN (tgt := 82) dX12_endChange_69 (by decide) (by omega) (by omega) (fun h69 => ?_) (fun h69 => ?_)
    · refine r_iload_n dX12_endChange_82 rfl 2 rfl ?_
      exact r_iret (ty := .int) dX12_endChange_83 rfl rfl ⟨rfl, (by rw [show (if np = 7 then 0 else np + 1) = _ from if_neg (by omega), show (if ud < 8 then ud + 1 else ud) = ud from if_neg (by omega), u2_self (show up2 E 419 0 _ 420 0 = ud from (u2_n (by decide)).trans e2)]; exact hx_2)⟩
    · refine r_aload_n dX12_endChange_72 rfl 1 rfl ?_
      refine r_dup dX12_endChange_73 rfl ?_
      refine r_getI (ci := 13) (k := 4) dX12_endChange_74 fr_X12_343 hx_2.1.t0 rfl ?_
      refine Wx.top (hx_2.1.i0 (f := 420) (by decide)) ?_
      refine Wx.topN (u2_n (by omega)) ?_
      refine Wx.topN e2 ?_
      refine r_iconst (v := nI 1) dX12_endChange_77 (by decide) ?_
      refine r_iaddN dX12_endChange_78 ?_
      refine r_putI (ci := 13) (k := 4) dX12_endChange_79 fw_X12_endChange_343 hx_2.1.t0 rfl rfl rfl ?_
      refine Wx.gp (fun T => XF F S0 T w x (up1 (up1 K (2 + np) (K 1)) 1 (K (2 + np))) (up2 (up2 E 419 (0) (np + 1)) 420 (0) (ud + 1)) A c bx bu) (hx_2.I0 (f := 420) (by decide) (by decide)) (fun T_3 (hx_3 : XF F S0 T_3 w x (up1 (up1 K (2 + np) (K 1)) 1 (K (2 + np))) (up2 (up2 E 419 (0) (np + 1)) 420 (0) (ud + 1)) A c bx bu) => ?_)
      refine r_iload_n dX12_endChange_82 rfl 2 rfl ?_
      exact r_iret (ty := .int) dX12_endChange_83 rfl rfl ⟨rfl, (by rw [show (if np = 7 then 0 else np + 1) = _ from if_neg (by omega), show (if ud < 8 then ud + 1 else ud) = _ from if_pos (by omega)]; exact hx_3)⟩
  · refine r_iconst (v := nI 0) dX12_endChange_47 (by decide) ?_
    refine r_goto (tgt := 57) dX12_endChange_48 (by decide) ?_
    refine r_putI (ci := 13) (k := 3) dX12_endChange_57 fw_X12_endChange_346 hx_1.1.t0 rfl rfl rfl ?_
    refine Wx.gp (fun T => XF F S0 T w x (up1 (up1 K (2 + np) (K 1)) 1 (K (2 + np))) (up2 E 419 (0) (0)) A c bx bu) (hx_1.I0 (f := 419) (by decide) (by decide)) (fun T_4 (hx_4 : XF F S0 T_4 w x (up1 (up1 K (2 + np) (K 1)) 1 (K (2 + np))) (up2 E 419 (0) (0)) A c bx bu) => ?_)
    refine r_aload_n dX12_endChange_60 rfl 1 rfl ?_
    refine r_getI (ci := 13) (k := 4) dX12_endChange_61 fr_X12_343 hx_4.1.t0 rfl ?_
    refine Wx.top (hx_4.1.i0 (f := 420) (by decide)) ?_
    refine Wx.topN (u2_n (by omega)) ?_
    refine Wx.topN e2 ?_
    refine r_aload_n dX12_endChange_64 rfl 1 rfl ?_
    refine r_getR (ci := 13) (k := 2) (b := x + 33) dX12_endChange_65 fr_X12_19 hx_4.1.t0 rfl hx_4.1.p418 ?_
    refine r_alenQ dX12_endChange_68 hx_4.1.t33 (by decide) (by decide) ?_
    refine Wx.top (congrArg nI hx_4.1.n33) ?_
    refine r_icmp_geN (tgt := 82) dX12_endChange_69 (by decide) (by omega) (by omega) (fun h69_1 => ?_) (fun h69_1 => ?_)
    · refine r_iload_n dX12_endChange_82 rfl 2 rfl ?_
      exact r_iret (ty := .int) dX12_endChange_83 rfl rfl ⟨rfl, (by rw [show (if np = 7 then 0 else np + 1) = _ from if_pos (by omega), show (if ud < 8 then ud + 1 else ud) = ud from if_neg (by omega), u2_self (show up2 E 419 0 _ 420 0 = ud from (u2_n (by decide)).trans e2)]; exact hx_4)⟩
    · refine r_aload_n dX12_endChange_72 rfl 1 rfl ?_
      refine r_dup dX12_endChange_73 rfl ?_
      refine r_getI (ci := 13) (k := 4) dX12_endChange_74 fr_X12_343 hx_4.1.t0 rfl ?_
      refine Wx.top (hx_4.1.i0 (f := 420) (by decide)) ?_
      refine Wx.topN (u2_n (by omega)) ?_
      refine Wx.topN e2 ?_
      refine r_iconst (v := nI 1) dX12_endChange_77 (by decide) ?_
      refine r_iaddN dX12_endChange_78 ?_
      refine r_putI (ci := 13) (k := 4) dX12_endChange_79 fw_X12_endChange_343 hx_4.1.t0 rfl rfl rfl ?_
      refine Wx.gp (fun T => XF F S0 T w x (up1 (up1 K (2 + np) (K 1)) 1 (K (2 + np))) (up2 (up2 E 419 (0) (0)) 420 (0) (ud + 1)) A c bx bu) (hx_4.I0 (f := 420) (by decide) (by decide)) (fun T_5 (hx_5 : XF F S0 T_5 w x (up1 (up1 K (2 + np) (K 1)) 1 (K (2 + np))) (up2 (up2 E 419 (0) (0)) 420 (0) (ud + 1)) A c bx bu) => ?_)
      refine r_iload_n dX12_endChange_82 rfl 2 rfl ?_
      exact r_iret (ty := .int) dX12_endChange_83 rfl rfl ⟨rfl, (by rw [show (if np = 7 then 0 else np + 1) = _ from if_pos (by omega), show (if ud < 8 then ud + 1 else ud) = _ from if_pos (by omega)]; exact hx_5)⟩
set_option maxRecDepth 4000 in
set_option maxHeartbeats 400000 in
theorem x_end1 {G : GI} {S : Hp} {x : Nat} (hc1 : zX S + 1 ≤ gN G) (hu6 : zU S + 6 ≤ gM G) : FT m_X12_endChange G [.ref (x), .int (-1)] S "java/lang/IndexOutOfBoundsException" := by
  refine Cn.of rfl (by decide) (Nat.le_of_ble_eq_true rfl) (fun hN hM => ?_)
  show Wx _ G _ 0 [(0, .ref (x)), (1, .int ((-1)))] [] _
  refine r_iload_n dX12_endChange_0 rfl 1 rfl ?_
  exact r_ftS (M2 := m_X12_refuse) (As := [.int ((-1))]) (rest := []) dX12_endChange_1 cc_X12_endChange_376 rfl rfl rfl (Nat.le_of_ble_eq_true rfl) (x_refuse1 hc1 hu6) rfl (fun y u h1 h2 => ⟨rfl, y, u, h1, h2, rfl⟩)
set_option maxRecDepth 4000 in
set_option maxHeartbeats 400000 in
theorem x_end2 {G : GI} {S : Hp} {x : Nat} (hc1 : zX S + 1 ≤ gN G) (hu6 : zU S + 6 ≤ gM G) : FT m_X12_endChange G [.ref (x), .int (-2)] S "java/lang/IllegalArgumentException" := by
  refine Cn.of rfl (by decide) (Nat.le_of_ble_eq_true rfl) (fun hN hM => ?_)
  show Wx _ G _ 0 [(0, .ref (x)), (1, .int ((-2)))] [] _
  refine r_iload_n dX12_endChange_0 rfl 1 rfl ?_
  exact r_ftS (M2 := m_X12_refuse) (As := [.int ((-2))]) (rest := []) dX12_endChange_1 cc_X12_endChange_376 rfl rfl rfl (Nat.le_of_ble_eq_true rfl) (x_refuse2 hc1 hu6) rfl (fun y u h1 h2 => ⟨rfl, y, u, h1, h2, rfl⟩)
set_option maxRecDepth 4000 in
set_option maxHeartbeats 400000 in
theorem x_end3 {G : GI} {S : Hp} {x : Nat} (hc1 : zX S + 1 ≤ gN G) (hu6 : zU S + 6 ≤ gM G) : FT m_X12_endChange G [.ref (x), .int (-3)] S "java/lang/IllegalStateException" := by
  refine Cn.of rfl (by decide) (Nat.le_of_ble_eq_true rfl) (fun hN hM => ?_)
  show Wx _ G _ 0 [(0, .ref (x)), (1, .int ((-3)))] [] _
  refine r_iload_n dX12_endChange_0 rfl 1 rfl ?_
  exact r_ftS (M2 := m_X12_refuse) (As := [.int ((-3))]) (rest := []) dX12_endChange_1 cc_X12_endChange_376 rfl rfl rfl (Nat.le_of_ble_eq_true rfl) (x_refuse3 hc1 hu6) rfl (fun y u h1 h2 => ⟨rfl, y, u, h1, h2, rfl⟩)
set_option maxRecDepth 4000 in
set_option maxHeartbeats 400000 in
theorem x_end4 {G : GI} {S : Hp} {x : Nat} (hc1 : zX S + 1 ≤ gN G) (hu6 : zU S + 6 ≤ gM G) : FT m_X12_endChange G [.ref (x), .int (-4)] S "java/util/NoSuchElementException" := by
  refine Cn.of rfl (by decide) (Nat.le_of_ble_eq_true rfl) (fun hN hM => ?_)
  show Wx _ G _ 0 [(0, .ref (x)), (1, .int ((-4)))] [] _
  refine r_iload_n dX12_endChange_0 rfl 1 rfl ?_
  exact r_ftS (M2 := m_X12_refuse) (As := [.int ((-4))]) (rest := []) dX12_endChange_1 cc_X12_endChange_376 rfl rfl rfl (Nat.le_of_ble_eq_true rfl) (x_refuse4 hc1 hu6) rfl (fun y u h1 h2 => ⟨rfl, y, u, h1, h2, rfl⟩)
set_option maxRecDepth 4000 in
set_option maxHeartbeats 400000 in
theorem x_begin {G : GI} {F : Nat → Prop} {S0 S : Hp} {w : Nat → Nat} {x : Nat} {K : Nat → Nat} {E : Nat → Nat → Nat} {A c : Nat → Nat → Nat} {bx bu : Nat} (h : XF F S0 S w x K E A c bx bu) (hp : Perm K) (h1 : bx ≤ gN G) (h2 : bu ≤ gM G) {g : Nat → Nat} {N : Nat} (hr : Hol (A (K 0)) (c (K 0)) g N) : Cn m_X12_beginChange G [.ref (x)] S (fun r T => r = .inl none ∧ ∃ w' A' c', XF F S0 T w' x K E (up1 A (K 1) A') (up1 c (K 1) c') bx bu ∧ Hol A' c' g N) := by
  refine Cn.of rfl (by decide) (Nat.le_of_ble_eq_true rfl) (fun hN hM => ?_)
  show Wx _ G _ 0 [(0, .ref (x))] [] _
  have hk0 : K 0 < 11 := (hp 0 (by decide)).1
  have hk1 : K 1 < 11 := (hp 1 (by decide)).1
  have hne : K 0 ≠ K 1 := fun e9 => absurd ((hp 0 (by decide)).2.2 1 (by decide) e9) (by decide)
  obtain ⟨p1, p2, p3, p4⟩ := hr.cp
  refine r_aload_n dX12_beginChange_0 rfl 0 rfl ?_
  refine r_getR (ci := 13) (k := 1) (b := Pl x (K 1)) dX12_beginChange_1 fr_X12_16 h.1.t0 rfl h.1.p417 ?_
  refine r_aload_n dX12_beginChange_4 rfl 0 rfl ?_
  refine r_getR (ci := 13) (k := 0) (b := Pl x (K 0)) dX12_beginChange_5 fr_X12_10 h.1.t0 rfl h.1.p416 ?_
  refine r_callV (M2 := m_X7_copyFrom) (As := [.ref (Pl x (K 0))]) (rest := []) dX12_beginChange_8 cc_X12_beginChange_324 rfl rfl rfl (Nat.le_of_ble_eq_true rfl) (h.1.off' hk1).1.1 rfl rfl (by decide) (o_officeCopy (h.1.off' hk1) (h.1.off' hk0) hne (h.1.rm h1 h2 hk1) p1 p2 p3 p4) (fun v T hq => ?_) (fun E9 T9 hq => by cases hq.1)
  obtain ⟨hv, w', A', c', hx, hkc, hl⟩ := hq
  cases hv
  show Wx _ G T 11 [(0, .ref (x))] [] _
  exact r_vret dX12_beginChange_11 rfl ⟨rfl, w', A', c', h.off hk1 hx, hr.kc hkc hl⟩
