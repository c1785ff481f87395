/-! THE MAIN OBJECT: at x; offices 0 to 10 (2: the kept one), owner of the rest: 11 -/
theorem u2_s {α : Type} {f : Nat → Nat → α} {i j : Nat} {v : α} : up2 f i j v i j = v := if_pos ⟨rfl, rfl⟩
theorem u2_n {α : Type} {f : Nat → Nat → α} {i j a b : Nat} {v : α} (h : a ≠ i ∨ b ≠ j) : up2 f i j v a b = f a b := if_neg (by omega)
def Pl (x e : Nat) : Nat := if e = 0 then x + 1 else if e = 1 then x + 17 else if e = 2 then x + 34 else x + 62 + 16 * (e - 3)
/-- types, lengths, fixed pointers of the main object's own cells, by their places behind x -/
def mT (a : Nat) : Nat := if a = 0 then 14 else if a = 33 then 114 else if a = 50 then 111 else if a = 51 then 6 else if a = 52 then 105 else if a = 53 then 101 else if a = 54 then 13 else if a = 55 then 2 else if a = 57 then 12 else if a = 58 then 106 else if a = 59 then 5 else if a = 60 then 103 else if a = 61 then 11 else if 190 ≤ a ∧ a < 210 then (if a % 5 = 0 then 7 else 101) else 0
def mL (a : Nat) : Nat := if a = 33 then 8 else if a = 50 then 4 else if a = 52 then 60 else if a = 53 then 6 else if a = 58 then 4800 else if a = 60 then 33 else 5
def mP (f a : Nat) : Nat := if a = 0 then (if f = 418 then 33 else if f = 421 then 34 else if f = 423 then 50 else if f = 424 then 51 else if f = 425 then 54 else if f = 426 then 57 else if f = 427 then 59 else if f = 428 then 61 else 0) else if a = 51 then (if f = 160 then 52 else if f = 166 then 53 else 0) else if a = 54 then (if f = 384 then 55 else 0) else if a = 57 then (if f = 352 then 58 else 0) else if a = 59 then (if f = 128 then 60 else 0) else if 190 ≤ a ∧ a % 5 = 0 ∧ 194 ≤ f ∧ f < 198 then a + (f - 193) else 0
def wdP (n : Nat) : Option Nat := if n = 0 then none else some (n - 1)
/-- pointers: K 0 the office, K 1 the spare one, K 2.. the eight pasts, K 10 the bytes of the report, K 11 the word read; numbers: E f a (a row's: E (1000 + i) a; the report's bytes: a = 56) -/
def MX (S : Hp) (w : Nat → Nat) (x : Nat) (K : Nat → Nat) (E : Nat → Nat → Nat) : Prop :=
  (∀ a, mT a ≠ 0 → ((zT S (x + a) = mT a ∧ (100 < mT a → zN S (x + a) = mL a)) ∧ (∀ f, mP f a ≠ 0 → zP S f (x + a) = some (x + mP f a)) ∧ w (x + a) = 352) ∧ (∀ f, f < 1000 → zI S f (x + a) = nI (E f a)) ∧ ∀ i, zA S (x + a) i = nI (E (1000 + i) a)) ∧
  (zP S 416 x = some (Pl x (K 0)) ∧ zP S 417 x = some (Pl x (K 1)) ∧ (∀ i, i < 8 → zQ S (x + 33) i = some (Pl x (K (2 + i)))) ∧ ∀ i, i < 4 → zQ S (x + 50) i = some (x + (190 + 5 * i))) ∧
  (zP S 32 (x + 55) = some (K 10) ∧ zT S (K 10) = 104 ∧ w (K 10) = 352 ∧ (∀ a, mT a ≠ 0 → K 10 ≠ x + a) ∧ zN S (K 10) = E 999 56 ∧ ∀ i, zA S (K 10) i = nI (E (1000 + i) 56)) ∧ zP S 165 (x + 51) = wdP (K 11)
/-- everything of the class -/
noncomputable def sF (A : Nat → Nat → Nat) : Nat → Nat
  | 0 => 0
  | n + 1 => sF A n + fre (A n)
def XR (S : Hp) (w : Nat → Nat) (x : Nat) (K : Nat → Nat) (E : Nat → Nat → Nat) (A c : Nat → Nat → Nat) (bx bu : Nat) : Prop :=
  MX S w x K E ∧ (∀ e, e < 11 → OR S w e (Pl x e) (A e) (c e)) ∧ (zX S + 8 * sF A 11 ≤ bx ∧ zU S + 1220 * sF A 11 ≤ bu) ∧ FS S
theorem MX.fr {S S' : Hp} {w w' : Nat → Nat} {x k : Nat} {K : Nat → Nat} {E : Nat → Nat → Nat} (hk : k ≠ 11) (hF : Fr w k S S') (hw : ∀ a, a < zX S → w' a = w a) (hS : FS S) (h : MX S w x K E) : MX S' w' x K E := by
  obtain ⟨h1, ⟨p1, p2, p3, p4⟩, ⟨s1, s2, s3, s4, s5, s6⟩, h4⟩ := h
  have hc : ∀ a, mT a ≠ 0 → (zT S' (x + a) = zT S (x + a) ∧ zN S' (x + a) = zN S (x + a)) ∧ Same S S' (x + a) ∧ w' (x + a) = w (x + a) := fun a ha => by
    obtain ⟨⟨⟨q1, q2⟩, q3, q4⟩, -⟩ := h1 a ha
    have hz : zT S (x + a) ≠ 0 := by rw [q1]; exact ha
    exact ⟨(hF _ hz).1, (hF _ hz).2 (by rw [q4]; omega), hw _ (hS.lt hz)⟩
  have hb : zT S (K 10) ≠ 0 := by rw [s2]; decide
  have hcb := hF _ hb
  have hcS := hcb.2 (by rw [s3]; omega)
  have h0 := (hc 0 (by decide)).2.1
  rw [Nat.add_zero] at h0
  refine ⟨fun a ha => ?_, ⟨(h0.2.1 _).trans p1, (h0.2.1 _).trans p2, fun i hi => ?_, fun i hi => ?_⟩, ⟨((hc 55 (by decide)).2.1.2.1 _).trans s1, hcb.1.1.trans s2, (hw _ (hS.lt hb)).trans s3, s4, hcb.1.2.trans s5, fun i => ?_⟩, ((hc 51 (by decide)).2.1.2.1 _).trans h4⟩
  · obtain ⟨⟨⟨q1, q2⟩, q3, q4⟩, q5, q6⟩ := h1 a ha
    obtain ⟨⟨e1, e2⟩, e3, e4⟩ := hc a ha
    exact ⟨⟨⟨e1.trans q1, fun h => e2.trans (q2 h)⟩, fun f hf => (e3.2.1 f).trans (q3 f hf), e4.trans q4⟩, fun f hf => (e3.1 f).trans (q5 f hf), fun i => by rw [e3.2.2.1]; exact q6 i⟩
  · rw [(hc 33 (by decide)).2.1.2.2.2.2.2]; exact p3 i hi
  · rw [(hc 50 (by decide)).2.1.2.2.2.2.2]; exact p4 i hi
  · rw [hcS.2.2.1]; exact s6 i
theorem Pl_w {x e : Nat} (he : e < 11) : ∃ a, Pl x e = x + a ∧ mT a = 0 := by
  unfold Pl
  by_cases h0 : e = 0
  · exact ⟨1, by rw [if_pos h0], by decide⟩
  by_cases h1 : e = 1
  · exact ⟨17, by rw [if_neg h0, if_pos h1], by decide⟩
  by_cases h2 : e = 2
  · exact ⟨34, by rw [if_neg h0, if_neg h1, if_pos h2], by decide⟩
  · refine ⟨62 + 16 * (e - 3), by rw [if_neg h0, if_neg h1, if_neg h2]; omega, ?_⟩
    obtain rfl | rfl | rfl | rfl | rfl | rfl | rfl | rfl : e = 3 ∨ e = 4 ∨ e = 5 ∨ e = 6 ∨ e = 7 ∨ e = 8 ∨ e = 9 ∨ e = 10 := by omega
    all_goals decide
/-- a change of the main object's own cells leaves the offices -/
theorem XR.main {S S' : Hp} {w w' : Nat → Nat} {x : Nat} {K K' : Nat → Nat} {E E' : Nat → Nat → Nat} {A c : Nat → Nat → Nat} {bx bu bx' bu' : Nat} (hF : Fr w 11 S S') (hw : ∀ a, a < zX S → w' a = w a) (hS : FS S') (hb : zX S' + bx ≤ zX S + bx' ∧ zU S' + bu ≤ zU S + bu') (hm : MX S' w' x K' E') (h : XR S w x K E A c bx bu) : XR S' w' x K' E' A c bx' bu' :=
  ⟨hm, fun e he => OR.fr (by omega) hF hw hS (h.2.1 e he), ⟨by have := h.2.2.1.1; omega, by have := h.2.2.1.2; omega⟩, hS⟩
theorem sF_up {A : Nat → Nat → Nat} {A' : Nat → Nat} {e : Nat} : ∀ {n : Nat}, sF (up1 A e A') n + (if e < n then fre (A e) else 0) = sF A n + (if e < n then fre A' else 0)
  | 0 => rfl
  | n + 1 => by
    have h := sF_up (A := A) (A' := A') (e := e) (n := n)
    show sF (up1 A e A') n + fre (up1 A e A' n) + _ = sF A n + fre (A n) + _
    by_cases q : e < n
    · rw [if_pos q, if_pos q] at h
      rw [if_pos (by omega), if_pos (by omega), up1_n (by omega)]
      omega
    · rw [if_neg q, if_neg q] at h
      by_cases q2 : e = n
      · subst q2
        rw [if_pos (by omega), if_pos (by omega), up1_s]
        omega
      · rw [if_neg (by omega), if_neg (by omega), up1_n (by omega)]
        omega
/-- what one office does leaves all else -/
theorem XR.off {S T : Hp} {w w' : Nat → Nat} {x e : Nat} {K : Nat → Nat} {E : Nat → Nat → Nat} {A c : Nat → Nat → Nat} {A' c' : Nat → Nat} {bx bu : Nat} (he : e < 11) (hx : OX S w (A e) T w' e (Pl x e) A' c') (h : XR S w x K E A c bx bu) : XR T w' x K E (up1 A e A') (up1 c e c') bx bu := by
  obtain ⟨h1, h2, h3, h4⟩ := h
  have hs := sF_up (A := A) (A' := A') (e := e) (n := 11)
  rw [if_pos he, if_pos he] at hs
  refine ⟨MX.fr (by omega) hx.2.1 hx.2.2.1 h4 h1, fun i hi => ?_, ⟨?_, ?_⟩, hx.1.2.2.2.2⟩
  · by_cases q : i = e
    · subst q; rw [up1_s, up1_s]; exact hx.1
    · rw [up1_n q, up1_n q]; exact hx.fr q (h2 i hi)
  · have := hx.2.2.2.2.1
    have := h3.1
    omega
  · have := hx.2.2.2.2.2.1
    have := h3.2
    omega
theorem fr_one {S S' : Hp} {w : Nat → Nat} {k a : Nat} (hT : zT S' = zT S) (hN : zN S' = zN S) (hs : ∀ b, b ≠ a → Same S S' b) (ha : w a / 32 = k) : Fr w k S S' := fun b _ => ⟨⟨by rw [hT], by rw [hN]⟩, fun hk => hs b fun he => hk (by rw [he]; exact ha)⟩
section XRules
variable {S : Hp} {w : Nat → Nat} {x : Nat} {K : Nat → Nat} {E : Nat → Nat → Nat} {A c : Nat → Nat → Nat} {bx bu : Nat}
theorem XR.off' (h : XR S w x K E A c bx bu) {e : Nat} (he : e < 11) : OR S w e (Pl x e) (A e) (c e) := h.2.1 e he
theorem XR.fs (h : XR S w x K E A c bx bu) : FS S := h.2.2.2
theorem XR.wm (h : XR S w x K E A c bx bu) {a : Nat} (ha : mT a ≠ 0) : w (x + a) / 32 = 11 := by have := (h.1.1 a ha).1.2.2; omega
/-- one own cell is written -/
theorem XR.one {S' : Hp} {K' : Nat → Nat} {E' : Nat → Nat → Nat} (h : XR S w x K E A c bx bu) {a : Nat} (ha : w a / 32 = 11) (hT : zT S' = zT S) (hN : zN S' = zN S) (hX : zX S' = zX S) (hU : zU S' = zU S) (hs : ∀ b, b ≠ a → Same S S' b) (hm : MX S' w x K' E') : XR S' w x K' E' A c bx bu :=
  XR.main (fr_one hT hN hs ha) (fun _ _ => rfl) (by unfold FS; rw [hT, hX]; exact h.2.2.2) (by rw [hX, hU]; omega) hm h
theorem XR.I (h : XR S w x K E A c bx bu) {a f v : Nat} (ha : mT a ≠ 0) (hf : f < 1000) (hz : f ≠ 999) : XR (uI S f (x + a) (nI v)) w x K (up2 E f a v) A c bx bu := by
  refine h.one (h.wm ha) rfl rfl rfl rfl (fun b hb => same_uI hb) ?_
  obtain ⟨h1, h2, ⟨s1, s2, s3, s4, s5, s6⟩, h4⟩ := h.1
  refine ⟨fun b hb => ?_, h2, ⟨s1, s2, s3, s4, s5.trans ?_, fun i => (s6 i).trans ?_⟩, h4⟩
  · obtain ⟨q1, q2, q3⟩ := h1 b hb
    refine ⟨q1, fun g hg => ?_, fun i => ?_⟩
    · by_cases e : g = f ∧ b = a
      · obtain ⟨rfl, rfl⟩ := e
        rw [zI_us, u2_s]
      · rw [zI_un (by omega), u2_n (by omega)]; exact q2 g hg
    · rw [u2_n (by omega)]; exact q3 i
  · rw [u2_n (by omega)]
  · rw [u2_n (by omega)]
theorem XR.AA (h : XR S w x K E A c bx bu) {a i v : Nat} (ha : mT a ≠ 0) : XR (uA S (x + a) i (nI v)) w x K (up2 E (1000 + i) a v) A c bx bu := by
  refine h.one (h.wm ha) rfl rfl rfl rfl (fun b hb => same_uA hb) ?_
  obtain ⟨h1, h2, ⟨s1, s2, s3, s4, s5, s6⟩, h4⟩ := h.1
  have ha56 : a ≠ 56 := fun e => by subst e; exact ha rfl
  refine ⟨fun b hb => ?_, h2, ⟨s1, s2, s3, s4, s5.trans (by rw [u2_n (by omega)]), fun j => ?_⟩, h4⟩
  · obtain ⟨q1, q2, q3⟩ := h1 b hb
    refine ⟨q1, fun g hg => ?_, fun j => ?_⟩
    · rw [u2_n (by omega)]; exact q2 g hg
    · by_cases e : j = i ∧ b = a
      · obtain ⟨rfl, rfl⟩ := e
        rw [zA_us, u2_s]
      · rw [zA_un (by omega), u2_n (by omega)]; exact q3 j
  · rw [zA_un (Or.inl (s4 a ha)), u2_n (by omega)]; exact s6 j
theorem same_uP {S : Hp} {f a b : Nat} {x : Option Nat} (h : b ≠ a) : Same S (uP S f a x) b := ⟨fun _ => rfl, fun _ => if_neg (by omega), rfl, rfl, rfl, rfl⟩
theorem same_uQ {S : Hp} {a i b : Nat} {x : Option Nat} (h : b ≠ a) : Same S (uQ S a i x) b := ⟨fun _ => rfl, fun _ => rfl, rfl, rfl, rfl, funext fun _ => if_neg (by omega)⟩
theorem same_uD {S : Hp} {a i b : Nat} {x : UInt64} (h : b ≠ a) : Same S (uD S a i x) b := ⟨fun _ => rfl, fun _ => rfl, rfl, rfl, funext fun _ => if_neg (by omega), rfl⟩
theorem mP_416 : mP 416 0 = 0 := by decide
/-- the office, the spare one, the word read -/
theorem zP_un {S : Hp} {f a g b : Nat} {x : Option Nat} (h : g ≠ f ∨ b ≠ a) : zP (uP S f a x) g b = zP S g b := if_neg (by omega)
theorem zP_un' {S : Hp} {f a g b : Nat} {x : Option Nat} (h : ¬ (g = f ∧ b = a)) : zP (uP S f a x) g b = zP S g b := if_neg h
theorem zQ_un {S : Hp} {a i b j : Nat} {x : Option Nat} (h : b ≠ a ∨ j ≠ i) : zQ (uQ S a i x) b j = zQ S b j := if_neg (by omega)
theorem XR.P0 (h : XR S w x K E A c bx bu) {e : Nat} : XR (uP S 416 x (some (Pl x e))) w x (up1 K 0 e) E A c bx bu := by
  refine h.one (a := x) (h.wm (a := 0) (by decide)) rfl rfl rfl rfl (fun b hb => same_uP hb) ?_
  obtain ⟨h1, ⟨p1, p2, p3, p4⟩, ⟨s1, s2, s3, s4, s5, s6⟩, h4⟩ := h.1
  refine ⟨fun b hb => ⟨⟨(h1 b hb).1.1, fun f hf => ?_, (h1 b hb).1.2.2⟩, (h1 b hb).2⟩, ⟨?_, ?_, fun i hi => ?_, p4⟩, ⟨?_, s2, s3, s4, s5, s6⟩, ?_⟩
  · refine (zP_un' fun q => hf ?_).trans ((h1 b hb).1.2.1 f hf)
    obtain rfl : b = 0 := by omega
    rw [q.1]; rfl
  · rw [up1_s]; exact if_pos ⟨rfl, rfl⟩
  · rw [up1_n (by omega)]; exact (zP_un (by omega)).trans p2
  · rw [up1_n (by omega)]; exact p3 i hi
  · exact (zP_un (by omega)).trans s1
  · exact (zP_un (by omega)).trans h4
theorem XR.P1 (h : XR S w x K E A c bx bu) {e : Nat} : XR (uP S 417 x (some (Pl x e))) w x (up1 K 1 e) E A c bx bu := by
  refine h.one (a := x) (h.wm (a := 0) (by decide)) rfl rfl rfl rfl (fun b hb => same_uP hb) ?_
  obtain ⟨h1, ⟨p1, p2, p3, p4⟩, ⟨s1, s2, s3, s4, s5, s6⟩, h4⟩ := h.1
  refine ⟨fun b hb => ⟨⟨(h1 b hb).1.1, fun f hf => ?_, (h1 b hb).1.2.2⟩, (h1 b hb).2⟩, ⟨?_, ?_, fun i hi => ?_, p4⟩, ⟨?_, s2, s3, s4, s5, s6⟩, ?_⟩
  · refine (zP_un' fun q => hf ?_).trans ((h1 b hb).1.2.1 f hf)
    obtain rfl : b = 0 := by omega
    rw [q.1]; rfl
  · rw [up1_n (by omega)]; exact (zP_un (by omega)).trans p1
  · rw [up1_s]; exact if_pos ⟨rfl, rfl⟩
  · rw [up1_n (by omega)]; exact p3 i hi
  · exact (zP_un (by omega)).trans s1
  · exact (zP_un (by omega)).trans h4
theorem XR.PW (h : XR S w x K E A c bx bu) {n : Nat} : XR (uP S 165 (x + 51) (wdP n)) w x (up1 K 11 n) E A c bx bu := by
  refine h.one (a := x + 51) (h.wm (a := 51) (by decide)) rfl rfl rfl rfl (fun b hb => same_uP hb) ?_
  obtain ⟨h1, ⟨p1, p2, p3, p4⟩, ⟨s1, s2, s3, s4, s5, s6⟩, h4⟩ := h.1
  refine ⟨fun b hb => ⟨⟨(h1 b hb).1.1, fun f hf => ?_, (h1 b hb).1.2.2⟩, (h1 b hb).2⟩, ⟨?_, ?_, fun i hi => ?_, p4⟩, ⟨?_, s2, s3, s4, s5, s6⟩, ?_⟩
  · refine (zP_un' fun q => hf ?_).trans ((h1 b hb).1.2.1 f hf)
    obtain rfl : b = 51 := by omega
    rw [q.1]; rfl
  · rw [up1_n (by omega)]; exact (zP_un (by omega)).trans p1
  · rw [up1_n (by omega)]; exact (zP_un (by omega)).trans p2
  · rw [up1_n (by omega)]; exact p3 i hi
  · exact (zP_un (by omega)).trans s1
  · rw [up1_s]; exact if_pos ⟨rfl, rfl⟩
theorem XR.Q (h : XR S w x K E A c bx bu) {e i : Nat} (hi : i < 8) : XR (uQ S (x + 33) i (some (Pl x e))) w x (up1 K (2 + i) e) E A c bx bu := by
  refine h.one (a := x + 33) (h.wm (a := 33) (by decide)) rfl rfl rfl rfl (fun b hb => same_uQ hb) ?_
  obtain ⟨h1, ⟨p1, p2, p3, p4⟩, ⟨s1, s2, s3, s4, s5, s6⟩, h4⟩ := h.1
  refine ⟨h1, ⟨?_, ?_, fun j hj => ?_, fun j hj => (zQ_un (by omega)).trans (p4 j hj)⟩, ⟨?_, ?_, ?_, ?_, ?_, ?_⟩, ?_⟩
  · rw [up1_n (by omega)]; exact p1
  · rw [up1_n (by omega)]; exact p2
  · by_cases q : j = i
    · subst q; rw [up1_s]; exact if_pos ⟨rfl, rfl⟩
    · rw [up1_n (by omega)]; exact (zQ_un (by omega)).trans (p3 j hj)
  · rw [up1_n (by omega)]; exact s1
  · rw [up1_n (by omega)]; exact s2
  · rw [up1_n (by omega)]; exact s3
  · rw [up1_n (by omega)]; exact s4
  · rw [up1_n (by omega)]; exact s5
  · rw [up1_n (by omega)]; exact s6
  · rw [up1_n (by omega)]; exact h4
theorem XR.D (h : XR S w x K E A c bx bu) {a i : Nat} {v : UInt64} (ha : mT a ≠ 0) : XR (uD S (x + a) i v) w x K E A c bx bu :=
  h.one (h.wm ha) rfl rfl rfl rfl (fun b hb => same_uD hb) h.1
/-- some cells more that nobody needs -/
theorem XR.X (h : XR S w x K E A c bx bu) {y u bx' bu' : Nat} (hy : zX S ≤ y) (hy2 : y + bx ≤ zX S + bx') (hu : u + bu ≤ zU S + bu') : XR (uX S y u) w x K E A c bx' bu' :=
  XR.main (S := S) (S' := uX S y u) (K' := K) (E' := E) (fun _ _ => ⟨⟨rfl, rfl⟩, fun _ => ⟨fun _ => rfl, fun _ => rfl, rfl, rfl, rfl, rfl⟩⟩) (fun _ _ => rfl) (fun a ha => h.2.2.2 a (Nat.le_trans hy ha)) ⟨hy2, hu⟩ h.1 h
theorem XR.le (h : XR S w x K E A c bx bu) {bx' bu' : Nat} (h1 : bx ≤ bx') (h2 : bu ≤ bu') : XR S w x K E A c bx' bu' := ⟨h.1, h.2.1, ⟨Nat.le_trans h.2.2.1.1 h1, Nat.le_trans h.2.2.1.2 h2⟩, h.2.2.2⟩
theorem sF_le {A : Nat → Nat → Nat} {e : Nat} : ∀ {n : Nat}, e < n → fre (A e) ≤ sF A n
  | 0, h => by omega
  | n + 1, h => by
    show fre (A e) ≤ sF A n + fre (A n)
    by_cases q : e = n
    · subst q; omega
    · have := sF_le (A := A) (e := e) (n := n) (by omega)
      omega
theorem XR.rm {G : GI} (h : XR S w x K E A c bx bu) (h1 : bx ≤ gN G) (h2 : bu ≤ gM G) {e : Nat} (he : e < 11) : Rm G S (A e) := by
  have := sF_le (A := A) he
  have := h.2.2.1.1
  have := h.2.2.1.2
  unfold Rm
  omega
end XRules
theorem XR.t0 {S : Hp} {w : Nat → Nat} {x : Nat} {K : Nat → Nat} {E : Nat → Nat → Nat} {A c : Nat → Nat → Nat} {bx bu : Nat} (h : XR S w x K E A c bx bu) : zT S x = 14 := (h.1.1 0 (by decide)).1.1.1
theorem XR.t33 {S : Hp} {w : Nat → Nat} {x : Nat} {K : Nat → Nat} {E : Nat → Nat → Nat} {A c : Nat → Nat → Nat} {bx bu : Nat} (h : XR S w x K E A c bx bu) : zT S (x + 33) = 114 := (h.1.1 33 (by decide)).1.1.1
theorem XR.t50 {S : Hp} {w : Nat → Nat} {x : Nat} {K : Nat → Nat} {E : Nat → Nat → Nat} {A c : Nat → Nat → Nat} {bx bu : Nat} (h : XR S w x K E A c bx bu) : zT S (x + 50) = 111 := (h.1.1 50 (by decide)).1.1.1
theorem XR.t51 {S : Hp} {w : Nat → Nat} {x : Nat} {K : Nat → Nat} {E : Nat → Nat → Nat} {A c : Nat → Nat → Nat} {bx bu : Nat} (h : XR S w x K E A c bx bu) : zT S (x + 51) = 6 := (h.1.1 51 (by decide)).1.1.1
theorem XR.t52 {S : Hp} {w : Nat → Nat} {x : Nat} {K : Nat → Nat} {E : Nat → Nat → Nat} {A c : Nat → Nat → Nat} {bx bu : Nat} (h : XR S w x K E A c bx bu) : zT S (x + 52) = 105 := (h.1.1 52 (by decide)).1.1.1
theorem XR.t53 {S : Hp} {w : Nat → Nat} {x : Nat} {K : Nat → Nat} {E : Nat → Nat → Nat} {A c : Nat → Nat → Nat} {bx bu : Nat} (h : XR S w x K E A c bx bu) : zT S (x + 53) = 101 := (h.1.1 53 (by decide)).1.1.1
theorem XR.t54 {S : Hp} {w : Nat → Nat} {x : Nat} {K : Nat → Nat} {E : Nat → Nat → Nat} {A c : Nat → Nat → Nat} {bx bu : Nat} (h : XR S w x K E A c bx bu) : zT S (x + 54) = 13 := (h.1.1 54 (by decide)).1.1.1
theorem XR.t55 {S : Hp} {w : Nat → Nat} {x : Nat} {K : Nat → Nat} {E : Nat → Nat → Nat} {A c : Nat → Nat → Nat} {bx bu : Nat} (h : XR S w x K E A c bx bu) : zT S (x + 55) = 2 := (h.1.1 55 (by decide)).1.1.1
theorem XR.t57 {S : Hp} {w : Nat → Nat} {x : Nat} {K : Nat → Nat} {E : Nat → Nat → Nat} {A c : Nat → Nat → Nat} {bx bu : Nat} (h : XR S w x K E A c bx bu) : zT S (x + 57) = 12 := (h.1.1 57 (by decide)).1.1.1
theorem XR.t58 {S : Hp} {w : Nat → Nat} {x : Nat} {K : Nat → Nat} {E : Nat → Nat → Nat} {A c : Nat → Nat → Nat} {bx bu : Nat} (h : XR S w x K E A c bx bu) : zT S (x + 58) = 106 := (h.1.1 58 (by decide)).1.1.1
theorem XR.t59 {S : Hp} {w : Nat → Nat} {x : Nat} {K : Nat → Nat} {E : Nat → Nat → Nat} {A c : Nat → Nat → Nat} {bx bu : Nat} (h : XR S w x K E A c bx bu) : zT S (x + 59) = 5 := (h.1.1 59 (by decide)).1.1.1
theorem XR.t60 {S : Hp} {w : Nat → Nat} {x : Nat} {K : Nat → Nat} {E : Nat → Nat → Nat} {A c : Nat → Nat → Nat} {bx bu : Nat} (h : XR S w x K E A c bx bu) : zT S (x + 60) = 103 := (h.1.1 60 (by decide)).1.1.1
theorem XR.t61 {S : Hp} {w : Nat → Nat} {x : Nat} {K : Nat → Nat} {E : Nat → Nat → Nat} {A c : Nat → Nat → Nat} {bx bu : Nat} (h : XR S w x K E A c bx bu) : zT S (x + 61) = 11 := (h.1.1 61 (by decide)).1.1.1
theorem XR.n33 {S : Hp} {w : Nat → Nat} {x : Nat} {K : Nat → Nat} {E : Nat → Nat → Nat} {A c : Nat → Nat → Nat} {bx bu : Nat} (h : XR S w x K E A c bx bu) : zN S (x + 33) = 8 := (h.1.1 33 (by decide)).1.1.2 (by decide)
theorem XR.n50 {S : Hp} {w : Nat → Nat} {x : Nat} {K : Nat → Nat} {E : Nat → Nat → Nat} {A c : Nat → Nat → Nat} {bx bu : Nat} (h : XR S w x K E A c bx bu) : zN S (x + 50) = 4 := (h.1.1 50 (by decide)).1.1.2 (by decide)
theorem XR.n52 {S : Hp} {w : Nat → Nat} {x : Nat} {K : Nat → Nat} {E : Nat → Nat → Nat} {A c : Nat → Nat → Nat} {bx bu : Nat} (h : XR S w x K E A c bx bu) : zN S (x + 52) = 60 := (h.1.1 52 (by decide)).1.1.2 (by decide)
theorem XR.n53 {S : Hp} {w : Nat → Nat} {x : Nat} {K : Nat → Nat} {E : Nat → Nat → Nat} {A c : Nat → Nat → Nat} {bx bu : Nat} (h : XR S w x K E A c bx bu) : zN S (x + 53) = 6 := (h.1.1 53 (by decide)).1.1.2 (by decide)
theorem XR.n58 {S : Hp} {w : Nat → Nat} {x : Nat} {K : Nat → Nat} {E : Nat → Nat → Nat} {A c : Nat → Nat → Nat} {bx bu : Nat} (h : XR S w x K E A c bx bu) : zN S (x + 58) = 4800 := (h.1.1 58 (by decide)).1.1.2 (by decide)
theorem XR.n60 {S : Hp} {w : Nat → Nat} {x : Nat} {K : Nat → Nat} {E : Nat → Nat → Nat} {A c : Nat → Nat → Nat} {bx bu : Nat} (h : XR S w x K E A c bx bu) : zN S (x + 60) = 33 := (h.1.1 60 (by decide)).1.1.2 (by decide)
theorem XR.p418 {S : Hp} {w : Nat → Nat} {x : Nat} {K : Nat → Nat} {E : Nat → Nat → Nat} {A c : Nat → Nat → Nat} {bx bu : Nat} (h : XR S w x K E A c bx bu) : zP S 418 x = some (x + 33) := (h.1.1 0 (by decide)).1.2.1 418 (by decide)
theorem XR.p421 {S : Hp} {w : Nat → Nat} {x : Nat} {K : Nat → Nat} {E : Nat → Nat → Nat} {A c : Nat → Nat → Nat} {bx bu : Nat} (h : XR S w x K E A c bx bu) : zP S 421 x = some (x + 34) := (h.1.1 0 (by decide)).1.2.1 421 (by decide)
theorem XR.p423 {S : Hp} {w : Nat → Nat} {x : Nat} {K : Nat → Nat} {E : Nat → Nat → Nat} {A c : Nat → Nat → Nat} {bx bu : Nat} (h : XR S w x K E A c bx bu) : zP S 423 x = some (x + 50) := (h.1.1 0 (by decide)).1.2.1 423 (by decide)
theorem XR.p424 {S : Hp} {w : Nat → Nat} {x : Nat} {K : Nat → Nat} {E : Nat → Nat → Nat} {A c : Nat → Nat → Nat} {bx bu : Nat} (h : XR S w x K E A c bx bu) : zP S 424 x = some (x + 51) := (h.1.1 0 (by decide)).1.2.1 424 (by decide)
theorem XR.p425 {S : Hp} {w : Nat → Nat} {x : Nat} {K : Nat → Nat} {E : Nat → Nat → Nat} {A c : Nat → Nat → Nat} {bx bu : Nat} (h : XR S w x K E A c bx bu) : zP S 425 x = some (x + 54) := (h.1.1 0 (by decide)).1.2.1 425 (by decide)
theorem XR.p426 {S : Hp} {w : Nat → Nat} {x : Nat} {K : Nat → Nat} {E : Nat → Nat → Nat} {A c : Nat → Nat → Nat} {bx bu : Nat} (h : XR S w x K E A c bx bu) : zP S 426 x = some (x + 57) := (h.1.1 0 (by decide)).1.2.1 426 (by decide)
theorem XR.p427 {S : Hp} {w : Nat → Nat} {x : Nat} {K : Nat → Nat} {E : Nat → Nat → Nat} {A c : Nat → Nat → Nat} {bx bu : Nat} (h : XR S w x K E A c bx bu) : zP S 427 x = some (x + 59) := (h.1.1 0 (by decide)).1.2.1 427 (by decide)
theorem XR.p428 {S : Hp} {w : Nat → Nat} {x : Nat} {K : Nat → Nat} {E : Nat → Nat → Nat} {A c : Nat → Nat → Nat} {bx bu : Nat} (h : XR S w x K E A c bx bu) : zP S 428 x = some (x + 61) := (h.1.1 0 (by decide)).1.2.1 428 (by decide)
theorem XR.p160 {S : Hp} {w : Nat → Nat} {x : Nat} {K : Nat → Nat} {E : Nat → Nat → Nat} {A c : Nat → Nat → Nat} {bx bu : Nat} (h : XR S w x K E A c bx bu) : zP S 160 (x + 51) = some (x + 52) := (h.1.1 51 (by decide)).1.2.1 160 (by decide)
theorem XR.p166 {S : Hp} {w : Nat → Nat} {x : Nat} {K : Nat → Nat} {E : Nat → Nat → Nat} {A c : Nat → Nat → Nat} {bx bu : Nat} (h : XR S w x K E A c bx bu) : zP S 166 (x + 51) = some (x + 53) := (h.1.1 51 (by decide)).1.2.1 166 (by decide)
theorem XR.p384 {S : Hp} {w : Nat → Nat} {x : Nat} {K : Nat → Nat} {E : Nat → Nat → Nat} {A c : Nat → Nat → Nat} {bx bu : Nat} (h : XR S w x K E A c bx bu) : zP S 384 (x + 54) = some (x + 55) := (h.1.1 54 (by decide)).1.2.1 384 (by decide)
theorem XR.p352 {S : Hp} {w : Nat → Nat} {x : Nat} {K : Nat → Nat} {E : Nat → Nat → Nat} {A c : Nat → Nat → Nat} {bx bu : Nat} (h : XR S w x K E A c bx bu) : zP S 352 (x + 57) = some (x + 58) := (h.1.1 57 (by decide)).1.2.1 352 (by decide)
theorem XR.p128 {S : Hp} {w : Nat → Nat} {x : Nat} {K : Nat → Nat} {E : Nat → Nat → Nat} {A c : Nat → Nat → Nat} {bx bu : Nat} (h : XR S w x K E A c bx bu) : zP S 128 (x + 59) = some (x + 60) := (h.1.1 59 (by decide)).1.2.1 128 (by decide)
theorem XR.p416 {S : Hp} {w : Nat → Nat} {x : Nat} {K : Nat → Nat} {E : Nat → Nat → Nat} {A c : Nat → Nat → Nat} {bx bu : Nat} (h : XR S w x K E A c bx bu) : zP S 416 x = some (Pl x (K 0)) := h.1.2.1.1
theorem XR.p417 {S : Hp} {w : Nat → Nat} {x : Nat} {K : Nat → Nat} {E : Nat → Nat → Nat} {A c : Nat → Nat → Nat} {bx bu : Nat} (h : XR S w x K E A c bx bu) : zP S 417 x = some (Pl x (K 1)) := h.1.2.1.2.1
theorem XR.q33 {S : Hp} {w : Nat → Nat} {x : Nat} {K : Nat → Nat} {E : Nat → Nat → Nat} {A c : Nat → Nat → Nat} {bx bu : Nat} (h : XR S w x K E A c bx bu) {i : Nat} (hi : i < 8) : zQ S (x + 33) i = some (Pl x (K (2 + i))) := h.1.2.1.2.2.1 i hi
theorem XR.q50 {S : Hp} {w : Nat → Nat} {x : Nat} {K : Nat → Nat} {E : Nat → Nat → Nat} {A c : Nat → Nat → Nat} {bx bu : Nat} (h : XR S w x K E A c bx bu) {i : Nat} (hi : i < 4) : zQ S (x + 50) i = some (x + (190 + 5 * i)) := h.1.2.1.2.2.2 i hi
theorem XR.p165 {S : Hp} {w : Nat → Nat} {x : Nat} {K : Nat → Nat} {E : Nat → Nat → Nat} {A c : Nat → Nat → Nat} {bx bu : Nat} (h : XR S w x K E A c bx bu) : zP S 165 (x + 51) = wdP (K 11) := h.1.2.2.2
theorem XR.i {S : Hp} {w : Nat → Nat} {x : Nat} {K : Nat → Nat} {E : Nat → Nat → Nat} {A c : Nat → Nat → Nat} {bx bu : Nat} (h : XR S w x K E A c bx bu) {a f : Nat} (ha : mT a ≠ 0) (hf : f < 1000) : zI S f (x + a) = nI (E f a) := (h.1.1 a ha).2.1 f hf
theorem XR.i0 {S : Hp} {w : Nat → Nat} {x : Nat} {K : Nat → Nat} {E : Nat → Nat → Nat} {A c : Nat → Nat → Nat} {bx bu : Nat} (h : XR S w x K E A c bx bu) {f : Nat} (hf : f < 1000) : zI S f x = nI (E f 0) := (h.1.1 0 (by decide)).2.1 f hf
theorem XR.a {S : Hp} {w : Nat → Nat} {x : Nat} {K : Nat → Nat} {E : Nat → Nat → Nat} {A c : Nat → Nat → Nat} {bx bu : Nat} (h : XR S w x K E A c bx bu) {a i : Nat} (ha : mT a ≠ 0) : zA S (x + a) i = nI (E (1000 + i) a) := (h.1.1 a ha).2.2 i
theorem mT_d {i j : Nat} (hi : i < 4) (hj : j < 5) : mT (190 + 5 * i + j) = if j = 0 then 7 else 101 := by
  obtain rfl | rfl | rfl | rfl : i = 0 ∨ i = 1 ∨ i = 2 ∨ i = 3 := by omega
  all_goals obtain rfl | rfl | rfl | rfl | rfl : j = 0 ∨ j = 1 ∨ j = 2 ∨ j = 3 ∨ j = 4 := by omega
  all_goals decide
theorem mL_d {i j : Nat} (hi : i < 4) (hj : j < 5) : mL (190 + 5 * i + j) = 5 := by
  obtain rfl | rfl | rfl | rfl : i = 0 ∨ i = 1 ∨ i = 2 ∨ i = 3 := by omega
  all_goals obtain rfl | rfl | rfl | rfl | rfl : j = 0 ∨ j = 1 ∨ j = 2 ∨ j = 3 ∨ j = 4 := by omega
  all_goals decide
theorem mP_d {i j : Nat} (hi : i < 4) (hj : j < 4) : mP (194 + j) (190 + 5 * i) = 190 + 5 * i + (1 + j) := by
  obtain rfl | rfl | rfl | rfl : i = 0 ∨ i = 1 ∨ i = 2 ∨ i = 3 := by omega
  all_goals obtain rfl | rfl | rfl | rfl : j = 0 ∨ j = 1 ∨ j = 2 ∨ j = 3 := by omega
  all_goals decide
theorem mT_d0 {i : Nat} (hi : i < 4) : mT (190 + 5 * i) ≠ 0 := by have := mT_d (j := 0) hi (by decide); rw [Nat.add_zero] at this; rw [this]; decide
theorem mT_dj {i j : Nat} (hi : i < 4) (hj : j < 4) : mT (190 + 5 * i + (1 + j)) ≠ 0 := by rw [mT_d hi (by omega), if_neg (by omega)]; decide
theorem XR.td {S : Hp} {w : Nat → Nat} {x : Nat} {K : Nat → Nat} {E : Nat → Nat → Nat} {A c : Nat → Nat → Nat} {bx bu : Nat} (h : XR S w x K E A c bx bu) {i : Nat} (hi : i < 4) : zT S (x + (190 + 5 * i)) = 7 := by have := mT_d (j := 0) hi (by decide); rw [Nat.add_zero] at this; exact (h.1.1 _ (mT_d0 hi)).1.1.1.trans this
theorem XR.tdj {S : Hp} {w : Nat → Nat} {x : Nat} {K : Nat → Nat} {E : Nat → Nat → Nat} {A c : Nat → Nat → Nat} {bx bu : Nat} (h : XR S w x K E A c bx bu) {i j : Nat} (hi : i < 4) (hj : j < 4) : zT S (x + (190 + 5 * i + (1 + j))) = 101 := (h.1.1 _ (mT_dj hi hj)).1.1.1.trans ((mT_d hi (by omega)).trans (if_neg (by omega)))
theorem XR.ndj {S : Hp} {w : Nat → Nat} {x : Nat} {K : Nat → Nat} {E : Nat → Nat → Nat} {A c : Nat → Nat → Nat} {bx bu : Nat} (h : XR S w x K E A c bx bu) {i j : Nat} (hi : i < 4) (hj : j < 4) : zN S (x + (190 + 5 * i + (1 + j))) = 5 := ((h.1.1 _ (mT_dj hi hj)).1.1.2 (by rw [mT_d hi (by omega), if_neg (by omega)]; decide)).trans (mL_d hi (by omega))
theorem XR.pdj {S : Hp} {w : Nat → Nat} {x : Nat} {K : Nat → Nat} {E : Nat → Nat → Nat} {A c : Nat → Nat → Nat} {bx bu : Nat} (h : XR S w x K E A c bx bu) {i j : Nat} (hi : i < 4) (hj : j < 4) : zP S (194 + j) (x + (190 + 5 * i)) = some (x + (190 + 5 * i + (1 + j))) := by have := (h.1.1 _ (mT_d0 hi)).1.2.1 (194 + j) (by rw [mP_d hi hj]; omega); rw [mP_d hi hj] at this; exact this
/-! THROWING -/
theorem fa_n : ∀ w ∈ ([] : List Cond), vx_no w = true → (w ∈ BIG ∨ w ∈ NST) := fun w h => absurd h List.not_mem_nil
theorem fa_c {L : List Cond} {a : Cond} (h : vx_no a = true → (a ∈ BIG ∨ a ∈ NST)) (t : ∀ w ∈ L, vx_no w = true → (w ∈ BIG ∨ w ∈ NST)) : ∀ w ∈ a :: L, vx_no w = true → (w ∈ BIG ∨ w ∈ NST) := fun w hw => (List.mem_cons.mp hw).elim (fun e => e ▸ h) (t w)
theorem fa_a {L1 L2 : List Cond} (h : ∀ w ∈ L1, vx_no w = true → (w ∈ BIG ∨ w ∈ NST)) (t : ∀ w ∈ L2, vx_no w = true → (w ∈ BIG ∨ w ∈ NST)) : ∀ w ∈ L1 ++ L2, vx_no w = true → (w ∈ BIG ∨ w ∈ NST) := fun w hw => (List.mem_append.mp hw).elim (h w) (t w)
theorem fa_thr : ∀ w ∈ Bundle.throwableAtoms, vx_no w = true → (w ∈ BIG ∨ w ∈ NST) := by
  unfold Bundle.throwableAtoms
  exact (fa_c (fun _ => Or.inl (sg1 15 rfl rfl)) (fa_c (fun _ => Or.inl (sg3 47 rfl rfl)) (fa_c (fun _ => Or.inl (sg2 237 rfl rfl)) (fa_c (fun _ => Or.inl (sg3 7 rfl rfl)) (fa_c (fun _ => Or.inl (sg3 10 rfl rfl)) (fa_c (fun _ => Or.inl (sg3 12 rfl rfl)) (fa_c (fun _ => Or.inl (sg3 48 rfl rfl)) (fa_c (fun _ => Or.inl (sg3 49 rfl rfl)) (fa_c (fun _ => Or.inl (sg1 45 rfl rfl)) (fa_c (fun _ => Or.inl (sg1 46 rfl rfl)) (fa_c (fun _ => Or.inl (sg2 231 rfl rfl)) (fa_c (fun _ => Or.inl (sg2 236 rfl rfl)) (fa_c (fun _ => Or.inl (sg3 8 rfl rfl)) (fa_c (fun _ => Or.inl (sg3 15 rfl rfl)) (fa_c (fun _ => Or.inl (sg3 41 rfl rfl)) (fa_c (fun _ => Or.inl (sg3 16 rfl rfl)) (fa_c (fun _ => Or.inl (sg3 42 rfl rfl)) (fa_c (fun _ => Or.inl (sg3 17 rfl rfl)) (fa_c (fun _ => Or.inl (sg3 43 rfl rfl)) (fa_c (fun _ => Or.inl (sg2 232 rfl rfl)) (fa_c (fun q9 => absurd q9 (by simp [vx_no])) (fa_c (fun _ => Or.inl (sg2 234 rfl rfl)) (fa_c (fun q9 => absurd q9 (by simp [vx_no])) (fa_c (fun _ => Or.inl (sg3 44 rfl rfl)) fa_n))))))))))))))))))))))))
theorem fa_RT : ∀ w ∈ Bundle.passAtoms "java/lang/RuntimeException" "java/lang/Exception" 1 Bundle.five, vx_no w = true → (w ∈ BIG ∨ w ∈ NST) := by
  unfold Bundle.passAtoms
  exact (fa_c (fun _ => Or.inl (sg3 92 rfl rfl)) (fa_c (fun _ => Or.inl (sg3 93 rfl rfl)) (fa_c (fun _ => Or.inl (sg3 94 rfl rfl)) (fa_c (fun _ => Or.inl (sg3 95 rfl rfl)) (fa_c (fun _ => Or.inr (sn3 36 rfl rfl)) fa_n)))))
theorem fa_EX : ∀ w ∈ Bundle.passAtoms "java/lang/Exception" Bundle.tN 1 Bundle.five, vx_no w = true → (w ∈ BIG ∨ w ∈ NST) := by
  unfold Bundle.passAtoms
  exact (fa_c (fun _ => Or.inl (sg3 95 rfl rfl)) (fa_c (fun _ => Or.inl (sg3 96 rfl rfl)) (fa_c (fun _ => Or.inl (sg3 97 rfl rfl)) (fa_c (fun _ => Or.inl (sg3 48 rfl rfl)) (fa_c (fun _ => Or.inr (sn3 38 rfl rfl)) fa_n)))))
theorem fa_IO : ∀ w ∈ vx_at0 "LotInspector" 85 "java/lang/IndexOutOfBoundsException" ["java/lang/RuntimeException", "java/lang/Exception"], w ∈ BIG ∨ w ∈ NST := fun w hw =>
  fa_a (fa_a fa_thr (show ∀ w ∈ Bundle.passAtoms "java/lang/IndexOutOfBoundsException" "java/lang/RuntimeException" 1 Bundle.five ++ (Bundle.passAtoms "java/lang/RuntimeException" "java/lang/Exception" 1 Bundle.five ++ Bundle.passAtoms "java/lang/Exception" Bundle.tN 1 Bundle.five), vx_no w = true → (w ∈ BIG ∨ w ∈ NST) from fa_a (by unfold Bundle.passAtoms; exact (fa_c (fun _ => Or.inl (sg3 89 rfl rfl)) (fa_c (fun _ => Or.inl (sg3 90 rfl rfl)) (fa_c (fun _ => Or.inl (sg3 91 rfl rfl)) (fa_c (fun _ => Or.inl (sg3 92 rfl rfl)) (fa_c (fun _ => Or.inr (sn3 34 rfl rfl)) fa_n)))))) (fa_a fa_RT fa_EX))) (fa_c (fun _ => Or.inl (sg3 88 rfl rfl)) (fa_c (fun _ => Or.inl (sg3 80 rfl rfl)) (fa_c (fun _ => Or.inr (sn3 81 rfl rfl)) (fa_c (fun _ => Or.inl (sg3 82 rfl rfl)) (fa_c (fun _ => Or.inl (sg3 3 rfl rfl)) (fa_c (fun _ => Or.inl (sg3 83 rfl rfl)) (fa_c (fun _ => Or.inl (sg3 84 rfl rfl)) (fa_c (fun _ => Or.inl (sg3 85 rfl rfl)) (fa_c (fun _ => Or.inl (sg3 86 rfl rfl)) (fa_c (fun q9 => absurd q9 (by simp [vx_no])) (fa_c (fun q9 => absurd q9 (by simp [vx_no])) (fa_c (fun _ => Or.inl (sg3 46 rfl rfl)) (fa_c (fun _ => Or.inl (sg3 45 rfl rfl)) (fa_c (fun _ => Or.inl (sg3 87 rfl rfl)) fa_n)))))))))))))) w (List.mem_filter.mp hw).1 (List.mem_filter.mp hw).2
theorem ft_IO {d : Nat} (hd : 10 ≤ d) : fT "LotInspector" "java/lang/IndexOutOfBoundsException" 83 85 d := ⟨["java/lang/RuntimeException", "java/lang/Exception"], by decide, by decide, (sg3 79 rfl rfl), (sg1 18 rfl rfl), fa_IO, by show 2 + 3 < d; omega, by show 8 + (13 * (2 + 1) + 42) ≤ 40 * d; omega⟩
theorem fa_IA : ∀ w ∈ vx_at0 "LotInspector" 102 "java/lang/IllegalArgumentException" ["java/lang/RuntimeException", "java/lang/Exception"], w ∈ BIG ∨ w ∈ NST := fun w hw =>
  fa_a (fa_a fa_thr (show ∀ w ∈ Bundle.passAtoms "java/lang/IllegalArgumentException" "java/lang/RuntimeException" 1 Bundle.five ++ (Bundle.passAtoms "java/lang/RuntimeException" "java/lang/Exception" 1 Bundle.five ++ Bundle.passAtoms "java/lang/Exception" Bundle.tN 1 Bundle.five), vx_no w = true → (w ∈ BIG ∨ w ∈ NST) from fa_a (by unfold Bundle.passAtoms; exact (fa_c (fun _ => Or.inl (sg3 110 rfl rfl)) (fa_c (fun _ => Or.inl (sg3 111 rfl rfl)) (fa_c (fun _ => Or.inl (sg3 112 rfl rfl)) (fa_c (fun _ => Or.inl (sg3 92 rfl rfl)) (fa_c (fun _ => Or.inr (sn3 34 rfl rfl)) fa_n)))))) (fa_a fa_RT fa_EX))) (fa_c (fun _ => Or.inl (sg3 109 rfl rfl)) (fa_c (fun _ => Or.inl (sg3 101 rfl rfl)) (fa_c (fun _ => Or.inr (sn3 102 rfl rfl)) (fa_c (fun _ => Or.inl (sg3 103 rfl rfl)) (fa_c (fun _ => Or.inl (sg3 1 rfl rfl)) (fa_c (fun _ => Or.inl (sg3 104 rfl rfl)) (fa_c (fun _ => Or.inl (sg3 105 rfl rfl)) (fa_c (fun _ => Or.inl (sg3 106 rfl rfl)) (fa_c (fun _ => Or.inl (sg3 107 rfl rfl)) (fa_c (fun q9 => absurd q9 (by simp [vx_no])) (fa_c (fun q9 => absurd q9 (by simp [vx_no])) (fa_c (fun _ => Or.inl (sg3 46 rfl rfl)) (fa_c (fun _ => Or.inl (sg3 45 rfl rfl)) (fa_c (fun _ => Or.inl (sg3 108 rfl rfl)) fa_n)))))))))))))) w (List.mem_filter.mp hw).1 (List.mem_filter.mp hw).2
theorem ft_IA {d : Nat} (hd : 10 ≤ d) : fT "LotInspector" "java/lang/IllegalArgumentException" 100 102 d := ⟨["java/lang/RuntimeException", "java/lang/Exception"], by decide, by decide, (sg3 100 rfl rfl), (sg1 22 rfl rfl), fa_IA, by show 2 + 3 < d; omega, by show 8 + (13 * (2 + 1) + 42) ≤ 40 * d; omega⟩
theorem fa_IS : ∀ w ∈ vx_at0 "LotInspector" 118 "java/lang/IllegalStateException" ["java/lang/RuntimeException", "java/lang/Exception"], w ∈ BIG ∨ w ∈ NST := fun w hw =>
  fa_a (fa_a fa_thr (show ∀ w ∈ Bundle.passAtoms "java/lang/IllegalStateException" "java/lang/RuntimeException" 1 Bundle.five ++ (Bundle.passAtoms "java/lang/RuntimeException" "java/lang/Exception" 1 Bundle.five ++ Bundle.passAtoms "java/lang/Exception" Bundle.tN 1 Bundle.five), vx_no w = true → (w ∈ BIG ∨ w ∈ NST) from fa_a (by unfold Bundle.passAtoms; exact (fa_c (fun _ => Or.inl (sg3 125 rfl rfl)) (fa_c (fun _ => Or.inl (sg3 126 rfl rfl)) (fa_c (fun _ => Or.inl (sg3 127 rfl rfl)) (fa_c (fun _ => Or.inl (sg3 92 rfl rfl)) (fa_c (fun _ => Or.inr (sn3 34 rfl rfl)) fa_n)))))) (fa_a fa_RT fa_EX))) (fa_c (fun _ => Or.inl (sg3 124 rfl rfl)) (fa_c (fun _ => Or.inl (sg3 116 rfl rfl)) (fa_c (fun _ => Or.inr (sn3 117 rfl rfl)) (fa_c (fun _ => Or.inl (sg3 118 rfl rfl)) (fa_c (fun _ => Or.inl (sg3 2 rfl rfl)) (fa_c (fun _ => Or.inl (sg3 119 rfl rfl)) (fa_c (fun _ => Or.inl (sg3 120 rfl rfl)) (fa_c (fun _ => Or.inl (sg3 121 rfl rfl)) (fa_c (fun _ => Or.inl (sg3 122 rfl rfl)) (fa_c (fun q9 => absurd q9 (by simp [vx_no])) (fa_c (fun q9 => absurd q9 (by simp [vx_no])) (fa_c (fun _ => Or.inl (sg3 46 rfl rfl)) (fa_c (fun _ => Or.inl (sg3 45 rfl rfl)) (fa_c (fun _ => Or.inl (sg3 123 rfl rfl)) fa_n)))))))))))))) w (List.mem_filter.mp hw).1 (List.mem_filter.mp hw).2
theorem ft_IS {d : Nat} (hd : 10 ≤ d) : fT "LotInspector" "java/lang/IllegalStateException" 116 118 d := ⟨["java/lang/RuntimeException", "java/lang/Exception"], by decide, by decide, (sg3 115 rfl rfl), (sg1 23 rfl rfl), fa_IS, by show 2 + 3 < d; omega, by show 8 + (13 * (2 + 1) + 42) ≤ 40 * d; omega⟩
theorem fa_NS : ∀ w ∈ vx_at0 "LotInspector" 211 "java/util/NoSuchElementException" ["java/lang/RuntimeException", "java/lang/Exception"], w ∈ BIG ∨ w ∈ NST := fun w hw =>
  fa_a (fa_a fa_thr (show ∀ w ∈ Bundle.passAtoms "java/util/NoSuchElementException" "java/lang/RuntimeException" 1 Bundle.five ++ (Bundle.passAtoms "java/lang/RuntimeException" "java/lang/Exception" 1 Bundle.five ++ Bundle.passAtoms "java/lang/Exception" Bundle.tN 1 Bundle.five), vx_no w = true → (w ∈ BIG ∨ w ∈ NST) from fa_a (by unfold Bundle.passAtoms; exact (fa_c (fun _ => Or.inl (sg3 140 rfl rfl)) (fa_c (fun _ => Or.inl (sg3 141 rfl rfl)) (fa_c (fun _ => Or.inl (sg3 142 rfl rfl)) (fa_c (fun _ => Or.inl (sg3 92 rfl rfl)) (fa_c (fun _ => Or.inr (sn3 34 rfl rfl)) fa_n)))))) (fa_a fa_RT fa_EX))) (fa_c (fun _ => Or.inl (sg3 139 rfl rfl)) (fa_c (fun _ => Or.inl (sg3 131 rfl rfl)) (fa_c (fun _ => Or.inr (sn3 132 rfl rfl)) (fa_c (fun _ => Or.inl (sg3 133 rfl rfl)) (fa_c (fun _ => Or.inl (sg3 6 rfl rfl)) (fa_c (fun _ => Or.inl (sg3 134 rfl rfl)) (fa_c (fun _ => Or.inl (sg3 135 rfl rfl)) (fa_c (fun _ => Or.inl (sg3 136 rfl rfl)) (fa_c (fun _ => Or.inl (sg3 137 rfl rfl)) (fa_c (fun q9 => absurd q9 (by simp [vx_no])) (fa_c (fun q9 => absurd q9 (by simp [vx_no])) (fa_c (fun _ => Or.inl (sg3 46 rfl rfl)) (fa_c (fun _ => Or.inl (sg3 45 rfl rfl)) (fa_c (fun _ => Or.inl (sg3 138 rfl rfl)) fa_n)))))))))))))) w (List.mem_filter.mp hw).1 (List.mem_filter.mp hw).2
theorem ft_NS {d : Nat} (hd : 10 ≤ d) : fT "LotInspector" "java/util/NoSuchElementException" 209 211 d := ⟨["java/lang/RuntimeException", "java/lang/Exception"], by decide, by decide, (sg3 130 rfl rfl), (sg1 24 rfl rfl), fa_NS, by show 2 + 3 < d; omega, by show 8 + (13 * (2 + 1) + 42) ≤ 40 * d; omega⟩
theorem fa_AR : ∀ w ∈ vx_at0 "LotInspector" 248 "java/lang/ArithmeticException" ["java/lang/RuntimeException", "java/lang/Exception"], w ∈ BIG ∨ w ∈ NST := fun w hw =>
  fa_a (fa_a fa_thr (show ∀ w ∈ Bundle.passAtoms "java/lang/ArithmeticException" "java/lang/RuntimeException" 1 Bundle.five ++ (Bundle.passAtoms "java/lang/RuntimeException" "java/lang/Exception" 1 Bundle.five ++ Bundle.passAtoms "java/lang/Exception" Bundle.tN 1 Bundle.five), vx_no w = true → (w ∈ BIG ∨ w ∈ NST) from fa_a (by unfold Bundle.passAtoms; exact (fa_c (fun _ => Or.inl (sg5 130 rfl rfl)) (fa_c (fun _ => Or.inl (sg5 131 rfl rfl)) (fa_c (fun _ => Or.inl (sg5 132 rfl rfl)) (fa_c (fun _ => Or.inl (sg3 92 rfl rfl)) (fa_c (fun _ => Or.inr (sn3 34 rfl rfl)) fa_n)))))) (fa_a fa_RT fa_EX))) (fa_c (fun _ => Or.inl (sg5 129 rfl rfl)) (fa_c (fun _ => Or.inl (sg5 107 rfl rfl)) (fa_c (fun _ => Or.inr (sn5 118 rfl rfl)) (fa_c (fun _ => Or.inl (sg5 119 rfl rfl)) (fa_c (fun _ => Or.inl (sg2 239 rfl rfl)) (fa_c (fun _ => Or.inl (sg5 113 rfl rfl)) (fa_c (fun _ => Or.inl (sg5 114 rfl rfl)) (fa_c (fun _ => Or.inl (sg5 116 rfl rfl)) (fa_c (fun _ => Or.inl (sg5 112 rfl rfl)) (fa_c (fun q9 => absurd q9 (by simp [vx_no])) (fa_c (fun q9 => absurd q9 (by simp [vx_no])) (fa_c (fun _ => Or.inl (sg3 46 rfl rfl)) (fa_c (fun _ => Or.inl (sg3 45 rfl rfl)) (fa_c (fun _ => Or.inl (sg5 111 rfl rfl)) fa_n)))))))))))))) w (List.mem_filter.mp hw).1 (List.mem_filter.mp hw).2
theorem ft_AR {d : Nat} (hd : 10 ≤ d) : fT "LotInspector" "java/lang/ArithmeticException" 246 248 d := ⟨["java/lang/RuntimeException", "java/lang/Exception"], by decide, by decide, (sg5 128 rfl rfl), (sg1 30 rfl rfl), fa_AR, by show 2 + 3 < d; omega, by show 8 + (13 * (2 + 1) + 42) ≤ 40 * d; omega⟩
theorem fa_UO : ∀ w ∈ vx_at0 "LotInspector" 282 "java/lang/UnsupportedOperationException" ["java/lang/RuntimeException", "java/lang/Exception"], w ∈ BIG ∨ w ∈ NST := fun w hw =>
  fa_a (fa_a fa_thr (show ∀ w ∈ Bundle.passAtoms "java/lang/UnsupportedOperationException" "java/lang/RuntimeException" 1 Bundle.five ++ (Bundle.passAtoms "java/lang/RuntimeException" "java/lang/Exception" 1 Bundle.five ++ Bundle.passAtoms "java/lang/Exception" Bundle.tN 1 Bundle.five), vx_no w = true → (w ∈ BIG ∨ w ∈ NST) from fa_a (by unfold Bundle.passAtoms; exact (fa_c (fun _ => Or.inl (sg5 186 rfl rfl)) (fa_c (fun _ => Or.inl (sg5 187 rfl rfl)) (fa_c (fun _ => Or.inl (sg5 188 rfl rfl)) (fa_c (fun _ => Or.inl (sg3 92 rfl rfl)) (fa_c (fun _ => Or.inr (sn3 34 rfl rfl)) fa_n)))))) (fa_a fa_RT fa_EX))) (fa_c (fun _ => Or.inl (sg5 185 rfl rfl)) (fa_c (fun _ => Or.inl (sg5 177 rfl rfl)) (fa_c (fun _ => Or.inr (sn5 178 rfl rfl)) (fa_c (fun _ => Or.inl (sg5 179 rfl rfl)) (fa_c (fun _ => Or.inl (sg3 5 rfl rfl)) (fa_c (fun _ => Or.inl (sg5 180 rfl rfl)) (fa_c (fun _ => Or.inl (sg5 181 rfl rfl)) (fa_c (fun _ => Or.inl (sg5 182 rfl rfl)) (fa_c (fun _ => Or.inl (sg5 183 rfl rfl)) (fa_c (fun q9 => absurd q9 (by simp [vx_no])) (fa_c (fun q9 => absurd q9 (by simp [vx_no])) (fa_c (fun _ => Or.inl (sg3 46 rfl rfl)) (fa_c (fun _ => Or.inl (sg3 45 rfl rfl)) (fa_c (fun _ => Or.inl (sg5 184 rfl rfl)) fa_n)))))))))))))) w (List.mem_filter.mp hw).1 (List.mem_filter.mp hw).2
theorem ft_UO {d : Nat} (hd : 10 ≤ d) : fT "LotInspector" "java/lang/UnsupportedOperationException" 280 282 d := ⟨["java/lang/RuntimeException", "java/lang/Exception"], by decide, by decide, (sg5 176 rfl rfl), (sg1 32 rfl rfl), fa_UO, by show 2 + 3 < d; omega, by show 8 + (13 * (2 + 1) + 42) ≤ 40 * d; omega⟩
/-- a method that throws E and changes nothing -/
def FT (M : MI) (G : GI) (av : List Value) (S : Hp) (E : String) : Prop := Cn M G av S (fun r T => r = .inr E ∧ ∃ y u, (zX S ≤ y ∧ y ≤ zX S + 1) ∧ (zU S ≤ u ∧ u ≤ zU S + 6) ∧ T = uX S y u)
section FtRules
variable {M M2 : MI} {G : GI} {S : Hp} {pc : Nat} {lv : List (Nat × Value)} {st : List Value} {Q : OV → Hp → Prop}
theorem r_ftV {idx n b ci : Nat} {r : vw_C} {As rest : List Value} {E : String} (hd : decode (mB M) pc = .ok (.invokevirtual idx, 3)) (hcs : cV M M2 idx n) (hh : mH M2 = []) (hn : As.length = n) (hst : st = As.reverse ++ .ref b :: rest) (hcat : (rest.map fun v => v.category).sum ≤ 8)
    (hbt : zT S b = ci + 1) (hc0 : vwCl[ci]? = some r) (hr1 : r.1 = (mY M2).cls) (h3 : ci < 100) (hf : FT M2 G (.ref b :: As) S E) (hm : mH M = []) (kk : ∀ y u, (zX S ≤ y ∧ y ≤ zX S + 1) → (zU S ≤ u ∧ u ≤ zU S + 6) → Q (.inr E) (uX S y u)) : Wx M G S pc lv st Q :=
  r_callV hd hcs hh hn hst hcat hbt hc0 hr1 h3 hf (fun v2 T h => by cases h.1) (fun E2 T h => by obtain ⟨h1, y, u, h2, h3, rfl⟩ := h; cases h1; exact WxT.out hm (kk y u h2 h3))
theorem r_ftS {idx n : Nat} {As rest : List Value} {E : String} (hd : decode (mB M) pc = .ok (.invokestatic idx, 3)) (hcs : cS M M2 idx n) (hh : mH M2 = []) (hn : As.length = n) (hst : st = As.reverse ++ rest) (hcat : (rest.map fun v => v.category).sum ≤ 8)
    (hf : FT M2 G As S E) (hm : mH M = []) (kk : ∀ y u, (zX S ≤ y ∧ y ≤ zX S + 1) → (zU S ≤ u ∧ u ≤ zU S + 6) → Q (.inr E) (uX S y u)) : Wx M G S pc lv st Q :=
  r_callS hd hcs hh hn hst hcat hf (fun v2 T h => by cases h.1) (fun E2 T h => by obtain ⟨h1, y, u, h2, h3, rfl⟩ := h; cases h1; exact WxT.out hm (kk y u h2 h3))
end FtRules
