/-! THE CLASS's numbers c beside THE REFERENCE's row g; N bounds what is counted -/
def HdP (c g : Nat → Nat) (N p : Nat) : Prop := (∀ f, f < 6 → c (22 + 10 * p + f) = g (22 + 10 * p + f)) ∧ c (22 + 10 * p + 8) = g (22 + 10 * p + 8) ∧ c (22 + 10 * p + 9) = g (22 + 10 * p + 9) ∧
  (g (22 + 10 * p) ≤ 30 ∧ g (22 + 10 * p + 1) < 16 ∧ g (22 + 10 * p + 2) < 16 ∧ g (22 + 10 * p + 3) ≤ 3 ∧ g (22 + 10 * p + 4) ≤ 12 ∧ g (22 + 10 * p + 4) % 3 = 0) ∧
  (g (22 + 10 * p + 5) ≤ 24 ∧ c (22 + 10 * p + 6) < 2 ^ g (22 + 10 * p + 5) ∧ onesK (c (22 + 10 * p + 6)) 32 = g (22 + 10 * p + 6) ∧ c (22 + 10 * p + 6) % 32 = g (22 + 10 * p + 7)) ∧ g (22 + 10 * p + 9) ≤ g (22 + 10 * p + 8) ∧ g (22 + 10 * p + 8) ≤ N
def RU (c g : Nat → Nat) (l u : Nat) : Prop := c (402 + 8 * (200 * l + u)) = sW (g (402 + 2 * (200 * l + u))) ∧ c (402 + 8 * (200 * l + u) + 1) = g (402 + 2 * (200 * l + u)) % 16 ∧ c (402 + 8 * (200 * l + u) + 2) = rW (g (402 + 2 * (200 * l + u))) ∧ c (402 + 8 * (200 * l + u) + 3) = frW (g (402 + 2 * (200 * l + u))) ∧ c (402 + 8 * (200 * l + u) + 5) = fld 9 1 (g (402 + 2 * (200 * l + u)))
def LW (g : Nat → Nat) (N l : Nat) : Prop := g (90 + 13 * l + 0) < 4 ∧ (0 < g (90 + 13 * l + 1) ∧ g (90 + 13 * l + 1) ≤ 200) ∧ g (90 + 13 * l + 2) < 4 ∧ g (90 + 13 * l + 3) ≤ N ∧ g (90 + 13 * l + 8) ≤ 3 ∧ g (90 + 13 * l + 9) < 6 ∧ (∀ k, k < g (90 + 13 * l + 8) → g (90 + 13 * l + (10 + k)) < l) ∧ (∀ j k, j < k → k < g (90 + 13 * l + 8) → g (90 + 13 * l + (10 + j)) ≠ g (90 + 13 * l + (10 + k))) ∧ (g (90 + 13 * l + 3) ≠ 0 → g (90 + 13 * l + 4) < 3 ∧ g (90 + 13 * l + 5) ≤ 32 ∧ g (90 + 13 * l + 6) ≤ 32 ∧ g (90 + 13 * l + 7) ≤ 200)
/-- the unit of part k of which unit u of lot l was made: where its word stands -/
def pat (g : Nat → Nat) (l u k : Nat) : Nat := 402 + 2 * (200 * g (90 + 13 * l + (10 + k)) + pW (g (402 + 2 * (200 * l + u) + 1)) k)
def PU (c g : Nat → Nat) (l u : Nat) : Prop := ∀ k, k < g (90 + 13 * l + 8) → pW (g (402 + 2 * (200 * l + u) + 1)) k < g (90 + 13 * g (90 + 13 * l + (10 + k)) + 1) ∧ sW (g (pat g l u k)) = 3 ∧ c (402 + 8 * (200 * g (90 + 13 * l + (10 + k)) + pW (g (402 + 2 * (200 * l + u) + 1)) k) + 4) = 1000 * l + u
def UU (c g : Nat → Nat) (n l u : Nat) : Prop := (sW (g (402 + 2 * (200 * l + u))) = 3 → ∃ L U k, L < n ∧ U < g (90 + 13 * L + 1) ∧ k < g (90 + 13 * L + 8) ∧ g (90 + 13 * L + (10 + k)) = l ∧ pW (g (402 + 2 * (200 * L + U) + 1)) k = u ∧ c (402 + 8 * (200 * l + u) + 4) = 1000 * L + U) ∧ (¬ sW (g (402 + 2 * (200 * l + u))) = 3 → c (402 + 8 * (200 * l + u) + 4) = 4294967295)
def WU (g : Nat → Nat) (l u : Nat) : Prop := g (402 + 2 * (200 * l + u)) < 2 ^ 18 ∧ rW (g (402 + 2 * (200 * l + u))) ≤ 2 ∧ sW (g (402 + 2 * (200 * l + u))) ≤ 4 ∧ ∀ q, q < 4 → (bW (g (402 + 2 * (200 * l + u))) q = 0 → yW (g (402 + 2 * (200 * l + u))) q = 0) ∧ yW (g (402 + 2 * (200 * l + u))) q ≤ 2 ∧ (bW (g (402 + 2 * (200 * l + u))) q = 1 → yW (g (402 + 2 * (200 * l + u))) q = 0 → ∃ k, k < g (90 + 13 * l + 8) ∧ bW (g (pat g l u k)) q = 1) ∧ (yW (g (402 + 2 * (200 * l + u))) q = 1 → ∀ k, k < g (90 + 13 * l + 8) → bW (g (pat g l u k)) q = 0)
def LT (c g : Nat → Nat) (N n l : Nat) : Prop := LW g N l ∧ (∀ f, f < 10 → c (90 + 13 * l + f) = g (90 + 13 * l + f)) ∧ (∀ k, k < g (90 + 13 * l + 8) → c (90 + 13 * l + (10 + k)) = g (90 + 13 * l + (10 + k))) ∧ ∀ u, u < g (90 + 13 * l + 1) → RU c g l u ∧ PU c g l u ∧ UU c g n l u ∧ WU g l u
noncomputable def insC (g : Nat → Nat) (n : Nat) : Nat := cnt (fun l => ¬ g (90 + 13 * l + 3) = 0) n
def Rel (c g : Nat → Nat) (N : Nat) : Prop := (g 0 ≤ 24 ∧ (∀ i, i < 4 → c i = g i) ∧ g 3 < 2147483648 ∧ g 1 ≤ N ∧ g 2 ≤ N) ∧ (∀ i, i < 6 → (∀ f, f < 3 → c (4 + 3 * i + f) = g (4 + 3 * i + f)) ∧ g (4 + 3 * i) ≤ 50 ∧ g (4 + 3 * i + 1) < 4 ∧ g (4 + 3 * i + 2) ≤ N) ∧ (∀ p, p < 4 → HdP c g N p) ∧ (∀ j, j < 28 → c (62 + j) = g (62 + j) ∧ g (62 + j) ≤ N) ∧ (∀ p, p < 4 → g (22 + 10 * p + 5) ≤ insC g (g 0)) ∧ (∀ l, l < g 0 → LT c g N (g 0) l) ∧ WB g
section RelFacts
variable {c g : Nat → Nat} {N : Nat}
theorem Rel.n24 (h : Rel c g N) : g 0 ≤ 24 := h.1.1
theorem Rel.c0 (h : Rel c g N) : c 0 = g 0 := h.1.2.1 0 (by decide)
theorem Rel.c1 (h : Rel c g N) : c 1 = g 1 := h.1.2.1 1 (by decide)
theorem Rel.c2 (h : Rel c g N) : c 2 = g 2 := h.1.2.1 2 (by decide)
theorem Rel.c3 (h : Rel c g N) : c 3 = g 3 := h.1.2.1 3 (by decide)
theorem Rel.g3 (h : Rel c g N) : g 3 < 2147483648 := h.1.2.2.1
theorem Rel.g1 (h : Rel c g N) : g 1 ≤ N := h.1.2.2.2.1
theorem Rel.g2 (h : Rel c g N) : g 2 ≤ N := h.1.2.2.2.2
theorem Rel.m0 (h : Rel c g N) {i : Nat} (hi : i < 6) : c (4 + 3 * i) = g (4 + 3 * i) := (h.2.1 i hi).1 0 (by decide)
theorem Rel.m1 (h : Rel c g N) {i : Nat} (hi : i < 6) : c (4 + 3 * i + 1) = g (4 + 3 * i + 1) := (h.2.1 i hi).1 1 (by decide)
theorem Rel.m2 (h : Rel c g N) {i : Nat} (hi : i < 6) : c (4 + 3 * i + 2) = g (4 + 3 * i + 2) := (h.2.1 i hi).1 2 (by decide)
theorem Rel.mb (h : Rel c g N) {i : Nat} (hi : i < 6) : g (4 + 3 * i) ≤ 50 ∧ g (4 + 3 * i + 1) < 4 ∧ g (4 + 3 * i + 2) ≤ N := (h.2.1 i hi).2
theorem Rel.p (h : Rel c g N) {p : Nat} (hp : p < 4) : HdP c g N p := h.2.2.1 p hp
theorem HdP.c0 {p : Nat} (h : HdP c g N p) : c (22 + 10 * p) = g (22 + 10 * p) := h.1 0 (by decide)
theorem HdP.cf {p f : Nat} (h : HdP c g N p) (hf : f < 6) : c (22 + 10 * p + f) = g (22 + 10 * p + f) := h.1 f hf
theorem HdP.c8 {p : Nat} (h : HdP c g N p) : c (22 + 10 * p + 8) = g (22 + 10 * p + 8) := h.2.1
theorem HdP.c9 {p : Nat} (h : HdP c g N p) : c (22 + 10 * p + 9) = g (22 + 10 * p + 9) := h.2.2.1
theorem HdP.b {p : Nat} (h : HdP c g N p) : g (22 + 10 * p) ≤ 30 ∧ g (22 + 10 * p + 1) < 16 ∧ g (22 + 10 * p + 2) < 16 ∧ g (22 + 10 * p + 3) ≤ 3 ∧ g (22 + 10 * p + 4) ≤ 12 ∧ g (22 + 10 * p + 4) % 3 = 0 := h.2.2.2.1
theorem HdP.m {p : Nat} (h : HdP c g N p) : g (22 + 10 * p + 5) ≤ 24 ∧ c (22 + 10 * p + 6) < 2 ^ g (22 + 10 * p + 5) ∧ onesK (c (22 + 10 * p + 6)) 32 = g (22 + 10 * p + 6) ∧ c (22 + 10 * p + 6) % 32 = g (22 + 10 * p + 7) := h.2.2.2.2.1
theorem HdP.s {p : Nat} (h : HdP c g N p) : g (22 + 10 * p + 9) ≤ g (22 + 10 * p + 8) ∧ g (22 + 10 * p + 8) ≤ N := h.2.2.2.2.2
theorem Rel.b (h : Rel c g N) {j : Nat} (hj : j < 28) : c (62 + j) = g (62 + j) := (h.2.2.2.1 j hj).1
theorem Rel.bb (h : Rel c g N) {j : Nat} (hj : j < 28) : g (62 + j) ≤ N := (h.2.2.2.1 j hj).2
theorem Rel.mem (h : Rel c g N) {p : Nat} (hp : p < 4) : g (22 + 10 * p + 5) ≤ insC g (g 0) := h.2.2.2.2.1 p hp
theorem Rel.lot (h : Rel c g N) {l : Nat} (hl : l < g 0) : LT c g N (g 0) l := h.2.2.2.2.2.1 l hl
theorem Rel.wb (h : Rel c g N) : WB g := h.2.2.2.2.2.2
theorem LT.w {n l : Nat} (h : LT c g N n l) : LW g N l := h.1
theorem LT.pr {n l : Nat} (h : LT c g N n l) : g (90 + 13 * l + 0) < 4 := h.1.1
theorem LT.z {n l : Nat} (h : LT c g N n l) : g (90 + 13 * l + 1) ≤ 200 := h.1.2.1.2
theorem LT.z0 {n l : Nat} (h : LT c g N n l) : 0 < g (90 + 13 * l + 1) := h.1.2.1.1
theorem LT.st {n l : Nat} (h : LT c g N n l) : g (90 + 13 * l + 2) < 4 := h.1.2.2.1
theorem LT.pc {n l : Nat} (h : LT c g N n l) : g (90 + 13 * l + 8) ≤ 3 := h.1.2.2.2.2.1
theorem LT.ma {n l : Nat} (h : LT c g N n l) : g (90 + 13 * l + 9) < 6 := h.1.2.2.2.2.2.1
theorem LT.pt {n l k : Nat} (h : LT c g N n l) (hk : k < g (90 + 13 * l + 8)) : g (90 + 13 * l + (10 + k)) < l := h.1.2.2.2.2.2.2.1 k hk
theorem LT.pd {n l j k : Nat} (h : LT c g N n l) (hj : j < k) (hk : k < g (90 + 13 * l + 8)) : g (90 + 13 * l + (10 + j)) ≠ g (90 + 13 * l + (10 + k)) := h.1.2.2.2.2.2.2.2.1 j k hj hk
theorem LT.i {n l : Nat} (h : LT c g N n l) (hi : g (90 + 13 * l + 3) ≠ 0) : g (90 + 13 * l + 4) < 3 ∧ g (90 + 13 * l + 5) ≤ 32 ∧ g (90 + 13 * l + 6) ≤ 32 ∧ g (90 + 13 * l + 7) ≤ 200 := h.1.2.2.2.2.2.2.2.2 hi
theorem LT.h {n l f : Nat} (h : LT c g N n l) (hf : f < 10) : c (90 + 13 * l + f) = g (90 + 13 * l + f) := h.2.1 f hf
theorem LT.p {n l k : Nat} (h : LT c g N n l) (hk : k < g (90 + 13 * l + 8)) : c (90 + 13 * l + (10 + k)) = g (90 + 13 * l + (10 + k)) := h.2.2.1 k hk
theorem LT.u0 {n l u : Nat} (h : LT c g N n l) (hu : u < g (90 + 13 * l + 1)) : c (402 + 8 * (200 * l + u)) = sW (g (402 + 2 * (200 * l + u))) := (h.2.2.2 u hu).1.1
theorem LT.u1 {n l u : Nat} (h : LT c g N n l) (hu : u < g (90 + 13 * l + 1)) : c (402 + 8 * (200 * l + u) + 1) = g (402 + 2 * (200 * l + u)) % 16 := (h.2.2.2 u hu).1.2.1
theorem LT.u2 {n l u : Nat} (h : LT c g N n l) (hu : u < g (90 + 13 * l + 1)) : c (402 + 8 * (200 * l + u) + 2) = rW (g (402 + 2 * (200 * l + u))) := (h.2.2.2 u hu).1.2.2.1
theorem LT.u3 {n l u : Nat} (h : LT c g N n l) (hu : u < g (90 + 13 * l + 1)) : c (402 + 8 * (200 * l + u) + 3) = frW (g (402 + 2 * (200 * l + u))) := (h.2.2.2 u hu).1.2.2.2.1
theorem LT.u5 {n l u : Nat} (h : LT c g N n l) (hu : u < g (90 + 13 * l + 1)) : c (402 + 8 * (200 * l + u) + 5) = fld 9 1 (g (402 + 2 * (200 * l + u))) := (h.2.2.2 u hu).1.2.2.2.2
theorem LT.pu {n l u : Nat} (h : LT c g N n l) (hu : u < g (90 + 13 * l + 1)) : PU c g l u := (h.2.2.2 u hu).2.1
theorem LT.uu {n l u : Nat} (h : LT c g N n l) (hu : u < g (90 + 13 * l + 1)) : UU c g n l u := (h.2.2.2 u hu).2.2.1
theorem LT.wu {n l u : Nat} (h : LT c g N n l) (hu : u < g (90 + 13 * l + 1)) : WU g l u := (h.2.2.2 u hu).2.2.2
end RelFacts
theorem Wx.gx {M : MI} {G : GI} {S S0 : Hp} {w w0 : Nat → Nat} {k o : Nat} {A A0 c : Nat → Nat} {pc : Nat} {lv : List (Nat × Value)} {st : List Value} {Q : OV → Hp → Prop} (hx : OX S0 w0 A0 S w k o A c) (kk : ∀ T, OX S0 w0 A0 T w k o A c → Wx M G T pc lv st Q) : Wx M G S pc lv st Q := kk S hx
