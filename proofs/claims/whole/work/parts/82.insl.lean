/-! INSPECTING -/
theorem k_sample {G : GI} {S : Hp} {n v : Nat} (hn : n ≤ 200) (hv : v < 4) : Fn m_X8_sampleSize G [.int (nI n), .int (nI v)] S (some (.int (nI (smpN n v)))) S := by
  by_cases c : v = 2
  · subst c; exact k_sample_2 hn
  · exact k_sample_n hn hv c
theorem k_allowed {G : GI} {S : Hp} {a s q v : Nat} (ha : zT S a = 11) (hq : zI S 320 a = nI q) (hs : s ≤ 32) (hq30 : q ≤ 30) (hv : v < 3) : Fn m_X8_allowedIn G [.ref a, .int (nI s), .int (nI v)] S (some (.int (nI (alwN s q v)))) S := by
  obtain rfl | rfl | rfl : v = 0 ∨ v = 1 ∨ v = 2 := by omega
  · exact k_allowed_0 ha hq hs hq30
  · exact k_allowed_1 ha hq hs hq30
  · exact k_allowed_2 ha hq hs hq30
theorem alwN_le {s q v : Nat} (hs : s ≤ 32) (hq : q ≤ 30) : alwN s q v ≤ 10 := by
  have h1 : s * q ≤ 32 * 30 := Nat.mul_le_mul hs hq
  have h2 : s * q / 100 ≤ 9 := by omega
  unfold alwN
  split
  · omega
  · split <;> omega
theorem LD.congr {p p' : Nat → Prop} {c c' : Nat → Nat} {n z : Nat} (hp : ∀ v, p v ↔ p' v) (hc : ∀ j, j < n → c' (60000 + j) = c (60000 + j)) (h : LD p c n z) : LD p' c' n z := fun j hj => by
  rw [hc j hj]
  obtain ⟨h1, h2, h3⟩ := h j hj
  exact ⟨h1, (hp _).mp h2, (cnt_congr fun i _ => (hp i).symm).trans h3⟩
/-- as many units are drawn as there are draws, at most -/
theorem drw_le {e : Nat → Nat} {n : Nat} : ∀ k, cnt (fun z => drw e k z) n ≤ k
  | 0 => Nat.le_of_eq (cnt_0 fun z _ h => by obtain ⟨q, hq, -⟩ := h; exact absurd hq (Nat.not_lt_zero q))
  | k + 1 => by
    have ih := drw_le (e := e) (n := n) k
    by_cases d : drw e k (e k)
    · rw [cnt_congr (p := fun z => drw e (k + 1) z) (q := fun z => drw e k z) fun z _ => ⟨fun h => (drw_s.mp h).elim id (fun q => q ▸ d), fun h => drw_s.mpr (Or.inl h)⟩]
      omega
    · have h1 := cnt_del (p := fun z => drw e (k + 1) z) (a := e k) (drw_s.mpr (Or.inr rfl)) n
      have h2 : cnt (fun z => drw e (k + 1) z ∧ ¬ z = e k) n ≤ cnt (fun z => drw e k z) n := cnt_imp fun z _ h => (drw_s.mp h.1).elim id (fun q => absurd q h.2)
      split at h1 <;> omega
theorem DB_le {g : Nat → Nat} {l n : Nat} {e : Nat → Nat} (k : Nat) : cnt (DB g l e k) n ≤ k := Nat.le_trans (cnt_imp fun _ _ h => h.1) (drw_le (e := e) (n := n) k)
def HD (g : Nat → Nat) (l : Nat) (e : Nat → Nat) (k v : Nat) : Prop := sW (g (402 + 2 * (200 * l + v))) = 0 ∧ ¬ ∃ q, q < k ∧ v = e q
theorem up1_comm {f : Nat → Nat} {i j x y : Nat} (h : i ≠ j) : up1 (up1 f i x) j y = up1 (up1 f j y) i x := funext fun q => by
  by_cases c1 : q = j
  · rw [c1, up1_s, up1_n (fun z => h z.symm), up1_s]
  · rw [up1_n c1]
    by_cases c2 : q = i
    · rw [c2, up1_s, up1_s]
    · rw [up1_n c2, up1_n c2, up1_n c1]
theorem GF_e2 {g : Nat → Nat} {l : Nat} {cc : Nat → Nat → Nat} {e : Nat → Nat} {n v s a i1 st : Nat} : up1 (up1 (GF g l cc e n v s a s) (90 + 13 * l + 3) i1) (90 + 13 * l + 2) st = up1 (up1 (up1 (up1 (up1 (up1 (insI g l cc e s n) (90 + 13 * l + 2) st) (90 + 13 * l + 4) v) (90 + 13 * l + 5) s) (90 + 13 * l + 6) a) (90 + 13 * l + 7) (cnt (DB g l e s) n)) (90 + 13 * l + 3) i1 := by
  unfold GF
  rw [up1_comm (i := 90 + 13 * l + 3) (j := 90 + 13 * l + 2) (by omega), up1_comm (i := 90 + 13 * l + 7) (j := 90 + 13 * l + 2) (by omega), up1_comm (i := 90 + 13 * l + 6) (j := 90 + 13 * l + 2) (by omega), up1_comm (i := 90 + 13 * l + 5) (j := 90 + 13 * l + 2) (by omega), up1_comm (i := 90 + 13 * l + 4) (j := 90 + 13 * l + 2) (by omega)]
theorem GF_e1 {g : Nat → Nat} {l : Nat} {cc : Nat → Nat → Nat} {e : Nat → Nat} {n v s a i1 st p x8 x9 f : Nat} (hp : p < 4) : swtG (up1 (up1 (up1 (up1 (GF g l cc e n v s a s) (90 + 13 * l + 3) i1) (90 + 13 * l + 2) st) (22 + 10 * p + 8) x8) (22 + 10 * p + 9) x9) (22 + 10 * p) f a = up1 (swtG (up1 (up1 (up1 (up1 (up1 (up1 (up1 (insI g l cc e s n) (90 + 13 * l + 2) st) (90 + 13 * l + 4) v) (90 + 13 * l + 5) s) (90 + 13 * l + 6) a) (90 + 13 * l + 7) (cnt (DB g l e s) n)) (22 + 10 * p + 8) x8) (22 + 10 * p + 9) x9) (22 + 10 * p) f a) (90 + 13 * l + 3) i1 := by
  rw [← swtG_up (by omega), GF_e2, up1_comm (i := 90 + 13 * l + 3) (j := 22 + 10 * p + 8) (by omega), up1_comm (i := 90 + 13 * l + 3) (j := 22 + 10 * p + 9) (by omega)]
/-! steps of an inspection, one by one -/
section InsSteps
variable {c g G : Nat → Nat} {N N' l : Nat} {cc : Nat → Nat → Nat} {e : Nat → Nat}
theorem Rel.i0 {n v s a : Nat} (hr : Rel c g N) (hl : l < g 0) (hv : v < 3) (hs : s ≤ 32) (ha : a ≤ 32) : Rel (up1 (up1 (up1 (up1 c (90 + 13 * l + 4) v) (90 + 13 * l + 5) s) (90 + 13 * l + 6) a) (90 + 13 * l + 7) 0) (GF g l cc e n v s a 0) N := by
  have hL := hr.lot hl
  rw [GF_0]
  refine Rel.lhd hr (Nat.le_refl N) hl (fun i _ hi => by rw [up1_n (by omega), up1_n (by omega), up1_n (by omega), up1_n (by omega)]) (fun i hi => by rw [up1_n (by omega), up1_n (by omega), up1_n (by omega), up1_n (by omega)]) (fun f h1 h2 => ?_) (by rw [up1_n (by omega), up1_n (by omega), up1_n (by omega), up1_n (by omega)]; exact hL.st) (by rw [up1_n (by omega), up1_n (by omega), up1_n (by omega), up1_n (by omega)]; exact hL.1.2.2.2.1) (fun h => by rw [up1_n (by omega), up1_n (by omega), up1_n (by omega), up1_n (by omega)]; exact h) (fun _ => ?_)
  · obtain rfl | rfl | rfl | rfl | rfl | rfl : f = 2 ∨ f = 3 ∨ f = 4 ∨ f = 5 ∨ f = 6 ∨ f = 7 := by omega
    · rw [up1_n (by omega), up1_n (by omega), up1_n (by omega), up1_n (by omega), up1_n (by omega), up1_n (by omega), up1_n (by omega), up1_n (by omega)]; exact hL.h (by decide)
    · rw [up1_n (by omega), up1_n (by omega), up1_n (by omega), up1_n (by omega), up1_n (by omega), up1_n (by omega), up1_n (by omega), up1_n (by omega)]; exact hL.h (by decide)
    · rw [up1_n (by omega), up1_n (by omega), up1_n (by omega), up1_s, up1_n (by omega), up1_n (by omega), up1_n (by omega), up1_s]
    · rw [up1_n (by omega), up1_n (by omega), up1_s, up1_n (by omega), up1_n (by omega), up1_s]
    · rw [up1_n (by omega), up1_s, up1_n (by omega), up1_s]
    · rw [up1_s, up1_s]
  · rw [up1_n (by omega), up1_n (by omega), up1_n (by omega), up1_s, up1_n (by omega), up1_n (by omega), up1_s, up1_n (by omega), up1_s, up1_s]
    exact ⟨hv, hs, ha, by decide⟩
theorem Rel.i1 {m i : Nat} (hr : Rel c g N) : Rel (dwC c m i) (up1 g 3 (sdN (c 3))) N :=
  Rel.dr (c := up1 c 3 (sdN (c 3))) (fun j hj => by
    unfold dwC
    by_cases q9 : j = 3
    · rw [if_pos q9, q9, up1_s]
    · rw [if_neg q9, if_neg (by omega), up1_n q9]) (Rel.seed hr (Nat.mod_lt _ (by decide)))
theorem LD.next {m i k z : Nat} (hi : i < m) (hx : c (60000 + i) = e k) (h : LD (HD g l e k) c m z) : LD (HD g l e (k + 1)) (dwC c m i) (m - 1) z :=
  LD.congr (fun v => by
    unfold HD
    rw [hx]
    constructor
    · rintro ⟨⟨q1, q2⟩, q3⟩
      refine ⟨q1, fun ⟨y, hy, hy9⟩ => ?_⟩
      by_cases q8 : y = k
      · subst q8; exact q3 hy9
      · exact q2 ⟨y, by omega, hy9⟩
    · rintro ⟨q1, q2⟩
      exact ⟨⟨q1, fun ⟨y, hy, hy9⟩ => q2 ⟨y, by omega, hy9⟩⟩, fun hy9 => q2 ⟨k, by omega, hy9⟩⟩) (fun _ _ => rfl) (LD.draw hi h)
theorem Rel.i7 {f : Nat} (hr : Rel c g N) (hl : l < g 0) (hf : f ≤ 200) : Rel (up1 c (90 + 13 * l + 7) f) (up1 g (90 + 13 * l + 7) f) N := by
  have hL := hr.lot hl
  refine Rel.lhd hr (Nat.le_refl _) hl (fun i _ hi => up1_n (by omega)) (fun i hi => up1_n (by omega)) (fun f h1 h2 => by
    by_cases q9 : f = 7
    · subst q9; rw [up1_s, up1_s]
    · rw [up1_n (by omega), up1_n (by omega)]; exact hL.h (by omega)) (by rw [up1_n (by omega)]; exact hL.st) (by rw [up1_n (by omega)]; exact hL.1.2.2.2.1) (by rw [up1_n (by omega)]; exact id) (fun q9 => by
    rw [up1_n (by omega)] at q9
    have q8 := hL.i q9
    rw [up1_n (by omega), up1_n (by omega), up1_n (by omega), up1_s]
    exact ⟨q8.1, q8.2.1, q8.2.2.1, hf⟩)
theorem Rel.i2 {i1 st : Nat} (hr : Rel c g N) (hl : l < g 0) (hN : N ≤ N') (hst : st < 4) (hi1 : i1 ≤ N') (h0 : i1 ≠ 0) (hb : g (90 + 13 * l + 4) < 3 ∧ g (90 + 13 * l + 5) ≤ 32 ∧ g (90 + 13 * l + 6) ≤ 32 ∧ g (90 + 13 * l + 7) ≤ 200) : Rel (up1 (up1 c (90 + 13 * l + 3) i1) (90 + 13 * l + 2) st) (up1 (up1 g (90 + 13 * l + 3) i1) (90 + 13 * l + 2) st) N' := by
  have hL := hr.lot hl
  refine Rel.lhd hr hN hl (fun i _ hi => by rw [up1_n (by omega), up1_n (by omega)]) (fun i hi => by rw [up1_n (by omega), up1_n (by omega)]) (fun f h1 h2 => by
    by_cases q9 : f = 2
    · subst q9; rw [up1_s, up1_s]
    · by_cases q8 : f = 3
      · subst q8; rw [up1_n (by omega), up1_s, up1_n (by omega), up1_s]
      · rw [up1_n (by omega), up1_n (by omega), up1_n (by omega), up1_n (by omega)]; exact hL.h (by omega)) (by rw [up1_s]; exact hst) (by rw [up1_n (by omega), up1_s]; exact hi1) (fun _ => by rw [up1_n (by omega), up1_s]; exact h0) (fun _ => by
    rw [up1_n (by omega), up1_n (by omega), up1_n (by omega), up1_n (by omega), up1_n (by omega), up1_n (by omega), up1_n (by omega), up1_n (by omega)]
    exact hb)
theorem Rel.i3 {p s f : Nat} (hr : Rel c g N) (hp : p < 4) (hfs : f ≤ s) (hN : N + s ≤ N') : Rel (up1 (up1 c (22 + 10 * p + 8) (g (22 + 10 * p + 8) + s)) (22 + 10 * p + 9) (g (22 + 10 * p + 9) + f)) (up1 (up1 g (22 + 10 * p + 8) (g (22 + 10 * p + 8) + s)) (22 + 10 * p + 9) (g (22 + 10 * p + 9) + f)) N' := by
  refine Rel.prod hr (by omega) hp (fun j hj => by rw [up1_n (by omega), up1_n (by omega)]) (fun j hj => by rw [up1_n (by omega), up1_n (by omega)]) ?_ ?_
  · obtain ⟨y1, y2, y3, y4, y5, y6⟩ := hr.p hp
    refine ⟨fun f hf => by rw [up1_n (by omega), up1_n (by omega), up1_n (by omega), up1_n (by omega)]; exact y1 f hf, by rw [up1_n (by omega), up1_s, up1_n (by omega), up1_s], by rw [up1_s, up1_s], ?_, ?_, ?_⟩
    · rw [up1_n (by omega), up1_n (by omega), up1_n (by omega), up1_n (by omega), up1_n (by omega), up1_n (by omega), up1_n (by omega), up1_n (by omega), up1_n (by omega), up1_n (by omega)]; exact y4
    · rw [up1_n (by omega), up1_n (by omega), up1_n (by omega), up1_n (by omega), up1_n (by omega), up1_n (by omega), up1_n (by omega), up1_n (by omega)]; exact y5
    · rw [up1_s, up1_n (by omega), up1_s]; omega
  · rw [up1_n (by omega), up1_n (by omega)]; exact hr.mem hp
theorem CauC.bec {u ks : Nat} {cx : Nat → Nat} (hd : G (402 + 2 * (200 * l + u)) % 16 = g (402 + 2 * (200 * l + u)) % 16) (h4y : ∀ a b, a < 24 → b < 200 → G (402 + 2 * (200 * a + b)) = g (402 + 2 * (200 * a + b)) ∨ G (402 + 2 * (200 * a + b)) = becN (g (402 + 2 * (200 * a + b))) 1) (h4o : ∀ i, (402 ≤ i ∧ (i - 402) % 2 = 1 ∨ (90 ≤ i ∧ i < 402 ∧ (i < 90 + 13 * l + 4 ∨ 90 + 13 * l + 7 < i))) → G i = g i) (h : CauC g l u ks cx) : CauC G l u ks cx := by
  refine CauC.sim hd (fun q a b hq h1 h2 => ?_) (fun q a b hq h1 h2 => ?_) (fun a b h1 h2 => h4o _ (by omega)) (fun a j h1 h2 h3 => h4o _ (by omega)) h
  · rcases h4y a b h1 h2 with q8 | q8
    · rw [q8]
    · rw [q8]; exact bec_y (by decide) hq
  · rcases h4y a b h1 h2 with q8 | q8
    · rw [q8]
    · rw [q8]; exact bec_b (by decide)
theorem insC_up {p : Nat} (hr : Rel c g N) (hp : p < 4) (hl : l < g 0) (hF : g (90 + 13 * l + 3) = 0) (h5 : G (22 + 10 * p + 5) = g (22 + 10 * p + 5)) (h0 : G 0 = g 0) (h3 : ¬ G (90 + 13 * l + 3) = 0) (hz : ∀ z, z < g 0 → z ≠ l → G (90 + 13 * z + 3) = g (90 + 13 * z + 3)) : G (22 + 10 * p + 5) + 1 ≤ insC G (G 0) := by
  rw [h5, h0]
  have q3 := hr.mem hp
  have q4 := cnt_del (p := fun z => ¬ G (90 + 13 * z + 3) = 0) (a := l) h3 (g 0)
  rw [if_pos hl] at q4
  have q5 : insC g (g 0) ≤ cnt (fun z => ¬ G (90 + 13 * z + 3) = 0 ∧ ¬ z = l) (g 0) := cnt_imp fun z hz9 hz8 => by
    have hzl : z ≠ l := fun q9 => hz8 (by rw [q9]; exact hF)
    exact ⟨by rw [hz z hz9 hzl]; exact hz8, hzl⟩
  unfold insC
  unfold insC at q3 q5
  omega
end InsSteps

section InsSteps2
variable {c g G : Nat → Nat} {N l : Nat} {cc : Nat → Nat → Nat} {e : Nat → Nat}
/-- a unit is found: the count, its state -/
theorem Rel.i4 {x f ks : Nat} {cx : Nat → Nat} (hr : Rel c G N) (hl : l < G 0) (hx : x < G (90 + 13 * l + 1)) (h0 : sW (G (402 + 2 * (200 * l + x))) = 0) (hf : f ≤ 200) (hcc : CauC G l x ks cx) : Rel (up1 (up1 c (90 + 13 * l + 7) f) (402 + 8 * (200 * l + x)) 1) (becG (up1 G (90 + 13 * l + 7) f) l x 1) N ∧ becG (up1 G (90 + 13 * l + 7) f) l x 1 (402 + 2 * (200 * l + x)) % 16 = G (402 + 2 * (200 * l + x)) % 16 ∧ CauC (becG (up1 G (90 + 13 * l + 7) f) l x 1) l x ks cx ∧ becG (up1 G (90 + 13 * l + 7) f) l x 1 0 = G 0 ∧ becG (up1 G (90 + 13 * l + 7) f) l x 1 (90 + 13 * l + 1) = G (90 + 13 * l + 1) := by
  have h24 := hr.n24
  have h2 := Rel.i7 (f := f) hr hl hf
  have e3 : up1 G (90 + 13 * l + 7) f (402 + 2 * (200 * l + x)) = G (402 + 2 * (200 * l + x)) := up1_n (by omega)
  have hd : becG (up1 G (90 + 13 * l + 7) f) l x 1 (402 + 2 * (200 * l + x)) = becN (G (402 + 2 * (200 * l + x))) 1 := by unfold becG; rw [up1_s, e3]
  have hw : ∀ a b, a < 24 → b < 200 → becG (up1 G (90 + 13 * l + 7) f) l x 1 (402 + 2 * (200 * a + b)) = G (402 + 2 * (200 * a + b)) ∨ becG (up1 G (90 + 13 * l + 7) f) l x 1 (402 + 2 * (200 * a + b)) = becN (G (402 + 2 * (200 * a + b))) 1 := fun a b _ _ => by
    by_cases q : 402 + 2 * (200 * a + b) = 402 + 2 * (200 * l + x)
    · right; rw [q]; exact hd
    · left; rw [becG_n q, up1_n (by omega)]
  refine ⟨Rel.bec h2 (by rw [up1_n (by omega)]; exact hl) (by rw [up1_n (by omega)]; exact hx) (by rw [e3, h0]; decide) (by decide) (by decide), by rw [hd]; exact bec_d (by decide), CauC.sim (by rw [hd]; exact bec_d (by decide)) (fun q a b hq h1 h2 => ?_) (fun q a b hq h1 h2 => ?_) (fun a b h1 h2 => by rw [becG_n (by omega), up1_n (by omega)]) (fun a j h1 h2 h3 => by rw [becG_n (by omega), up1_n (by omega)]) hcc, by rw [becG_n (by omega), up1_n (by omega)], by rw [becG_n (by omega), up1_n (by omega)]⟩
  · rcases hw a b h1 h2 with q8 | q8
    · rw [q8]
    · rw [q8]; exact bec_y (by decide) hq
  · rcases hw a b h1 h2 with q8 | q8
    · rw [q8]
    · rw [q8]; exact bec_b (by decide)
theorem CauC_GF {n v s a k z x ks : Nat} {cx : Nat → Nat} (h6 : ∀ u q, cc u q ≤ 6) (hl : l < 24) (hx : GF g l cc e n v s a k (402 + 2 * (200 * l + x)) = g (402 + 2 * (200 * l + x))) (hcc : CauC g l x ks cx) : CauC (up1 (GF g l cc e n v s a k) 3 z) l x ks cx := by
  have ew : ∀ i, 402 ≤ i → up1 (GF g l cc e n v s a k) 3 z i = GF g l cc e n v s a k i := fun i hi => up1_n (by omega)
  refine CauC.bec (by rw [ew _ (by omega), hx]) (fun a b _ _ => ?_) (fun i hi => ?_) hcc
  · rw [ew _ (by omega)]
    rcases GF_w h6 hl (x := 402 + 2 * (200 * a + b)) (by omega) with q | q
    · exact Or.inl q
    · exact Or.inr q.1
  · rw [up1_n (by omega), GF_n (by omega)]
    exact insI_o h6 (by omega) (by omega) _ (fun z _ => by omega)
end InsSteps2
theorem LD_far {c G : Nat → Nat} {l x f v j : Nat} (hl : l < 24) (hx : x < 200) : mrg (up1 (up1 c (90 + 13 * l + 7) f) (402 + 8 * (200 * l + x)) v) G (60000 + j) = c (60000 + j) := by
  rw [mrg_n (by omega), up1_n (by omega), up1_n (by omega)]
