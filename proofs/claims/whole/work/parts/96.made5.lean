/-! MAKING A LOT on both sides -/
def tr {α : Type} (x y z : α) : Nat → α
  | 0 => x
  | 1 => y
  | _ => z
theorem ch_raw {G : GI} {S : Hp} {w : Nat → Nat} {k o : Nat} {A c g : Nat → Nat} {N : Nat} (h : OR S w k o A c) (hr : Rel c g N) (hal : ∀ l, l < g 0 → A l ≠ 0) (hrm : Rm G S A) (hNb : N < 2147460000) {l a p n : Nat} (hl : g 0 = l) (hl24 : l < 24) (ha : a < 6) (hp : p < 4) (hn0 : 0 < n) (hn : n ≤ 200) : OCh m_X7_makeRaw G [.ref o, .int (nI a), .int (nI p), .int (nI n)] S w k o A (some (.int (nI l))) (wrkI (begG g a p n 0) a l n) (N + n) := by
  refine Cn.mono (fun r T hq => ?_) (a_raw h hr hal hrm hNb hl hl24 ha hp hn0 hn)
  obtain ⟨h1, w', A', c', hx, hA, hAi, c1, c2, c9, hc1, hb, hw, he⟩ := hq
  have k0 : MK c g l n p a 0 (tr 0 0 0) (tr (fun _ => 0) (fun _ => 0) (fun _ => 0)) 0 c2 (begG g a p n 0) := MK.base hr hl hl24 hn hc1 hb
  have kr := MK.fin hr hl hl24 hn0 hn hp ha (by decide) (fun k hk => absurd hk (Nat.not_lt_zero k)) (fun j k hj hk => absurd hk (Nat.not_lt_zero k)) (fun k hk => absurd hk (Nat.not_lt_zero k)) k0 hw
  rw [← he] at kr
  refine ⟨h1, w', A', c', hx, kr, fun i hi => ?_⟩
  rw [wrkI_lo (by decide) (by omega), k0.2.1.2] at hi
  by_cases q : i = l
  · rw [q]; exact hA
  · rw [hAi i q]; exact hal i (by omega)
theorem ch_asm1 {G : GI} {S : Hp} {w : Nat → Nat} {k o : Nat} {A c g : Nat → Nat} {N : Nat} (h : OR S w k o A c) (hr : Rel c g N) (hal : ∀ l, l < g 0 → A l ≠ 0) (hrm : Rm G S A) (hNb : N < 2147460000) {l a p n : Nat} (hl : g 0 = l) (hl24 : l < 24) (ha : a < 6) (hp : p < 4) (hn0 : 0 < n) (hn : n ≤ 200) {t0 : Nat} (q0 : t0 < l) (f0 : ¬ fewP g t0 n) {e0 : Nat → Nat} (e0h : EN (fun v => sW (g (402 + 2 * (200 * t0 + v))) = 0) n (g (90 + 13 * t0 + 1)) e0) : OCh m_X7_assemble G [.ref o, .int (nI a), .int (nI p), .int (nI n), .int (nI t0), .int (nI 4294967295), .int (nI 4294967295)] S w k o A (some (.int (nI l))) (wrkI (takI (begG g a p n 1) l 0 t0 e0 n) a l n) (N + n) := by
  have z0 := (hr.lot (l := t0) (by omega)).z
  refine Cn.mono (fun r T hq => ?_) (a_asm1 h hr hal hrm hNb hl hl24 ha hp hn0 hn q0  f0 e0h)
  obtain ⟨h1, w', A', c', hx, hA, hAi, c1, c2, c3, c9, hc1, hb, u0, hw, he⟩ := hq
  have k0 : MK c g l n p a 1 (tr t0 0 0) (tr e0 (fun _ => 0) (fun _ => 0)) 0 c2 (begG g a p n 1) := MK.base hr hl hl24 hn hc1 hb
  have k1 : MK c g l n p a 1 (tr t0 0 0) (tr e0 (fun _ => 0) (fun _ => 0)) 1 c3 (takI (begG g a p n 1) l 0 t0 e0 n) := MK.step (k := 0) hr hl hl24 hn (by decide) q0 (fun i hi => absurd hi (Nat.not_lt_zero i)) e0h u0 k0
  have kr := MK.fin hr hl hl24 hn0 hn hp ha (by decide) (fun k hk => by match k, hk with | 0, _ => exact q0) (fun j k hj hk => absurd hj (by omega)) (fun k hk => by match k, hk with | 0, _ => exact fun u hu => (e0h u hu).1) k1 hw
  rw [← he] at kr
  refine ⟨h1, w', A', c', hx, kr, fun i hi => ?_⟩
  rw [wrkI_lo (by decide) (by omega), k1.2.1.2] at hi
  by_cases q : i = l
  · rw [q]; exact hA
  · rw [hAi i q]; exact hal i (by omega)
theorem ch_asm2 {G : GI} {S : Hp} {w : Nat → Nat} {k o : Nat} {A c g : Nat → Nat} {N : Nat} (h : OR S w k o A c) (hr : Rel c g N) (hal : ∀ l, l < g 0 → A l ≠ 0) (hrm : Rm G S A) (hNb : N < 2147460000) {l a p n : Nat} (hl : g 0 = l) (hl24 : l < 24) (ha : a < 6) (hp : p < 4) (hn0 : 0 < n) (hn : n ≤ 200) {t0 : Nat} (q0 : t0 < l) {t1 : Nat} (q1 : t1 < l) (n01 : t0 ≠ t1) (f0 : ¬ fewP g t0 n) {e0 : Nat → Nat} (e0h : EN (fun v => sW (g (402 + 2 * (200 * t0 + v))) = 0) n (g (90 + 13 * t0 + 1)) e0) (f1 : ¬ fewP g t1 n) {e1 : Nat → Nat} (e1h : EN (fun v => sW (g (402 + 2 * (200 * t1 + v))) = 0) n (g (90 + 13 * t1 + 1)) e1) : OCh m_X7_assemble G [.ref o, .int (nI a), .int (nI p), .int (nI n), .int (nI t0), .int (nI t1), .int (nI 4294967295)] S w k o A (some (.int (nI l))) (wrkI (takI (takI (begG g a p n 2) l 0 t0 e0 n) l 1 t1 e1 n) a l n) (N + n) := by
  have z0 := (hr.lot (l := t0) (by omega)).z
  have z1 := (hr.lot (l := t1) (by omega)).z
  refine Cn.mono (fun r T hq => ?_) (a_asm2 h hr hal hrm hNb hl hl24 ha hp hn0 hn q0 q1 n01 f0 e0h f1 e1h)
  obtain ⟨h1, w', A', c', hx, hA, hAi, c1, c2, c3, c4, c9, hc1, hb, u0, u1, hw, he⟩ := hq
  have k0 : MK c g l n p a 2 (tr t0 t1 0) (tr e0 e1 (fun _ => 0)) 0 c2 (begG g a p n 2) := MK.base hr hl hl24 hn hc1 hb
  have k1 : MK c g l n p a 2 (tr t0 t1 0) (tr e0 e1 (fun _ => 0)) 1 c3 (takI (begG g a p n 2) l 0 t0 e0 n) := MK.step (k := 0) hr hl hl24 hn (by decide) q0 (fun i hi => absurd hi (Nat.not_lt_zero i)) e0h u0 k0
  have k2 : MK c g l n p a 2 (tr t0 t1 0) (tr e0 e1 (fun _ => 0)) 2 c4 (takI (takI (begG g a p n 2) l 0 t0 e0 n) l 1 t1 e1 n) := MK.step (k := 1) hr hl hl24 hn (by decide) q1 (fun i hi => by match i, hi with | 0, _ => exact ⟨n01, q0, fun u hu => Nat.lt_of_lt_of_le (e0h u hu).1 z0⟩) e1h u1 k1
  have kr := MK.fin hr hl hl24 hn0 hn hp ha (by decide) (fun k hk => by match k, hk with | 0, _ => exact q0 | 1, _ => exact q1) (fun j k hj hk => by
    obtain ⟨rfl, rfl⟩ : j = 0 ∧ k = 1 := by omega
    exact n01) (fun k hk => by match k, hk with | 0, _ => exact fun u hu => (e0h u hu).1 | 1, _ => exact fun u hu => (e1h u hu).1) k2 hw
  rw [← he] at kr
  refine ⟨h1, w', A', c', hx, kr, fun i hi => ?_⟩
  rw [wrkI_lo (by decide) (by omega), k2.2.1.2] at hi
  by_cases q : i = l
  · rw [q]; exact hA
  · rw [hAi i q]; exact hal i (by omega)
theorem ch_asm3 {G : GI} {S : Hp} {w : Nat → Nat} {k o : Nat} {A c g : Nat → Nat} {N : Nat} (h : OR S w k o A c) (hr : Rel c g N) (hal : ∀ l, l < g 0 → A l ≠ 0) (hrm : Rm G S A) (hNb : N < 2147460000) {l a p n : Nat} (hl : g 0 = l) (hl24 : l < 24) (ha : a < 6) (hp : p < 4) (hn0 : 0 < n) (hn : n ≤ 200) {t0 : Nat} (q0 : t0 < l) {t1 : Nat} (q1 : t1 < l) {t2 : Nat} (q2 : t2 < l) (n01 : t0 ≠ t1) (n02 : t0 ≠ t2) (n12 : t1 ≠ t2) (f0 : ¬ fewP g t0 n) {e0 : Nat → Nat} (e0h : EN (fun v => sW (g (402 + 2 * (200 * t0 + v))) = 0) n (g (90 + 13 * t0 + 1)) e0) (f1 : ¬ fewP g t1 n) {e1 : Nat → Nat} (e1h : EN (fun v => sW (g (402 + 2 * (200 * t1 + v))) = 0) n (g (90 + 13 * t1 + 1)) e1) (f2 : ¬ fewP g t2 n) {e2 : Nat → Nat} (e2h : EN (fun v => sW (g (402 + 2 * (200 * t2 + v))) = 0) n (g (90 + 13 * t2 + 1)) e2) : OCh m_X7_assemble G [.ref o, .int (nI a), .int (nI p), .int (nI n), .int (nI t0), .int (nI t1), .int (nI t2)] S w k o A (some (.int (nI l))) (wrkI (takI (takI (takI (begG g a p n 3) l 0 t0 e0 n) l 1 t1 e1 n) l 2 t2 e2 n) a l n) (N + n) := by
  have z0 := (hr.lot (l := t0) (by omega)).z
  have z1 := (hr.lot (l := t1) (by omega)).z
  have z2 := (hr.lot (l := t2) (by omega)).z
  refine Cn.mono (fun r T hq => ?_) (a_asm3 h hr hal hrm hNb hl hl24 ha hp hn0 hn q0 q1 q2 n01 n02 n12 f0 e0h f1 e1h f2 e2h)
  obtain ⟨h1, w', A', c', hx, hA, hAi, c1, c2, c3, c4, c5, c9, hc1, hb, u0, u1, u2, hw, he⟩ := hq
  have k0 : MK c g l n p a 3 (tr t0 t1 t2) (tr e0 e1 e2) 0 c2 (begG g a p n 3) := MK.base hr hl hl24 hn hc1 hb
  have k1 : MK c g l n p a 3 (tr t0 t1 t2) (tr e0 e1 e2) 1 c3 (takI (begG g a p n 3) l 0 t0 e0 n) := MK.step (k := 0) hr hl hl24 hn (by decide) q0 (fun i hi => absurd hi (Nat.not_lt_zero i)) e0h u0 k0
  have k2 : MK c g l n p a 3 (tr t0 t1 t2) (tr e0 e1 e2) 2 c4 (takI (takI (begG g a p n 3) l 0 t0 e0 n) l 1 t1 e1 n) := MK.step (k := 1) hr hl hl24 hn (by decide) q1 (fun i hi => by match i, hi with | 0, _ => exact ⟨n01, q0, fun u hu => Nat.lt_of_lt_of_le (e0h u hu).1 z0⟩) e1h u1 k1
  have k3 : MK c g l n p a 3 (tr t0 t1 t2) (tr e0 e1 e2) 3 c5 (takI (takI (takI (begG g a p n 3) l 0 t0 e0 n) l 1 t1 e1 n) l 2 t2 e2 n) := MK.step (k := 2) hr hl hl24 hn (by decide) q2 (fun i hi => by match i, hi with | 0, _ => exact ⟨n02, q0, fun u hu => Nat.lt_of_lt_of_le (e0h u hu).1 z0⟩ | 1, _ => exact ⟨n12, q1, fun u hu => Nat.lt_of_lt_of_le (e1h u hu).1 z1⟩) e2h u2 k2
  have kr := MK.fin hr hl hl24 hn0 hn hp ha (by decide) (fun k hk => by match k, hk with | 0, _ => exact q0 | 1, _ => exact q1 | 2, _ => exact q2) (fun j k hj hk => by
    rcases (show (j = 0 ∧ k = 1) ∨ (j = 0 ∧ k = 2) ∨ (j = 1 ∧ k = 2) by omega) with ⟨rfl, rfl⟩ | ⟨rfl, rfl⟩ | ⟨rfl, rfl⟩
    · exact n01
    · exact n02
    · exact n12) (fun k hk => by match k, hk with | 0, _ => exact fun u hu => (e0h u hu).1 | 1, _ => exact fun u hu => (e1h u hu).1 | 2, _ => exact fun u hu => (e2h u hu).1) k3 hw
  rw [← he] at kr
  refine ⟨h1, w', A', c', hx, kr, fun i hi => ?_⟩
  rw [wrkI_lo (by decide) (by omega), k3.2.1.2] at hi
  by_cases q : i = l
  · rw [q]; exact hA
  · rw [hAi i q]; exact hal i (by omega)
