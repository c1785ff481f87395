/-! THE REFERENCE's takes and works, place by place -/
theorem takI_pt {g : Nat → Nat} {l k t n : Nat} {e : Nat → Nat} (hl : l < 24) (hk : k < 3) (ht : t < 24) (hlt : l ≠ t) (hn : n ≤ 200) (he : ∀ u, u < n → e u < 200) (hi : ∀ u v, u < n → v < n → e u = e v → u = v) : ∀ u, u ≤ n →
    (∀ v, v < u → takI g l k t e u (402 + 2 * (200 * l + v)) = (g (402 + 2 * (200 * l + v)) ||| g (402 + 2 * (200 * t + e v)) % 16) ∧ takI g l k t e u (402 + 2 * (200 * l + v) + 1) = (g (402 + 2 * (200 * l + v) + 1) ||| e v * 2 ^ (8 * k)) ∧ takI g l k t e u (402 + 2 * (200 * t + e v)) = becN (g (402 + 2 * (200 * t + e v))) 3) ∧
    (∀ j, 402 ≤ j → (∀ v, v < u → j ≠ 402 + 2 * (200 * l + v) ∧ j ≠ 402 + 2 * (200 * l + v) + 1 ∧ j ≠ 402 + 2 * (200 * t + e v)) → takI g l k t e u j = g j)
  | 0, _ => ⟨fun v hv => absurd hv (Nat.not_lt_zero v), fun j hj _ => up1_n (by omega)⟩
  | u + 1, hu => by
    obtain ⟨h1, h2⟩ := takI_pt (g := g) hl hk ht hlt hn he hi u (by omega)
    have heu := he u (by omega)
    have hne : ∀ v, v < u → e v < 200 ∧ e u ≠ e v := fun v hv => ⟨he v (by omega), fun q => by have := hi u v (by omega) (by omega) q; omega⟩
    have b0 : takI g l k t e u (402 + 2 * (200 * t + e u)) = g (402 + 2 * (200 * t + e u)) := h2 _ (by omega) (fun v hv => by have := hne v hv; omega)
    have b1 : takI g l k t e u (402 + 2 * (200 * l + u)) = g (402 + 2 * (200 * l + u)) := h2 _ (by omega) (fun v hv => by have := hne v hv; omega)
    have b2 : takI g l k t e u (402 + 2 * (200 * l + u) + 1) = g (402 + 2 * (200 * l + u) + 1) := h2 _ (by omega) (fun v hv => by have := hne v hv; omega)
    have es : ∀ j, takI g l k t e (u + 1) j = takS (becG (takI g l k t e u) t (e u) 3) l k t u (e u) j := fun j => rfl
    refine ⟨fun v hv => ?_, fun j hj hx => ?_⟩
    · by_cases q : v = u
      · subst q
        refine ⟨?_, ?_, ?_⟩
        · rw [es]
          unfold takS
          rw [up1_s]
          unfold becG
          rw [up1_n (by omega), b1, up1_s, bec_d (by decide), b0]
        · rw [es]
          unfold takS
          rw [up1_n (by omega), up1_s]
          unfold becG
          rw [up1_n (by omega), b2]
        · rw [es, takS_hi (by omega) (by omega)]
          unfold becG
          rw [up1_s, b0]
      · obtain ⟨r1, r2, r3⟩ := h1 v (by omega)
        have hv2 := hne v (by omega)
        refine ⟨?_, ?_, ?_⟩
        · rw [es, takS_hi (by omega) (by omega), becG_n (by omega)]; exact r1
        · rw [es, takS_hi (by omega) (by omega), becG_n (by omega)]; exact r2
        · rw [es, takS_hi (by omega) (by omega), becG_n (by omega)]; exact r3
    · have hxu := hx u (by omega)
      rw [es, takS_hi hxu.1 hxu.2.1, becG_n hxu.2.2]
      exact h2 j hj (fun v hv => hx v (by omega))
/-- a unit's word after the machine's work -/
noncomputable def wkW (w p cn kd : Nat) : Nat := @ite _ (splP p cn ∧ bW w kd = 0) (Classical.propDecidable _) (cauN w kd 1) w
theorem wkW_t {w p cn kd : Nat} (h : splP p cn ∧ bW w kd = 0) : wkW w p cn kd = cauN w kd 1 := if_pos h
theorem wkW_f {w p cn kd : Nat} (h : ¬ (splP p cn ∧ bW w kd = 0)) : wkW w p cn kd = w := if_neg h
theorem wrkG_u {g : Nat → Nat} {a l u : Nat} (ha : a < 6) : (wrkG g a l u (402 + 2 * (200 * l + u)) = wkW (g (402 + 2 * (200 * l + u))) (g (4 + 3 * a)) (g (4 + 3 * a + 2)) (g (4 + 3 * a + 1))) ∧ ∀ j, 402 ≤ j → j ≠ 402 + 2 * (200 * l + u) → wrkG g a l u j = g j := by
  have e : up1 g (4 + 3 * a + 2) (g (4 + 3 * a + 2) + 1) (402 + 2 * (200 * l + u)) = g (402 + 2 * (200 * l + u)) := up1_n (by omega)
  unfold wrkG
  by_cases h1 : g (4 + 3 * a) = 0
  · rw [if_pos h1, wkW_f (fun q => q.1.1 h1)]
    exact ⟨e, fun j hj _ => up1_n (by omega)⟩
  · rw [if_neg h1]
    by_cases h2 : (g (4 + 3 * a + 2) + 1) % g (4 + 3 * a) = 0
    · rw [if_pos h2]
      unfold cauG
      rw [e]
      by_cases h3 : bW (g (402 + 2 * (200 * l + u))) (g (4 + 3 * a + 1)) = 0
      · rw [if_pos h3, wkW_t ⟨⟨h1, h2⟩, h3⟩]
        exact ⟨up1_s, fun j hj hx => (up1_n hx).trans (up1_n (by omega))⟩
      · rw [if_neg h3, wkW_f (fun q => h3 q.2)]
        exact ⟨e, fun j hj _ => up1_n (by omega)⟩
    · rw [if_neg h2, wkW_f (fun q => h2 q.1.2)]
      exact ⟨e, fun j hj _ => up1_n (by omega)⟩
theorem wrkI_pt {g : Nat → Nat} {a l : Nat} (ha : a < 6) : ∀ u, (∀ v, v < u → wrkI g a l u (402 + 2 * (200 * l + v)) = wkW (g (402 + 2 * (200 * l + v))) (g (4 + 3 * a)) (g (4 + 3 * a + 2) + v) (g (4 + 3 * a + 1))) ∧ (∀ j, 402 ≤ j → (∀ v, v < u → j ≠ 402 + 2 * (200 * l + v)) → wrkI g a l u j = g j)
  | 0 => ⟨fun v hv => absurd hv (Nat.not_lt_zero v), fun j _ _ => rfl⟩
  | u + 1 => by
    obtain ⟨h1, h2⟩ := wrkI_pt (g := g) (l := l) ha u
    obtain ⟨r1, r2⟩ := wrkG_u (g := wrkI g a l u) (l := l) (u := u) ha
    refine ⟨fun v hv => ?_, fun j hj hx => ?_⟩
    · by_cases q : v = u
      · subst q
        refine r1.trans ?_
        rw [h2 _ (by omega) (fun v hv => by omega), wrkI_lo (by omega) (by omega), wrkI_c ha, wrkI_lo (by omega) (by omega)]
      · exact (r2 _ (by omega) (by omega)).trans (h1 v (by omega))
    · exact (r2 j hj (hx u (by omega))).trans (h2 j hj (fun v hv => hx v (by omega)))
/-- a word of nothing but defects -/
theorem w16 {w : Nat} (hw : w < 16) : sW w = 0 ∧ rW w = 0 ∧ frW w = 0 ∧ fld 9 1 w = 0 ∧ ∀ q, q < 4 → yW w q = 0 := by
  have hd : ∀ t, 4 ≤ t → w / 2 ^ t = 0 := fun t ht => Nat.div_eq_of_lt (Nat.lt_of_lt_of_le (show w < 2 ^ 4 from hw) (Nat.pow_le_pow_right (by decide) ht))
  have hy : ∀ q, yW w q = 0 := fun q => by
    unfold yW fld
    rw [hd _ (by omega)]
  refine ⟨?_, ?_, ?_, ?_, fun q _ => hy q⟩
  · unfold sW fld; rw [hd 6 (by decide)]
  · unfold rW fld; rw [hd 4 (by decide)]
  · unfold frW; rw [hy, hy, hy, hy]; rfl
  · unfold fld; rw [hd 9 (by decide)]
theorem wkW_w {w p cn kd : Nat} (hw : w < 16) (hk : kd < 4) : sW (wkW w p cn kd) = 0 ∧ rW (wkW w p cn kd) = 0 ∧ frW (wkW w p cn kd) = 0 ∧ fld 9 1 (wkW w p cn kd) = 0 ∧ wkW w p cn kd < 2 ^ 18 ∧ wkW w p cn kd % 16 = @ite _ (splP p cn) (Classical.propDecidable _) (w ||| 1 * 2 ^ kd) w ∧
    ∀ q, q < 4 → (bW (wkW w p cn kd) q = 0 → yW (wkW w p cn kd) q = 0) ∧ yW (wkW w p cn kd) q ≤ 2 ∧ (bW (wkW w p cn kd) q = 1 → yW (wkW w p cn kd) q = 0 → bW w q = 1) ∧ (yW (wkW w p cn kd) q = 1 → bW w q = 0) := by
  obtain ⟨h1, h2, h3, h4, h5⟩ := w16 hw
  by_cases h : splP p cn ∧ bW w kd = 0
  · rw [wkW_t h, if_pos h.1]
    refine ⟨(cau_f hk (by decide) (by decide) (by decide)).trans h1, (cau_f hk (by decide) (by decide) (by decide)).trans h2, (cau_fr1 hk (h5 kd hk)).trans h3, (cau_f hk (by decide) (by decide) (by decide)).trans h4, cau_lt hk (by decide) (Nat.lt_trans hw (by decide)), ?_, fun q hq => ?_⟩
    · rw [cau_d hk (by decide), Nat.mod_eq_of_lt hw, Nat.one_mul]
    · rw [cau_b2 hk (by decide) hq, cau_y hk (by decide) hq (h5 kd hk)]
      by_cases e : q = kd
      · rw [if_pos e, if_pos e]
        exact ⟨fun x => absurd x (by decide), by decide, fun _ x => absurd x (by decide), fun _ => by rw [e]; exact h.2⟩
      · rw [if_neg e, if_neg e, h5 q hq]
        exact ⟨fun _ => rfl, by decide, fun x _ => x, fun x => absurd x (by decide)⟩
  · rw [wkW_f h]
    refine ⟨h1, h2, h3, h4, Nat.lt_trans hw (by decide), ?_, fun q hq => ?_⟩
    · rw [Nat.mod_eq_of_lt hw]
      by_cases hs : splP p cn
      · rw [if_pos hs, Nat.one_mul]
        have hb : bW w kd = 1 := by
          rcases bW_01 (w := w) (q := kd) with x | x
          · exact absurd ⟨hs, x⟩ h
          · exact x
        refine Nat.eq_of_testBit_eq fun j => ?_
        rw [Nat.testBit_or, Nat.testBit_two_pow]
        by_cases e : kd = j
        · subst e
          have : w.testBit kd = true := by
            rw [bW_tb hk] at hb
            by_cases y : w.testBit kd = true
            · exact y
            · rw [if_neg y] at hb; exact absurd hb (by decide)
          rw [this]; rfl
        · rw [decide_eq_false e, Bool.or_false]
      · rw [if_neg hs]
    · rw [h5 q hq]
      exact ⟨fun _ => rfl, by decide, fun x _ => x, fun x => absurd x (by decide)⟩
