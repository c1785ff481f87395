/-! LISTS OF CAUSES exist -/
theorem Rel.cauC {c g : Nat → Nat} {N l u : Nat} (hr : Rel c g N) (hl : l < g 0) (hu : u < g (90 + 13 * l + 1)) (ks : Nat) : ∃ cc, CauC g l u ks cc := by
  have h1 : ∀ q, ∃ v, v ≤ 6 ∧ (q < 4 → (g (402 + 2 * (200 * l + u)) % 16 &&& ks) / 2 ^ q % 2 = 1 → ∃ n l' u', Org g q n l u l' u' ∧ v = cauV g q l' u') := fun q => by
    by_cases h : q < 4 ∧ (g (402 + 2 * (200 * l + u)) % 16 &&& ks) / 2 ^ q % 2 = 1
    · obtain ⟨m, l', u', ho, _, hl', _⟩ := hr.org h.1 l l u (Nat.le_refl l) hl hu (and_bit h.2)
      refine ⟨cauV g q l' u', ?_, fun _ _ => ⟨m, l', u', ho, rfl⟩⟩
      have := (hr.lot hl').ma
      unfold cauV
      split
      · exact Nat.le_refl 6
      · omega
    · exact ⟨0, by decide, fun h2 h3 => absurd ⟨h2, h3⟩ h⟩
  exact ⟨fun q => Classical.choose (h1 q), fun q => (Classical.choose_spec (h1 q)).1, fun q hq hb => (Classical.choose_spec (h1 q)).2 hq hb⟩
theorem Rel.cauA {c g : Nat → Nat} {N l : Nat} (hr : Rel c g N) (hl : l < g 0) (ks : Nat) : ∃ cc, CauA g l (g (90 + 13 * l + 1)) ks cc := by
  have h1 : ∀ u, ∃ f : Nat → Nat, (∀ q, f q ≤ 6) ∧ (u < g (90 + 13 * l + 1) → CauC g l u ks f) := fun u => by
    by_cases h : u < g (90 + 13 * l + 1)
    · obtain ⟨f, hf⟩ := hr.cauC hl h ks
      exact ⟨f, hf.1, fun _ => hf⟩
    · exact ⟨fun _ => 0, fun _ => Nat.zero_le 6, fun h2 => absurd h2 h⟩
  exact ⟨fun u => Classical.choose (h1 u), fun u q => (Classical.choose_spec (h1 u)).1 q, fun u hu => (Classical.choose_spec (h1 u)).2 hu⟩
