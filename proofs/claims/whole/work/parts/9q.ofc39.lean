/-! QUESTIONS BESIDE THE WHOLE STATE -/
section CstQ
variable {G : GI} {F : Nat → Prop} {S : Hp} {x bx bu : Nat} {D : Nat → Nat → Nat} {g : Nat → Nat} {N ps : Nat} {gq : Nat → Nat → Nat} {ik : Nat} {gk : Nat → Nat} {M : MI} {As : List Value}
theorem CSt.fn {v : Option Value} (h : CSt F S x bx bu D g N ps gq ik gk) (hf : ∀ o A c, zT S x = 14 → zP S 416 x = some o → ∀ w k, OR S w k o A c → Rel c g N → (∀ l, l < g 0 → A l ≠ 0) → Fn M G As S v S) : Cn M G As S (fun r T => r = .inl v ∧ CSt F T x bx bu D g N ps gq ik gk ∧ FrF F S T) := by
  have h0 := h
  obtain ⟨w, K, E, A, c, hX, hp, hr, -⟩ := h
  have hk0 : K 0 < 11 := (hp 0 (by decide)).1
  refine Cn.mono (fun r T hq => ?_) (hf _ _ _ hX.t0 hX.p416 _ _ (hX.off' hk0) hr.1 hr.2)
  obtain ⟨h1, h2⟩ := hq
  subst h2
  exact ⟨h1, h0, FrF.rfl⟩
theorem CSt.ft {s : String} (h : CSt F S x bx bu D g N ps gq ik gk) (h1 : bx + 1 ≤ gN G) (h2 : bu + 6 ≤ gM G) (hf : ∀ o A c, zT S x = 14 → zP S 416 x = some o → ∀ w k, OR S w k o A c → zX S + 1 ≤ gN G → zU S + 6 ≤ gM G → Rel c g N → (∀ l, l < g 0 → A l ≠ 0) → FT M G As S s) : Cn M G As S (fun r T => r = .inr s ∧ CSt F T x (bx + 1) (bu + 6) D g N ps gq ik gk ∧ FrF F S T) := by
  obtain ⟨w, K, E, A, c, hX, hp, hr, hD, ⟨np, hnp, e1, e2, hps, hq⟩, ⟨e3, hik, hk⟩, hF⟩ := h
  have hxf : XF F S S w x K E A c bx bu := ⟨hX, FrF.rfl, hF⟩
  have hk0 : K 0 < 11 := (hp 0 (by decide)).1
  refine Cn.mono (fun r T hq2 => ?_) (hf _ _ _ hX.t0 hX.p416 _ _ (hX.off' hk0) (hxf.hc1 h1) (hxf.hu6 h2) hr.1 hr.2)
  obtain ⟨q1, y, u, q2, q3, rfl⟩ := hq2
  have hx2 := hxf.X q2 q3
  exact ⟨q1, ⟨w, K, E, A, c, hx2.1, hp, hr, hD, ⟨np, hnp, e1, e2, hps, hq⟩, ⟨e3, hik, hk⟩, hx2.2.2⟩, hx2.2.1⟩
end CstQ
theorem s_policy_1 {G : GI} {F : Nat → Prop} {S : Hp} {x bx bu : Nat} {D : Nat → Nat → Nat} {g : Nat → Nat} {N ps : Nat} {gq : Nat → Nat → Nat} {ik : Nat} {gk : Nat → Nat} (h : CSt F S x bx bu D g N ps gq ik gk) (h1 : bx + 1 ≤ gN G) (h2 : bu + 6 ≤ gM G) {y z : Int32} (hno : ¬ vp_in y 4) : Cn m_X12_policy G [.ref x, .int y, .int z] S (fun r T => r = .inr "java/lang/IndexOutOfBoundsException" ∧ CSt F T x (bx + 1) (bu + 6) D g N ps gq ik gk ∧ FrF F S T) := h.ft h1 h2 fun _ _ _ a b _ _ d r1 r2 e f => f_policy_1 a b d e f r1 r2 hno
