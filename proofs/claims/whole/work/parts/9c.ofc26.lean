/-! A MACHINE, A PRODUCT COPIED -/
theorem o_machCopy {G : GI} {S : Hp} {w : Nat → Nat} {k ks o os : Nat} {A As c cs : Nat → Nat} (h : OR S w k o A c) (hs : OR S w ks os As cs) {i : Nat} (hi : i < 6) : OFn m_X6_copyFrom G [.ref (o + 6 + i), .ref (os + 6 + i)] S w k o A none (up1 (up1 (up1 c (4 + 3 * i) (cs (4 + 3 * i))) (4 + 3 * i + 1) (cs (4 + 3 * i + 1))) (4 + 3 * i + 2) (cs (4 + 3 * i + 2))) := by
  refine Cn.mono (fun r T hq => ?_) (k_copyMachine (h.1.2.2.2.2.2.2.2.1 i hi).2 (hs.1.2.2.2.2.2.2.2.1 i hi).2)
  obtain ⟨h1, rfl⟩ := hq
  refine ⟨h1, ?_⟩
  rw [hs.m0 hi, hs.m1 hi, hs.m2 hi]
  exact ((((OX.refl h).M (f := 0) hi (by decide)).M (f := 1) hi (by decide)).M (f := 2) hi (by decide))
theorem o_prodCopy {G : GI} {S : Hp} {w : Nat → Nat} {k ks o os : Nat} {A As c cs : Nat → Nat} (h : OR S w k o A c) (hs : OR S w ks os As cs) {i : Nat} (hi : i < 4) : OFn m_X8_copyFrom G [.ref (o + 12 + i), .ref (os + 12 + i)] S w k o A none (up1 (up1 (up1 (up1 (up1 (up1 (up1 (up1 (up1 c (22 + 10 * i) (cs (22 + 10 * i))) (22 + 10 * i + 1) (cs (22 + 10 * i + 1))) (22 + 10 * i + 2) (cs (22 + 10 * i + 2))) (22 + 10 * i + 3) (cs (22 + 10 * i + 3))) (22 + 10 * i + 4) (cs (22 + 10 * i + 4))) (22 + 10 * i + 5) (cs (22 + 10 * i + 5))) (22 + 10 * i + 6) (cs (22 + 10 * i + 6))) (22 + 10 * i + 8) (cs (22 + 10 * i + 8))) (22 + 10 * i + 9) (cs (22 + 10 * i + 9))) := by
  refine Cn.mono (fun r T hq => ?_) (k_copyProduct (h.1.2.2.2.2.2.2.2.2 i hi).2 (hs.1.2.2.2.2.2.2.2.2 i hi).2)
  obtain ⟨h1, rfl⟩ := hq
  refine ⟨h1, ?_⟩
  rw [hs.p0 hi, hs.p1 hi, hs.p2 hi, hs.p3 hi, hs.p4 hi, hs.p5 hi, hs.p6 hi, hs.p7 hi, hs.p8 hi]
  exact ((((((((((OX.refl h).P (f := 0) hi (by decide)).P (f := 1) hi (by decide)).P (f := 2) hi (by decide)).P (f := 3) hi (by decide)).P (f := 4) hi (by decide)).P (f := 5) hi (by decide)).P (f := 6) hi (by decide)).P (f := 7) hi (by decide)).P (f := 8) hi (by decide))
