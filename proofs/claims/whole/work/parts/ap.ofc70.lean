/-! A COMMAND's EFFECT, of both -/
def CmdO (w : Nat) (u : Nat → Nat) (g : Nat → Nat) (N v : Nat) (g' : Nat → Nat) (N' : Nat) : Prop := (w = 0 ∧ OpO m_X7_setMachine [.int (nI (u 0)), .int (nI (u 1)), .int (nI (u 2))] g N v g' N' ∧ RfS m_X13_againstMachine [.int (nI (u 0)), .int (nI (u 1)), .int (nI (u 2))] 0 ∧ RfN m_X13_machineNow [.int (nI (u 0)), .int (nI (u 1)), .int (nI (u 2))] g v g') ∨ (w = 1 ∧ OpO m_X7_setProduct [.int (nI (u 0)), .int (nI (u 1)), .int (nI (u 2)), .int (nI (u 3))] g N v g' N' ∧ RfS m_X13_againstProduct [.int (nI (u 0)), .int (nI (u 1)), .int (nI (u 2)), .int (nI (u 3))] 0 ∧ RfN m_X13_productNow [.int (nI (u 0)), .int (nI (u 1)), .int (nI (u 2)), .int (nI (u 3))] g v g') ∨ (w = 2 ∧ OpO m_X7_makeRaw [.int (nI (u 0)), .int (nI (u 1)), .int (nI (u 2))] g N v g' N' ∧ RfA m_X13_againstRaw [.int (nI (u 0)), .int (nI (u 1)), .int (nI (u 2))] g 0 ∧ RfN m_X13_rawNow [.int (nI (u 0)), .int (nI (u 1)), .int (nI (u 2))] g v g') ∨ (w = 3 ∧ OpO m_X7_assemble [.int (nI (u 0)), .int (nI (u 1)), .int (nI (u 2)), .int (nI (u 3)), .int (nI (u 4)), .int (nI (u 5))] g N v g' N' ∧ RfA m_X13_againstMake [.int (nI (u 0)), .int (nI (u 1)), .int (nI (u 2)), .int (nI (u 3)), .int (nI (u 4)), .int (nI (u 5))] g 0 ∧ RfN m_X13_makeNow [.int (nI (u 0)), .int (nI (u 1)), .int (nI (u 2)), .int (nI (u 3)), .int (nI (u 4)), .int (nI (u 5))] g v g') ∨ (w = 4 ∧ OpO m_X7_inspectLot [.int (nI (u 0))] g N v g' N' ∧ RfA m_X13_againstInspect [.int (nI (u 0))] g 0 ∧ RfN m_X13_inspectNow [.int (nI (u 0))] g v g') ∨ (w = 5 ∧ OpO m_X7_sortLot [.int (nI (u 0))] g N v g' N' ∧ RfA m_X13_againstSort [.int (nI (u 0))] g 0 ∧ RfN m_X13_sortNow [.int (nI (u 0))] g v g') ∨ (w = 6 ∧ OpO m_X7_shipLot [.int (nI (u 0))] g N v g' N' ∧ RfA m_X13_againstShip [.int (nI (u 0))] g 0 ∧ RfN m_X13_shipNow [.int (nI (u 0))] g v g') ∨ (w = 7 ∧ OpO m_X7_releaseProduct [.int (nI (u 0))] g N v g' N' ∧ RfA m_X13_againstRelease [.int (nI (u 0))] g 0 ∧ RfN m_X13_releaseNow [.int (nI (u 0))] g v g') ∨ (w = 8 ∧ OpO m_X7_setSeed [.int (nI (u 0))] g N v g' N' ∧ True ∧ RfN m_X13_seedNow [.int (nI (u 0))] g v g')
def CmdX (w : Nat) (u : Nat → Nat) (g : Nat → Nat) (N : Nat) (kv : Int32) : Prop := kv < 0 ∧ ((w = 0 ∧ OpX m_X7_setMachine [.int (nI (u 0)), .int (nI (u 1)), .int (nI (u 2))] g N kv ∧ ∃ code, (0 < code ∧ code < 2 ^ 31) ∧ RfS m_X13_againstMachine [.int (nI (u 0)), .int (nI (u 1)), .int (nI (u 2))] code) ∨ (w = 1 ∧ OpX m_X7_setProduct [.int (nI (u 0)), .int (nI (u 1)), .int (nI (u 2)), .int (nI (u 3))] g N kv ∧ ∃ code, (0 < code ∧ code < 2 ^ 31) ∧ RfS m_X13_againstProduct [.int (nI (u 0)), .int (nI (u 1)), .int (nI (u 2)), .int (nI (u 3))] code) ∨ (w = 2 ∧ OpX m_X7_makeRaw [.int (nI (u 0)), .int (nI (u 1)), .int (nI (u 2))] g N kv ∧ ∃ code, (0 < code ∧ code < 2 ^ 31) ∧ RfA m_X13_againstRaw [.int (nI (u 0)), .int (nI (u 1)), .int (nI (u 2))] g code) ∨ (w = 3 ∧ OpX m_X7_assemble [.int (nI (u 0)), .int (nI (u 1)), .int (nI (u 2)), .int (nI (u 3)), .int (nI (u 4)), .int (nI (u 5))] g N kv ∧ ∃ code, (0 < code ∧ code < 2 ^ 31) ∧ RfA m_X13_againstMake [.int (nI (u 0)), .int (nI (u 1)), .int (nI (u 2)), .int (nI (u 3)), .int (nI (u 4)), .int (nI (u 5))] g code) ∨ (w = 4 ∧ OpX m_X7_inspectLot [.int (nI (u 0))] g N kv ∧ ∃ code, (0 < code ∧ code < 2 ^ 31) ∧ RfA m_X13_againstInspect [.int (nI (u 0))] g code) ∨ (w = 5 ∧ OpX m_X7_sortLot [.int (nI (u 0))] g N kv ∧ ∃ code, (0 < code ∧ code < 2 ^ 31) ∧ RfA m_X13_againstSort [.int (nI (u 0))] g code) ∨ (w = 6 ∧ OpX m_X7_shipLot [.int (nI (u 0))] g N kv ∧ ∃ code, (0 < code ∧ code < 2 ^ 31) ∧ RfA m_X13_againstShip [.int (nI (u 0))] g code) ∨ (w = 7 ∧ OpX m_X7_releaseProduct [.int (nI (u 0))] g N kv ∧ ∃ code, (0 < code ∧ code < 2 ^ 31) ∧ RfA m_X13_againstRelease [.int (nI (u 0))] g code))
theorem cmd_ex {c g : Nat → Nat} {N w : Nat} {u : Nat → Nat} (hr : Rel c g N) (hNb : N < 2147450000) (hw : w < 9) (hu : u 0 < 2 ^ 31) : (∃ v g' N', CmdO w u g N v g' N') ∨ ∃ kv, CmdX w u g N kv := by
  obtain rfl | rfl | rfl | rfl | rfl | rfl | rfl | rfl | rfl : w = 0 ∨ w = 1 ∨ w = 2 ∨ w = 3 ∨ w = 4 ∨ w = 5 ∨ w = 6 ∨ w = 7 ∨ w = 8 := by omega
  · rcases pr_machine hr hNb (nI (u 0)) (nI (u 1)) (nI (u 2)) with ⟨v, g', N', h1, h2, h3, -⟩ | ⟨kv, code, hL, h1, h2, -⟩
    · exact Or.inl ⟨v, g', N', (Or.inl ⟨rfl, h1, h2, h3⟩)⟩
    · have hL2 : kv < 0 ∧ 0 < code ∧ code < 2 ^ 31 := by
        unfold L_a at hL
        rcases hL with ⟨rfl, rfl⟩ | ⟨rfl, rfl⟩ <;> exact ⟨by decide, by decide, by decide⟩
      exact Or.inr ⟨kv, hL2.1, (Or.inl ⟨rfl, h1, code, hL2.2, h2⟩)⟩
  · rcases pr_product hr hNb (nI (u 0)) (nI (u 1)) (nI (u 2)) (nI (u 3)) with ⟨v, g', N', h1, h2, h3, -⟩ | ⟨kv, code, hL, h1, h2, -⟩
    · exact Or.inl ⟨v, g', N', (Or.inr (Or.inl ⟨rfl, h1, h2, h3⟩))⟩
    · have hL2 : kv < 0 ∧ 0 < code ∧ code < 2 ^ 31 := by
        unfold L_a at hL
        rcases hL with ⟨rfl, rfl⟩ | ⟨rfl, rfl⟩ <;> exact ⟨by decide, by decide, by decide⟩
      exact Or.inr ⟨kv, hL2.1, (Or.inr (Or.inl ⟨rfl, h1, code, hL2.2, h2⟩))⟩
  · rcases pr_raw hr hNb (nI (u 0)) (nI (u 1)) (nI (u 2)) with ⟨v, g', N', h1, h2, h3, -⟩ | ⟨kv, code, hL, h1, h2, -⟩
    · exact Or.inl ⟨v, g', N', (Or.inr (Or.inr (Or.inl ⟨rfl, h1, h2, h3⟩)))⟩
    · have hL2 : kv < 0 ∧ 0 < code ∧ code < 2 ^ 31 := by
        unfold L_c at hL
        rcases hL with ⟨rfl, rfl⟩ | ⟨rfl, rfl⟩ | ⟨rfl, rfl⟩ <;> exact ⟨by decide, by decide, by decide⟩
      exact Or.inr ⟨kv, hL2.1, (Or.inr (Or.inr (Or.inl ⟨rfl, h1, code, hL2.2, h2⟩)))⟩
  · rcases pr_make hr hNb (nI (u 0)) (nI (u 1)) (nI (u 2)) (nI (u 3)) (nI (u 4)) (nI (u 5)) with ⟨v, g', N', h1, h2, h3, -⟩ | ⟨kv, code, hL, h1, h2, -⟩
    · exact Or.inl ⟨v, g', N', (Or.inr (Or.inr (Or.inr (Or.inl ⟨rfl, h1, h2, h3⟩))))⟩
    · have hL2 : kv < 0 ∧ 0 < code ∧ code < 2 ^ 31 := by
        unfold L_c at hL
        rcases hL with ⟨rfl, rfl⟩ | ⟨rfl, rfl⟩ | ⟨rfl, rfl⟩ <;> exact ⟨by decide, by decide, by decide⟩
      exact Or.inr ⟨kv, hL2.1, (Or.inr (Or.inr (Or.inr (Or.inl ⟨rfl, h1, code, hL2.2, h2⟩))))⟩
  · rcases pr_inspect hr hNb (nI (u 0)) with ⟨v, g', N', h1, h2, h3, -⟩ | ⟨kv, code, hL, h1, h2, -⟩
    · exact Or.inl ⟨v, g', N', (Or.inr (Or.inr (Or.inr (Or.inr (Or.inl ⟨rfl, h1, h2, h3⟩)))))⟩
    · have hL2 : kv < 0 ∧ 0 < code ∧ code < 2 ^ 31 := by
        unfold L_b at hL
        rcases hL with ⟨rfl, rfl⟩ | ⟨rfl, rfl⟩ <;> exact ⟨by decide, by decide, by decide⟩
      exact Or.inr ⟨kv, hL2.1, (Or.inr (Or.inr (Or.inr (Or.inr (Or.inl ⟨rfl, h1, code, hL2.2, h2⟩)))))⟩
  · rcases pr_sort hr hNb (nI (u 0)) with ⟨v, g', N', h1, h2, h3, -⟩ | ⟨kv, code, hL, h1, h2, -⟩
    · exact Or.inl ⟨v, g', N', (Or.inr (Or.inr (Or.inr (Or.inr (Or.inr (Or.inl ⟨rfl, h1, h2, h3⟩))))))⟩
    · have hL2 : kv < 0 ∧ 0 < code ∧ code < 2 ^ 31 := by
        unfold L_b at hL
        rcases hL with ⟨rfl, rfl⟩ | ⟨rfl, rfl⟩ <;> exact ⟨by decide, by decide, by decide⟩
      exact Or.inr ⟨kv, hL2.1, (Or.inr (Or.inr (Or.inr (Or.inr (Or.inr (Or.inl ⟨rfl, h1, code, hL2.2, h2⟩))))))⟩
  · rcases pr_ship hr hNb (nI (u 0)) with ⟨v, g', N', h1, h2, h3, -⟩ | ⟨kv, code, hL, h1, h2, -⟩
    · exact Or.inl ⟨v, g', N', (Or.inr (Or.inr (Or.inr (Or.inr (Or.inr (Or.inr (Or.inl ⟨rfl, h1, h2, h3⟩)))))))⟩
    · have hL2 : kv < 0 ∧ 0 < code ∧ code < 2 ^ 31 := by
        unfold L_b at hL
        rcases hL with ⟨rfl, rfl⟩ | ⟨rfl, rfl⟩ <;> exact ⟨by decide, by decide, by decide⟩
      exact Or.inr ⟨kv, hL2.1, (Or.inr (Or.inr (Or.inr (Or.inr (Or.inr (Or.inr (Or.inl ⟨rfl, h1, code, hL2.2, h2⟩)))))))⟩
  · rcases pr_release hr hNb (nI (u 0)) with ⟨v, g', N', h1, h2, h3, -⟩ | ⟨kv, code, hL, h1, h2, -⟩
    · exact Or.inl ⟨v, g', N', (Or.inr (Or.inr (Or.inr (Or.inr (Or.inr (Or.inr (Or.inr (Or.inl ⟨rfl, h1, h2, h3⟩))))))))⟩
    · have hL2 : kv < 0 ∧ 0 < code ∧ code < 2 ^ 31 := by
        unfold L_b at hL
        rcases hL with ⟨rfl, rfl⟩ | ⟨rfl, rfl⟩ <;> exact ⟨by decide, by decide, by decide⟩
      exact Or.inr ⟨kv, hL2.1, (Or.inr (Or.inr (Or.inr (Or.inr (Or.inr (Or.inr (Or.inr (⟨rfl, h1, code, hL2.2, h2⟩))))))))⟩
  · have q := hr.g3
    refine Or.inl ⟨g 3, up1 g 3 (u 0), N, (Or.inr (Or.inr (Or.inr (Or.inr (Or.inr (Or.inr (Or.inr (Or.inr (⟨rfl, ⟨by omega, Nat.le_refl _, ⟨by omega, S8.of (fun p9 hp9 => by rw [up1_n (by omega)])⟩, fun G T w k o A c a1 a2 a3 => ch_seed a1 a2.1 a2.2 hu⟩, trivial, fun G T m V od b1 => rf_n (g_seedNow b1) EqN.rfl⟩)))))))))⟩
theorem CmdO.v {w : Nat} {u g g' : Nat → Nat} {N N' v : Nat} (h : CmdO w u g N v g' N') : v < 2 ^ 31 ∧ N ≤ N' ∧ N' ≤ N + 1000 ∧ S8 g g' := by
  rcases h with ⟨_, q, _⟩ | ⟨_, q, _⟩ | ⟨_, q, _⟩ | ⟨_, q, _⟩ | ⟨_, q, _⟩ | ⟨_, q, _⟩ | ⟨_, q, _⟩ | ⟨_, q, _⟩ | ⟨_, q, _⟩ <;> exact ⟨q.1, q.2.1, q.2.2.1.1, q.2.2.1.2⟩
theorem x_cmdO {G : GI} {F : Nat → Prop} {S0 S : Hp} {w : Nat → Nat} {x : Nat} {K : Nat → Nat} {E : Nat → Nat → Nat} {A c : Nat → Nat → Nat} {bx bu : Nat} (h : XF F S0 S w x K E A c bx bu) (hk0 : K 0 < 11) {q : Nat} {u : Nat → Nat} (hK : K 11 = gK G 1 q + 1) (hE : ∀ k, k < 6 → E (1000 + k) 53 = u k) {g : Nat → Nat} {N : Nat} (hol : Hol (A (K 0)) (c (K 0)) g N) (h1 : bx ≤ gN G) (h2 : bu ≤ gM G) {g' : Nat → Nat} {N' v : Nat} (hO : CmdO q u g N v g' N') : Cn m_X12_carryOut G [.ref x] S (fun r T => r = .inl (some (.int (nI v))) ∧ ∃ w' A' c', XF F S0 T w' x K E (up1 A (K 0) A') (up1 c (K 0) c') bx bu ∧ Hol A' c' g' N') := by
  rcases hO with ⟨rfl, z, -⟩ | ⟨rfl, z, -⟩ | ⟨rfl, z, -⟩ | ⟨rfl, z, -⟩ | ⟨rfl, z, -⟩ | ⟨rfl, z, -⟩ | ⟨rfl, z, -⟩ | ⟨rfl, z, -⟩ | ⟨rfl, z, -⟩
  · exact x_carry_0 h hk0 hK (hE 0 (by decide)) (hE 1 (by decide)) (hE 2 (by decide)) (z.2.2.2 G S w (K 0) (Pl x (K 0)) _ _ (h.1.off' hk0) hol (h.1.rm h1 h2 hk0))
  · exact x_carry_1 h hk0 hK (hE 0 (by decide)) (hE 1 (by decide)) (hE 2 (by decide)) (hE 3 (by decide)) (z.2.2.2 G S w (K 0) (Pl x (K 0)) _ _ (h.1.off' hk0) hol (h.1.rm h1 h2 hk0))
  · exact x_carry_2 h hk0 hK (hE 0 (by decide)) (hE 1 (by decide)) (hE 2 (by decide)) (z.2.2.2 G S w (K 0) (Pl x (K 0)) _ _ (h.1.off' hk0) hol (h.1.rm h1 h2 hk0))
  · exact x_carry_3 h hk0 hK (hE 0 (by decide)) (hE 1 (by decide)) (hE 2 (by decide)) (hE 3 (by decide)) (hE 4 (by decide)) (hE 5 (by decide)) (z.2.2.2 G S w (K 0) (Pl x (K 0)) _ _ (h.1.off' hk0) hol (h.1.rm h1 h2 hk0))
  · exact x_carry_4 h hk0 hK (hE 0 (by decide)) (z.2.2.2 G S w (K 0) (Pl x (K 0)) _ _ (h.1.off' hk0) hol (h.1.rm h1 h2 hk0))
  · exact x_carry_5 h hk0 hK (hE 0 (by decide)) (z.2.2.2 G S w (K 0) (Pl x (K 0)) _ _ (h.1.off' hk0) hol (h.1.rm h1 h2 hk0))
  · exact x_carry_6 h hk0 hK (hE 0 (by decide)) (z.2.2.2 G S w (K 0) (Pl x (K 0)) _ _ (h.1.off' hk0) hol (h.1.rm h1 h2 hk0))
  · exact x_carry_7 h hk0 hK (hE 0 (by decide)) (z.2.2.2 G S w (K 0) (Pl x (K 0)) _ _ (h.1.off' hk0) hol (h.1.rm h1 h2 hk0))
  · exact x_carry_8 h hk0 hK (hE 0 (by decide)) (z.2.2.2 G S w (K 0) (Pl x (K 0)) _ _ (h.1.off' hk0) hol (h.1.rm h1 h2 hk0))
theorem x_cmdX {G : GI} {F : Nat → Prop} {S0 S : Hp} {w : Nat → Nat} {x : Nat} {K : Nat → Nat} {E : Nat → Nat → Nat} {A c : Nat → Nat → Nat} {bx bu : Nat} (h : XF F S0 S w x K E A c bx bu) (hk0 : K 0 < 11) {q : Nat} {u : Nat → Nat} (hK : K 11 = gK G 1 q + 1) (hE : ∀ k, k < 6 → E (1000 + k) 53 = u k) {g : Nat → Nat} {N : Nat} (hol : Hol (A (K 0)) (c (K 0)) g N) (h1 : bx ≤ gN G) (h2 : bu ≤ gM G) {kv : Int32} (hO : CmdX q u g N kv) : Cn m_X12_carryOut G [.ref x] S (fun r T => r = .inl (some (.int kv)) ∧ ∃ w' A' c', XF F S0 T w' x K E (up1 A (K 0) A') (up1 c (K 0) c') bx bu ∧ Hol A' c' g N) := by
  rcases hO.2 with ⟨rfl, z, -⟩ | ⟨rfl, z, -⟩ | ⟨rfl, z, -⟩ | ⟨rfl, z, -⟩ | ⟨rfl, z, -⟩ | ⟨rfl, z, -⟩ | ⟨rfl, z, -⟩ | ⟨rfl, z, -⟩
  · exact x_carry_0 h hk0 hK (hE 0 (by decide)) (hE 1 (by decide)) (hE 2 (by decide)) (z G S w (K 0) (Pl x (K 0)) _ _ (h.1.off' hk0) hol (h.1.rm h1 h2 hk0))
  · exact x_carry_1 h hk0 hK (hE 0 (by decide)) (hE 1 (by decide)) (hE 2 (by decide)) (hE 3 (by decide)) (z G S w (K 0) (Pl x (K 0)) _ _ (h.1.off' hk0) hol (h.1.rm h1 h2 hk0))
  · exact x_carry_2 h hk0 hK (hE 0 (by decide)) (hE 1 (by decide)) (hE 2 (by decide)) (z G S w (K 0) (Pl x (K 0)) _ _ (h.1.off' hk0) hol (h.1.rm h1 h2 hk0))
  · exact x_carry_3 h hk0 hK (hE 0 (by decide)) (hE 1 (by decide)) (hE 2 (by decide)) (hE 3 (by decide)) (hE 4 (by decide)) (hE 5 (by decide)) (z G S w (K 0) (Pl x (K 0)) _ _ (h.1.off' hk0) hol (h.1.rm h1 h2 hk0))
  · exact x_carry_4 h hk0 hK (hE 0 (by decide)) (z G S w (K 0) (Pl x (K 0)) _ _ (h.1.off' hk0) hol (h.1.rm h1 h2 hk0))
  · exact x_carry_5 h hk0 hK (hE 0 (by decide)) (z G S w (K 0) (Pl x (K 0)) _ _ (h.1.off' hk0) hol (h.1.rm h1 h2 hk0))
  · exact x_carry_6 h hk0 hK (hE 0 (by decide)) (z G S w (K 0) (Pl x (K 0)) _ _ (h.1.off' hk0) hol (h.1.rm h1 h2 hk0))
  · exact x_carry_7 h hk0 hK (hE 0 (by decide)) (z G S w (K 0) (Pl x (K 0)) _ _ (h.1.off' hk0) hol (h.1.rm h1 h2 hk0))
theorem g_cmdO {G : GI} {T : Hp} {m : Nat} {V : RVal} {g : Nat → Nat} {od : Nat → UInt64} (hs : RS T m) {j q : Nat} {u : Nat → Nat} (hj : j < 10) (eW : V 10 (9 * j) = nI q) (eU : ∀ k, k < 6 → V 10 (9 * j + (3 + k)) = nI (u k)) {N N' v : Nat} {g' : Nat → Nat} (hO : CmdO q u g N v g' N') : Cn m_X13_does G [.ref m, .int (nI j)] (rput T m (sg V g) od) (RfQ V T m od 1 g') := by
  have hv := hO.v.1
  rcases hO with ⟨rfl, -, z, y⟩ | ⟨rfl, -, z, y⟩ | ⟨rfl, -, z, y⟩ | ⟨rfl, -, z, y⟩ | ⟨rfl, -, z, y⟩ | ⟨rfl, -, z, y⟩ | ⟨rfl, -, z, y⟩ | ⟨rfl, -, z, y⟩ | ⟨rfl, -, z, y⟩
  · exact g_does_0 hs hj eW (eU 0 (by decide)) (eU 1 (by decide)) (eU 2 (by decide)) z hv y
  · exact g_does_1 hs hj eW (eU 0 (by decide)) (eU 1 (by decide)) (eU 2 (by decide)) (eU 3 (by decide)) z hv y
  · exact g_does_2 hs hj eW (eU 0 (by decide)) (eU 1 (by decide)) (eU 2 (by decide)) z hv y
  · exact g_does_3 hs hj eW (eU 0 (by decide)) (eU 1 (by decide)) (eU 2 (by decide)) (eU 3 (by decide)) (eU 4 (by decide)) (eU 5 (by decide)) z hv y
  · exact g_does_4 hs hj eW (eU 0 (by decide)) z hv y
  · exact g_does_5 hs hj eW (eU 0 (by decide)) z hv y
  · exact g_does_6 hs hj eW (eU 0 (by decide)) z hv y
  · exact g_does_7 hs hj eW (eU 0 (by decide)) z hv y
  · exact g_does_8 hs hj eW (eU 0 (by decide)) hv y
theorem g_cmdX {G : GI} {T : Hp} {m : Nat} {V : RVal} {g : Nat → Nat} {od : Nat → UInt64} (hs : RS T m) {j q : Nat} {u : Nat → Nat} (hj : j < 10) (eW : V 10 (9 * j) = nI q) (eU : ∀ k, k < 6 → V 10 (9 * j + (3 + k)) = nI (u k)) {N : Nat} {kv : Int32} (hO : CmdX q u g N kv) : Fn m_X13_does G [.ref m, .int (nI j)] (rput T m (sg V g) od) (some (.int (nI 0))) (rput T m (sg V g) od) := by
  rcases hO.2 with ⟨rfl, -, code, hc, z⟩ | ⟨rfl, -, code, hc, z⟩ | ⟨rfl, -, code, hc, z⟩ | ⟨rfl, -, code, hc, z⟩ | ⟨rfl, -, code, hc, z⟩ | ⟨rfl, -, code, hc, z⟩ | ⟨rfl, -, code, hc, z⟩ | ⟨rfl, -, code, hc, z⟩
  · exact g_does_0_no hs hj eW (eU 0 (by decide)) (eU 1 (by decide)) (eU 2 (by decide)) hc z
  · exact g_does_1_no hs hj eW (eU 0 (by decide)) (eU 1 (by decide)) (eU 2 (by decide)) (eU 3 (by decide)) hc z
  · exact g_does_2_no hs hj eW (eU 0 (by decide)) (eU 1 (by decide)) (eU 2 (by decide)) hc z
  · exact g_does_3_no hs hj eW (eU 0 (by decide)) (eU 1 (by decide)) (eU 2 (by decide)) (eU 3 (by decide)) (eU 4 (by decide)) (eU 5 (by decide)) hc z
  · exact g_does_4_no hs hj eW (eU 0 (by decide)) hc z
  · exact g_does_5_no hs hj eW (eU 0 (by decide)) hc z
  · exact g_does_6_no hs hj eW (eU 0 (by decide)) hc z
  · exact g_does_7_no hs hj eW (eU 0 (by decide)) hc z
/-- the numbers of a command; those left out -/
def uv (n : Nat) (v : Nat → Nat) : Nat → Nat := fun k => if k ≤ n then v k else 4294967295
/-- n commands carried out, one after another -/
def ChP (W Kn : Nat → Nat) (Vv : Nat → Nat → Nat) (gg : Nat → Nat → Nat) (NN vv : Nat → Nat) (n : Nat) : Prop := ∀ j, j < n → CmdO (W j) (uv (Kn j) (Vv j)) (gg j) (NN j) (vv j) (gg (j + 1)) (NN (j + 1))
theorem ChP.s8 {W Kn : Nat → Nat} {Vv gg : Nat → Nat → Nat} {NN vv : Nat → Nat} {n p : Nat} (h : ChP W Kn Vv gg NN vv n) (hp : p < 4) : ∀ {j}, j ≤ n → gg j (22 + 10 * p + 8) ≤ gg 0 (22 + 10 * p + 8) + 32 * j
  | 0, _ => Nat.le_refl _
  | j + 1, hj => by
    have h1 := h.s8 hp (j := j) (by omega)
    have h2 := (h j (by omega)).v.2.2.2 p hp
    omega
