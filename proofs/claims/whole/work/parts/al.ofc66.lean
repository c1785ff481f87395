/-! EACH CHANGE, of the class and of the reference beside each other -/
/-- what is counted as sampled grows by 32 at most -/
def S8 (g g' : Nat → Nat) : Prop := ∀ p, p < 4 → g' (22 + 10 * p + 8) ≤ g (22 + 10 * p + 8) + 32
theorem S8.of {g g' : Nat → Nat} (h : ∀ p, p < 4 → g' (22 + 10 * p + 8) = g (22 + 10 * p + 8)) : S8 g g' := fun p hp => by rw [h p hp]; omega
def OpO (M : MI) (as : List Value) (g : Nat → Nat) (N v : Nat) (g' : Nat → Nat) (N' : Nat) : Prop := v < 2 ^ 31 ∧ N ≤ N' ∧ (N' ≤ N + 1000 ∧ S8 g g') ∧ ∀ (G : GI) (T : Hp) (w : Nat → Nat) (k o : Nat) (A c : Nat → Nat), OR T w k o A c → Hol A c g N → Rm G T A → OCh M G (.ref o :: as) T w k o A (some (.int (nI v))) g' N'
def OpX (M : MI) (as : List Value) (g : Nat → Nat) (N : Nat) (kv : Int32) : Prop := ∀ (G : GI) (T : Hp) (w : Nat → Nat) (k o : Nat) (A c : Nat → Nat), OR T w k o A c → Hol A c g N → Rm G T A → OCh M G (.ref o :: as) T w k o A (some (.int kv)) g N
def RfA (M : MI) (as : List Value) (g : Nat → Nat) (r : Nat) : Prop := ∀ (G : GI) (T : Hp) (m : Nat) (V : RVal) (od : Nat → UInt64), RS T m → Fn M G (.ref m :: as) (rput T m (sg V g) od) (some (.int (nI r))) (rput T m (sg V g) od)
def RfS (M : MI) (as : List Value) (r : Nat) : Prop := ∀ (G : GI) (S : Hp), Fn M G as S (some (.int (nI r))) S
def EqN (V V' : RVal) : Prop := ∀ j f, j ≠ 5 → ¬ (j = 0 ∧ (f = 7 ∨ f = 8)) → V' j f = V j f
def RfQ (V : RVal) (T : Hp) (m : Nat) (od : Nat → UInt64) (v : Nat) (g' : Nat → Nat) : OV → Hp → Prop := fun r U => r = .inl (some (.int (nI v))) ∧ ∃ V', EqN V V' ∧ U = rput T m (sg V' g') od
def RfN (M : MI) (as : List Value) (g : Nat → Nat) (v : Nat) (g' : Nat → Nat) : Prop := ∀ (G : GI) (T : Hp) (m : Nat) (V : RVal) (od : Nat → UInt64), RS T m → Cn M G (.ref m :: as) (rput T m (sg V g) od) (RfQ V T m od v g')
def RfP (M : MI) (as : List Value) (g : Nat → Nat) (v : Nat) (g' : Nat → Nat) : Prop := ∀ (G : GI) (T : Hp) (m : Nat) (V : RVal) (od : Nat → UInt64) (V2 : RVal), RS T m → Fn m_X13_changes G [.ref m, .ref (m + 1)] (rput T m (sg (up2 V 0 (6) (nI 0)) g) od) none (rput T m (sg V2 g) od) → Cn M G (.ref m :: as) (rput T m (sg V g) od) (RfQ V2 T m od v g')
def RfX (M : MI) (as : List Value) (g : Nat → Nat) (code : Nat) : Prop := ∀ (G : GI) (T : Hp) (m : Nat) (V : RVal) (od : Nat → UInt64), RS T m → Fn M G (.ref m :: as) (rput T m (sg V g) od) (some (.int (nI 0))) (rput T m (sg (up2 V 0 (6) (nI code)) g) od)
def PrT (Mc Mp : MI) (as : List Value) (RA : Nat → Prop) (RN : Nat → (Nat → Nat) → Prop) (L : Int32 → Nat → Prop) (g : Nat → Nat) (N : Nat) : Prop := (∃ v g' N', OpO Mc as g N v g' N' ∧ RA 0 ∧ RN v g' ∧ RfP Mp as g v g') ∨ ∃ kv code, L kv code ∧ OpX Mc as g N kv ∧ RA code ∧ RfX Mp as g code
theorem EqN.rfl {V : RVal} : EqN V V := fun _ _ _ _ => Eq.refl _
theorem EqN.l {V V' : RVal} (h : EqN V V') {x y : Int32} : EqN V (l78 V' x y) := fun j f h1 h2 => (up2_n (by omega)).trans ((up2_n (by omega)).trans (h j f h1 h2))
theorem EqN.d {V : RVal} {n s : Nat} {e : Nat → Nat} : EqN V (drV V n e s) := fun j f h1 _ => if_neg (by omega)
theorem rf_n {M : MI} {G : GI} {av : List Value} {S T : Hp} {m v : Nat} {V V' : RVal} {g' : Nat → Nat} {od : Nat → UInt64} (h : Fn M G av S (some (.int (nI v))) (rput T m (sg V' g') od)) (e : EqN V V') : Cn M G av S (RfQ V T m od v g') := h.mono fun _ _ q => ⟨q.1, V', e, q.2⟩
theorem rf_x {M : MI} {G : GI} {av : List Value} {S T : Hp} {m v : Nat} {V V' : RVal} {g' : Nat → Nat} {od : Nat → UInt64} (h : Fx M G av S (some (.int (nI v))) (fun x y => rput T m (sg (l78 V' x y) g') od)) (e : EqN V V') : Cn M G av S (RfQ V T m od v g') := h.mono fun _ _ q => by obtain ⟨q1, x, y, q2⟩ := q; exact ⟨q1, _, e.l, q2⟩
theorem Fn.och {M : MI} {G : GI} {av : List Value} {S : Hp} {w : Nat → Nat} {k o : Nat} {A c g : Nat → Nat} {N : Nat} {v : Option Value} (h : Fn M G av S v S) (hO : OR S w k o A c) (hr : Hol A c g N) : OCh M G av S w k o A v g N := h.mono fun _ _ q => by obtain ⟨q1, q2⟩ := q; subst q2; exact ⟨q1, w, A, c, OX.refl hO, hr.1, hr.2⟩
theorem relN_le {g : Nat → Nat} {p : Nat} : relN g p ≤ g 0 := cnt_le _ _
theorem in200 {y : Int32} (h : nI 1 ≤ y ∧ y ≤ nI 200) : ∃ n, 0 < n ∧ n ≤ 200 ∧ y = nI n := by
  obtain ⟨n, hn, rfl⟩ := nI_of (x := y) (fun q => absurd (Int32.le_trans (by decide : nI 0 ≤ nI 1) h.1) (Int32.not_le.mpr (by rw [nI_0]; exact q)))
  have h1 := (nI_leI (by decide) hn).mp h.1
  have h2 := (nI_leI hn (by decide)).mp h.2
  exact ⟨n, by omega, by omega, rfl⟩
theorem swtG_0 {g : Nat → Nat} {e f a : Nat} (he : 0 < e) : swtG g e f a 0 = g 0 := by
  unfold swtG updG fgtG
  (repeat' split) <;> (repeat rw [up1_n (by omega)])
theorem blmI_up {g c : Nat → Nat} {l u ks i x : Nat} (hi : i < 62 ∨ 90 ≤ i) (hc : ∀ q, c q ≤ 6) (hd : up1 g i x (402 + 2 * (200 * l + u)) % 16 = g (402 + 2 * (200 * l + u)) % 16) : ∀ q, q ≤ 4 → blmI (up1 g i x) c l u ks q = up1 (blmI g c l u ks q) i x
  | 0, _ => rfl
  | q + 1, h => by
    have ih := blmI_up (ks := ks) hi hc hd q (by omega)
    have h6 := hc q
    unfold blmI
    rw [hd, ih]
    split
    · rw [up1_n (f := blmI g c l u ks q) (show 62 + 4 * c q + q ≠ i by omega), up1_comm (by omega)]
    · rfl
theorem or512 (a : Nat) : (a ||| 512) % 16 = a % 16 := by
  have h : (a ||| 512) % 2 ^ 4 = a % 2 ^ 4 ||| 512 % 2 ^ 4 := Nat.or_mod_two_pow
  rw [show (16 : Nat) = 2 ^ 4 from rfl, h, show 512 % 2 ^ 4 = 0 from rfl, Nat.or_zero]
theorem blm_swap {g c : Nat → Nat} {l u y : Nat} (hc : ∀ q, c q ≤ 6) : blmG (up1 (up1 g (402 + 2 * (200 * l + u)) (g (402 + 2 * (200 * l + u)) ||| 512)) 2 y) c l u 15 = up1 (up1 (blmG g c l u 15) (402 + 2 * (200 * l + u)) (g (402 + 2 * (200 * l + u)) ||| 512)) 2 y := by
  unfold blmG
  rw [blmI_up (by omega) hc (by rw [up1_n (by omega)]) 4 (by decide), blmI_up (by omega) hc (by rw [up1_s]; exact or512 _) 4 (by decide)]
theorem s8_insp {g : Nat → Nat} {l p q n a v s f i3 st x4 z : Nat} {cc : Nat → Nat → Nat} {e : Nat → Nat} (h6 : ∀ u q, cc u q ≤ 6) (hp : p < 4) (hq : q < 4) (hs : s ≤ 32) : up1 (swtG (up1 (up1 (up1 (up1 (up1 (up1 (up1 (insI g l cc e z n) (90 + 13 * l + 2) st) (90 + 13 * l + 4) x4) (90 + 13 * l + 5) v) (90 + 13 * l + 6) a) (90 + 13 * l + 7) f) (22 + 10 * p + 8) (g (22 + 10 * p + 8) + s)) (22 + 10 * p + 9) i3) (22 + 10 * p) f a) (90 + 13 * l + 3) (g (90 + 13 * l + 3) + 1) (22 + 10 * q + 8) ≤ g (22 + 10 * q + 8) + 32 := by
  rw [up1_n (by omega), swtG_n (by omega), up1_n (by omega)]
  by_cases h : q = p
  · subst h
    rw [up1_s]
    omega
  · rw [up1_n (by omega), up1_n (by omega), up1_n (by omega), up1_n (by omega), up1_n (by omega), up1_n (by omega), insI_o h6 (by omega) (by omega) _ (fun z _ => by omega)]
    omega
def L_a (kv : Int32) (code : Nat) : Prop := kv = -1 ∧ code = 1 ∨ kv = -2 ∧ code = 2
def L_b (kv : Int32) (code : Nat) : Prop := kv = -1 ∧ code = 1 ∨ kv = -3 ∧ code = 2
def L_c (kv : Int32) (code : Nat) : Prop := kv = -1 ∧ code = 1 ∨ kv = -2 ∧ code = 2 ∨ kv = -3 ∧ code = 3
def L_d (kv : Int32) (code : Nat) : Prop := kv = -1 ∧ code = 1 ∨ kv = -3 ∧ code = 2 ∨ kv = -4 ∧ code = 3
def L_s (kv : Int32) (code : Nat) : Prop := kv = -2 ∧ code = 1
set_option maxRecDepth 4000 in
set_option maxHeartbeats 1000000 in
theorem pr_machine {c g : Nat → Nat} {N : Nat} (hr : Rel c g N) (hNb : N < 2147450000) (y0 y1 y2 : Int32) : PrT m_X7_setMachine m_X13_machine [.int y0, .int y1, .int y2] (RfS m_X13_againstMachine [.int y0, .int y1, .int y2]) (RfN m_X13_machineNow [.int y0, .int y1, .int y2] g) L_a g N := by
  by_cases h0 : vp_in y0 6
  · obtain ⟨a, ha, rfl⟩ := vp_in_of h0 (by decide)
    by_cases h2 : vp_in y1 51 ∧ vp_in y2 4
    · obtain ⟨b, hb, rfl⟩ := vp_in_of h2.1 (by decide)
      obtain ⟨d, hd, rfl⟩ := vp_in_of h2.2 (by decide)
      have q := hr.mb ha
      exact Or.inl ⟨_, _, N, ⟨by omega, by omega, ⟨by omega, S8.of (fun p9 hp9 => by rw [up1_n (by omega), up1_n (by omega)])⟩, fun G T w k o A c a1 a2 a3 => ch_machine a1 a2.1 a2.2 ha hb hd⟩, fun G S => f_aM_0 h0 h2, fun G T m V od b1 => rf_n (g_machineNow b1 ha) EqN.rfl, fun G T m V od V2 b1 b2 => rf_n (c_machine_0 b1 ha hb hd b2) EqN.rfl⟩
    · exact Or.inr ⟨-2, 2, Or.inr ⟨rfl, rfl⟩, fun G T w k o A c a1 a2 a3 => (k_setMachine_2 a1.1 ha (OR.m0 a1 ha) (OR.m1 a1 ha) h2).och a1 a2, fun G S => f_aM_2 h0 h2, fun G T m V od b1 => c_machine_2 b1 ha h2⟩
  · exact Or.inr ⟨-1, 1, Or.inl ⟨rfl, rfl⟩, fun G T w k o A c a1 a2 a3 => (k_setMachine_1 a1.1 h0).och a1 a2, fun G S => f_aM_1 h0, fun G T m V od b1 => c_machine_1 b1 h0⟩
set_option maxRecDepth 4000 in
set_option maxHeartbeats 1000000 in
theorem pr_product {c g : Nat → Nat} {N : Nat} (hr : Rel c g N) (hNb : N < 2147450000) (y0 y1 y2 y3 : Int32) : PrT m_X7_setProduct m_X13_product [.int y0, .int y1, .int y2, .int y3] (RfS m_X13_againstProduct [.int y0, .int y1, .int y2, .int y3]) (RfN m_X13_productNow [.int y0, .int y1, .int y2, .int y3] g) L_a g N := by
  by_cases h0 : vp_in y0 4
  · obtain ⟨a, ha, rfl⟩ := vp_in_of h0 (by decide)
    by_cases h2 : vp_in y1 31 ∧ vp_in y2 16 ∧ vp_in y3 16
    · obtain ⟨b, hb, rfl⟩ := vp_in_of h2.1 (by decide)
      obtain ⟨d, hd, rfl⟩ := vp_in_of h2.2.1 (by decide)
      obtain ⟨e, he, rfl⟩ := vp_in_of h2.2.2 (by decide)
      have q := (hr.p ha).b
      exact Or.inl ⟨_, _, N, ⟨by omega, by omega, ⟨by omega, S8.of (fun p9 hp9 => by rw [up1_n (by omega), up1_n (by omega), up1_n (by omega)])⟩, fun G T w k o A c a1 a2 a3 => ch_product a1 a2.1 a2.2 ha hb hd he⟩, fun G S => f_aP_0 h0 h2, fun G T m V od b1 => rf_n (g_productNow b1 ha) EqN.rfl, fun G T m V od V2 b1 b2 => rf_n (c_product_0 b1 ha hb hd he b2) EqN.rfl⟩
    · exact Or.inr ⟨-2, 2, Or.inr ⟨rfl, rfl⟩, fun G T w k o A c a1 a2 a3 => (k_setProduct_2 a1.1 ha h2).och a1 a2, fun G S => f_aP_2 h0 h2, fun G T m V od b1 => c_product_2 b1 ha h2⟩
  · exact Or.inr ⟨-1, 1, Or.inl ⟨rfl, rfl⟩, fun G T w k o A c a1 a2 a3 => (k_setProduct_1 a1.1 h0).och a1 a2, fun G S => f_aP_1 h0, fun G T m V od b1 => c_product_1 b1 h0⟩
set_option maxRecDepth 4000 in
set_option maxHeartbeats 1000000 in
theorem pr_seed {c g : Nat → Nat} {N : Nat} (hr : Rel c g N) (hNb : N < 2147450000) (y0 : Int32) : PrT m_X7_setSeed m_X13_seed [.int y0] (fun _ => True) (RfN m_X13_seedNow [.int y0] g) L_s g N := by
  by_cases h0 : y0 < 0
  · exact Or.inr ⟨-2, 1, ⟨rfl, rfl⟩, fun G T w k o A c a1 a2 a3 => (k_setSeed_1 a1.1 h0).och a1 a2, trivial, fun G T m V od b1 => c_seed_1 b1 h0⟩
  · obtain ⟨n, hn, rfl⟩ := nI_of h0
    have q := hr.g3
    exact Or.inl ⟨_, _, N, ⟨by omega, by omega, ⟨by omega, S8.of (fun p9 hp9 => by rw [up1_n (by omega)])⟩, fun G T w k o A c a1 a2 a3 => ch_seed a1 a2.1 a2.2 hn⟩, trivial, fun G T m V od b1 => rf_n (g_seedNow b1) EqN.rfl, fun G T m V od V2 b1 b2 => rf_n (c_seed_0 b1 hn b2) EqN.rfl⟩
set_option maxRecDepth 4000 in
set_option maxHeartbeats 1000000 in
theorem pr_release {c g : Nat → Nat} {N : Nat} (hr : Rel c g N) (hNb : N < 2147450000) (y0 : Int32) : PrT m_X7_releaseProduct m_X13_release [.int y0] (RfA m_X13_againstRelease [.int y0] g) (RfN m_X13_releaseNow [.int y0] g) L_b g N := by
  have h24 := hr.n24
  by_cases h0 : vp_in y0 4
  · obtain ⟨p, hp, rfl⟩ := vp_in_of h0 (by decide)
    have h3 := (hr.p hp).b.2.2.2.1
    have hP : ∀ l, l < g 0 → g (90 + 13 * l + 0) < 4 ∧ g (90 + 13 * l + 2) < 4 := fun l hl => ⟨(hr.lot hl).pr, (hr.lot hl).st⟩
    have q := relN_le (g := g) (p := p)
    by_cases h : g (22 + 10 * p + 3) = 3
    · exact Or.inl ⟨_, _, N, ⟨by omega, by omega, ⟨by omega, S8.of (fun p9 hp9 => fgtG_n (by omega))⟩, fun G T w k o A c a1 a2 a3 => ch_release a1 a2.1 a2.2 hp h⟩, fun G T m V od b1 => p_aRel_0 b1 hp h3 h, fun G T m V od b1 => rf_n (g_releaseNow b1 hp h24 hP) EqN.rfl, fun G T m V od V2 b1 b2 => rf_n (c_release_0 b1 hp h3 h h24 hP b2) EqN.rfl⟩
    · exact Or.inr ⟨-3, 2, Or.inr ⟨rfl, rfl⟩, fun G T w k o A c a1 a2 a3 => (o_release_2 a1 a2.1 a2.2 hp h).och a1 a2, fun G T m V od b1 => p_aRel_2 b1 hp h3 h, fun G T m V od b1 => c_release_2 b1 hp h3 h⟩
  · exact Or.inr ⟨-1, 1, Or.inl ⟨rfl, rfl⟩, fun G T w k o A c a1 a2 a3 => (o_release_1 a1 a2.1 a2.2 h0).och a1 a2, fun G T m V od b1 => p_aRel_1 b1 h0, fun G T m V od b1 => c_release_1 b1 h0⟩
set_option maxRecDepth 4000 in
set_option maxHeartbeats 1000000 in
theorem pr_raw {c g : Nat → Nat} {N : Nat} (hr : Rel c g N) (hNb : N < 2147450000) (y0 y1 y2 : Int32) : PrT m_X7_makeRaw m_X13_raw [.int y0, .int y1, .int y2] (RfA m_X13_againstRaw [.int y0, .int y1, .int y2] g) (RfN m_X13_rawNow [.int y0, .int y1, .int y2] g) L_c g N := by
  have h24 := hr.n24
  have hb := hr.wb
  by_cases h0 : vp_in y0 6
  · obtain ⟨a, ha, rfl⟩ := vp_in_of h0 (by decide)
    by_cases h1 : vp_in y1 4
    · obtain ⟨p, hp, rfl⟩ := vp_in_of h1 (by decide)
      by_cases h2 : nI 1 ≤ y2 ∧ y2 ≤ nI 200
      · obtain ⟨n, hn0, hn, rfl⟩ := in200 h2
        obtain ⟨m1, m2, m3⟩ := hr.mb ha
        have m4 : g (4 + 3 * a + 2) < 2147470000 := by omega
        by_cases h3 : g 0 = 24
        · exact Or.inr ⟨-3, 3, Or.inr (Or.inr ⟨rfl, rfl⟩), fun G T w k o A c a1 a2 a3 => (o_raw_3 a1 a2.1 a2.2 ha hp hn0 hn h3).och a1 a2, fun G T m V od b1 => p_aRaw_3 b1 ha hp hn0 hn h3, fun G T m V od b1 => c_raw_3 b1 ha hp hn0 hn h3⟩
        · have h4 : g 0 < 24 := by omega
          exact Or.inl ⟨_, _, N + n, ⟨by omega, by omega, ⟨by omega, S8.of (fun p9 hp9 => by rw [wrkI_lo (by omega) (by omega), begG_lo (by omega) (by omega)])⟩, fun G T w k o A c a1 a2 a3 => ch_raw a1 a2.1 a2.2 a3 (by omega) rfl h4 ha hp hn0 hn⟩, fun G T m V od b1 => p_aRaw_0 b1 ha hp hn0 hn h4, fun G T m V od b1 => rf_n (g_rawNow b1 hb h4 hn ha m1 m2 m4) EqN.rfl, fun G T m V od V2 b1 b2 => rf_n (c_raw_0 b1 hb ha hp hn0 hn h4 m1 m2 m4 b2) EqN.rfl⟩
      · exact Or.inr ⟨-2, 2, Or.inr (Or.inl ⟨rfl, rfl⟩), fun G T w k o A c a1 a2 a3 => (o_raw_2 a1 a2.1 a2.2 ha hp h2).och a1 a2, fun G T m V od b1 => p_aRaw_2 b1 ha hp h2, fun G T m V od b1 => c_raw_2 b1 ha hp h2⟩
    · exact Or.inr ⟨-1, 1, Or.inl ⟨rfl, rfl⟩, fun G T w k o A c a1 a2 a3 => (o_raw_1b a1 a2.1 a2.2 ha h1).och a1 a2, fun G T m V od b1 => p_aRaw_1b b1 ha h1, fun G T m V od b1 => c_raw_1b b1 ha h1⟩
  · exact Or.inr ⟨-1, 1, Or.inl ⟨rfl, rfl⟩, fun G T w k o A c a1 a2 a3 => (o_raw_1a a1 a2.1 a2.2 h0).och a1 a2, fun G T m V od b1 => p_aRaw_1a b1 h0, fun G T m V od b1 => c_raw_1a b1 h0⟩
set_option maxRecDepth 4000 in
set_option maxHeartbeats 1000000 in
theorem pr_ship {c g : Nat → Nat} {N : Nat} (hr : Rel c g N) (hNb : N < 2147450000) (y0 : Int32) : PrT m_X7_shipLot m_X13_ship [.int y0] (RfA m_X13_againstShip [.int y0] g) (RfN m_X13_shipNow [.int y0] g) L_b g N := by
  have h24 := hr.n24
  have hb := hr.wb
  by_cases h0 : vp_in y0 (g 0)
  · obtain ⟨l, hl, rfl⟩ := vp_in_of h0 (by omega)
    have hL := hr.lot hl
    have hz := hL.z
    have hst := hL.st
    have hp := hL.pr
    have hB := (hr.p hp).b
    have hsv := hB.2.2.2.1
    have hin : inS g l 0 ≤ g (90 + 13 * l + 1) := cnt_le _ _
    by_cases h : ¬ g (90 + 13 * l + 2) = 1 ∨ inS g l 0 = 0
    · exact Or.inr ⟨-3, 2, Or.inr ⟨rfl, rfl⟩, fun G T w k o A c a1 a2 a3 => (o_ship_2 a1 a2.1 a2.2 hl h).och a1 a2, fun G T m V od b1 => p_aShp_2 b1 h24 hb hl hz hst hp hsv h, fun G T m V od b1 => c_ship_2 b1 h24 hb hl hz hst hp hsv h⟩
    · exact Or.inl ⟨_, _, N, ⟨by omega, by omega, ⟨by omega, S8.of (fun p9 hp9 => by rw [up1_n (by omega), shpI_n (by omega)])⟩, fun G T w k o A c a1 a2 a3 => ch_ship a1 a2.1 a2.2 hl h⟩, fun G T m V od b1 => p_aShp_0 b1 h24 hb hl hz hst hp hsv h, fun G T m V od b1 => rf_n (g_shipNow b1 hb (by omega) hz) EqN.rfl, fun G T m V od V2 b1 b2 => rf_n (c_ship_0 b1 h24 hb hl hz hst hp hsv h b2 (g_shipNow b1 hb (by omega) hz)) EqN.rfl⟩
  · exact Or.inr ⟨-1, 1, Or.inl ⟨rfl, rfl⟩, fun G T w k o A c a1 a2 a3 => (o_ship_1 a1 a2.1 a2.2 h0).och a1 a2, fun G T m V od b1 => p_aShp_1 b1 h24 h0, fun G T m V od b1 => c_ship_1 b1 h24 h0⟩
set_option maxRecDepth 4000 in
set_option maxHeartbeats 1000000 in
theorem pr_sort {c g : Nat → Nat} {N : Nat} (hr : Rel c g N) (hNb : N < 2147450000) (y0 : Int32) : PrT m_X7_sortLot m_X13_sort [.int y0] (RfA m_X13_againstSort [.int y0] g) (RfN m_X13_sortNow [.int y0] g) L_b g N := by
  have h24 := hr.n24
  have hb := hr.wb
  by_cases h0 : vp_in y0 (g 0)
  · obtain ⟨l, hl, rfl⟩ := vp_in_of h0 (by omega)
    have hL := hr.lot hl
    have hz := hL.z
    have hst := hL.st
    have hp := hL.pr
    have hB := (hr.p hp).b
    have hsv := hB.2.2.2.1
    have hin : inS g l 0 ≤ g (90 + 13 * l + 1) := cnt_le _ _
    by_cases h : g (90 + 13 * l + 2) = 2
    · obtain ⟨cc, hcc⟩ := hr.cauA hl (g (22 + 10 * g (90 + 13 * l + 0) + 1))
      have hs : cnt (scrP g l) (g (90 + 13 * l + 1)) ≤ g (90 + 13 * l + 1) := cnt_le _ _
      have q1 := hr.g1
      have hW : ∀ u, u < g (90 + 13 * l + 1) → g (402 + 2 * (200 * l + u)) < 16777000 := fun u hu => Nat.lt_trans (hL.wu hu).1 (by decide)
      exact Or.inl ⟨_, _, N + 1000, ⟨by omega, by omega, ⟨by omega, S8.of (fun p9 hp9 => by rw [up1_n (by omega), sorI_n hcc.1 (by omega) (by omega) (by omega)])⟩, fun G T w k o A c a1 a2 a3 => (ch_sort a1 a2.1 a2.2 hl rfl (by omega) h hcc).och (fun l2 hl2 => a2.2 l2 (by rw [up1_n (by omega), sorI_n hcc.1 (by decide) (by decide) (by omega)] at hl2; exact hl2))⟩, fun G T m V od b1 => p_aSor_0 b1 h24 hb hl hz hst hp hsv h, fun G T m V od b1 => rf_x (g_sortNow b1 hb (by omega) hz hp hB.2.1 hB.2.2.1 (by omega) hW hcc) EqN.rfl, fun G T m V od V2 b1 b2 => rf_x (c_sort_0 b1 h24 hb hl hz hst hp hsv h b2 (g_sortNow b1 hb (by omega) hz hp hB.2.1 hB.2.2.1 (by omega) hW hcc)) EqN.rfl⟩
    · exact Or.inr ⟨-3, 2, Or.inr ⟨rfl, rfl⟩, fun G T w k o A c a1 a2 a3 => (o_sort_2 a1 a2.1 a2.2 hl h).och a1 a2, fun G T m V od b1 => p_aSor_2 b1 h24 hb hl hz hst hp hsv h, fun G T m V od b1 => c_sort_2 b1 h24 hb hl hz hst hp hsv h⟩
  · exact Or.inr ⟨-1, 1, Or.inl ⟨rfl, rfl⟩, fun G T w k o A c a1 a2 a3 => (o_sort_1 a1 a2.1 a2.2 h0).och a1 a2, fun G T m V od b1 => p_aSor_1 b1 h24 h0, fun G T m V od b1 => c_sort_1 b1 h24 h0⟩
set_option maxRecDepth 4000 in
set_option maxHeartbeats 1000000 in
theorem pr_inspect {c g : Nat → Nat} {N : Nat} (hr : Rel c g N) (hNb : N < 2147450000) (y0 : Int32) : PrT m_X7_inspectLot m_X13_inspect [.int y0] (RfA m_X13_againstInspect [.int y0] g) (RfN m_X13_inspectNow [.int y0] g) L_b g N := by
  have h24 := hr.n24
  have hb := hr.wb
  by_cases h0 : vp_in y0 (g 0)
  · obtain ⟨l, hl, rfl⟩ := vp_in_of h0 (by omega)
    have hL := hr.lot hl
    have hz := hL.z
    have hst := hL.st
    have hp := hL.pr
    have hB := (hr.p hp).b
    have hsv := hB.2.2.2.1
    have hin : inS g l 0 ≤ g (90 + 13 * l + 1) := cnt_le _ _
    have h4 : g (22 + 10 * g (90 + 13 * l + 0) + 4) ≤ 15 := Nat.le_trans hB.2.2.2.2.1 (by decide)
    have hM := (hr.p hp).m
    have h5 : g (22 + 10 * g (90 + 13 * l + 0) + 5) < 2147470000 := by omega
    have h6 : g (22 + 10 * g (90 + 13 * l + 0) + 6) < 2147470000 := by rw [← hM.2.2.1]; exact Nat.lt_of_le_of_lt (onesK_le _ _) (by decide)
    have h7 : g (22 + 10 * g (90 + 13 * l + 0) + 7) < 32 := by omega
    have hn2 : inS g l 0 ≤ 200 := by omega
    have hi3 : g (90 + 13 * l + 3) < 2147470000 := by have := hL.1.2.2.2.1; omega
    obtain ⟨cc, hcc⟩ := hr.cauA hl (g (22 + 10 * g (90 + 13 * l + 0) + 1))
    by_cases h : ¬ g (90 + 13 * l + 2) = 0 ∨ inS g l 0 = 0 ∨ g (22 + 10 * g (90 + 13 * l + 0) + 3) = 3
    · exact Or.inr ⟨-3, 2, Or.inr ⟨rfl, rfl⟩, fun G T w k o A c a1 a2 a3 => (o_inspect_2 a1 a2.1 a2.2 hl rfl h).och a2.2, fun G T m V od b1 => p_aIns_2 b1 h24 hb hl hz hst hp hsv h, fun G T m V od b1 => c_inspect_2 b1 h24 hb hl hz hst hp hsv h⟩
    · by_cases hF : g (90 + 13 * l + 3) = 0
      · have hal : alwN (smpN (inS g l 0) (g (22 + 10 * g (90 + 13 * l + 0) + 3))) (g (22 + 10 * g (90 + 13 * l + 0))) (g (22 + 10 * g (90 + 13 * l + 0) + 3)) ≤ 10 := alwN_le (smpN_le _ _).2 hB.1
        have hsn := (smpN_le (inS g l 0) (g (22 + 10 * g (90 + 13 * l + 0) + 3))).1
        have hs32 := (smpN_le (inS g l 0) (g (22 + 10 * g (90 + 13 * l + 0) + 3))).2
        obtain ⟨e, he⟩ := draw_ex (g := g) (l := l) (smpN (inS g l 0) (g (22 + 10 * g (90 + 13 * l + 0) + 3))) hsn
        have hDB : cnt (DB g l e (smpN (inS g l 0) (g (22 + 10 * g (90 + 13 * l + 0) + 3)))) (g (90 + 13 * l + 1)) ≤ g (90 + 13 * l + 1) := cnt_le _ _
        exact Or.inl ⟨_, _, N + 1000, ⟨by omega, by omega, ⟨by omega, (fun p9 hp9 => s8_insp hcc.1 hp hp9 hs32)⟩, fun G T w k o A c a1 a2 a3 => (ch_insp1 a1 a2.1 a2.2 hl rfl hF rfl rfl rfl rfl h he hcc (by omega)).och (fun l2 hl2 => a2.2 l2 (by rw [up1_n (by omega), swtG_0 (by omega), up1_n (by omega), up1_n (by omega), up1_n (by omega), up1_n (by omega), up1_n (by omega), up1_n (by omega), up1_n (by omega), insI_o hcc.1 (by decide) (by decide) _ (fun z _ => by omega)] at hl2; exact hl2))⟩, fun G T m V od b1 => p_aIns_0 b1 h24 hb hl hz hst hp hsv h, fun G T m V od b1 => rf_x (g_inspect1 b1 hb (by omega) hz hp hB.2.1 hF hB.1 rfl hsv h4 h5 h6 h7 rfl hn2 rfl hsn hs32 rfl (Nat.le_trans hal (by decide)) he hi3 hcc) EqN.d, fun G T m V od V2 b1 b2 => rf_x (c_inspect_0 b1 h24 hb hl hz hst hp hsv h b2 (g_inspect1 b1 hb (by omega) hz hp hB.2.1 hF hB.1 rfl hsv h4 h5 h6 h7 rfl hn2 rfl hsn hs32 rfl (Nat.le_trans hal (by decide)) he hi3 hcc)) EqN.d⟩
      · have hal : alwN (smpN (inS g l 0) (1)) (g (22 + 10 * g (90 + 13 * l + 0))) (1) ≤ 10 := alwN_le (smpN_le _ _).2 hB.1
        have hsn := (smpN_le (inS g l 0) (1)).1
        have hs32 := (smpN_le (inS g l 0) (1)).2
        obtain ⟨e, he⟩ := draw_ex (g := g) (l := l) (smpN (inS g l 0) (1)) hsn
        have hDB : cnt (DB g l e (smpN (inS g l 0) (1))) (g (90 + 13 * l + 1)) ≤ g (90 + 13 * l + 1) := cnt_le _ _
        exact Or.inl ⟨_, _, N + 1000, ⟨by omega, by omega, ⟨by omega, S8.of (fun p9 hp9 => by rw [up1_n (by omega), up1_n (by omega), up1_n (by omega), up1_n (by omega), up1_n (by omega), up1_n (by omega), insI_o hcc.1 (by omega) (by omega) _ (fun z _ => by omega)])⟩, fun G T w k o A c a1 a2 a3 => (ch_insp2 a1 a2.1 a2.2 hl rfl hF rfl rfl rfl h he hcc (by omega)).och (fun l2 hl2 => a2.2 l2 (by rw [up1_n (by omega), up1_n (by omega), up1_n (by omega), up1_n (by omega), up1_n (by omega), up1_n (by omega), insI_o hcc.1 (by decide) (by decide) _ (fun z _ => by omega)] at hl2; exact hl2))⟩, fun G T m V od b1 => p_aIns_0 b1 h24 hb hl hz hst hp hsv h, fun G T m V od b1 => rf_x (g_inspect2 b1 hb (by omega) hz hp hB.2.1 hF hB.1 rfl hn2 rfl hsn hs32 rfl (Nat.le_trans hal (by decide)) he hi3 hcc) EqN.d, fun G T m V od V2 b1 b2 => rf_x (c_inspect_0 b1 h24 hb hl hz hst hp hsv h b2 (g_inspect2 b1 hb (by omega) hz hp hB.2.1 hF hB.1 rfl hn2 rfl hsn hs32 rfl (Nat.le_trans hal (by decide)) he hi3 hcc)) EqN.d⟩
  · exact Or.inr ⟨-1, 1, Or.inl ⟨rfl, rfl⟩, fun G T w k o A c a1 a2 a3 => (o_inspect_1 a1 a2.1 a2.2 h0).och a1 a2, fun G T m V od b1 => p_aIns_1 b1 h24 h0, fun G T m V od b1 => c_inspect_1 b1 h24 h0⟩
set_option maxRecDepth 4000 in
set_option maxHeartbeats 1000000 in
theorem pr_complain {c g : Nat → Nat} {N : Nat} (hr : Rel c g N) (hNb : N < 2147450000) (y0 y1 : Int32) : PrT m_X7_putDownComplaint m_X13_complain [.int y0, .int y1] (fun _ => True) (fun _ _ => True) L_d g N := by
  have h24 := hr.n24
  have hb := hr.wb
  by_cases h0 : vp_in y0 (g 0)
  · obtain ⟨l, hl, rfl⟩ := vp_in_of h0 (by omega)
    have hL := hr.lot hl
    have hz := hL.z
    by_cases h1 : vp_in y1 (g (90 + 13 * l + 1))
    · obtain ⟨u, hu, rfl⟩ := vp_in_of h1 (by omega)
      by_cases h : ¬ sW (g (402 + 2 * (200 * l + u))) = 4 ∨ g (402 + 2 * (200 * l + u)) / 2 ^ 9 % 2 = 1
      · exact Or.inr ⟨-3, 2, Or.inr (Or.inl ⟨rfl, rfl⟩), fun G T w k o A c a1 a2 a3 => (o_complain_2 a1 a2.1 a2.2 hl hu h).och a1 a2, trivial, fun G T m V od b1 => c_complain_2 b1 h24 hb hl hz hu h⟩
      · by_cases hd : g (402 + 2 * (200 * l + u)) % 16 = 0
        · exact Or.inr ⟨-4, 3, Or.inr (Or.inr ⟨rfl, rfl⟩), fun G T w k o A c a1 a2 a3 => (o_complain_3 a1 a2.1 a2.2 hl hu h hd).och a1 a2, trivial, fun G T m V od b1 => c_complain_3 b1 h24 hb hl hz hu h hd⟩
        · obtain ⟨cc, hcc⟩ := hr.cauC hl hu 15
          have e := blm_swap (g := g) (l := l) (u := u) (y := g 2 + 1) hcc.1
          have q2 := hr.g2
          exact Or.inl ⟨_, _, N + 1 + 4, ⟨by omega, by omega, ⟨by omega, S8.of (fun p9 hp9 => by rw [up1_n (by omega), up1_n (by omega), blmG_n hcc.1 (by omega)])⟩, fun G T w k o A c a1 a2 a3 => by rw [← e]; exact ch_complain a1 a2.1 a2.2 hl hu h hd hcc⟩, trivial, trivial, fun G T m V od V2 b1 b2 => rf_x (c_complain_0 b1 h24 hb hl hz hu h hd hcc b2) EqN.rfl⟩
    · exact Or.inr ⟨-1, 1, Or.inl ⟨rfl, rfl⟩, fun G T w k o A c a1 a2 a3 => (o_complain_1b a1 a2.1 a2.2 hl h1).och a1 a2, trivial, fun G T m V od b1 => c_complain_1b b1 h24 hl hz h1⟩
  · exact Or.inr ⟨-1, 1, Or.inl ⟨rfl, rfl⟩, fun G T w k o A c a1 a2 a3 => (o_complain_1a a1 a2.1 a2.2 h0).och a1 a2, trivial, fun G T m V od b1 => c_complain_1a b1 h24 h0⟩
theorem nI_ne {a b : Nat} (ha : a < 2 ^ 32) (hb : b < 2 ^ 32) (h : a ≠ b) : ¬ nI a = nI b := fun q => h (nI_inj ha hb q)
set_option maxRecDepth 4000 in
set_option maxHeartbeats 1000000 in
theorem pr_make {c g : Nat → Nat} {N : Nat} (hr : Rel c g N) (hNb : N < 2147450000) (y0 y1 y2 y3 y4 y5 : Int32) : PrT m_X7_assemble m_X13_make [.int y0, .int y1, .int y2, .int y3, .int y4, .int y5] (RfA m_X13_againstMake [.int y0, .int y1, .int y2, .int y3, .int y4, .int y5] g) (RfN m_X13_makeNow [.int y0, .int y1, .int y2, .int y3, .int y4, .int y5] g) L_c g N := by
  have h24 := hr.n24
  have hb := hr.wb
  by_cases c0 : vp_in y0 6
  · obtain ⟨a, ha, e0⟩ := vp_in_of c0 (by decide)
    by_cases c1 : vp_in y1 4
    · obtain ⟨p, hp, e1⟩ := vp_in_of c1 (by decide)
      by_cases c3 : vp_in y3 (g 0)
      · obtain ⟨t0, q0, e3⟩ := vp_in_of c3 (by omega)
        subst e0 e1 e3
        by_cases c4 : y4 = nI 4294967295 ∨ vp_in y4 (g 0)
        · by_cases c5 : y5 = nI 4294967295 ∨ vp_in y5 (g 0)
          · have h1 : (vp_in (nI a) 6 ∧ vp_in (nI p) 4 ∧ vp_in (nI t0) (g 0) ∧ (y4 = (-1) ∨ vp_in y4 (g 0)) ∧ (y5 = (-1) ∨ vp_in y5 (g 0))) := ⟨c0, c1, c3, c4.imp (fun q => q.trans nI_m1) id, c5.imp (fun q => q.trans nI_m1) id⟩
            have t0l : t0 < 2 ^ 31 := by omega
            by_cases h2 : (nI 1 ≤ y2 ∧ y2 ≤ nI 200) ∧ (¬ nI t0 = y4) ∧ (¬ nI t0 = y5) ∧ (¬ (y4 = y5 ∧ 0 ≤ y4)) ∧ ¬ (y4 < 0 ∧ 0 ≤ y5)
            · rcases c4 with c4 | c4
              · rcases c5 with c5 | c5
                · subst c4 c5
                  obtain ⟨n, hn0, hn, rfl⟩ := in200 h2.1
                  have z0 := (hr.lot q0).z
                  have s0 := (hr.lot q0).st
                  obtain ⟨m1, m2, m3⟩ := hr.mb ha
                  have m4 : g (4 + 3 * a + 2) < 2147470000 := by omega
                  by_cases hf : g 0 = 24
                  · exact Or.inr ⟨-3, 3, Or.inr (Or.inr ⟨rfl, rfl⟩), fun G T w k o A c a1 a2 a3 => (o_asm_3_1 a1 a2.1 a2.2 ha hp q0 hn0 hn  hf).och a1 a2, fun G T m V od b1 => by rw [nI_m1]; exact p_aMk_3_1 b1 h24 hb ha hp hn0 hn q0  z0 s0 (Or.inl hf), fun G T m V od b1 => by rw [nI_m1]; exact c_make_3_1 b1 h24 hb ha hp hn0 hn q0  z0 s0 (Or.inl hf)⟩
                  · have h0 : g 0 < 24 := by omega
                    by_cases f0 : fewP g t0 n
                    · exact Or.inr ⟨-3, 3, Or.inr (Or.inr ⟨rfl, rfl⟩), fun G T w k o A c a1 a2 a3 => (o_asm_3_1_0 a1 a2.1 a2.2 ha hp q0 hn0 hn  h0 f0).och a1 a2, fun G T m V od b1 => by rw [nI_m1]; exact p_aMk_3_1 b1 h24 hb ha hp hn0 hn q0  z0 s0 (Or.inr (f0)), fun G T m V od b1 => by rw [nI_m1]; exact c_make_3_1 b1 h24 hb ha hp hn0 hn q0  z0 s0 (Or.inr (f0))⟩
                    · skip
                      obtain ⟨e0, he0⟩ := en_ex (few_n f0)
                      exact Or.inl ⟨_, _, N + n, ⟨by omega, by omega, ⟨by omega, S8.of (fun p9 hp9 => by rw [wrkI_lo (by omega) (by omega), takI_hd (by omega) (by omega), begG_lo (by omega) (by omega)])⟩, fun G T w k o A c a1 a2 a3 => ch_asm1 a1 a2.1 a2.2 a3 (by omega) rfl h0 ha hp hn0 hn q0  f0 he0⟩, fun G T m V od b1 => by rw [nI_m1]; exact p_aMk_0_1 b1 h24 hb ha hp hn0 hn q0  z0 s0 h0 f0, fun G T m V od b1 => by rw [nI_m1]; exact rf_n (g_makeNow1 b1 hb h0 hn ha m1 m2 m4 q0 (he0.here z0) ) EqN.rfl, fun G T m V od V2 b1 b2 => by rw [nI_m1]; exact rf_n (c_make_0_1 b1 h24 hb ha hp hn0 hn q0  z0 s0 h0 f0 m1 m2 m4 (he0.here z0) b2) EqN.rfl⟩
                · obtain ⟨t2, q2, rfl⟩ := vp_in_of c5 (by omega)
                  subst c4
                  exact absurd ⟨(by decide : nI 4294967295 < 0), Int32.not_lt.mp (nI_nn (by omega))⟩ h2.2.2.2.2
              · obtain ⟨t1, q1, rfl⟩ := vp_in_of c4 (by omega)
                rcases c5 with c5 | c5
                · subst c5
                  obtain ⟨n, hn0, hn, rfl⟩ := in200 h2.1
                  have n01 : t0 ≠ t1 := fun q => h2.2.1 (congrArg nI q)
                  have z0 := (hr.lot q0).z
                  have s0 := (hr.lot q0).st
                  have z1 := (hr.lot q1).z
                  have s1 := (hr.lot q1).st
                  obtain ⟨m1, m2, m3⟩ := hr.mb ha
                  have m4 : g (4 + 3 * a + 2) < 2147470000 := by omega
                  by_cases hf : g 0 = 24
                  · exact Or.inr ⟨-3, 3, Or.inr (Or.inr ⟨rfl, rfl⟩), fun G T w k o A c a1 a2 a3 => (o_asm_3_2 a1 a2.1 a2.2 ha hp q0 q1 hn0 hn n01 hf).och a1 a2, fun G T m V od b1 => by rw [nI_m1]; exact p_aMk_3_2 b1 h24 hb ha hp hn0 hn q0 q1 n01 z0 s0 z1 s1 (Or.inl hf), fun G T m V od b1 => by rw [nI_m1]; exact c_make_3_2 b1 h24 hb ha hp hn0 hn q0 q1 n01 z0 s0 z1 s1 (Or.inl hf)⟩
                  · have h0 : g 0 < 24 := by omega
                    by_cases f0 : fewP g t0 n
                    · exact Or.inr ⟨-3, 3, Or.inr (Or.inr ⟨rfl, rfl⟩), fun G T w k o A c a1 a2 a3 => (o_asm_3_2_0 a1 a2.1 a2.2 ha hp q0 q1 hn0 hn n01 h0 f0).och a1 a2, fun G T m V od b1 => by rw [nI_m1]; exact p_aMk_3_2 b1 h24 hb ha hp hn0 hn q0 q1 n01 z0 s0 z1 s1 (Or.inr (Or.inl f0)), fun G T m V od b1 => by rw [nI_m1]; exact c_make_3_2 b1 h24 hb ha hp hn0 hn q0 q1 n01 z0 s0 z1 s1 (Or.inr (Or.inl f0))⟩
                    · skip
                      by_cases f1 : fewP g t1 n
                      · exact Or.inr ⟨-3, 3, Or.inr (Or.inr ⟨rfl, rfl⟩), fun G T w k o A c a1 a2 a3 => (o_asm_3_2_1 a1 a2.1 a2.2 ha hp q0 q1 hn0 hn n01 h0 f0 f1).och a1 a2, fun G T m V od b1 => by rw [nI_m1]; exact p_aMk_3_2 b1 h24 hb ha hp hn0 hn q0 q1 n01 z0 s0 z1 s1 (Or.inr (Or.inr (f1))), fun G T m V od b1 => by rw [nI_m1]; exact c_make_3_2 b1 h24 hb ha hp hn0 hn q0 q1 n01 z0 s0 z1 s1 (Or.inr (Or.inr (f1)))⟩
                      · skip
                        obtain ⟨e0, he0⟩ := en_ex (few_n f0)
                        obtain ⟨e1, he1⟩ := en_ex (few_n f1)
                        exact Or.inl ⟨_, _, N + n, ⟨by omega, by omega, ⟨by omega, S8.of (fun p9 hp9 => by rw [wrkI_lo (by omega) (by omega), takI_hd (by omega) (by omega), takI_hd (by omega) (by omega), begG_lo (by omega) (by omega)])⟩, fun G T w k o A c a1 a2 a3 => ch_asm2 a1 a2.1 a2.2 a3 (by omega) rfl h0 ha hp hn0 hn q0 q1 n01 f0 he0 f1 he1⟩, fun G T m V od b1 => by rw [nI_m1]; exact p_aMk_0_2 b1 h24 hb ha hp hn0 hn q0 q1 n01 z0 s0 z1 s1 h0 f0 f1, fun G T m V od b1 => by rw [nI_m1]; exact rf_n (g_makeNow2 b1 hb h0 hn ha m1 m2 m4 q0 (he0.here z0) q1 (he1.here z1) n01) EqN.rfl, fun G T m V od V2 b1 b2 => by rw [nI_m1]; exact rf_n (c_make_0_2 b1 h24 hb ha hp hn0 hn q0 q1 n01 z0 s0 z1 s1 h0 f0 f1 m1 m2 m4 (he0.here z0) (he1.here z1) b2) EqN.rfl⟩
                · obtain ⟨t2, q2, rfl⟩ := vp_in_of c5 (by omega)
                  obtain ⟨n, hn0, hn, rfl⟩ := in200 h2.1
                  have n01 : t0 ≠ t1 := fun q => h2.2.1 (congrArg nI q)
                  have n02 : t0 ≠ t2 := fun q => h2.2.2.1 (congrArg nI q)
                  have n12 : t1 ≠ t2 := fun q => h2.2.2.2.1 ⟨congrArg nI q, Int32.not_lt.mp (nI_nn (by omega))⟩
                  have z0 := (hr.lot q0).z
                  have s0 := (hr.lot q0).st
                  have z1 := (hr.lot q1).z
                  have s1 := (hr.lot q1).st
                  have z2 := (hr.lot q2).z
                  have s2 := (hr.lot q2).st
                  obtain ⟨m1, m2, m3⟩ := hr.mb ha
                  have m4 : g (4 + 3 * a + 2) < 2147470000 := by omega
                  by_cases hf : g 0 = 24
                  · exact Or.inr ⟨-3, 3, Or.inr (Or.inr ⟨rfl, rfl⟩), fun G T w k o A c a1 a2 a3 => (o_asm_3_3 a1 a2.1 a2.2 ha hp q0 q1 q2 hn0 hn n01 n02 n12 hf).och a1 a2, fun G T m V od b1 => p_aMk_3_3 b1 h24 hb ha hp hn0 hn q0 q1 q2 n01 n02 n12 z0 s0 z1 s1 z2 s2 (Or.inl hf), fun G T m V od b1 => c_make_3_3 b1 h24 hb ha hp hn0 hn q0 q1 q2 n01 n02 n12 z0 s0 z1 s1 z2 s2 (Or.inl hf)⟩
                  · have h0 : g 0 < 24 := by omega
                    by_cases f0 : fewP g t0 n
                    · exact Or.inr ⟨-3, 3, Or.inr (Or.inr ⟨rfl, rfl⟩), fun G T w k o A c a1 a2 a3 => (o_asm_3_3_0 a1 a2.1 a2.2 ha hp q0 q1 q2 hn0 hn n01 n02 n12 h0 f0).och a1 a2, fun G T m V od b1 => p_aMk_3_3 b1 h24 hb ha hp hn0 hn q0 q1 q2 n01 n02 n12 z0 s0 z1 s1 z2 s2 (Or.inr (Or.inl f0)), fun G T m V od b1 => c_make_3_3 b1 h24 hb ha hp hn0 hn q0 q1 q2 n01 n02 n12 z0 s0 z1 s1 z2 s2 (Or.inr (Or.inl f0))⟩
                    · skip
                      by_cases f1 : fewP g t1 n
                      · exact Or.inr ⟨-3, 3, Or.inr (Or.inr ⟨rfl, rfl⟩), fun G T w k o A c a1 a2 a3 => (o_asm_3_3_1 a1 a2.1 a2.2 ha hp q0 q1 q2 hn0 hn n01 n02 n12 h0 f0 f1).och a1 a2, fun G T m V od b1 => p_aMk_3_3 b1 h24 hb ha hp hn0 hn q0 q1 q2 n01 n02 n12 z0 s0 z1 s1 z2 s2 (Or.inr (Or.inr (Or.inl f1))), fun G T m V od b1 => c_make_3_3 b1 h24 hb ha hp hn0 hn q0 q1 q2 n01 n02 n12 z0 s0 z1 s1 z2 s2 (Or.inr (Or.inr (Or.inl f1)))⟩
                      · skip
                        by_cases f2 : fewP g t2 n
                        · exact Or.inr ⟨-3, 3, Or.inr (Or.inr ⟨rfl, rfl⟩), fun G T w k o A c a1 a2 a3 => (o_asm_3_3_2 a1 a2.1 a2.2 ha hp q0 q1 q2 hn0 hn n01 n02 n12 h0 f0 f1 f2).och a1 a2, fun G T m V od b1 => p_aMk_3_3 b1 h24 hb ha hp hn0 hn q0 q1 q2 n01 n02 n12 z0 s0 z1 s1 z2 s2 (Or.inr (Or.inr (Or.inr (f2)))), fun G T m V od b1 => c_make_3_3 b1 h24 hb ha hp hn0 hn q0 q1 q2 n01 n02 n12 z0 s0 z1 s1 z2 s2 (Or.inr (Or.inr (Or.inr (f2))))⟩
                        · skip
                          obtain ⟨e0, he0⟩ := en_ex (few_n f0)
                          obtain ⟨e1, he1⟩ := en_ex (few_n f1)
                          obtain ⟨e2, he2⟩ := en_ex (few_n f2)
                          exact Or.inl ⟨_, _, N + n, ⟨by omega, by omega, ⟨by omega, S8.of (fun p9 hp9 => by rw [wrkI_lo (by omega) (by omega), takI_hd (by omega) (by omega), takI_hd (by omega) (by omega), takI_hd (by omega) (by omega), begG_lo (by omega) (by omega)])⟩, fun G T w k o A c a1 a2 a3 => ch_asm3 a1 a2.1 a2.2 a3 (by omega) rfl h0 ha hp hn0 hn q0 q1 q2 n01 n02 n12 f0 he0 f1 he1 f2 he2⟩, fun G T m V od b1 => p_aMk_0_3 b1 h24 hb ha hp hn0 hn q0 q1 q2 n01 n02 n12 z0 s0 z1 s1 z2 s2 h0 f0 f1 f2, fun G T m V od b1 => rf_n (g_makeNow3 b1 hb h0 hn ha m1 m2 m4 q0 (he0.here z0) q1 (he1.here z1) q2 (he2.here z2) n01 n02 n12) EqN.rfl, fun G T m V od V2 b1 b2 => rf_n (c_make_0_3 b1 h24 hb ha hp hn0 hn q0 q1 q2 n01 n02 n12 z0 s0 z1 s1 z2 s2 h0 f0 f1 f2 m1 m2 m4 (he0.here z0) (he1.here z1) (he2.here z2) b2) EqN.rfl⟩
            · rcases c4 with c4 | c4
              · rcases c5 with c5 | c5
                · subst c4 c5
                  have hz : ¬ (nI 1 ≤ y2 ∧ y2 ≤ nI 200) := fun q => h2 ⟨q, fun x => absurd x (nI_ne (by omega) (by decide) (by omega)), fun x => absurd x (nI_ne (by omega) (by decide) (by omega)), fun x => absurd x.2 (by decide), fun x => absurd x.2 (by decide)⟩
                  exact Or.inr ⟨-2, 2, Or.inr (Or.inl ⟨rfl, rfl⟩), fun G T w k o A c a1 a2 a3 => (o_asm_2a a1 a2.1 a2.2 ha hp q0 hz).och a1 a2, fun G T m V od b1 => p_aMk_2 b1 h24 h1 h2, fun G T m V od b1 => c_make_2 b1 h24 h1 h2⟩
                · obtain ⟨t2, q2, rfl⟩ := vp_in_of c5 (by omega)
                  subst c4
                  exact Or.inr ⟨-2, 2, Or.inr (Or.inl ⟨rfl, rfl⟩), fun G T w k o A c a1 a2 a3 => (o_asm_2d a1 a2.1 a2.2 ha hp q0 q2).och a1 a2, fun G T m V od b1 => p_aMk_2 b1 h24 h1 h2, fun G T m V od b1 => c_make_2 b1 h24 h1 h2⟩
              · obtain ⟨t1, q1, rfl⟩ := vp_in_of c4 (by omega)
                rcases c5 with c5 | c5
                · subst c5
                  by_cases tw : t0 = t1
                  · subst tw
                    exact Or.inr ⟨-2, 2, Or.inr (Or.inl ⟨rfl, rfl⟩), fun G T w k o A c a1 a2 a3 => (o_asm_2e a1 a2.1 a2.2 ha hp q0).och a1 a2, fun G T m V od b1 => p_aMk_2 b1 h24 h1 h2, fun G T m V od b1 => c_make_2 b1 h24 h1 h2⟩
                  · have hz : ¬ (nI 1 ≤ y2 ∧ y2 ≤ nI 200) := fun q => h2 ⟨q, nI_ne (by omega) (by omega) tw, nI_ne (by omega) (by decide) (by omega), fun x => absurd x.1 (nI_ne (by omega) (by decide) (by omega)), fun x => absurd x.2 (by decide)⟩
                    exact Or.inr ⟨-2, 2, Or.inr (Or.inl ⟨rfl, rfl⟩), fun G T w k o A c a1 a2 a3 => (o_asm_2b a1 a2.1 a2.2 ha hp q0 q1 hz).och a1 a2, fun G T m V od b1 => p_aMk_2 b1 h24 h1 h2, fun G T m V od b1 => c_make_2 b1 h24 h1 h2⟩
                · obtain ⟨t2, q2, rfl⟩ := vp_in_of c5 (by omega)
                  by_cases tw : t0 = t1 ∨ t0 = t2 ∨ t1 = t2
                  · exact Or.inr ⟨-2, 2, Or.inr (Or.inl ⟨rfl, rfl⟩), fun G T w k o A c a1 a2 a3 => (o_asm_2f a1 a2.1 a2.2 ha hp q0 q1 q2 tw).och a1 a2, fun G T m V od b1 => p_aMk_2 b1 h24 h1 h2, fun G T m V od b1 => c_make_2 b1 h24 h1 h2⟩
                  · have hz : ¬ (nI 1 ≤ y2 ∧ y2 ≤ nI 200) := fun q => h2 ⟨q, nI_ne (by omega) (by omega) (by omega), nI_ne (by omega) (by omega) (by omega), fun x => absurd x.1 (nI_ne (by omega) (by omega) (by omega)), fun x => absurd x.1 (nI_nn (by omega))⟩
                    exact Or.inr ⟨-2, 2, Or.inr (Or.inl ⟨rfl, rfl⟩), fun G T w k o A c a1 a2 a3 => (o_asm_2c a1 a2.1 a2.2 ha hp q0 q1 q2 hz).och a1 a2, fun G T m V od b1 => p_aMk_2 b1 h24 h1 h2, fun G T m V od b1 => c_make_2 b1 h24 h1 h2⟩
          · rcases c4 with c4 | c4
            · subst c4
              exact Or.inr ⟨-1, 1, Or.inl ⟨rfl, rfl⟩, fun G T w k o A c a1 a2 a3 => (o_asm_1e a1 a2.1 a2.2 ha hp q0 (fun q => c5 (Or.inl q)) (fun q => c5 (Or.inr q))).och a1 a2, fun G T m V od b1 => p_aMk_1 b1 h24 (fun q => c5 (q.2.2.2.2.imp (fun x => x.trans nI_m1.symm) id)), fun G T m V od b1 => c_make_1 b1 h24 (fun q => c5 (q.2.2.2.2.imp (fun x => x.trans nI_m1.symm) id))⟩
            · obtain ⟨t1, q1, rfl⟩ := vp_in_of c4 (by omega)
              exact Or.inr ⟨-1, 1, Or.inl ⟨rfl, rfl⟩, fun G T w k o A c a1 a2 a3 => (o_asm_1f a1 a2.1 a2.2 ha hp q0 q1 (fun q => c5 (Or.inl q)) (fun q => c5 (Or.inr q))).och a1 a2, fun G T m V od b1 => p_aMk_1 b1 h24 (fun q => c5 (q.2.2.2.2.imp (fun x => x.trans nI_m1.symm) id)), fun G T m V od b1 => c_make_1 b1 h24 (fun q => c5 (q.2.2.2.2.imp (fun x => x.trans nI_m1.symm) id))⟩
        · exact Or.inr ⟨-1, 1, Or.inl ⟨rfl, rfl⟩, fun G T w k o A c a1 a2 a3 => (o_asm_1d a1 a2.1 a2.2 ha hp q0 (fun q => c4 (Or.inl q)) (fun q => c4 (Or.inr q))).och a1 a2, fun G T m V od b1 => p_aMk_1 b1 h24 (fun q => c4 (q.2.2.2.1.imp (fun x => x.trans nI_m1.symm) id)), fun G T m V od b1 => c_make_1 b1 h24 (fun q => c4 (q.2.2.2.1.imp (fun x => x.trans nI_m1.symm) id))⟩
      · subst e0 e1
        exact Or.inr ⟨-1, 1, Or.inl ⟨rfl, rfl⟩, fun G T w k o A c a1 a2 a3 => (o_asm_1c a1 a2.1 a2.2 ha hp c3).och a1 a2, fun G T m V od b1 => p_aMk_1 b1 h24 (fun q => c3 q.2.2.1), fun G T m V od b1 => c_make_1 b1 h24 (fun q => c3 q.2.2.1)⟩
    · subst e0
      exact Or.inr ⟨-1, 1, Or.inl ⟨rfl, rfl⟩, fun G T w k o A c a1 a2 a3 => (o_asm_1b a1 a2.1 a2.2 ha c1).och a1 a2, fun G T m V od b1 => p_aMk_1 b1 h24 (fun q => c1 q.2.1), fun G T m V od b1 => c_make_1 b1 h24 (fun q => c1 q.2.1)⟩
  · exact Or.inr ⟨-1, 1, Or.inl ⟨rfl, rfl⟩, fun G T w k o A c a1 a2 a3 => (o_asm_1a a1 a2.1 a2.2 c0).och a1 a2, fun G T m V od b1 => p_aMk_1 b1 h24 (fun q => c0 q.1), fun G T m V od b1 => c_make_1 b1 h24 (fun q => c0 q.1)⟩
