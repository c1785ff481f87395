/-! BLAME -/
def mrg (c G : Nat → Nat) : Nat → Nat := fun i => if 62 ≤ i ∧ i < 90 then G i else c i
theorem mrg_n {c G : Nat → Nat} {i : Nat} (h : i < 62 ∨ 90 ≤ i) : mrg c G i = c i := if_neg (by omega)
theorem mrg_b {c G : Nat → Nat} {i : Nat} (h : 62 ≤ i ∧ i < 90) : mrg c G i = G i := if_pos h
theorem mrg_self {c g : Nat → Nat} (h : ∀ j, j < 28 → c (62 + j) = g (62 + j)) : mrg c g = c := by
  funext i
  unfold mrg
  split
  · have := h (i - 62) (by omega)
    rw [show 62 + (i - 62) = i by omega] at this
    exact this.symm
  · rfl
theorem mrg_up {c G : Nat → Nat} {i v : Nat} (h : 62 ≤ i ∧ i < 90) : up1 (mrg c G) i v = mrg c (up1 G i v) := by
  funext j
  unfold up1 mrg
  by_cases e : j = i
  · subst e; rw [if_pos rfl, if_pos h]; exact (if_pos rfl).symm
  · rw [if_neg e]
    by_cases d : 62 ≤ j ∧ j < 90
    · rw [if_pos d, if_pos d]; exact (if_neg e).symm
    · rw [if_neg d, if_neg d]
theorem Org.ge {g g' : Nat → Nat} {q : Nat} (h : ∀ i, 90 ≤ i → g' i = g i) : ∀ {n l u l' u' : Nat}, Org g q n l u l' u' → Org g' q n l u l' u'
  | 0, l, u, l', u', o => by
    obtain ⟨h1, h2, h3, h4, h5⟩ := o
    exact ⟨h1, h2, by rw [h _ (by omega)]; exact h3, h4, h5⟩
  | n + 1, l, u, l', u', o => by
    obtain ⟨h1, h2, h3, i, hi, hp, hf, hn, ho⟩ := o
    have e1 : ∀ j, g' (90 + 13 * l + (10 + j)) = g (90 + 13 * l + (10 + j)) := fun j => h _ (by omega)
    have e2 : g' (402 + 2 * (200 * l + u) + 1) = g (402 + 2 * (200 * l + u) + 1) := h _ (by omega)
    refine ⟨h1, h2, by rw [h _ (by omega)]; exact h3, i, hi, fun j hj => ?_, fun j hj => ?_, ?_, ?_⟩
    · rw [e1, e2]; exact hp j hj
    · rw [e1, e2, h _ (by omega)]; exact hf j hj
    · rw [e1, e2, h _ (by omega)]; exact hn
    · rw [e1, e2]; exact Org.ge h ho
theorem insC_congr {g g' : Nat → Nat} {n : Nat} (h : ∀ i, 90 ≤ i → g' i = g i) : insC g' n = insC g n := cnt_congr fun i _ => by rw [h _ (by omega)]
theorem LT.congr {c c' g g' : Nat → Nat} {N N' n l : Nat} (hN : N ≤ N') (hc : ∀ i, 90 ≤ i → i < 60000 → c' i = c i) (hg : ∀ i, 90 ≤ i → g' i = g i) (hn : n ≤ 24) (hln : l < n) (hpz : ∀ l, l < n → g (90 + 13 * l + 1) ≤ 200) (h : LT c g N n l) : LT c' g' N' n l := by
  obtain ⟨⟨a1, a2, a3, a4, a5, a6, a7, a8, a9⟩, b1, b2, b3⟩ := h
  have eh : ∀ x y, g' (90 + 13 * x + y) = g (90 + 13 * x + y) := fun x y => hg _ (by omega)
  have ew : ∀ x y, g' (402 + 2 * (200 * x + y)) = g (402 + 2 * (200 * x + y)) := fun x y => hg _ (by omega)
  have ew1 : ∀ x y, g' (402 + 2 * (200 * x + y) + 1) = g (402 + 2 * (200 * x + y) + 1) := fun x y => hg _ (by omega)
  have ec : ∀ x y, y < 13 → x < 24 → c' (90 + 13 * x + y) = c (90 + 13 * x + y) := fun x y h1 h2 => hc _ (by omega) (by omega)
  have eu : ∀ x y z, x < 24 → y < 200 → z < 6 → c' (402 + 8 * (200 * x + y) + z) = c (402 + 8 * (200 * x + y) + z) := fun x y z h1 h2 h3 => hc _ (by omega) (by omega)
  have hz := hpz l hln
  refine ⟨⟨?_, ?_, ?_, ?_, ?_, ?_, fun k hk => ?_, fun j k hj hk => ?_, fun hi => ?_⟩, fun f hf => ?_, fun k hk => ?_, fun u hu => ?_⟩
  · rw [eh]; exact a1
  · rw [eh]; exact a2
  · rw [eh]; exact a3
  · rw [eh]; exact Nat.le_trans a4 hN
  · rw [eh]; exact a5
  · rw [eh]; exact a6
  · rw [eh] at hk ⊢; exact a7 k hk
  · rw [eh] at hk; rw [eh, eh]; exact a8 j k hj hk
  · rw [eh] at hi; rw [eh, eh, eh, eh]; exact a9 hi
  · rw [ec l f (by omega) (by omega), eh]; exact b1 f hf
  · rw [eh] at hk; rw [ec l (10 + k) (by omega) (by omega), eh]; exact b2 k hk
  · rw [eh] at hu
    have hu2 : u < 200 := by omega
    obtain ⟨q1, q2, q3, q4⟩ := b3 u hu
    have ep : ∀ k, pat g' l u k = pat g l u k := fun k => by unfold pat; rw [eh, ew1]
    have epw : ∀ k, g' (pat g l u k) = g (pat g l u k) := fun k => hg _ (by unfold pat; omega)
    refine ⟨?_, fun k hk => ?_, ⟨fun h3 => ?_, fun h3 => ?_⟩, ?_⟩
    · unfold RU at q1 ⊢
      have e0 := eu l u 0 (by omega) hu2 (by decide)
      rw [Nat.add_zero] at e0
      rw [e0, eu l u 1 (by omega) hu2 (by decide), eu l u 2 (by omega) hu2 (by decide), eu l u 3 (by omega) hu2 (by decide), eu l u 5 (by omega) hu2 (by decide), ew]
      exact q1
    · rw [eh] at hk
      obtain ⟨r1, r2, r3⟩ := q2 k hk
      have hpl := a7 k hk
      have hpz2 := hpz _ (show g (90 + 13 * l + (10 + k)) < n by omega)
      rw [eh, ew1, eh, ep, epw, eu _ _ 4 (by omega) (by omega) (by decide)]
      exact ⟨r1, r2, r3⟩
    · rw [ew] at h3
      obtain ⟨L, U, k, r1, r2, r3, r4, r5, r6⟩ := q3.1 h3
      exact ⟨L, U, k, r1, by rw [eh]; exact r2, by rw [eh]; exact r3, by rw [eh]; exact r4, by rw [ew1]; exact r5, by rw [eu l u 4 (by omega) hu2 (by decide)]; exact r6⟩
    · rw [ew] at h3
      rw [eu l u 4 (by omega) hu2 (by decide)]
      exact q3.2 h3
    · unfold WU at q4 ⊢
      rw [ew, eh]
      refine ⟨q4.1, q4.2.1, q4.2.2.1, fun q hq => ?_⟩
      obtain ⟨r1, r2, r3, r4⟩ := q4.2.2.2 q hq
      exact ⟨r1, r2, fun x y => by obtain ⟨k, hk, hb⟩ := r3 x y; exact ⟨k, hk, by rw [ep, epw]; exact hb⟩, fun x k hk => by rw [ep, epw]; exact r4 x k hk⟩
theorem HdP.congr {c c' g g' : Nat → Nat} {N N' p : Nat} (hp : p < 4) (hN : N ≤ N') (hc : ∀ i, 22 ≤ i → i < 62 → c' i = c i) (hg : ∀ i, 22 ≤ i → i < 62 → g' i = g i) (h : HdP c g N p) : HdP c' g' N' p := by
  unfold HdP at h ⊢
  obtain ⟨h1, h2⟩ := h
  refine ⟨fun f hf => by rw [hc _ (by omega) (by omega), hg _ (by omega) (by omega)]; exact h1 f hf, ?_⟩
  rw [hc _ (by omega) (by omega), hc _ (by omega) (by omega), hc _ (by omega) (by omega), hg _ (by omega) (by omega), hg _ (by omega) (by omega), hg _ (by omega) (by omega), hg _ (by omega) (by omega), hg _ (by omega) (by omega), hg _ (by omega) (by omega), hg _ (by omega) (by omega), hg _ (by omega) (by omega), hg _ (by omega) (by omega), hg _ (by omega) (by omega)]
  obtain ⟨q1, q2, q3, q4, q5, q6⟩ := h2
  exact ⟨q1, q2, q3, q4, q5, by omega⟩
/-- what lies ahead of the lots may change -/
theorem Rel.head {c c' g g' : Nat → Nat} {N N' : Nat} (hN : N ≤ N') (hc : ∀ i, 90 ≤ i → i < 60000 → c' i = c i) (hg : ∀ i, 90 ≤ i → g' i = g i) (h0 : g' 0 = g 0)
    (h1 : (∀ i, i < 4 → c' i = g' i) ∧ g' 3 < 2147483648 ∧ g' 1 ≤ N' ∧ g' 2 ≤ N') (h2 : ∀ i, i < 6 → (∀ f, f < 3 → c' (4 + 3 * i + f) = g' (4 + 3 * i + f)) ∧ g' (4 + 3 * i) ≤ 50 ∧ g' (4 + 3 * i + 1) < 4 ∧ g' (4 + 3 * i + 2) ≤ N')
    (h3 : ∀ p, p < 4 → HdP c' g' N' p) (h4 : ∀ j, j < 28 → c' (62 + j) = g' (62 + j) ∧ g' (62 + j) ≤ N') (h5 : ∀ p, p < 4 → g' (22 + 10 * p + 5) ≤ g (22 + 10 * p + 5)) (h : Rel c g N) : Rel c' g' N' :=
  ⟨⟨by rw [h0]; exact h.n24, h1⟩, h2, h3, h4, fun p hp => by rw [h0, insC_congr hg]; exact Nat.le_trans (h5 p hp) (h.mem hp),
    fun l hl => by rw [h0] at hl ⊢; exact LT.congr hN hc hg h.n24 hl (fun l hl => (h.lot hl).z) (h.lot hl), fun i hi => by rw [hg i (by omega)]; exact h.wb i hi⟩
theorem Rel.blm {c g G : Nat → Nat} {N N' : Nat} (hN : N ≤ N') (hG : ∀ i, i < 62 ∨ 90 ≤ i → G i = g i) (hb : ∀ j, j < 28 → G (62 + j) ≤ N') (h : Rel c g N) : Rel (mrg c G) G N' := by
  obtain ⟨⟨a1, a2, a3, a4, a5⟩, b, p, bl, m, l, wb⟩ := id h
  refine Rel.head hN (fun i h1 _ => mrg_n (by omega)) (fun i hi => hG i (by omega)) (hG 0 (by omega)) ⟨fun i hi => ?_, ?_, ?_, ?_⟩ (fun i hi => ?_) (fun p9 hp => HdP.congr hp hN (fun i h1 h2 => mrg_n (by omega)) (fun i h1 h2 => hG i (by omega)) (p p9 hp)) (fun j hj => ⟨mrg_b (by omega), hb j hj⟩) (fun p hp => by rw [hG _ (by omega)]; exact Nat.le_refl _) h
  · rw [mrg_n (by omega), hG i (by omega)]; exact a2 i hi
  · rw [hG 3 (by omega)]; exact a3
  · rw [hG 1 (by omega)]; omega
  · rw [hG 2 (by omega)]; omega
  · obtain ⟨r1, r2, r3, r4⟩ := b i hi
    refine ⟨fun f hf => by rw [mrg_n (by omega), hG _ (by omega)]; exact r1 f hf, ?_, ?_, ?_⟩
    · rw [hG _ (by omega)]; exact r2
    · rw [hG _ (by omega)]; exact r3
    · rw [hG _ (by omega)]; omega
theorem blmI_le {g cc : Nat → Nat} {l u ks N : Nat} (h : ∀ j, j < 28 → g (62 + j) ≤ N) : ∀ q j, j < 28 → blmI g cc l u ks q (62 + j) ≤ N + q
  | 0, j, hj => h j hj
  | q + 1, j, hj => by
    have ih := blmI_le (cc := cc) (l := l) (u := u) (ks := ks) h q
    by_cases c : (g (402 + 2 * (200 * l + u)) % 16 &&& ks) / 2 ^ q % 2 = 1
    · rw [blmI_t c]
      unfold up1
      split
      · rename_i e
        have := ih j hj
        rw [← e]; omega
      · have := ih j hj; omega
    · rw [blmI_f c]; have := ih j hj; omega
theorem blm_step {c g cc : Nat → Nat} {l u ks q : Nat} (hq : q < 4) (h6 : cc q ≤ 6) (h : (g (402 + 2 * (200 * l + u)) % 16 &&& ks) / 2 ^ q % 2 = 1) : up1 (mrg c (blmI g cc l u ks q)) (62 + (cc q * 4 + q)) (mrg c (blmI g cc l u ks q) (62 + (cc q * 4 + q)) + 1) = mrg c (blmI g cc l u ks (q + 1)) := by
  rw [blmI_t h, mrg_up (by omega), mrg_b (by omega), show 62 + (cc q * 4 + q) = 62 + 4 * cc q + q by omega]
theorem and_bit {a b q : Nat} (h : (a &&& b) / 2 ^ q % 2 = 1) : a / 2 ^ q % 2 = 1 := by
  rw [tb_dm, Nat.testBit_and] at h
  rw [tb_dm]
  by_cases c : a.testBit q = true
  · rw [if_pos c]
  · rw [Bool.not_eq_true _ |>.mp c, Bool.false_and] at h
    exact absurd h (by decide)
set_option maxRecDepth 4000 in
set_option maxHeartbeats 400000 in
theorem o_blame {G : GI} {S : Hp} {w : Nat → Nat} {k o : Nat} {A c g : Nat → Nat} {N : Nat} (h : OR S w k o A c) (hr : Rel c g N) (hal : ∀ l, l < g 0 → A l ≠ 0) {l : Nat} (hl : l < g 0) {u : Nat} (hu : u < g (90 + 13 * l + 1)) {ks : Nat} {cc : Nat → Nat} (hk : ks < 16) (hcc : CauC g l u ks cc) : OFn m_X7_blameDefects G [.ref (o), .int (nI l), .int (nI u), .int (nI (g (402 + 2 * (200 * l + u)) % 16 &&& ks))] S w k o A none (mrg c (blmG g cc l u ks)) := by
  refine Cn.of rfl (by decide) (Nat.le_of_ble_eq_true rfl) (fun hN hM => ?_)
  show Wx _ G _ 0 [(0, .ref (o)), (1, .int (nI (l))), (2, .int (nI (u))), (3, .int (nI (g (402 + 2 * (200 * l + u)) % 16 &&& ks)))] [] _
  have hx := OX.refl h
  have h24 := hr.n24
  have hl24 : l < 24 := by omega
  have hAl := hal l hl
  have hL := hr.lot hl
  have hz := hL.z
  refine r_iconst (v := nI 0) dX7_blameDefects_0 (by decide) ?_
  refine r_istore (lv' := [(4, .int (nI (0))), (0, .ref (o)), (1, .int (nI (l))), (2, .int (nI (u))), (3, .int (nI (g (402 + 2 * (200 * l + u)) % 16 &&& ks)))]) dX7_blameDefects_1 (by decide) rfl ?_
  refine Wx.sub [1, 2, 3, 4, 0] rfl ?_
  refine Wx.loopR (fun q T lv => OX S w A T w k o A (mrg c (blmI g cc l u ks q)) ∧ lv = [(0, .ref (o)), (1, .int (nI (l))), (2, .int (nI (u))), (3, .int (nI (g (402 + 2 * (200 * l + u)) % 16 &&& ks))), (4, .int (nI (q)))]) (4) (0) (Nat.zero_le _) ⟨(show OX S w A S w k o A (mrg c (blmI g cc l u ks 0)) from (mrg_self (fun j hj => hr.b hj)).symm ▸ hx), rfl⟩ (fun q T lv hge hle hI9 next => ?_)
  obtain ⟨hx, rfl⟩ := hI9
  have hG : ∀ i, i < 62 ∨ 90 ≤ i → blmI g cc l u ks q i = g i := fun i hi => blmI_n hcc.1 hi (by omega)
  have hrq : Rel (mrg c (blmI g cc l u ks q)) (blmI g cc l u ks q) (N + q) := Rel.blm (by omega) hG (blmI_le (fun j hj => hr.bb hj) q) hr
  have halq : ∀ z, z < (blmI g cc l u ks q) 0 → A z ≠ 0 := fun z hz9 => hal z (by rw [hG 0 (by omega)] at hz9; exact hz9)
  refine r_iload dX7_blameDefects_3 4 rfl ?_
  refine r_iconst (v := nI 4) dX7_blameDefects_5 (by decide) ?_
  refine r_icmp_geN (tgt := 78) dX7_blameDefects_6 (by decide) (by (first | omega | (have hq8 : 2 ^ q ≤ 2 ^ 3 := Nat.pow_le_pow_right (by decide) (by omega); omega) | (refine Nat.lt_of_le_of_lt Nat.and_le_left ?_; first | omega | (refine Nat.lt_of_le_of_lt Nat.and_le_left ?_; omega)))) (by (first | omega | (have hq8 : 2 ^ q ≤ 2 ^ 3 := Nat.pow_le_pow_right (by decide) (by omega); omega) | (refine Nat.lt_of_le_of_lt Nat.and_le_left ?_; first | omega | (refine Nat.lt_of_le_of_lt Nat.and_le_left ?_; omega)))) (fun h6 => ?_) (fun h6 => ?_)
  · obtain rfl : q = 4 := by omega
    exact r_vret dX7_blameDefects_78 rfl ⟨rfl, hx⟩
  · refine r_iload_n dX7_blameDefects_9 rfl 3 rfl ?_
    refine r_iconst (v := nI 1) dX7_blameDefects_10 (by decide) ?_
    refine r_iload dX7_blameDefects_11 4 rfl ?_
    refine r_ishlN dX7_blameDefects_13 (by (first | omega | (have hq8 : 2 ^ q ≤ 2 ^ 3 := Nat.pow_le_pow_right (by decide) (by omega); omega) | (refine Nat.lt_of_le_of_lt Nat.and_le_left ?_; first | omega | (refine Nat.lt_of_le_of_lt Nat.and_le_left ?_; omega)))) (by (first | omega | (have hq8 : 2 ^ q ≤ 2 ^ 3 := Nat.pow_le_pow_right (by decide) (by omega); omega) | (refine Nat.lt_of_le_of_lt Nat.and_le_left ?_; first | omega | (refine Nat.lt_of_le_of_lt Nat.and_le_left ?_; omega)))) ?_
    refine r_iandN dX7_blameDefects_14 (by (first | omega | (have hq8 : 2 ^ q ≤ 2 ^ 3 := Nat.pow_le_pow_right (by decide) (by omega); omega) | (refine Nat.lt_of_le_of_lt Nat.and_le_left ?_; first | omega | (refine Nat.lt_of_le_of_lt Nat.and_le_left ?_; omega)))) (by (first | omega | (have hq8 : 2 ^ q ≤ 2 ^ 3 := Nat.pow_le_pow_right (by decide) (by omega); omega) | (refine Nat.lt_of_le_of_lt Nat.and_le_left ?_; first | omega | (refine Nat.lt_of_le_of_lt Nat.and_le_left ?_; omega)))) ?_
    refine r_if_eqN (tgt := 72) dX7_blameDefects_15 (by decide) (by (first | omega | (have hq8 : 2 ^ q ≤ 2 ^ 3 := Nat.pow_le_pow_right (by decide) (by omega); omega) | (refine Nat.lt_of_le_of_lt Nat.and_le_left ?_; first | omega | (refine Nat.lt_of_le_of_lt Nat.and_le_left ?_; omega)))) (fun h15 => ?_) (fun h15 => ?_)
    · refine r_iincN (k := 1) (lv' := [(4, .int (nI (q + 1))), (0, .ref (o)), (1, .int (nI (l))), (2, .int (nI (u))), (3, .int (nI (g (402 + 2 * (200 * l + u)) % 16 &&& ks)))]) dX7_blameDefects_72 (by decide) 4 rfl (by decide) rfl ?_
      refine r_goto (tgt := 3) dX7_blameDefects_75 (by decide) ?_
      refine Wx.sub [1, 2, 3, 4, 0] rfl ?_
      exact next _ _ (by omega) ⟨(by rw [blmI_f (and_b.mp h15)]; exact hx), rfl⟩
    · have hbit : (g (402 + 2 * (200 * l + u)) % 16 &&& ks) / 2 ^ q % 2 = 1 := Classical.not_not.mp fun q9 => h15 (and_b.mpr q9)
      obtain ⟨m, l', u', ho, hcq⟩ := hcc.2 q (by omega) hbit
      have hb1 : bW (g (402 + 2 * (200 * l + u))) q = 1 := and_bit hbit
      obtain ⟨i1, i2, i3, i4⟩ := Org.in hr (by omega) ho hl hu hb1
      have hc6 := hcc.1 q
      have hoG := Org.ge (fun i hi => hG i (by omega)) ho
      refine r_aload_n dX7_blameDefects_18 rfl 0 rfl ?_
      refine r_aload_n dX7_blameDefects_19 rfl 0 rfl ?_
      refine r_iload_n dX7_blameDefects_20 rfl 1 rfl ?_
      refine r_iload_n dX7_blameDefects_21 rfl 2 rfl ?_
      refine r_fnS (M2 := m_X12_placeOf) (As := [.int (nI (l)), .int (nI (u))]) (rest := [.ref (o), .ref (o)]) (v := some (.int (nI (1000 * l + u)))) dX7_blameDefects_22 cc_X7_blameDefects_143 rfl rfl rfl (Nat.le_of_ble_eq_true rfl) o_placeOf rfl ?_
      refine r_iload dX7_blameDefects_25 4 rfl ?_
      refine r_fnV (M2 := m_X7_originOf) (As := [.int (nI (1000 * l + u)), .int (nI (q))]) (rest := [.ref (o)]) (v := some (.int (nI (1000 * l' + u')))) dX7_blameDefects_27 cc_X7_blameDefects_220 rfl rfl rfl (Nat.le_of_ble_eq_true rfl) hx.1.1.1 rfl rfl (by decide) (o_originOf hx.1 hrq halq (l := l) (by rw [hG 0 (by omega)]; exact hl) (u := u) (by rw [hG _ (by omega)]; exact hu) (by omega) hoG (by rw [hG _ (by omega)]; exact hb1) (by omega)) rfl ?_
      refine r_iload dX7_blameDefects_30 4 rfl ?_
      refine r_fnV (M2 := m_X7_causeAt) (As := [.int (nI (1000 * l' + u')), .int (nI (q))]) (rest := []) (v := some (.int (nI (cauV (blmI g cc l u ks q) q l' u')))) dX7_blameDefects_32 cc_X7_blameDefects_223 rfl rfl rfl (Nat.le_of_ble_eq_true rfl) hx.1.1.1 rfl rfl (by decide) (o_causeAt hx.1 hrq halq (l := l') (by rw [hG 0 (by omega)]; exact i1) (u := u') (by rw [hG _ (by omega)]; exact i2) (q := q) (by omega)) rfl ?_
      refine Wx.topN (show cauV (blmI g cc l u ks q) q l' u' = cc q from by unfold cauV; rw [hG _ (by omega), hG _ (by omega)]; exact hcq.symm) ?_
      refine r_istore (lv' := [(5, .int (nI (cc q))), (0, .ref (o)), (1, .int (nI (l))), (2, .int (nI (u))), (3, .int (nI (g (402 + 2 * (200 * l + u)) % 16 &&& ks))), (4, .int (nI (q)))]) dX7_blameDefects_35 (by decide) rfl ?_
      refine r_iload dX7_blameDefects_37 0 rfl ?_
      refine r_iconst (v := nI 4) dX7_blameDefects_39 (by decide) ?_
      refine r_imulN dX7_blameDefects_40 ?_
      refine r_iload dX7_blameDefects_41 5 rfl ?_
      refine r_iaddN dX7_blameDefects_43 ?_
      refine r_istore (lv' := [(6, .int (nI ((cc q) * 4 + q))), (5, .int (nI (cc q))), (0, .ref (o)), (1, .int (nI (l))), (2, .int (nI (u))), (3, .int (nI (g (402 + 2 * (200 * l + u)) % 16 &&& ks))), (4, .int (nI (q)))]) dX7_blameDefects_44 (by decide) rfl ?_
      refine r_iload dX7_blameDefects_46 0 rfl ?_
      refine r_if_ltN (tgt := 72) dX7_blameDefects_48 (by decide) (by (first | omega | (have hq8 : 2 ^ q ≤ 2 ^ 3 := Nat.pow_le_pow_right (by decide) (by omega); omega) | (refine Nat.lt_of_le_of_lt Nat.and_le_left ?_; first | omega | (refine Nat.lt_of_le_of_lt Nat.and_le_left ?_; omega)))) ?_
      refine r_iload dX7_blameDefects_51 0 rfl ?_
      refine r_aload_n dX7_blameDefects_53 rfl 2 rfl ?_
      refine r_getR (ci := 9) (k := 3) (b := o + 4) dX7_blameDefects_54 fr_X7_29 hx.1.1.1 rfl hx.1.1.2.1.2.2.2.1 ?_
      refine r_alen101 dX7_blameDefects_57 hx.1.1.2.2.2.2.2.1.1 ?_
      refine Wx.top (congrArg nI hx.1.1.2.2.2.2.2.1.2) ?_
      refine r_icmp_geN (tgt := 72) dX7_blameDefects_58 (by decide) (by (first | omega | (have hq8 : 2 ^ q ≤ 2 ^ 3 := Nat.pow_le_pow_right (by decide) (by omega); omega) | (refine Nat.lt_of_le_of_lt Nat.and_le_left ?_; first | omega | (refine Nat.lt_of_le_of_lt Nat.and_le_left ?_; omega)))) (by (first | omega | (have hq8 : 2 ^ q ≤ 2 ^ 3 := Nat.pow_le_pow_right (by decide) (by omega); omega) | (refine Nat.lt_of_le_of_lt Nat.and_le_left ?_; first | omega | (refine Nat.lt_of_le_of_lt Nat.and_le_left ?_; omega)))) (fun h58 => ?_) (fun h58 => ?_)
      · exact absurd h58 (by omega)
      · refine r_aload_n dX7_blameDefects_61 rfl 2 rfl ?_
        refine r_getR (ci := 9) (k := 3) (b := o + 4) dX7_blameDefects_62 fr_X7_29 hx.1.1.1 rfl hx.1.1.2.1.2.2.2.1 ?_
        refine r_iload dX7_blameDefects_65 0 rfl ?_
        refine r_dup2 dX7_blameDefects_67 rfl rfl ?_
        refine r_iald dX7_blameDefects_68 hx.1.1.2.2.2.2.2.1.1 (by rw [show zN T (o + 4) = 28 from hx.1.1.2.2.2.2.2.1.2]; exact vp_in_nI (by (first | omega | (have hq8 : 2 ^ q ≤ 2 ^ 3 := Nat.pow_le_pow_right (by decide) (by omega); omega) | (refine Nat.lt_of_le_of_lt Nat.and_le_left ?_; first | omega | (refine Nat.lt_of_le_of_lt Nat.and_le_left ?_; omega)))) (by decide)) ?_
        refine Wx.top (congrArg (zA _ _) (nI_clamp (by (first | omega | (have hq8 : 2 ^ q ≤ 2 ^ 3 := Nat.pow_le_pow_right (by decide) (by omega); omega) | (refine Nat.lt_of_le_of_lt Nat.and_le_left ?_; first | omega | (refine Nat.lt_of_le_of_lt Nat.and_le_left ?_; omega)))))) ?_
        refine Wx.top (hx.1.b (j := (cc q) * 4 + q) (by (first | omega | (have hq8 : 2 ^ q ≤ 2 ^ 3 := Nat.pow_le_pow_right (by decide) (by omega); omega) | (refine Nat.lt_of_le_of_lt Nat.and_le_left ?_; first | omega | (refine Nat.lt_of_le_of_lt Nat.and_le_left ?_; omega))))) ?_
        refine r_iconst (v := nI 1) dX7_blameDefects_69 (by decide) ?_
        refine r_iaddN dX7_blameDefects_70 ?_
        refine r_iast dX7_blameDefects_71 hx.1.1.2.2.2.2.2.1.1 (by rw [show zN T (o + 4) = 28 from hx.1.1.2.2.2.2.2.1.2]; exact vp_in_nI (by (first | omega | (have hq8 : 2 ^ q ≤ 2 ^ 3 := Nat.pow_le_pow_right (by decide) (by omega); omega) | (refine Nat.lt_of_le_of_lt Nat.and_le_left ?_; first | omega | (refine Nat.lt_of_le_of_lt Nat.and_le_left ?_; omega)))) (by decide)) ?_
        refine Wx.st' (S' := uA T (o + 4) ((cc q) * 4 + q) (nI ((mrg c (blmI g cc l u ks q)) (62 + ((cc q) * 4 + q)) + 1))) (by rw [nI_clamp (by (first | omega | (have hq8 : 2 ^ q ≤ 2 ^ 3 := Nat.pow_le_pow_right (by decide) (by omega); omega) | (refine Nat.lt_of_le_of_lt Nat.and_le_left ?_; first | omega | (refine Nat.lt_of_le_of_lt Nat.and_le_left ?_; omega))))]) ?_
        refine Wx.gx ((hx.B (j := (cc q) * 4 + q) (by (first | omega | (have hq8 : 2 ^ q ≤ 2 ^ 3 := Nat.pow_le_pow_right (by decide) (by omega); omega) | (refine Nat.lt_of_le_of_lt Nat.and_le_left ?_; first | omega | (refine Nat.lt_of_le_of_lt Nat.and_le_left ?_; omega)))))) (fun T_1 (hx_1 : OX S w A T_1 w k o A (up1 (mrg c (blmI g cc l u ks q)) (62 + ((cc q) * 4 + q)) ((mrg c (blmI g cc l u ks q)) (62 + ((cc q) * 4 + q)) + 1))) => ?_)
        refine r_iincN (k := 1) (lv' := [(4, .int (nI (q + 1))), (6, .int (nI ((cc q) * 4 + q))), (5, .int (nI (cc q))), (0, .ref (o)), (1, .int (nI (l))), (2, .int (nI (u))), (3, .int (nI (g (402 + 2 * (200 * l + u)) % 16 &&& ks)))]) dX7_blameDefects_72 (by decide) 6 rfl (by decide) rfl ?_
        refine r_goto (tgt := 3) dX7_blameDefects_75 (by decide) ?_
        refine Wx.sub [3, 4, 5, 6, 0] rfl ?_
        exact next _ _ (by omega) ⟨(blm_step (c := c) (by omega) (hcc.1 q) hbit ▸ hx_1), rfl⟩
