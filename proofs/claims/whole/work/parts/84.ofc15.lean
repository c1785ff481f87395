/-! MAKING A LOT -/
/-- k of a new lot's rows are made, behind the object at a -/
def LN (S : Hp) (a k : Nat) (T : Hp) : Prop := zX T = zX S + k ∧ zU T = zU S + (if k = 0 then 0 else 3 + 200 * (k - 1)) ∧ (∀ j, 1 ≤ j → j ≤ k → zT T (a + j) = 101 ∧ zN T (a + j) = (if j = 1 then 3 else 200) ∧ zP T (233 + j) a = some (a + j) ∧ zA T (a + j) = fun _ => 0) ∧ (∀ b, b < zX S → (zT T b = zT S b ∧ zN T b = zN S b) ∧ (∀ f, zI T f b = zI S f b) ∧ zA T b = zA S b ∧ zL T b = zL S b ∧ zD T b = zD S b ∧ zQ T b = zQ S b ∧ (b ≠ a → ∀ f, zP T f b = zP S f b)) ∧ FS T
theorem LN.refl {S : Hp} {a : Nat} (h : FS S) : LN S a 0 S := ⟨rfl, rfl, fun j h1 h2 => by omega, fun b _ => ⟨⟨rfl, rfl⟩, fun _ => rfl, rfl, rfl, rfl, rfl, fun _ _ => rfl⟩, h⟩
theorem LN.step {S T : Hp} {a k t n : Nat} (ha : a + 1 = zX S) (hk : k < 7) (ht : t = 101) (hn : n = if k = 0 then 3 else 200) (h : LN S a k T) : LN S a (k + 1) (uP (nA T t n) (234 + k) a (some (zX T))) := by
  obtain ⟨h1, h2, h3, h4, h5⟩ := h
  have hx : zX T = a + (k + 1) := by omega
  have eT : ∀ b, b ≠ zX T → zT (uP (nA T t n) (234 + k) a (some (zX T))) b = zT T b := fun b hb => up1_n hb
  have eN : ∀ b, b ≠ zX T → zN (uP (nA T t n) (234 + k) a (some (zX T))) b = zN T b := fun b hb => up1_n hb
  have eP : ∀ f b, (f ≠ 234 + k ∨ b ≠ a) → zP (uP (nA T t n) (234 + k) a (some (zX T))) f b = zP T f b := fun f b hb => if_neg (by omega)
  have eA : ∀ b, b ≠ zX T → zA (uP (nA T t n) (234 + k) a (some (zX T))) b = zA T b := fun b hb => if_neg hb
  refine ⟨by show zX T + 1 = _; omega, ?_, fun j hj1 hj2 => ?_, fun b hb => ?_, fun b hb => ?_⟩
  · show zU T + n = _
    rw [h2, hn]
    by_cases c : k = 0
    · subst c; rfl
    · rw [if_neg c, if_neg c, if_neg (by omega)]; omega
  · by_cases c : j = k + 1
    · subst c
      rw [← hx]
      refine ⟨?_, ?_, ?_, if_pos rfl⟩
      · show up1 (zT T) (zX T) t (zX T) = _
        rw [up1_s, ht]
      · show up1 (zN T) (zX T) n (zX T) = _
        rw [up1_s, hn]
        by_cases d : k = 0
        · rw [if_pos d, if_pos (by omega)]
        · rw [if_neg d, if_neg (by omega)]
      · rw [show 233 + (k + 1) = 234 + k by omega]
        exact if_pos ⟨rfl, rfl⟩
    · obtain ⟨q1, q2, q3, q4⟩ := h3 j hj1 (by omega)
      rw [eT _ (by omega), eN _ (by omega), eP _ _ (by omega), eA _ (by omega)]
      exact ⟨q1, q2, q3, q4⟩
  · obtain ⟨⟨q1, q2⟩, q3, q4, q5, q6, q7, q8⟩ := h4 b hb
    have hbx : b ≠ zX T := by omega
    refine ⟨⟨by rw [eT b hbx]; exact q1, by rw [eN b hbx]; exact q2⟩, q3, by rw [eA b hbx]; exact q4, (show up1 (zL T) (zX T) _ b = _ from (if_neg hbx).trans q5), (show up1 (zD T) (zX T) _ b = _ from (if_neg hbx).trans q6), (show up1 (zQ T) (zX T) _ b = _ from (if_neg hbx).trans q7), fun hba f => by rw [eP f b (Or.inr hba)]; exact q8 hba f⟩
  · have : zX T + 1 ≤ b := hb
    rw [eT b (by omega)]
    exact h5 b (by omega)
theorem LN.lo {S T : Hp} {a : Nat} (ha : a + 1 = zX S) (h8 : zT S a = 8) (h : LN S a 7 T) : LoS T a := by
  obtain ⟨h1, h2, h3, h4, h5⟩ := h
  have e := fun j h1 h2 => h3 j h1 h2
  refine ⟨((h4 a (by omega)).1.1).trans h8, ⟨(e 1 (by decide) (by decide)).2.2.1, (e 2 (by decide) (by decide)).2.2.1, (e 3 (by decide) (by decide)).2.2.1, (e 4 (by decide) (by decide)).2.2.1, (e 5 (by decide) (by decide)).2.2.1, (e 6 (by decide) (by decide)).2.2.1, (e 7 (by decide) (by decide)).2.2.1⟩, ⟨(e 1 (by decide) (by decide)).1, (e 1 (by decide) (by decide)).2.1⟩, ⟨(e 2 (by decide) (by decide)).1, (e 2 (by decide) (by decide)).2.1⟩, ⟨(e 3 (by decide) (by decide)).1, (e 3 (by decide) (by decide)).2.1⟩, ⟨(e 4 (by decide) (by decide)).1, (e 4 (by decide) (by decide)).2.1⟩, ⟨(e 5 (by decide) (by decide)).1, (e 5 (by decide) (by decide)).2.1⟩, ⟨(e 6 (by decide) (by decide)).1, (e 6 (by decide) (by decide)).2.1⟩, ⟨(e 7 (by decide) (by decide)).1, (e 7 (by decide) (by decide)).2.1⟩⟩
theorem Wx.gp {M : MI} {G : GI} {S : Hp} {pc : Nat} {lv : List (Nat × Value)} {st : List Value} {Q : OV → Hp → Prop} (P : Hp → Prop) (hS : P S) (kk : ∀ T, P T → Wx M G T pc lv st Q) : Wx M G S pc lv st Q := kk S hS
set_option maxRecDepth 4000 in
set_option maxHeartbeats 400000 in
theorem k_lotInit {G : GI} {S : Hp} {a : Nat} (ha : a + 1 = zX S) (h8 : zT S a = 8) (hF : FS S) (hc : zX S + 7 ≤ gN G) (hs : zU S + 1203 ≤ gM G) : Cn m_X5_init G [.ref a] S (fun r T => r = .inl none ∧ LN S a 7 T) := by
  refine Cn.of rfl (by decide) (Nat.le_of_ble_eq_true rfl) (fun hN hM => ?_)
  show Wx _ G _ 0 [(0, .ref (a))] [] _
  refine r_aload_n dX5_init_0 rfl 0 rfl ?_
  refine r_objInit dX5_init_1 (sg2 118 rfl rfl) (sg1 45 rfl rfl) (sg1 46 rfl rfl) (by decide) (by decide) ?_
  refine Wx.gp (LN S a 0) (LN.refl hF) (fun T0 h0 => ?_)
  refine r_aload_n dX5_init_4 rfl 0 rfl ?_
  refine r_iconst (v := nI 3) dX5_init_5 (by decide) ?_
  refine r_new_int (N := 3) dX5_init_6 (sg1 78 rfl rfl) (nI_nn (by decide)) (nI_clamp (by decide)) (by decide) (by have := h0.1; omega) (by have := h0.2.1; rw [show (if 0 = 0 then 0 else 3 + 200 * (0 - 1)) = 0 from rfl] at this; omega) ?_
  refine r_putP (ci := 7) (k := 10) (x := some (zX T0)) dX5_init_8 fw_X5_init_9 (show up1 (zT T0) (zX T0) 101 a = 8 from (up1_n (by have := h0.1; omega)).trans ((h0.2.2.2.1 a (by omega)).1.1.trans h8)) rfl rfl ?_
  refine Wx.gp (LN S a 1) (LN.step ha (by decide) rfl rfl h0) (fun T1 h1 => ?_)
  refine r_aload_n dX5_init_11 rfl 0 rfl ?_
  refine r_sipush (v := nI 200) dX5_init_12 (by decide) ?_
  refine r_new_int (N := 200) dX5_init_15 (sg1 78 rfl rfl) (nI_nn (by decide)) (nI_clamp (by decide)) (by decide) (by have := h1.1; omega) (by have := h1.2.1; rw [show (if 1 = 0 then 0 else 3 + 200 * (1 - 1)) = 3 from rfl] at this; omega) ?_
  refine r_putP (ci := 7) (k := 11) (x := some (zX T1)) dX5_init_17 fw_X5_init_15 (show up1 (zT T1) (zX T1) 101 a = 8 from (up1_n (by have := h1.1; omega)).trans ((h1.2.2.2.1 a (by omega)).1.1.trans h8)) rfl rfl ?_
  refine Wx.gp (LN S a 2) (LN.step ha (by decide) rfl rfl h1) (fun T2 h2 => ?_)
  refine r_aload_n dX5_init_20 rfl 0 rfl ?_
  refine r_sipush (v := nI 200) dX5_init_21 (by decide) ?_
  refine r_new_int (N := 200) dX5_init_24 (sg1 78 rfl rfl) (nI_nn (by decide)) (nI_clamp (by decide)) (by decide) (by have := h2.1; omega) (by have := h2.2.1; rw [show (if 2 = 0 then 0 else 3 + 200 * (2 - 1)) = 203 from rfl] at this; omega) ?_
  refine r_putP (ci := 7) (k := 12) (x := some (zX T2)) dX5_init_26 fw_X5_init_18 (show up1 (zT T2) (zX T2) 101 a = 8 from (up1_n (by have := h2.1; omega)).trans ((h2.2.2.2.1 a (by omega)).1.1.trans h8)) rfl rfl ?_
  refine Wx.gp (LN S a 3) (LN.step ha (by decide) rfl rfl h2) (fun T3 h3 => ?_)
  refine r_aload_n dX5_init_29 rfl 0 rfl ?_
  refine r_sipush (v := nI 200) dX5_init_30 (by decide) ?_
  refine r_new_int (N := 200) dX5_init_33 (sg1 78 rfl rfl) (nI_nn (by decide)) (nI_clamp (by decide)) (by decide) (by have := h3.1; omega) (by have := h3.2.1; rw [show (if 3 = 0 then 0 else 3 + 200 * (3 - 1)) = 403 from rfl] at this; omega) ?_
  refine r_putP (ci := 7) (k := 13) (x := some (zX T3)) dX5_init_35 fw_X5_init_21 (show up1 (zT T3) (zX T3) 101 a = 8 from (up1_n (by have := h3.1; omega)).trans ((h3.2.2.2.1 a (by omega)).1.1.trans h8)) rfl rfl ?_
  refine Wx.gp (LN S a 4) (LN.step ha (by decide) rfl rfl h3) (fun T4 h4 => ?_)
  refine r_aload_n dX5_init_38 rfl 0 rfl ?_
  refine r_sipush (v := nI 200) dX5_init_39 (by decide) ?_
  refine r_new_int (N := 200) dX5_init_42 (sg1 78 rfl rfl) (nI_nn (by decide)) (nI_clamp (by decide)) (by decide) (by have := h4.1; omega) (by have := h4.2.1; rw [show (if 4 = 0 then 0 else 3 + 200 * (4 - 1)) = 603 from rfl] at this; omega) ?_
  refine r_putP (ci := 7) (k := 14) (x := some (zX T4)) dX5_init_44 fw_X5_init_24 (show up1 (zT T4) (zX T4) 101 a = 8 from (up1_n (by have := h4.1; omega)).trans ((h4.2.2.2.1 a (by omega)).1.1.trans h8)) rfl rfl ?_
  refine Wx.gp (LN S a 5) (LN.step ha (by decide) rfl rfl h4) (fun T5 h5 => ?_)
  refine r_aload_n dX5_init_47 rfl 0 rfl ?_
  refine r_sipush (v := nI 200) dX5_init_48 (by decide) ?_
  refine r_new_int (N := 200) dX5_init_51 (sg1 78 rfl rfl) (nI_nn (by decide)) (nI_clamp (by decide)) (by decide) (by have := h5.1; omega) (by have := h5.2.1; rw [show (if 5 = 0 then 0 else 3 + 200 * (5 - 1)) = 803 from rfl] at this; omega) ?_
  refine r_putP (ci := 7) (k := 15) (x := some (zX T5)) dX5_init_53 fw_X5_init_27 (show up1 (zT T5) (zX T5) 101 a = 8 from (up1_n (by have := h5.1; omega)).trans ((h5.2.2.2.1 a (by omega)).1.1.trans h8)) rfl rfl ?_
  refine Wx.gp (LN S a 6) (LN.step ha (by decide) rfl rfl h5) (fun T6 h6 => ?_)
  refine r_aload_n dX5_init_56 rfl 0 rfl ?_
  refine r_sipush (v := nI 200) dX5_init_57 (by decide) ?_
  refine r_new_int (N := 200) dX5_init_60 (sg1 78 rfl rfl) (nI_nn (by decide)) (nI_clamp (by decide)) (by decide) (by have := h6.1; omega) (by have := h6.2.1; rw [show (if 6 = 0 then 0 else 3 + 200 * (6 - 1)) = 1003 from rfl] at this; omega) ?_
  refine r_putP (ci := 7) (k := 16) (x := some (zX T6)) dX5_init_62 fw_X5_init_30 (show up1 (zT T6) (zX T6) 101 a = 8 from (up1_n (by have := h6.1; omega)).trans ((h6.2.2.2.1 a (by omega)).1.1.trans h8)) rfl rfl ?_
  refine Wx.gp (LN S a 7) (LN.step ha (by decide) rfl rfl h6) (fun T7 h7 => ?_)
  exact r_vret dX5_init_65 rfl ⟨rfl, h7⟩
/-- which numbers are of lot i -/
def inL (i j : Nat) : Prop := (90 + 13 * i ≤ j ∧ j < 90 + 13 * i + 13) ∨ (402 + 1600 * i ≤ j ∧ j < 402 + 1600 * i + 1600)
noncomputable def clC (c : Nat → Nat) (i : Nat) : Nat → Nat := fun j => @ite _ (inL i j) (Classical.propDecidable _) 0 (c j)
theorem clC_t {c : Nat → Nat} {i j : Nat} (h : inL i j) : clC c i j = 0 := if_pos h
theorem clC_f {c : Nat → Nat} {i j : Nat} (h : ¬ inL i j) : clC c i j = c j := if_neg h
theorem fre_up {A : Nat → Nat} {i a : Nat} (hi : i < 24) (hA : A i = 0) (ha : a ≠ 0) : fre (up1 A i a) + 1 = fre A := by
  have h1 := cnt_del (p := fun i => A i = 0) (a := i) hA 24
  rw [if_pos hi] at h1
  have h2 : cnt (fun v => A v = 0 ∧ ¬ v = i) 24 = fre (up1 A i a) := cnt_congr fun z _ => by
    by_cases e : z = i
    · subst e; rw [up1_s]; exact ⟨fun q => absurd rfl q.2, fun q => absurd q ha⟩
    · rw [up1_n e]; exact ⟨fun q => q.1, fun q => ⟨q, e⟩⟩
  have h3 : fre A = cnt (fun i => A i = 0) 24 := rfl
  omega
/-- an office with a lot more -/
theorem OX.new {S T : Hp} {w : Nat → Nat} {k o : Nat} {A c : Nat → Nat} {i : Nat} (h : OR S w k o A c) (hi : i < 24) (hA : A i = 0) (hL : LN (nO S 8 17) (zX S) 7 T) :
    OX S w A (uQ T (o + 3) i (some (zX S))) (fun b => if zX S ≤ b then 32 * k + i + 1 else w b) k o (up1 A i (zX S)) (clC c i) := by
  obtain ⟨h1, h2, h3, h4, h5⟩ := id h
  have hl8 : zT (nO S 8 17) (zX S) = 8 := zT_nO
  have hlo := LN.lo (S := nO S 8 17) rfl hl8 hL
  obtain ⟨l1, l2, l3, l4, l5⟩ := hL
  have hx : zX (nO S 8 17) = zX S + 1 := rfl
  have hu : zU (nO S 8 17) = zU S + 17 := rfl
  rw [hx] at l1 l4
  rw [hu, show (if 7 = 0 then 0 else 3 + 200 * (7 - 1)) = 1203 from rfl] at l2
  -- below, all is as it was
  have low : ∀ b, b < zX S → (zT T b = zT S b ∧ zN T b = zN S b) ∧ (∀ f, zI T f b = zI S f b) ∧ (∀ f, zP T f b = zP S f b) ∧ zA T b = zA S b ∧ zL T b = zL S b ∧ zD T b = zD S b ∧ zQ T b = zQ S b := fun b hb => by
    obtain ⟨⟨q1, q2⟩, q3, q4, q5, q6, q7, q8⟩ := l4 b (by omega)
    have hne : b ≠ zX S := by omega
    refine ⟨⟨q1.trans (up1_n hne), q2⟩, fun f => (q3 f).trans (if_neg hne), fun f => (q8 hne f).trans (if_neg hne), q4, q5, q6, q7⟩
  have hm : ∀ q, q < 16 → o + q < zX S := by
    obtain ⟨t1, -, t3, t4, t5, t6, t7, t8, t9⟩ := h1
    intro q hq
    refine h5.lt ?_
    by_cases c1 : q < 6
    · obtain rfl | rfl | rfl | rfl | rfl | rfl : q = 0 ∨ q = 1 ∨ q = 2 ∨ q = 3 ∨ q = 4 ∨ q = 5 := by omega
      · rw [Nat.add_zero, t1]; decide
      · rw [t3.1]; decide
      · rw [t4.1]; decide
      · rw [t5.1]; decide
      · rw [t6.1]; decide
      · rw [t7.1]; decide
    · by_cases c2 : q < 12
      · rw [show o + q = o + 6 + (q - 6) by omega, (t8 (q - 6) (by omega)).2]; decide
      · rw [show o + q = o + 12 + (q - 12) by omega, (t9 (q - 12) (by omega)).2]; decide
  have hz0 : zX S ≠ 0 := by have := hm 0 (by decide); omega
  have hlm : ∀ i2, i2 < 24 → A i2 ≠ 0 → ∀ q, q < 8 → A i2 + q < zX S := by
    intro i2 hi2 hA2 q hq
    rcases h3 i2 hi2 with h | ⟨-, -, hl, hwl⟩
    · exact absurd h.1 hA2
    · refine h5.lt ?_
      obtain ⟨t0, -, t1, t2, t3, t4, t5, t6, t7⟩ := hl
      obtain rfl | rfl | rfl | rfl | rfl | rfl | rfl | rfl : q = 0 ∨ q = 1 ∨ q = 2 ∨ q = 3 ∨ q = 4 ∨ q = 5 ∨ q = 6 ∨ q = 7 := by omega
      · rw [Nat.add_zero, t0]; decide
      · rw [t1.1]; decide
      · rw [t2.1]; decide
      · rw [t3.1]; decide
      · rw [t4.1]; decide
      · rw [t5.1]; decide
      · rw [t6.1]; decide
      · rw [t7.1]; decide
  have eQ : ∀ b j, (b ≠ o + 3 ∨ j ≠ i) → zQ (uQ T (o + 3) i (some (zX S))) b j = zQ T b j := fun b j hb => if_neg (by omega)
  have hcell : ∀ b, b < zX S → b ≠ o + 3 → Same S (uQ T (o + 3) i (some (zX S))) b := fun b hb hne => by
    obtain ⟨-, q3, q4, q5, q6, q7, q8⟩ := low b hb
    exact ⟨q3, q4, q5, q6, q7, (funext fun j => eQ b j (Or.inl hne)).trans q8⟩
  have hFS : FS (uQ T (o + 3) i (some (zX S))) := l5
  have hOR : OR (uQ T (o + 3) i (some (zX S))) (fun b => if zX S ≤ b then 32 * k + i + 1 else w b) k o (up1 A i (zX S)) (clC c i) := by
    refine ⟨?_, fun j hj => ?_, fun i2 hi2 => ?_, ?_, hFS⟩
    · -- the office's own shape
      obtain ⟨t1, t2, t3, t4, t5, t6, t7, t8, t9⟩ := h1
      have hh : ∀ q, q < 16 → (zT (uQ T (o + 3) i (some (zX S))) (o + q) = zT S (o + q) ∧ zN (uQ T (o + 3) i (some (zX S))) (o + q) = zN S (o + q)) := fun q hq => (low _ (hm q hq)).1
      have hc0 := hcell o (hm 0 (by decide)) (by omega)
      have hc1 := hcell (o + 1) (hm 1 (by decide)) (by omega)
      have hc2 := hcell (o + 2) (hm 2 (by decide)) (by omega)
      unfold OfS
      have e0 : zT (uQ T (o + 3) i (some (zX S))) o = zT S o := (hh 0 (by decide)).1
      rw [e0, hc0.2.1, hc0.2.1, hc0.2.1, hc0.2.1, hc0.2.1, (hh 1 (by decide)).1, (hh 1 (by decide)).2, (hh 2 (by decide)).1, (hh 2 (by decide)).2, (hh 3 (by decide)).1, (hh 3 (by decide)).2, (hh 4 (by decide)).1, (hh 4 (by decide)).2, (hh 5 (by decide)).1, (hh 5 (by decide)).2]
      refine ⟨t1, t2, t3, t4, t5, t6, t7, fun j hj => ?_, fun j hj => ?_⟩
      · rw [hc1.2.2.2.2.2, show o + 6 + j = o + (6 + j) by omega, (hh (6 + j) (by omega)).1]
        have := t8 j hj
        rw [show o + 6 + j = o + (6 + j) by omega] at this
        exact this
      · rw [hc2.2.2.2.2.2, show o + 12 + j = o + (12 + j) by omega, (hh (12 + j) (by omega)).1]
        have := t9 j hj
        rw [show o + 12 + j = o + (12 + j) by omega] at this
        exact this
    · show (if zX S ≤ o + j then _ else _) = _
      rw [if_neg (by have := hm j hj; omega)]
      exact h2 j hj
    · by_cases e : i2 = i
      · subst e
        refine Or.inr ⟨by rw [up1_s]; exact hz0, by rw [up1_s]; exact if_pos ⟨rfl, rfl⟩, by rw [up1_s]; exact hlo, fun j hj => ?_⟩
        rw [up1_s]
        exact if_pos (by omega)
      · rw [up1_n e, eQ _ _ (Or.inr e), (low (o + 3) (hm 3 (by decide))).2.2.2.2.2.2]
        rcases h3 i2 hi2 with q | ⟨q1, q2, q3, q4⟩
        · exact Or.inl q
        · refine Or.inr ⟨q1, q2, LoS.fr (fun j hj => ⟨(low _ (hlm i2 hi2 q1 j hj)).1, hcell _ (hlm i2 hi2 q1 j hj) (h3.neo h2 hi2 q1 hj (by decide))⟩) q3, fun j hj => ?_⟩
          show (if zX S ≤ A i2 + j then _ else _) = _
          rw [if_neg (by have := hlm i2 hi2 q1 j hj; omega)]
          exact q4 j hj
    · obtain ⟨c1, c2, c3, c4, c5, c6, c7, c8⟩ := h4
      have lI : ∀ f q, q < 16 → zI (uQ T (o + 3) i (some (zX S))) f (o + q) = zI S f (o + q) := fun f q hq => (low _ (hm q hq)).2.1 f
      have nl : ∀ j, ¬ inL i j → clC c i j = c j := fun j hj => clC_f hj
      refine ⟨?_, fun i2 hi2 f2 hf2 => ?_, fun i2 hi2 f2 hf2 => ?_, fun j2 hj2 => ?_, fun j2 hj2 => ?_, fun i2 hi2 hA2 f2 hf2 => ?_, fun i2 hi2 hA2 j2 hj2 => ?_, fun i2 hi2 hA2 u2 hu2 f2 hf2 => ?_⟩
      · have e := fun f => lI f 0 (by decide)
        simp only [Nat.add_zero] at e
        rw [e, e, e, e, nl 0 (by unfold inL; omega), nl 1 (by unfold inL; omega), nl 2 (by unfold inL; omega), nl 3 (by unfold inL; omega)]
        exact c1
      · rw [Nat.add_assoc o 6 i2, lI _ (6 + i2) (by omega), nl _ (by unfold inL; omega), ← Nat.add_assoc]
        exact c2 i2 hi2 f2 hf2
      · have := pf_lt hf2
        rw [Nat.add_assoc o 12 i2, lI _ (12 + i2) (by omega), nl _ (by unfold inL; omega), ← Nat.add_assoc]
        exact c3 i2 hi2 f2 hf2
      · rw [nl _ (by unfold inL; omega), (hcell (o + 4) (hm 4 (by decide)) (by omega)).2.2.1]
        exact c4 j2 hj2
      · rw [nl _ (by unfold inL; omega), (hcell (o + 5) (hm 5 (by decide)) (by omega)).2.2.1]
        exact c5 j2 hj2
      · have hlf := lf_lt hf2
        by_cases e : i2 = i
        · subst e
          rw [up1_s, clC_t (by unfold inL; omega)]
          show zI T (224 + f2) (zX S) = _
          rw [((l4 (zX S) (by omega)).2.1 (224 + f2))]
          show (if zX S = zX S then (0 : Int32) else _) = _
          rw [if_pos rfl]
          exact nI_0.symm
        · rw [up1_n e] at hA2 ⊢
          rw [nl _ (by unfold inL; omega), ← c6 i2 hi2 hA2 f2 hf2]
          exact (low _ (hlm i2 hi2 hA2 0 (by decide))).2.1 _
      · by_cases e : i2 = i
        · subst e
          rw [up1_s, clC_t (by unfold inL; omega)]
          show zA T (zX S + 1) j2 = _
          rw [(l3 1 (by decide) (by decide)).2.2.2]
          exact nI_0.symm
        · rw [up1_n e] at hA2 ⊢
          rw [nl _ (by unfold inL; omega), ← c7 i2 hi2 hA2 j2 hj2]
          show zA T (A i2 + 1) j2 = _
          rw [(low _ (hlm i2 hi2 hA2 1 (by decide))).2.2.2.1]
      · by_cases e : i2 = i
        · subst e
          rw [up1_s, clC_t (by unfold inL; omega), Nat.add_assoc]
          show zA T (zX S + (2 + f2)) u2 = _
          rw [(l3 (2 + f2) (by omega) (by omega)).2.2.2]
          exact nI_0.symm
        · rw [up1_n e] at hA2 ⊢
          rw [nl _ (by unfold inL; omega), ← c8 i2 hi2 hA2 u2 hu2 f2 hf2, Nat.add_assoc]
          show zA T (A i2 + (2 + f2)) u2 = _
          rw [(low _ (hlm i2 hi2 hA2 (2 + f2) (by omega))).2.2.2.1]
  have hfr := fre_up hi hA hz0
  have hxT : zX (uQ T (o + 3) i (some (zX S))) = zX S + 8 := by show zX T = _; omega
  have huT : zU (uQ T (o + 3) i (some (zX S))) = zU S + 1220 := by show zU T = _; omega
  refine ⟨hOR, fun b hb => ?_, fun b hb => if_neg (by omega), fun i2 hi2 => ?_, by omega, by omega, by omega, h5⟩
  · have hbl := h5.lt hb
    refine ⟨(low b hbl).1, fun hk => hcell b hbl fun he => hk ?_⟩
    rw [he, h2 3 (by decide)]
    omega
  · by_cases e : i2 = i
    · subst e; exact absurd hA hi2
    · exact up1_n e
