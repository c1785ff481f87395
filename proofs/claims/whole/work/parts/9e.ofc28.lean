/-! AN OFFICE MADE -/
def oiT (j : Nat) : Nat := if j = 1 then 113 else if j = 2 then 115 else if j = 3 then 112 else 101
def oiN (j : Nat) : Nat := if j = 1 then 6 else if j = 2 then 4 else if j = 3 then 24 else if j = 4 then 28 else 200
def oiP (f : Nat) : Nat := if f = 0 then 5 else if f = 1 then 15 else if f = 2 then 3 else 0
/-- below a all is as it was -/
def Lw (S T : Hp) (a : Nat) : Prop := ∀ b, b < a → (zT T b = zT S b ∧ zN T b = zN S b) ∧ Same S T b
theorem Lw.rfl {S : Hp} {a : Nat} : Lw S S a := fun _ _ => ⟨⟨_root_.rfl, _root_.rfl⟩, Same.rfl⟩
theorem Lw.trans {S T U : Hp} {a : Nat} (h : Lw S T a) (q : Lw T U a) : Lw S U a := fun b hb => ⟨⟨(q b hb).1.1.trans (h b hb).1.1, (q b hb).1.2.trans (h b hb).1.2⟩, (h b hb).2.trans (q b hb).2⟩
theorem Lw.le {S T : Hp} {a b : Nat} (hb : b ≤ a) (h : Lw S T a) : Lw S T b := fun c hc => h c (by omega)
theorem Lw.fr {S T : Hp} {a : Nat} {w : Nat → Nat} {k : Nat} (hF : FS S) (ha : zX S ≤ a) (h : Lw S T a) : Fr w k S T := fun b hb => ⟨(h b (by have := hF.lt hb; omega)).1, fun _ => (h b (by have := hF.lt hb; omega)).2⟩
theorem Lw.nA {S : Hp} {a t n : Nat} (ha : a ≤ zX S) : Lw S (nA S t n) a := fun b hb => ⟨⟨up1_n (by omega), up1_n (by omega)⟩, ⟨fun _ => _root_.rfl, fun _ => _root_.rfl, up1_n (by omega), up1_n (by omega), up1_n (by omega), up1_n (by omega)⟩⟩
theorem Lw.nO {S : Hp} {a t n : Nat} (ha : a ≤ zX S) : Lw S (nO S t n) a := fun b hb => ⟨⟨up1_n (by omega), _root_.rfl⟩, ⟨fun _ => if_neg (by omega), fun _ => if_neg (by omega), _root_.rfl, _root_.rfl, _root_.rfl, _root_.rfl⟩⟩
theorem Lw.uP {S : Hp} {a b f : Nat} {x : Option Nat} (ha : a ≤ b) : Lw S (uP S f b x) a := fun c hc => ⟨⟨_root_.rfl, _root_.rfl⟩, ⟨fun _ => _root_.rfl, fun _ => if_neg (by omega), _root_.rfl, _root_.rfl, _root_.rfl, _root_.rfl⟩⟩
theorem Lw.uI {S : Hp} {a b f : Nat} {x : Int32} (ha : a ≤ b) : Lw S (uI S f b x) a := fun c hc => ⟨⟨_root_.rfl, _root_.rfl⟩, ⟨fun _ => if_neg (by omega), fun _ => _root_.rfl, _root_.rfl, _root_.rfl, _root_.rfl, _root_.rfl⟩⟩
theorem Lw.uA {S : Hp} {a b i : Nat} {x : Int32} (ha : a ≤ b) : Lw S (uA S b i x) a := fun c hc => ⟨⟨_root_.rfl, _root_.rfl⟩, ⟨fun _ => _root_.rfl, fun _ => _root_.rfl, funext fun _ => if_neg (by omega), _root_.rfl, _root_.rfl, _root_.rfl⟩⟩
theorem Lw.uQ {S : Hp} {a b i : Nat} {x : Option Nat} (ha : a ≤ b) : Lw S (uQ S b i x) a := fun c hc => ⟨⟨_root_.rfl, _root_.rfl⟩, ⟨fun _ => _root_.rfl, fun _ => _root_.rfl, _root_.rfl, _root_.rfl, _root_.rfl, funext fun _ => if_neg (by omega)⟩⟩
/-- r of an office's five rows are made, behind the object at a -/
def OB (S : Hp) (a r u : Nat) (T : Hp) : Prop := zX T = a + 1 + r ∧ zU T = zU S + u ∧ FS T ∧ Lw S T a ∧ (zT T a = 10 ∧ ∀ f, zI T f a = 0) ∧ ∀ j, 1 ≤ j → j ≤ r → (zT T (a + j) = oiT j ∧ zN T (a + j) = oiN j) ∧ zP T (287 + j) a = some (a + j) ∧ (zQ T (a + j) = fun _ => none) ∧ (zA T (a + j) = fun _ => 0)
theorem OB.step {S T : Hp} {a r u t n : Nat} (hr : r < 5) (ht : t = oiT (r + 1)) (hn : n = oiN (r + 1)) (h : OB S a r u T) : OB S a (r + 1) (u + n) (uP (nA T t n) (288 + r) a (some (zX T))) := by
  obtain ⟨h1, h2, h3, h4, ⟨h5, h6⟩, h7⟩ := h
  refine ⟨by show zX T + 1 = _; omega, by show zU T + n = _; omega, fun b hb => ?_, (h4.trans (Lw.nA (by omega))).trans (Lw.uP (Nat.le_refl _)), ⟨(up1_n (by omega)).trans h5, h6⟩, fun j hj1 hj2 => ?_⟩
  · have hb2 : zX T + 1 ≤ b := hb
    exact (up1_n (by omega)).trans (h3 b (by omega))
  · by_cases e : j = r + 1
    · subst e
      have hx : a + (r + 1) = zX T := by omega
      rw [hx]
      refine ⟨⟨(up1_s).trans ht, (up1_s).trans hn⟩, if_pos ⟨by omega, rfl⟩, up1_s, up1_s⟩
    · obtain ⟨⟨q1, q2⟩, q3, q4, q5⟩ := h7 j hj1 (by omega)
      have hne : a + j ≠ zX T := by omega
      exact ⟨⟨(up1_n hne).trans q1, (up1_n hne).trans q2⟩, (if_neg (by omega)).trans q3, (up1_n hne).trans q4, (up1_n hne).trans q5⟩
def OL (S : Hp) (a j p : Nat) (T : Hp) : Prop := zX T = a + 6 + j + p ∧ zU T = zU S + 262 + 3 * j + 9 * p ∧ FS T ∧ Lw S T a ∧ (zT T a = 10 ∧ (∀ f, f < 3 → zI T (293 + f) a = 0) ∧ zI T 296 a = nI 1) ∧ (∀ q, 1 ≤ q → q ≤ 5 → (zT T (a + q) = oiT q ∧ zN T (a + q) = oiN q) ∧ zP T (287 + q) a = some (a + q) ∧ (zA T (a + q) = fun _ => 0)) ∧ (zQ T (a + 3) = fun _ => none) ∧
  (∀ i, i < j → zQ T (a + 1) i = some (a + 6 + i) ∧ zT T (a + 6 + i) = 9 ∧ ∀ f, f < 3 → zI T (256 + f) (a + 6 + i) = 0) ∧ (∀ i, i < p → zQ T (a + 2) i = some (a + 12 + i) ∧ zT T (a + 12 + i) = 11 ∧ ∀ f, f < 9 → zI T (320 + f) (a + 12 + i) = nI (oiP f))
theorem OB.ol {S T : Hp} {a : Nat} (h : OB S a 5 262 T) : OL S a 0 0 (uI T 296 a (nI 1)) := by
  obtain ⟨h1, h2, h3, h4, ⟨h5, h6⟩, h7⟩ := h
  exact ⟨h1, h2, h3, h4.trans (Lw.uI (Nat.le_refl _)), ⟨h5, fun f hf => (if_neg (by omega)).trans (h6 _), if_pos ⟨rfl, rfl⟩⟩, fun q q1 q2 => ⟨(h7 q q1 q2).1, (h7 q q1 q2).2.1, (h7 q q1 q2).2.2.2⟩, (h7 3 (by decide) (by decide)).2.2.1, fun i hi => absurd hi (Nat.not_lt_zero _), fun i hi => absurd hi (Nat.not_lt_zero _)⟩
/-- a cell made behind and put into one of the rows: what stays -/
theorem OL.mach {S T : Hp} {a j : Nat} (hj : j < 6) (h : OL S a j 0 T) : OL S a (j + 1) 0 (uQ (nO T 9 3) (a + 1) j (some (zX T))) := by
  obtain ⟨h1, h2, h3, h4, ⟨h5, h6, h6'⟩, h7, h8, h9, h10⟩ := h
  have hx : zX T = a + 6 + j := by omega
  have eI : ∀ f b, b ≠ zX T → zI (uQ (nO T 9 3) (a + 1) j (some (zX T))) f b = zI T f b := fun f b hb => if_neg hb
  have eP : ∀ f b, b ≠ zX T → zP (uQ (nO T 9 3) (a + 1) j (some (zX T))) f b = zP T f b := fun f b hb => if_neg hb
  have eT : ∀ b, b ≠ zX T → zT (uQ (nO T 9 3) (a + 1) j (some (zX T))) b = zT T b := fun b hb => up1_n hb
  have eQ : ∀ b i, (b ≠ a + 1 ∨ i ≠ j) → zQ (uQ (nO T 9 3) (a + 1) j (some (zX T))) b i = zQ T b i := fun b i hb => if_neg (by omega)
  refine ⟨by show zX T + 1 = _; omega, by show zU T + 3 = _; omega, fun b hb => ?_, (h4.trans (Lw.nO (by omega))).trans (Lw.uQ (by omega)), ⟨(eT a (by omega)).trans h5, fun f hf => (eI _ a (by omega)).trans (h6 f hf), (eI _ a (by omega)).trans h6'⟩, fun q q1 q2 => ?_, (funext fun i => eQ _ i (Or.inl (by omega))).trans h8, fun i hi => ?_, fun i hi => absurd hi (Nat.not_lt_zero _)⟩
  · have hb2 : zX T + 1 ≤ b := hb
    exact (eT b (by omega)).trans (h3 b (by omega))
  · obtain ⟨⟨q3, q4⟩, q5, q6⟩ := h7 q q1 q2
    exact ⟨⟨(eT _ (by omega)).trans q3, q4⟩, (eP _ a (by omega)).trans q5, q6⟩
  · by_cases e : i = j
    · subst e
      refine ⟨?_, ?_, fun f hf => ?_⟩
      · rw [← hx]; exact if_pos ⟨rfl, rfl⟩
      · rw [← hx]; exact up1_s
      · rw [← hx]; exact if_pos rfl
    · obtain ⟨q1, q2, q3⟩ := h9 i (by omega)
      exact ⟨(eQ _ i (Or.inr e)).trans q1, (eT _ (by omega)).trans q2, fun f hf => (eI _ _ (by omega)).trans (q3 f hf)⟩
def P4 (S : Hp) (a : Nat) : Hp := uI (uI (uI (uI S 320 a (nI 5)) 321 a (nI 15)) 322 a (nI 3)) 323 a (nI 0)
theorem P4_n {S : Hp} {a b f : Nat} (h : b ≠ a) : zI (P4 S a) f b = zI S f b := by
  unfold P4
  rw [zI_un (Or.inr h), zI_un (Or.inr h), zI_un (Or.inr h), zI_un (Or.inr h)]
theorem P4_s {S : Hp} {a f : Nat} (h0 : ∀ f, zI S f a = 0) (hf : f < 9) : zI (P4 S a) (320 + f) a = nI (oiP f) := by
  unfold P4
  match f, hf with
  | 0, _ => rw [zI_un (by omega), zI_un (by omega), zI_un (by omega), zI_us]; rfl
  | 1, _ => rw [zI_un (by omega), zI_un (by omega), zI_us]; rfl
  | 2, _ => rw [zI_un (by omega), zI_us]; rfl
  | 3, _ => rw [zI_us]; rfl
  | 4, _ => rw [zI_un (by omega), zI_un (by omega), zI_un (by omega), zI_un (by omega)]; exact (h0 _).trans nI_0.symm
  | 5, _ => rw [zI_un (by omega), zI_un (by omega), zI_un (by omega), zI_un (by omega)]; exact (h0 _).trans nI_0.symm
  | 6, _ => rw [zI_un (by omega), zI_un (by omega), zI_un (by omega), zI_un (by omega)]; exact (h0 _).trans nI_0.symm
  | 7, _ => rw [zI_un (by omega), zI_un (by omega), zI_un (by omega), zI_un (by omega)]; exact (h0 _).trans nI_0.symm
  | 8, _ => rw [zI_un (by omega), zI_un (by omega), zI_un (by omega), zI_un (by omega)]; exact (h0 _).trans nI_0.symm
theorem zT_P4 {S : Hp} {a : Nat} : zT (P4 S a) = zT S := rfl
theorem zN_P4 {S : Hp} {a : Nat} : zN (P4 S a) = zN S := rfl
theorem zP_P4 {S : Hp} {a : Nat} : zP (P4 S a) = zP S := rfl
theorem zA_P4 {S : Hp} {a : Nat} : zA (P4 S a) = zA S := rfl
theorem zQ_P4 {S : Hp} {a : Nat} : zQ (P4 S a) = zQ S := rfl
theorem zX_P4 {S : Hp} {a : Nat} : zX (P4 S a) = zX S := rfl
theorem zU_P4 {S : Hp} {a : Nat} : zU (P4 S a) = zU S := rfl
theorem Lw_P4 {S : Hp} {a b : Nat} (h : b ≤ a) : Lw S (P4 S a) b := ((Lw.uI h |>.trans (Lw.uI h)).trans (Lw.uI h)).trans (Lw.uI h)
/-- a product put into its row -/
theorem OL.prod {S T T1 : Hp} {a p : Nat} (hp : p < 4) (h : OL S a 6 p T) (eX : zX T1 = zX T + 1) (eU : zU T1 = zU T + 9) (eT : ∀ b, b ≠ zX T → zT T1 b = zT T b) (eTs : zT T1 (zX T) = 11) (eN : zN T1 = zN T) (eI : ∀ f b, b ≠ zX T → zI T1 f b = zI T f b) (eIs : ∀ f, f < 9 → zI T1 (320 + f) (zX T) = nI (oiP f)) (eP : ∀ f b, b ≠ zX T → zP T1 f b = zP T f b) (eA : zA T1 = zA T) (eQ : zQ T1 = zQ T) (eL : Lw T T1 a) : OL S a 6 (p + 1) (uQ T1 (a + 2) p (some (zX T))) := by
  obtain ⟨h1, h2, h3, h4, ⟨h5, h6, h6'⟩, h7, h8, h9, h10⟩ := h
  have hx : zX T = a + 12 + p := by omega
  have qQ : ∀ b i, (b ≠ a + 2 ∨ i ≠ p) → zQ (uQ T1 (a + 2) p (some (zX T))) b i = zQ T b i := fun b i hb => (if_neg (by omega)).trans (by rw [eQ])
  refine ⟨by show zX T1 = _; omega, by show zU T1 = _; omega, fun b hb => ?_, (h4.trans eL).trans (Lw.uQ (by omega)), ⟨(eT a (by omega)).trans h5, fun f hf => (eI _ a (by omega)).trans (h6 f hf), (eI _ a (by omega)).trans h6'⟩, fun q q1 q2 => ?_, (funext fun i => qQ _ i (Or.inl (by omega))).trans h8, fun i hi => ?_, fun i hi => ?_⟩
  · have hb2 : zX T1 ≤ b := hb
    exact (eT b (by omega)).trans (h3 b (by omega))
  · obtain ⟨⟨q3, q4⟩, q5, q6⟩ := h7 q q1 q2
    exact ⟨⟨(eT _ (by omega)).trans q3, (congrArg (fun z => z (a + q)) eN).trans q4⟩, (eP _ a (by omega)).trans q5, (congrArg (fun z => z (a + q)) eA).trans q6⟩
  · obtain ⟨q1, q2, q3⟩ := h9 i hi
    exact ⟨(qQ _ i (Or.inl (by omega))).trans q1, (eT _ (by omega)).trans q2, fun f hf => (eI _ _ (by omega)).trans (q3 f hf)⟩
  · by_cases e : i = p
    · subst e
      refine ⟨?_, ?_, fun f hf => ?_⟩
      · rw [← hx]; exact if_pos ⟨rfl, rfl⟩
      · rw [← hx]; exact eTs
      · rw [← hx]; exact eIs f hf
    · obtain ⟨q1, q2, q3⟩ := h10 i (by omega)
      exact ⟨(qQ _ i (Or.inr e)).trans q1, (eT _ (by omega)).trans q2, fun f hf => (eI _ _ (by omega)).trans (q3 f hf)⟩
theorem OL.prod4 {S T : Hp} {a p : Nat} (hp : p < 4) (h : OL S a 6 p T) : OL S a 6 (p + 1) (uQ (P4 (nO T 11 9) (zX T)) (a + 2) p (some (zX T))) := by
  have hx := h.1
  refine OL.prod hp h ?_ ?_ (fun b hb => ?_) ?_ ?_ (fun f b hb => ?_) (fun f hf => ?_) (fun f b hb => ?_) ?_ ?_ ?_
  · rw [zX_P4]; rfl
  · rw [zU_P4]; rfl
  · rw [zT_P4]; exact up1_n hb
  · rw [zT_P4]; exact zT_nO
  · rw [zN_P4]; rfl
  · rw [P4_n hb]; exact if_neg hb
  · exact P4_s (fun _ => if_pos rfl) hf
  · rw [zP_P4]; exact if_neg hb
  · rw [zA_P4]; rfl
  · rw [zQ_P4]; rfl
  · exact (Lw.nO (by omega)).trans (Lw_P4 (by omega))
/-- a new office's numbers -/
def oiC (z : Nat) : Nat := if z = 3 then 1 else if 22 ≤ z ∧ z < 62 then oiP ((z - 22) % 10) else 0
theorem oiC_p {i f : Nat} (hi : i < 4) (hf : f < 9) : oiC (22 + 10 * i + pf f) = oiP f := by
  have h1 := pf_lt hf
  have h2 : oiP (pf f) = oiP f := by
    unfold pf oiP
    split <;> repeat (split <;> (first | omega | rfl | skip))
  unfold oiC
  rw [if_neg (by omega), if_pos (by omega), show (22 + 10 * i + pf f - 22) % 10 = pf f by omega, h2]
theorem oiC_0 {z : Nat} (h : z ≠ 3) (h2 : z < 22 ∨ 62 ≤ z) : oiC z = 0 := by
  unfold oiC
  rw [if_neg h, if_neg (by omega)]
theorem OL.or {S T : Hp} {a k : Nat} {w : Nat → Nat} (hw : ∀ j, j < 16 → w (a + j) = 32 * k) (h : OL S a 6 4 T) : OR T w k a (fun _ => 0) oiC := by
  obtain ⟨h1, h2, h3, h4, ⟨h5, h6, h6'⟩, h7, h8, h9, h10⟩ := h
  have r := fun q q1 q2 => h7 q q1 q2
  refine ⟨⟨h5, ⟨(r 1 (by decide) (by decide)).2.1, (r 2 (by decide) (by decide)).2.1, (r 3 (by decide) (by decide)).2.1, (r 4 (by decide) (by decide)).2.1, (r 5 (by decide) (by decide)).2.1⟩, (r 1 (by decide) (by decide)).1, (r 2 (by decide) (by decide)).1, (r 3 (by decide) (by decide)).1, (r 4 (by decide) (by decide)).1, (r 5 (by decide) (by decide)).1, fun i hi => ⟨(h9 i hi).1, (h9 i hi).2.1⟩, fun i hi => ⟨(h10 i hi).1, (h10 i hi).2.1⟩⟩, hw, fun i hi => Or.inl ⟨rfl, congrFun h8 i⟩, ?_, h3⟩
  refine ⟨⟨(h6 0 (by decide)).trans nI_0.symm, (h6 1 (by decide)).trans nI_0.symm, (h6 2 (by decide)).trans nI_0.symm, h6'⟩, fun i hi f hf => ?_, fun i hi f hf => ?_, fun j hj => ?_, fun j hj => ?_, fun i hi hA => absurd rfl hA, fun i hi hA => absurd rfl hA, fun i hi hA => absurd rfl hA⟩
  · rw [(h9 i hi).2.2 f hf, oiC_0 (by omega) (by omega)]; exact nI_0.symm
  · rw [(h10 i hi).2.2 f hf, oiC_p hi hf]
  · rw [(r 4 (by decide) (by decide)).2.2, oiC_0 (by omega) (by omega)]; exact nI_0.symm
  · rw [(r 5 (by decide) (by decide)).2.2, oiC_0 (by omega) (by omega)]; exact nI_0.symm
set_option maxRecDepth 4000 in
set_option maxHeartbeats 400000 in
theorem k_machInit {G : GI} {S : Hp} {a : Nat} : Fn m_X6_init G [.ref a] S none S := by
  refine Cn.of rfl (by decide) (Nat.le_of_ble_eq_true rfl) (fun hN hM => ?_)
  show Wx _ G _ 0 [(0, .ref (a))] [] _
  refine r_aload_n dX6_init_0 rfl 0 rfl ?_
  refine r_objInit dX6_init_1 (sg1 63 rfl rfl) (sg1 45 rfl rfl) (sg1 46 rfl rfl) (by decide) (by decide) ?_
  exact r_vret dX6_init_4 rfl ⟨rfl, rfl⟩
set_option maxRecDepth 4000 in
set_option maxHeartbeats 400000 in
theorem k_prodInit {G : GI} {S : Hp} {a : Nat} (h11 : zT S a = 11) : Fn m_X8_init G [.ref a] S none (P4 S a) := by
  refine Cn.of rfl (by decide) (Nat.le_of_ble_eq_true rfl) (fun hN hM => ?_)
  show Wx _ G _ 0 [(0, .ref (a))] [] _
  refine r_aload_n dX8_init_0 rfl 0 rfl ?_
  refine r_objInit dX8_init_1 (sg1 83 rfl rfl) (sg1 45 rfl rfl) (sg1 46 rfl rfl) (by decide) (by decide) ?_
  refine r_aload_n dX8_init_4 rfl 0 rfl ?_
  refine r_iconst (v := nI 5) dX8_init_5 (by decide) ?_
  refine r_putI (ci := 10) (k := 0) dX8_init_6 fw_X8_init_9 h11 rfl rfl rfl ?_
  refine r_aload_n dX8_init_9 rfl 0 rfl ?_
  refine r_bipush (v := nI 15) dX8_init_10 (by decide) ?_
  refine r_putI (ci := 10) (k := 1) dX8_init_12 fw_X8_init_15 h11 rfl rfl rfl ?_
  refine r_aload_n dX8_init_15 rfl 0 rfl ?_
  refine r_iconst (v := nI 3) dX8_init_16 (by decide) ?_
  refine r_putI (ci := 10) (k := 2) dX8_init_17 fw_X8_init_18 h11 rfl rfl rfl ?_
  refine r_aload_n dX8_init_20 rfl 0 rfl ?_
  refine r_iconst (v := nI 0) dX8_init_21 (by decide) ?_
  refine r_putI (ci := 10) (k := 3) dX8_init_22 fw_X8_init_21 h11 rfl rfl rfl ?_
  exact r_vret dX8_init_25 rfl ⟨rfl, rfl⟩
theorem OL.tt {S T : Hp} {a j p q t : Nat} (h : OL S a j p T) (h1 : 1 ≤ q) (h2 : q ≤ 5) (ht : oiT q = t) : zT T (a + q) = t := (h.2.2.2.2.2.1 q h1 h2).1.1.trans ht
theorem OL.nn {S T : Hp} {a j p q t : Nat} (h : OL S a j p T) (h1 : 1 ≤ q) (h2 : q ≤ 5) (ht : oiN q = t) : zN T (a + q) = t := (h.2.2.2.2.2.1 q h1 h2).1.2.trans ht
theorem OL.pp {S T : Hp} {a j p q : Nat} (h : OL S a j p T) (h1 : 1 ≤ q) (h2 : q ≤ 5) : zP T (287 + q) a = some (a + q) := (h.2.2.2.2.2.1 q h1 h2).2.1
theorem OL.t0 {S T : Hp} {a j p : Nat} (h : OL S a j p T) : zT T a = 10 := h.2.2.2.2.1.1
theorem fn_mach : fN RX7 9 8 3 := ⟨_, _, _, ck_8, (sg1 53 rfl rfl), (sg1 59 rfl rfl), (sg1 3 rfl rfl), by decide⟩
theorem fn_prod : fN RX7 17 10 9 := ⟨_, _, _, ck_10, (sg1 55 rfl rfl), (sg1 79 rfl rfl), (sg1 4 rfl rfl), by decide⟩
/-- a new office from the object at a on -/
def ON (S : Hp) (w : Nat → Nat) (k a : Nat) (T : Hp) : Prop := OR T w k a (fun _ => 0) oiC ∧ zX T = zX S + 15 ∧ zU T = zU S + 316 ∧ Lw S T a
set_option maxRecDepth 4000 in
set_option maxHeartbeats 400000 in
theorem k_officeInit {G : GI} {S : Hp} {w : Nat → Nat} {k a : Nat} (hw : ∀ j, j < 16 → w (a + j) = 32 * k) (ha : a + 1 = zX S) (h10 : zT S a = 10) (hI : ∀ f, zI S f a = 0) (hF : FS S) (hc : zX S + 15 ≤ gN G) (hs : zU S + 316 ≤ gM G) : Cn m_X7_init G [.ref a] S (fun r T => r = .inl none ∧ ON S w k a T) := by
  refine Cn.of rfl (by decide) (Nat.le_of_ble_eq_true rfl) (fun hN hM => ?_)
  show Wx _ G _ 0 [(0, .ref (a))] [] _
  refine r_aload_n dX7_init_0 rfl 0 rfl ?_
  refine r_objInit dX7_init_1 (sg1 52 rfl rfl) (sg1 45 rfl rfl) (sg1 46 rfl rfl) (by decide) (by decide) ?_
  have h0 : OB S a 0 0 S := ⟨ha.symm, rfl, hF, Lw.rfl, ⟨h10, hI⟩, fun j h1 h2 => absurd h1 (by omega)⟩
  refine r_aload_n dX7_init_4 rfl 0 rfl ?_
  refine r_bipush (v := nI 6) dX7_init_5 (by decide) ?_
  refine r_anew113 (N := 6) dX7_init_7 (sg1 53 rfl rfl) (nI_nn (by decide)) (nI_clamp (by decide)) (by decide) (by have := h0.1; omega) (by have := h0.2.1; omega) ?_
  refine r_putP (ci := 9) (k := 0) (x := some (zX S)) dX7_init_10 fw_X7_init_11 (show up1 (zT S) (zX S) 113 a = 10 from (up1_n (by have := h0.1; omega)).trans h0.2.2.2.2.1.1) rfl rfl ?_
  refine Wx.gp (OB S a 1 (0 + 6)) (OB.step (by decide) rfl rfl h0) (fun T1 h1 => ?_)
  refine r_aload_n dX7_init_13 rfl 0 rfl ?_
  refine r_iconst (v := nI 4) dX7_init_14 (by decide) ?_
  refine r_anew115 (N := 4) dX7_init_15 (sg1 55 rfl rfl) (nI_nn (by decide)) (nI_clamp (by decide)) (by decide) (by have := h1.1; omega) (by have := h1.2.1; omega) ?_
  refine r_putP (ci := 9) (k := 1) (x := some (zX T1)) dX7_init_18 fw_X7_init_19 (show up1 (zT T1) (zX T1) 115 a = 10 from (up1_n (by have := h1.1; omega)).trans h1.2.2.2.2.1.1) rfl rfl ?_
  refine Wx.gp (OB S a 2 (0 + 6 + 4)) (OB.step (by decide) rfl rfl h1) (fun T2 h2 => ?_)
  refine r_aload_n dX7_init_21 rfl 0 rfl ?_
  refine r_bipush (v := nI 24) dX7_init_22 (by decide) ?_
  refine r_anew112 (N := 24) dX7_init_24 (sg1 57 rfl rfl) (nI_nn (by decide)) (nI_clamp (by decide)) (by decide) (by have := h2.1; omega) (by have := h2.2.1; omega) ?_
  refine r_putP (ci := 9) (k := 2) (x := some (zX T2)) dX7_init_27 fw_X7_init_25 (show up1 (zT T2) (zX T2) 112 a = 10 from (up1_n (by have := h2.1; omega)).trans h2.2.2.2.2.1.1) rfl rfl ?_
  refine Wx.gp (OB S a 3 (0 + 6 + 4 + 24)) (OB.step (by decide) rfl rfl h2) (fun T3 h3 => ?_)
  refine r_aload_n dX7_init_30 rfl 0 rfl ?_
  refine r_bipush (v := nI 28) dX7_init_31 (by decide) ?_
  refine r_new_int (N := 28) dX7_init_33 (sg1 78 rfl rfl) (nI_nn (by decide)) (nI_clamp (by decide)) (by decide) (by have := h3.1; omega) (by have := h3.2.1; omega) ?_
  refine r_putP (ci := 9) (k := 3) (x := some (zX T3)) dX7_init_35 fw_X7_init_29 (show up1 (zT T3) (zX T3) 101 a = 10 from (up1_n (by have := h3.1; omega)).trans h3.2.2.2.2.1.1) rfl rfl ?_
  refine Wx.gp (OB S a 4 (0 + 6 + 4 + 24 + 28)) (OB.step (by decide) rfl rfl h3) (fun T4 h4 => ?_)
  refine r_aload_n dX7_init_38 rfl 0 rfl ?_
  refine r_sipush (v := nI 200) dX7_init_39 (by decide) ?_
  refine r_new_int (N := 200) dX7_init_42 (sg1 78 rfl rfl) (nI_nn (by decide)) (nI_clamp (by decide)) (by decide) (by have := h4.1; omega) (by have := h4.2.1; omega) ?_
  refine r_putP (ci := 9) (k := 4) (x := some (zX T4)) dX7_init_44 fw_X7_init_33 (show up1 (zT T4) (zX T4) 101 a = 10 from (up1_n (by have := h4.1; omega)).trans h4.2.2.2.2.1.1) rfl rfl ?_
  refine Wx.gp (OB S a 5 (0 + 6 + 4 + 24 + 28 + 200)) (OB.step (by decide) rfl rfl h4) (fun T5 h5 => ?_)
  replace h5 : OB S a 5 262 T5 := h5
  refine r_aload_n dX7_init_47 rfl 0 rfl ?_
  refine r_iconst (v := nI 1) dX7_init_48 (by decide) ?_
  refine r_putI (ci := 9) (k := 8) dX7_init_49 fw_X7_init_36 h5.2.2.2.2.1.1 rfl rfl rfl ?_
  refine Wx.gp (OL S a 0 0) h5.ol (fun T6 h6 => ?_)
  refine r_iconst (v := nI 0) dX7_init_52 (by decide) ?_
  refine r_istore_n (lv' := [(1, .int (nI 0)), (0, .ref a)]) dX7_init_53 rfl (by decide) rfl ?_
  refine Wx.sub [1, 0] rfl ?_
  refine Wx.loopR (fun u T lv => OL S a u 0 T ∧ lv = [(0, .ref a), (1, .int (nI u))]) 6 0 (Nat.zero_le _) ⟨h6, rfl⟩ (fun u T lv hge hle hI9 next => ?_)
  obtain ⟨h7, rfl⟩ := hI9
  have hx := h7.1
  have hu := h7.2.1
  refine r_iload_n dX7_init_54 rfl 1 rfl ?_
  refine r_aload_n dX7_init_55 rfl 0 rfl ?_
  refine r_getR (ci := 9) (k := 0) (b := a + 1) dX7_init_56 fr_X7_11 h7.t0 rfl (h7.pp (q := 1) (by decide) (by decide)) ?_
  refine r_alenQ dX7_init_59 (h7.tt (by decide) (by decide) rfl) (by decide) (by decide) ?_
  refine Wx.top (congrArg nI (h7.nn (t := 6) (by decide) (by decide) rfl)) ?_
  refine r_icmp_geN (tgt := 82) dX7_init_60 (by decide) (by omega) (by omega) (fun hg => ?_) (fun hg => ?_)
  · obtain rfl : u = 6 := by omega
    refine Wx.gp (OL S a 6 0) h7 (fun T7 h6 => ?_)
    refine r_iconst (v := nI 0) dX7_init_82 (by decide) ?_
    refine r_istore_n (lv' := [(1, .int (nI 0)), (0, .ref a)]) dX7_init_83 rfl (by decide) rfl ?_
    refine Wx.sub [1, 0] rfl ?_
    refine Wx.loopR (fun v T lv => OL S a 6 v T ∧ lv = [(0, .ref a), (1, .int (nI v))]) 4 0 (Nat.zero_le _) ⟨h6, rfl⟩ (fun v T lv hge hle hI9 next => ?_)
    obtain ⟨h7, rfl⟩ := hI9
    have hx := h7.1
    have hu := h7.2.1
    refine r_iload_n dX7_init_84 rfl 1 rfl ?_
    refine r_aload_n dX7_init_85 rfl 0 rfl ?_
    refine r_getR (ci := 9) (k := 1) (b := a + 2) dX7_init_86 fr_X7_19 h7.t0 rfl (h7.pp (q := 2) (by decide) (by decide)) ?_
    refine r_alenQ dX7_init_89 (h7.tt (by decide) (by decide) rfl) (by decide) (by decide) ?_
    refine Wx.top (congrArg nI (h7.nn (t := 4) (by decide) (by decide) rfl)) ?_
    refine r_icmp_geN (tgt := 112) dX7_init_90 (by decide) (by omega) (by omega) (fun hg => ?_) (fun hg => ?_)
    · obtain rfl : v = 4 := by omega
      exact r_vret dX7_init_112 rfl ⟨rfl, h7.or hw, by omega, by omega, h7.2.2.2.1⟩
    · refine r_aload_n dX7_init_93 rfl 0 rfl ?_
      refine r_getR (ci := 9) (k := 1) (b := a + 2) dX7_init_94 fr_X7_19 h7.t0 rfl (h7.pp (q := 2) (by decide) (by decide)) ?_
      refine r_iload_n dX7_init_97 rfl 1 rfl ?_
      refine r_new (ci := 10) dX7_init_98 fn_prod (by omega) (by omega) ?_
      refine r_dup dX7_init_101 rfl ?_
      refine r_fnI (M2 := m_X8_init) (As := []) (rest := [.ref (zX T), .int (nI v), .ref (a + 2)]) (v := none) dX7_init_102 cc_X7_init_41 rfl rfl rfl (Nat.le_of_ble_eq_true rfl) (k_prodInit zT_nO) rfl ?_
      refine r_aast (r := _) dX7_init_105 (show zT (P4 (nO T 11 9) (zX T)) (a + 2) = 115 from by rw [zT_P4]; exact (up1_n (by omega)).trans (h7.tt (by decide) (by decide) rfl)) (by decide) 10 rfl (show zT (P4 (nO T 11 9) (zX T)) (zX T) = 11 from by rw [zT_P4]; exact up1_s) rfl (by decide) (by rw [show zN (P4 (nO T 11 9) (zX T)) (a + 2) = 4 from by rw [zN_P4]; exact h7.nn (by decide) (by decide) rfl]; exact vp_in_nI (by omega) (by decide)) ?_
      rw [nI_clamp (by omega)]
      refine r_iincN (k := 1) (lv' := [(1, .int (nI (v + 1))), (0, .ref a)]) dX7_init_106 (by decide) 1 rfl (by decide) rfl ?_
      refine r_goto (tgt := 84) dX7_init_109 (by decide) ?_
      refine Wx.sub [1, 0] rfl ?_
      exact next _ _ (by omega) ⟨OL.prod4 (by omega) h7, rfl⟩
  · refine r_aload_n dX7_init_63 rfl 0 rfl ?_
    refine r_getR (ci := 9) (k := 0) (b := a + 1) dX7_init_64 fr_X7_11 h7.t0 rfl (h7.pp (q := 1) (by decide) (by decide)) ?_
    refine r_iload_n dX7_init_67 rfl 1 rfl ?_
    refine r_new (ci := 8) dX7_init_68 fn_mach (by omega) (by omega) ?_
    refine r_dup dX7_init_71 rfl ?_
    refine r_fnI (M2 := m_X6_init) (As := []) (rest := [.ref (zX T), .int (nI u), .ref (a + 1)]) (v := none) dX7_init_72 cc_X7_init_40 rfl rfl rfl (Nat.le_of_ble_eq_true rfl) k_machInit rfl ?_
    refine r_aast (r := _) dX7_init_75 (show zT (nO T 9 3) (a + 1) = 113 from by exact (up1_n (by omega)).trans (h7.tt (by decide) (by decide) rfl)) (by decide) 8 rfl (show zT (nO T 9 3) (zX T) = 9 from by exact up1_s) rfl (by decide) (by rw [show zN (nO T 9 3) (a + 1) = 6 from by exact h7.nn (by decide) (by decide) rfl]; exact vp_in_nI (by omega) (by decide)) ?_
    rw [nI_clamp (by omega)]
    refine r_iincN (k := 1) (lv' := [(1, .int (nI (u + 1))), (0, .ref a)]) dX7_init_76 (by decide) 1 rfl (by decide) rfl ?_
    refine r_goto (tgt := 54) dX7_init_79 (by decide) ?_
    refine Wx.sub [1, 0] rfl ?_
    exact next _ _ (by omega) ⟨OL.mach (by omega) h7, rfl⟩
theorem Rel_new {N : Nat} : Rel oiC oiC N := by
  have e0 : ∀ i, i < 3 → oiC i = 0 := fun i hi => oiC_0 (by omega) (by omega)
  refine ⟨⟨by decide, fun _ _ => rfl, by decide, by rw [e0 1 (by decide)]; omega, by rw [e0 2 (by decide)]; omega⟩, fun i hi => ⟨fun _ _ => rfl, by rw [oiC_0 (by omega) (by omega)]; omega, by rw [oiC_0 (by omega) (by omega)]; omega, by rw [oiC_0 (by omega) (by omega)]; omega⟩, fun p hp => ?_, fun j hj => ⟨rfl, by rw [oiC_0 (by omega) (by omega)]; omega⟩, fun p hp => ?_, fun l hl => absurd hl (Nat.not_lt_zero _), fun i hi => by rw [oiC_0 (by omega) (by omega)]; decide⟩
  · match p, hp with
    | 0, _ => exact ⟨fun _ _ => rfl, rfl, rfl, by decide, by decide, by decide, Nat.zero_le _⟩
    | 1, _ => exact ⟨fun _ _ => rfl, rfl, rfl, by decide, by decide, by decide, Nat.zero_le _⟩
    | 2, _ => exact ⟨fun _ _ => rfl, rfl, rfl, by decide, by decide, by decide, Nat.zero_le _⟩
    | 3, _ => exact ⟨fun _ _ => rfl, rfl, rfl, by decide, by decide, by decide, Nat.zero_le _⟩
  · match p, hp with
    | 0, _ => exact Nat.zero_le _
    | 1, _ => exact Nat.zero_le _
    | 2, _ => exact Nat.zero_le _
    | 3, _ => exact Nat.zero_le _
