/-! THE REFERENCE MADE: what a new one holds -/
theorem fn_msb : fN RX13 47 1 4 := ⟨_, _, _, ck_1, (sg7 187 rfl rfl), (sg1 199 rfl rfl), (sg1 8 rfl rfl), by decide⟩
def rmT (j : Nat) : Nat := if j = 5 then 106 else if j = 6 then 103 else if j = 7 then 106 else 101
def rmN (j : Nat) : Nat := if j = 4 then 80016 else if j = 5 then 200 else if j = 6 then 34 else if j = 7 then 4800 else if j = 8 then 88 else if j = 9 then 60 else if j = 10 then 160 else 10002
def rmF (j : Nat) : Nat := if j = 1 then 448 else if j = 2 then 449 else if j = 3 then 450 else if j = 4 then 452 else if j = 5 then 457 else if j = 6 then 458 else if j = 7 then 459 else if j = 8 then 460 else if j = 9 then 461 else 464
theorem rmF_ne : ∀ r, r < 10 → ∀ j, j < r + 1 → 1 ≤ j → rmF j ≠ rmF (r + 1) := by decide
/-- r rows of the reference at m are made -/
def PB (S : Hp) (m r u : Nat) (W : Nat → Int32) (T : Hp) : Prop := zX T = m + 1 + r ∧ zU T ≤ zU S + u ∧ FS T ∧ Lw S T m ∧ (zT T m = 15 ∧ ∀ f, zI T f m = W f) ∧ ∀ j, 1 ≤ j → j ≤ r → (zT T (m + j) = rmT j ∧ zN T (m + j) = rmN j) ∧ zP T (rmF j) m = some (m + j) ∧ (zA T (m + j) = fun _ => 0)
theorem PB.new {S : Hp} {n : Nat} (hF : FS S) : PB S (zX S) 0 n (fun _ => 0) (nO S 15 n) := by
  refine ⟨rfl, Nat.le_refl _, fun b hb => ?_, Lw.nO (Nat.le_refl _), ⟨zT_nO, fun f => if_pos rfl⟩, fun j h1 h2 => absurd h1 (by omega)⟩
  have hb2 : zX S + 1 ≤ b := hb
  exact (up1_n (by omega)).trans (hF b (by omega))
theorem PB.row {S T : Hp} {m r u u' t n f : Nat} {W : Nat → Int32} {x : Nat} (hr : r < 10) (hx : x = zX T) (ht : t = rmT (r + 1)) (hn : n = rmN (r + 1)) (hf : f = rmF (r + 1)) (hu : u + n ≤ u') (h : PB S m r u W T) : PB S m (r + 1) u' W (uP (nA T t n) f m (some x)) := by
  subst hx hf
  obtain ⟨h1, h2, h3, h4, ⟨h5, h6⟩, h7⟩ := h
  refine ⟨by show zX T + 1 = _; omega, by show zU T + n ≤ _; omega, fun b hb => ?_, (h4.trans (Lw.nA (by omega))).trans (Lw.uP (Nat.le_refl _)), ⟨(up1_n (by omega)).trans h5, h6⟩, fun j hj1 hj2 => ?_⟩
  · have hb2 : zX T + 1 ≤ b := hb
    exact (up1_n (by omega)).trans (h3 b (by omega))
  · by_cases e : j = r + 1
    · subst e
      have hx : m + (r + 1) = zX T := by omega
      rw [hx]
      refine ⟨⟨(up1_s).trans ht, (up1_s).trans hn⟩, if_pos ⟨rfl, rfl⟩, up1_s⟩
    · obtain ⟨⟨q1, q2⟩, q3, q4⟩ := h7 j hj1 (by omega)
      have hne : m + j ≠ zX T := by omega
      exact ⟨⟨(up1_n hne).trans q1, (up1_n hne).trans q2⟩, (if_neg (fun q => rmF_ne r hr j (by omega) hj1 q.1)).trans q3, (up1_n hne).trans q4⟩
theorem PB.int {S T : Hp} {m r u f : Nat} {W : Nat → Int32} {v : Int32} (h : PB S m r u W T) : PB S m r u (fun q => if q = f then v else W q) (uI T f m v) := by
  obtain ⟨h1, h2, h3, h4, ⟨h5, h6⟩, h7⟩ := h
  refine ⟨h1, h2, h3, h4.trans (Lw.uI (Nat.le_refl _)), ⟨h5, fun q => ?_⟩, h7⟩
  show (if q = f ∧ m = m then v else zI T q m) = if q = f then v else W q
  by_cases e : q = f
  · rw [if_pos ⟨e, rfl⟩, if_pos e]
  · rw [if_neg (fun z => e z.1), if_neg e]; exact h6 q
def wMO : Nat → Int32 := fun q => if q = 463 then (-1) else 0
def mV0 : RVal := fun j i => if j = 0 ∧ i = 15 then (-1) else 0
/-- everything of a new reference at m, whose paper lies behind the rows -/
def RM0 (S : Hp) (m u : Nat) (T : Hp) : Prop := (zX T = m + 13 ∧ zU T ≤ zU S + u) ∧ FS T ∧ Lw S T m ∧ RS T m ∧ (∀ f, zI T f m = wMO f) ∧ (∀ j, 1 ≤ j → j ≤ 10 → zA T (m + j) = fun _ => 0) ∧ PM T m (m + 12) 16 []
theorem PB.paper {S T : Hp} {m u : Nat} (h : PB S m 10 u wMO T) : RM0 S m (u + 20) (uP (uI (uP (nA (nO T 2 4) 104 16) 32 (zX T) (some (zX T + 1))) 33 (zX T) (nI 0)) 467 m (some (zX T))) := by
  obtain ⟨h1, h2, h3, h4, ⟨h5, h6⟩, h7⟩ := h
  have hx : zX T = m + 11 := h1
  rw [hx]
  have eT : ∀ b, b < m + 11 → zT (uP (uI (uP (nA (nO T 2 4) 104 16) 32 (m + 11) (some (m + 11 + 1))) 33 (m + 11) (nI 0)) 467 m (some (m + 11))) b = zT T b := fun b hb => (up1_n (show b ≠ zX T + 1 by omega)).trans (up1_n (show b ≠ zX T by omega))
  have eN : ∀ b, b < m + 11 → zN (uP (uI (uP (nA (nO T 2 4) 104 16) 32 (m + 11) (some (m + 11 + 1))) 33 (m + 11) (nI 0)) 467 m (some (m + 11))) b = zN T b := fun b hb => up1_n (show b ≠ zX T + 1 by omega)
  have eA : ∀ b, b < m + 11 → zA (uP (uI (uP (nA (nO T 2 4) 104 16) 32 (m + 11) (some (m + 11 + 1))) 33 (m + 11) (nI 0)) 467 m (some (m + 11))) b = zA T b := fun b hb => up1_n (show b ≠ zX T + 1 by omega)
  have eP : ∀ f, f ≠ 467 → zP (uP (uI (uP (nA (nO T 2 4) 104 16) 32 (m + 11) (some (m + 11 + 1))) 33 (m + 11) (nI 0)) 467 m (some (m + 11))) f m = zP T f m := fun f hf => (if_neg (fun q => hf q.1)).trans ((if_neg (fun q => by omega)).trans (if_neg (show m ≠ zX T by omega)))
  have eI : ∀ f, zI (uP (uI (uP (nA (nO T 2 4) 104 16) 32 (m + 11) (some (m + 11 + 1))) 33 (m + 11) (nI 0)) 467 m (some (m + 11))) f m = zI T f m := fun f => (if_neg (fun q => by omega)).trans (if_neg (show m ≠ zX T by omega))
  have hFS : FS (uP (uI (uP (nA (nO T 2 4) 104 16) 32 (m + 11) (some (m + 11 + 1))) 33 (m + 11) (nI 0)) 467 m (some (m + 11))) := fun b hb => by
    have hb2 : zX T + 1 + 1 ≤ b := hb
    exact (up1_n (show b ≠ zX T + 1 by omega)).trans ((up1_n (show b ≠ zX T by omega)).trans (h3 b (by omega)))
  have r := fun j a b => h7 j a b
  have rT : ∀ j t, 1 ≤ j → j ≤ 10 → rmT j = t → zT (uP (uI (uP (nA (nO T 2 4) 104 16) 32 (m + 11) (some (m + 11 + 1))) 33 (m + 11) (nI 0)) 467 m (some (m + 11))) (m + j) = t := fun j t a b c => (eT _ (by omega)).trans ((r j a b).1.1.trans c)
  have rN : ∀ j t, 1 ≤ j → j ≤ 10 → rmN j = t → zN (uP (uI (uP (nA (nO T 2 4) 104 16) 32 (m + 11) (some (m + 11 + 1))) 33 (m + 11) (nI 0)) 467 m (some (m + 11))) (m + j) = t := fun j t a b c => (eN _ (by omega)).trans ((r j a b).1.2.trans c)
  have rP : ∀ j f, 1 ≤ j → j ≤ 10 → rmF j = f → f ≠ 467 → zP (uP (uI (uP (nA (nO T 2 4) 104 16) 32 (m + 11) (some (m + 11 + 1))) 33 (m + 11) (nI 0)) 467 m (some (m + 11))) f m = some (m + j) := fun j f a b c d => (eP f d).trans (by rw [← c]; exact (r j a b).2.1)
  refine ⟨⟨by show zX T + 1 + 1 = _; omega, by show zU T + 4 + 16 ≤ _; omega⟩, hFS, ?_, ?_, fun f => (eI f).trans (h6 f), fun j a b => (eA _ (by omega)).trans (r j a b).2.2, ?_⟩
  · exact h4.trans ((((Lw.nO (by omega)).trans (Lw.nA (show m ≤ zX T + 1 by omega))).trans (Lw.uP (by omega))).trans (Lw.uI (by omega)) |>.trans (Lw.uP (Nat.le_refl _)))
  · exact ⟨(eT m (by omega)).trans h5, ⟨rP 1 _ (by decide) (by decide) rfl (by decide), rP 2 _ (by decide) (by decide) rfl (by decide), rP 3 _ (by decide) (by decide) rfl (by decide), rP 4 _ (by decide) (by decide) rfl (by decide), rP 5 _ (by decide) (by decide) rfl (by decide), rP 6 _ (by decide) (by decide) rfl (by decide), rP 7 _ (by decide) (by decide) rfl (by decide), rP 8 _ (by decide) (by decide) rfl (by decide), rP 9 _ (by decide) (by decide) rfl (by decide), rP 10 _ (by decide) (by decide) rfl (by decide), if_pos ⟨rfl, rfl⟩⟩,
      ⟨rT 1 _ (by decide) (by decide) rfl, rT 2 _ (by decide) (by decide) rfl, rT 3 _ (by decide) (by decide) rfl, rT 4 _ (by decide) (by decide) rfl, rT 5 _ (by decide) (by decide) rfl, rT 6 _ (by decide) (by decide) rfl, rT 7 _ (by decide) (by decide) rfl, rT 8 _ (by decide) (by decide) rfl, rT 9 _ (by decide) (by decide) rfl, rT 10 _ (by decide) (by decide) rfl⟩,
      rN 1 _ (by decide) (by decide) rfl, rN 2 _ (by decide) (by decide) rfl, rN 3 _ (by decide) (by decide) rfl, rN 4 _ (by decide) (by decide) rfl, rN 5 _ (by decide) (by decide) rfl, rN 6 _ (by decide) (by decide) rfl, rN 7 _ (by decide) (by decide) rfl, rN 8 _ (by decide) (by decide) rfl, rN 9 _ (by decide) (by decide) rfl, rN 10 _ (by decide) (by decide) rfl⟩
  · refine ⟨fun _ => 0, JB.start ?_ ?_ ?_ ?_ ?_ ?_ (Or.inl rfl) (Nat.zero_le _) ?_ (fun _ => by decide) hFS, fun i hi => absurd hi (Nat.not_lt_zero _)⟩
    · exact (up1_n (show m + 11 ≠ zX T + 1 by omega)).trans (by rw [← hx]; exact up1_s)
    · show (if 32 = 467 ∧ m + 11 = m then some (m + 11) else if 32 = 32 ∧ m + 11 = m + 11 then some (m + 11 + 1) else zP (nA (nO T 2 4) 104 16) 32 (m + 11)) = some (m + 12)
      rw [if_neg (fun q => by omega), if_pos ⟨rfl, rfl⟩]
    · show up1 (up1 (zT T) (zX T) 2) (zX T + 1) 104 (m + 12) = 104
      rw [hx]; exact up1_s
    · show up1 (zN T) (zX T + 1) 16 (m + 12) = 16
      rw [hx]; exact up1_s
    · exact if_pos ⟨rfl, rfl⟩
    · show (if 35 = 33 ∧ m + 11 = m + 11 then nI 0 else if m + 11 = zX T then (0 : Int32) else zI T 35 (m + 11)) = nI 0
      rw [if_neg (fun q => by omega), if_pos hx.symm]; exact nI_0.symm
    · show up1 (zA T) (zX T + 1) (fun _ => 0) (m + 12) = _
      rw [hx]
      exact (up1_s (α := Nat → Int32) (i := m + 12)).trans (funext fun i => nI_0.symm)
/-- the numbers after p products -/
def igG (p : Nat) : Nat → Nat := fun z => if z = 3 then 1 else if 22 ≤ z ∧ z < 22 + 10 * p then oiP ((z - 22) % 10) else 0
theorem igG_4 : igG 4 = oiC := rfl
theorem igG_0 : up1 (fun _ => 0) (3) (1) = igG 0 := funext fun z => by
  unfold igG
  by_cases e : z = 3
  · subst e; rfl
  · rw [up1_n e, if_neg e, if_neg (by omega)]
theorem igG_s {p : Nat} : igG (p + 1) = up1 (up1 (up1 (igG p) (22 + 10 * p) (5)) (22 + 10 * p + 1) (15)) (22 + 10 * p + 2) (3) := funext fun z => by
  by_cases e2 : z = 22 + 10 * p + 2
  · subst e2
    rw [up1_s]
    unfold igG
    rw [if_neg (by omega), if_pos (by omega), show (22 + 10 * p + 2 - 22) % 10 = 2 by omega]; rfl
  rw [up1_n e2]
  by_cases e1 : z = 22 + 10 * p + 1
  · subst e1
    rw [up1_s]
    unfold igG
    rw [if_neg (by omega), if_pos (by omega), show (22 + 10 * p + 1 - 22) % 10 = 1 by omega]; rfl
  rw [up1_n e1]
  by_cases e0 : z = 22 + 10 * p
  · subst e0
    rw [up1_s]
    unfold igG
    rw [if_neg (by omega), if_pos (by omega), show (22 + 10 * p - 22) % 10 = 0 by omega]; rfl
  rw [up1_n e0]
  unfold igG
  by_cases e3 : z = 3
  · rw [if_pos e3, if_pos e3]
  rw [if_neg e3, if_neg e3]
  by_cases c : 22 ≤ z ∧ z < 22 + 10 * p
  · rw [if_pos c, if_pos (by omega)]
  rw [if_neg c]
  by_cases d : 22 ≤ z ∧ z < 22 + 10 * (p + 1)
  · rw [if_pos d]
    have : 3 ≤ (z - 22) % 10 := by omega
    unfold oiP
    rw [if_neg (by omega), if_neg (by omega), if_neg (by omega)]
  · rw [if_neg d]
set_option maxRecDepth 4000 in
theorem wi_model3 {G : GI} {T : Hp} {m : Nat} {V : RVal} {od : Nat → UInt64} {Q : OV → Hp → Prop} (hs : RS T m) (kk : Q (.inl none) (rput T m (sg V oiC) od)) : Wx m_X13_init G (rput T m (sg V (fun _ => 0)) od) 106 [(0, .ref m)] [] Q := by
  show Wx _ G _ 106 [(0, .ref (m))] [] _
  refine r_aload_n dX13_init_106 rfl 0 rfl ?_
  refine m_ref (k := 0) (j := 1) hs hs.2.1.1 dX13_init_107 fr_X13_7 rfl ?_
  refine r_iconst (v := nI 3) dX13_init_110 (by decide) ?_
  refine r_iconst (v := nI 1) dX13_init_111 (by decide) ?_
  refine g_iast (i := 3) (x := 1) hs dX13_init_112 (by omega) ?_
  refine r_iconst (v := nI 0) dX13_init_113 (by decide) ?_
  refine r_istore_n (lv' := [(1, .int (nI (0))), (0, .ref (m))]) dX13_init_114 rfl (by decide) rfl ?_
  refine Wx.st' (congrArg (fun g => rput T m (sg V g) od) igG_0) ?_
  refine Wx.sub [1, 0] rfl ?_
  refine Wx.loop (fun p => rput T m (sg V (igG p)) od) (fun p => [(0, .ref (m)), (1, .int (nI (p)))]) (4) (0) (Nat.zero_le _) (fun p hge hle next => ?_)
  show Wx _ G (rput T m (sg V (igG p)) od) 115 [(0, .ref (m)), (1, .int (nI (p)))] [] _
  refine r_iload_n dX13_init_115 rfl 1 rfl ?_
  refine r_iconst (v := nI 4) dX13_init_116 (by decide) ?_
  refine r_icmp_geN (tgt := 170) dX13_init_117 (by decide) (by omega) (by omega) (fun h117 => ?_) (fun h117 => ?_)
  · obtain rfl : p = 4 := by omega
    exact r_vret dX13_init_170 rfl kk
  · refine r_aload_n dX13_init_120 rfl 0 rfl ?_
    refine m_ref (k := 0) (j := 1) hs hs.2.1.1 dX13_init_121 fr_X13_7 rfl ?_
    refine r_bipush (v := nI 22) dX13_init_124 (by decide) ?_
    refine r_bipush (v := nI 10) dX13_init_126 (by decide) ?_
    refine r_iload_n dX13_init_128 rfl 1 rfl ?_
    refine r_imulN dX13_init_129 ?_
    refine r_iaddN dX13_init_130 ?_
    refine r_iconst (v := nI 5) dX13_init_131 (by decide) ?_
    refine g_iast (i := 22 + 10 * p) (x := 5) hs dX13_init_132 (by omega) ?_
    refine r_aload_n dX13_init_133 rfl 0 rfl ?_
    refine m_ref (k := 0) (j := 1) hs hs.2.1.1 dX13_init_134 fr_X13_7 rfl ?_
    refine r_bipush (v := nI 22) dX13_init_137 (by decide) ?_
    refine r_bipush (v := nI 10) dX13_init_139 (by decide) ?_
    refine r_iload_n dX13_init_141 rfl 1 rfl ?_
    refine r_imulN dX13_init_142 ?_
    refine r_iaddN dX13_init_143 ?_
    refine r_iconst (v := nI 1) dX13_init_144 (by decide) ?_
    refine r_iaddN dX13_init_145 ?_
    refine r_bipush (v := nI 15) dX13_init_146 (by decide) ?_
    refine g_iast (i := 22 + 10 * p + 1) (x := 15) hs dX13_init_148 (by omega) ?_
    refine r_aload_n dX13_init_149 rfl 0 rfl ?_
    refine m_ref (k := 0) (j := 1) hs hs.2.1.1 dX13_init_150 fr_X13_7 rfl ?_
    refine r_bipush (v := nI 22) dX13_init_153 (by decide) ?_
    refine r_bipush (v := nI 10) dX13_init_155 (by decide) ?_
    refine r_iload_n dX13_init_157 rfl 1 rfl ?_
    refine r_imulN dX13_init_158 ?_
    refine r_iaddN dX13_init_159 ?_
    refine r_iconst (v := nI 2) dX13_init_160 (by decide) ?_
    refine r_iaddN dX13_init_161 ?_
    refine r_iconst (v := nI 3) dX13_init_162 (by decide) ?_
    refine g_iast (i := 22 + 10 * p + 2) (x := 3) hs dX13_init_163 (by omega) ?_
    refine r_iincN (k := 1) (lv' := [(1, .int (nI (p + 1))), (0, .ref (m))]) dX13_init_164 (by decide) 1 rfl (by decide) rfl ?_
    refine r_goto (tgt := 115) dX13_init_167 (by decide) ?_
    refine Wx.sub [1, 0] rfl ?_
    have n2 := next (by omega)
    rw [igG_s] at n2
    exact n2
set_option maxRecDepth 4000 in
set_option maxHeartbeats 400000 in
theorem k_modelInit {G : GI} {S : Hp} {n : Nat} (hF : FS S) (h1 : zX S + 13 ≤ gN G) (h2 : zU S + n + 115384 ≤ gM G) : Cn m_X13_init G [.ref (zX S)] (nO S 15 n) (fun r T => r = .inl none ∧ ∃ T0 od, T = rput T0 (zX S) (sg mV0 oiC) od ∧ RM0 S (zX S) (n + 115384) T0) := by
  refine Cn.of rfl (by decide) (Nat.le_of_ble_eq_true rfl) (fun hN hM => ?_)
  show Wx _ G _ 0 [(0, .ref (zX S))] [] _
  have hFn : FS (nO S 15 n) := (PB.new (n := n) hF).2.2.1
  obtain ⟨n1, q1⟩ : ∃ k, k = 10002 := ⟨_, rfl⟩
  obtain ⟨n4, q4⟩ : ∃ k, k = 80016 := ⟨_, rfl⟩
  obtain ⟨n5, q5⟩ : ∃ k, k = 200 := ⟨_, rfl⟩
  obtain ⟨n6, q6⟩ : ∃ k, k = 34 := ⟨_, rfl⟩
  obtain ⟨n7, q7⟩ : ∃ k, k = 4800 := ⟨_, rfl⟩
  obtain ⟨n8, q8⟩ : ∃ k, k = 88 := ⟨_, rfl⟩
  obtain ⟨n9, q9⟩ : ∃ k, k = 60 := ⟨_, rfl⟩
  obtain ⟨n10, q10⟩ : ∃ k, k = 160 := ⟨_, rfl⟩
  refine wi_model1 q1 q4 q5 q6 q7 q8 q9 q10 zT_nO hFn (show zX S + 1 + 10 ≤ gN G by omega) (show zU S + n + 115364 ≤ gM G by omega) ?_
  refine Wx.gp (PB S (zX S) 10 (n + 115364) wMO) ?_ (fun T hT => ?_)
  · clear h1 h2 hFn hN hM
    have a0 := PB.new (n := n) hF
    have a1 := a0.row (r := 0) (u' := n + 10002) (t := 101) (n := n1) (f := 448) (x := zX (nO S 15 n)) (by decide) rfl rfl q1 rfl (by omega)
    have a2 := a1.row (r := 1) (u' := n + 20004) (t := 101) (n := n1) (f := 449) (x := zX (nO S 15 n) + 1) (by decide) rfl rfl q1 rfl (by omega)
    have a3 := a2.row (r := 2) (u' := n + 30006) (t := 101) (n := n1) (f := 450) (x := zX (nO S 15 n) + 2) (by decide) rfl rfl q1 rfl (by omega)
    have a4 := a3.row (r := 3) (u' := n + 110022) (t := 101) (n := n4) (f := 452) (x := zX (nO S 15 n) + 3) (by decide) rfl rfl q4 rfl (by omega)
    have a5 := a4.row (r := 4) (u' := n + 110222) (t := 106) (n := n5) (f := 457) (x := zX (nO S 15 n) + 4) (by decide) rfl rfl q5 rfl (by omega)
    have a6 := a5.row (r := 5) (u' := n + 110256) (t := 103) (n := n6) (f := 458) (x := zX (nO S 15 n) + 5) (by decide) rfl rfl q6 rfl (by omega)
    have a7 := a6.row (r := 6) (u' := n + 115056) (t := 106) (n := n7) (f := 459) (x := zX (nO S 15 n) + 6) (by decide) rfl rfl q7 rfl (by omega)
    have a8 := a7.row (r := 7) (u' := n + 115144) (t := 101) (n := n8) (f := 460) (x := zX (nO S 15 n) + 7) (by decide) rfl rfl q8 rfl (by omega)
    have a9 := a8.row (r := 8) (u' := n + 115204) (t := 101) (n := n9) (f := 461) (x := zX (nO S 15 n) + 8) (by decide) rfl rfl q9 rfl (by omega)
    have b9 := a9.int (f := 463) (v := (-1))
    have a10 := b9.row (r := 9) (u' := n + 115364) (t := 101) (n := n10) (f := 464) (x := zX (nO S 15 n) + 9) (by decide) rfl rfl q10 rfl (by omega)
    exact a10
  have hx : zX T = zX S + 1 + 10 := hT.1
  have hu : zU T ≤ zU S + (n + 115364) := hT.2.1
  have hmT : zT T (zX S) = 15 := hT.2.2.2.2.1.1
  have hFT : FS T := hT.2.2.1
  have hF2 : FS (nO T 2 4) := fun a ha => (up1_n (show a ≠ zX T from Nat.ne_of_gt ha)).trans (hFT a (Nat.le_of_succ_le ha))
  refine r_aload_n dX13_init_95 rfl 0 rfl ?_
  refine r_new (ci := 1) dX13_init_96 fn_msb (by omega) (by omega) ?_
  refine r_dup dX13_init_99 rfl ?_
  refine r_fnI (M2 := m_J4_init_da8c8) (As := []) (rest := [.ref (zX T), .ref (zX S)]) (v := none) dX13_init_100 cc_X13_init_49 rfl rfl rfl (Nat.le_of_ble_eq_true rfl) (j_sbNew (S := nO T 2 4) (b := zX T) up1_s hF2 (show zX T + 1 + 1 ≤ gN G by omega) (show zU T + 4 + 16 ≤ gM G by omega)) rfl ?_
  refine r_putP (ci := 14) (k := 19) (x := some (zX T)) dX13_init_103 fw_X13_init_50 (show up1 (up1 (zT T) (zX T) 2) (zX T + 1) 104 (zX S) = 15 from (up1_n (by omega)).trans ((up1_n (by omega)).trans hmT)) rfl rfl ?_
  refine Wx.gp (RM0 S (zX S) (n + 115384)) ?_ (fun T3 h3 => ?_)
  · have h := hT.paper
    exact ⟨⟨h.1.1, by show zU T + 4 + 16 ≤ zU S + (n + 115384); omega⟩, h.2⟩
  clear hT hu hx hmT hFT hF2
  obtain ⟨hz, hF3, hL3, hs3, hI3, hA3, hp3⟩ := h3
  have e3 : rput T3 (zX S) (sg mV0 (fun _ => 0)) (zD T3 (zX S + 6)) = T3 := rput_self (fun f hf => by
    show zI T3 f (zX S) = mV0 0 (f - 448)
    rw [hI3]
    unfold wMO mV0
    by_cases e : f = 463
    · rw [if_pos e, if_pos (by omega)]
    · rw [if_neg e, if_neg (by omega)]) (fun a i a1 a2 => by
    obtain ⟨j, rfl⟩ : ∃ j, a = zX S + j := ⟨a - zX S, by omega⟩
    rw [hA3 j (by omega) (by omega), Nat.add_sub_cancel_left]
    show (0 : Int32) = if j = 1 then nI 0 else mV0 j i
    by_cases e : j = 1
    · rw [if_pos e]; exact nI_0.symm
    · rw [if_neg e]; unfold mV0; rw [if_neg (by omega)]) (fun i => rfl)
  refine Wx.st' e3.symm ?_
  exact wi_model3 hs3 ⟨rfl, T3, _, rfl, hz, hF3, hL3, hs3, hI3, hA3, hp3⟩
