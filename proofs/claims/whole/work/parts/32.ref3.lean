theorem g_size {G : GI} {T : Hp} {m : Nat} {V : RVal} {g : Nat → Nat} {od : Nat → UInt64} (hs : RS T m) {l : Nat} (hl : l < 24) : Fn m_X13_size G [.ref (m), .int (nI (l))] (rput T m (sg V g) od) (some (.int (nI (g (90 + 13 * l + 1))))) (rput T m (sg V g) od) := f_size hs hl rfl
theorem g_productOf {G : GI} {T : Hp} {m : Nat} {V : RVal} {g : Nat → Nat} {od : Nat → UInt64} (hs : RS T m) {l : Nat} (hl : l < 24) : Fn m_X13_productOf G [.ref (m), .int (nI (l))] (rput T m (sg V g) od) (some (.int (nI (22 + 10 * g (90 + 13 * l + 0))))) (rput T m (sg V g) od) := f_productOf hs hl rfl
theorem g_defects {G : GI} {T : Hp} {m : Nat} {V : RVal} {g : Nat → Nat} {od : Nat → UInt64} (hs : RS T m) (hb : WB g) {l u : Nat} (hl : l < 24) (hu : u < 200) : Fn m_X13_defects G [.ref (m), .int (nI (l)), .int (nI (u))] (rput T m (sg V g) od) (some (.int (nI ((g (402 + 2 * (200 * l + u))) % 16)))) (rput T m (sg V g) od) := Fn.eq (f_defects hs hl hu) (congrArg (fun x => some (Value.int x)) (wD_n (Nat.lt_trans (hb _ (by omega)) (by decide)))) rfl
theorem g_repairs {G : GI} {T : Hp} {m : Nat} {V : RVal} {g : Nat → Nat} {od : Nat → UInt64} (hs : RS T m) (hb : WB g) {l u : Nat} (hl : l < 24) (hu : u < 200) : Fn m_X13_repairs G [.ref (m), .int (nI (l)), .int (nI (u))] (rput T m (sg V g) od) (some (.int (nI (rW (g (402 + 2 * (200 * l + u))))))) (rput T m (sg V g) od) := Fn.eq (f_repairs hs hl hu) (congrArg (fun x => some (Value.int x)) (wR_n (Nat.lt_trans (hb _ (by omega)) (by decide)))) rfl
theorem g_state {G : GI} {T : Hp} {m : Nat} {V : RVal} {g : Nat → Nat} {od : Nat → UInt64} (hs : RS T m) (hb : WB g) {l u : Nat} (hl : l < 24) (hu : u < 200) : Fn m_X13_state G [.ref (m), .int (nI (l)), .int (nI (u))] (rput T m (sg V g) od) (some (.int (nI (sW (g (402 + 2 * (200 * l + u))))))) (rput T m (sg V g) od) := Fn.eq (f_state hs hl hu) (congrArg (fun x => some (Value.int x)) (wS_n (Nat.lt_trans (hb _ (by omega)) (by decide)))) rfl
theorem g_way {G : GI} {T : Hp} {m : Nat} {V : RVal} {g : Nat → Nat} {od : Nat → UInt64} (hs : RS T m) (hb : WB g) {l u : Nat} (hl : l < 24) (hu : u < 200) {k : Nat} (hk : k < 4) : Fn m_X13_way G [.ref (m), .int (nI (l)), .int (nI (u)), .int (nI (k))] (rput T m (sg V g) od) (some (.int (nI (yW (g (402 + 2 * (200 * l + u))) k)))) (rput T m (sg V g) od) := Fn.eq (f_way hs hl hu) (congrArg (fun x => some (Value.int x)) (wY_n (Nat.lt_trans (hb _ (by omega)) (by decide)) hk)) rfl
theorem g_partUnit {G : GI} {T : Hp} {m : Nat} {V : RVal} {g : Nat → Nat} {od : Nat → UInt64} (hs : RS T m) (hb : WB g) {l u : Nat} (hl : l < 24) (hu : u < 200) {k : Nat} (hk : k < 3) : Fn m_X13_partUnit G [.ref (m), .int (nI (l)), .int (nI (u)), .int (nI (k))] (rput T m (sg V g) od) (some (.int (nI (pW (g (402 + 2 * (200 * l + u) + 1)) k)))) (rput T m (sg V g) od) := Fn.eq (f_partUnit hs hl hu) (congrArg (fun x => some (Value.int x)) (wP_n (Nat.lt_trans (hb _ (by omega)) (by decide)) hk)) rfl
theorem g_part {G : GI} {T : Hp} {m : Nat} {V : RVal} {g : Nat → Nat} {od : Nat → UInt64} (hs : RS T m) {l k : Nat} (hl : l < 24) (hk : k < 3) : Fn m_X13_part G [.ref (m), .int (nI (l)), .int (nI (k))] (rput T m (sg V g) od) (some (.int (nI (g (90 + 13 * l + (10 + k)))))) (rput T m (sg V g) od) := f_part hs hl hk
def badG (g : Nat → Nat) (l u : Nat) : Prop := ¬ (g (402 + 2 * (200 * l + u)) % 16 &&& g (22 + 10 * g (90 + 13 * l + 0) + 1)) = 0
theorem and16 {a b : Nat} (h : b < 16) : (a &&& b) < 16 := Nat.and_lt_two_pow (n := 4) a h
theorem g_isBad {G : GI} {T : Hp} {m : Nat} {V : RVal} {g : Nat → Nat} {od : Nat → UInt64} (hs : RS T m) (hb : WB g) {l u : Nat} (hl : l < 24) (hu : u < 200) (hp : g (90 + 13 * l + 0) < 4) (h15 : g (22 + 10 * g (90 + 13 * l + 0) + 1) < 16) : Fn m_X13_isBad G [.ref (m), .int (nI (l)), .int (nI (u))] (rput T m (sg V g) od) (some (.int (bI (badG g l u)))) (rput T m (sg V g) od) := Fn.eq (f_isBad (p := g (90 + 13 * l + 0)) hs hl hu rfl hp) (congrArg (fun x => some (Value.int x)) (bI_iff (by
  show (¬ wD (nI (g (402 + 2 * (200 * l + u)))) &&& nI (g (22 + 10 * g (90 + 13 * l + 0) + 1)) = 0) ↔ _
  have h9 := hb (402 + 2 * (200 * l + u)) (by omega)
  rw [wD_n (by omega), nI_and (by omega) (by omega)]
  unfold badG
  constructor
  · intro h q
    exact h (by rw [q]; rfl)
  · intro h q
    refine h ?_
    have := and16 (a := g (402 + 2 * (200 * l + u)) % 16) h15
    exact (nI_eq (by omega) (by decide)).mp (q.trans nI_0.symm)))) rfl
theorem g_isLot {G : GI} {T : Hp} {m : Nat} {V : RVal} {g : Nat → Nat} {od : Nat → UInt64} (hs : RS T m) {x : Int32} (h24 : g 0 ≤ 24) : Fn m_X13_isLot G [.ref (m), .int (x)] (rput T m (sg V g) od) (some (.int (bI (vp_in x (g 0))))) (rput T m (sg V g) od) := f_isLot hs rfl h24
noncomputable def inS (g : Nat → Nat) (l x : Nat) : Nat := cnt (fun u => sW (g (402 + 2 * (200 * l + u))) = x) (g (90 + 13 * l + 1))
noncomputable def badN (g : Nat → Nat) (l : Nat) : Nat := cnt (fun u => sW (g (402 + 2 * (200 * l + u))) = 0 ∧ badG g l u) (g (90 + 13 * l + 1))
theorem sW_lt (w : Nat) : sW w < 8 := fld_lt 6 3 w
theorem rW_lt (w : Nat) : rW w < 4 := fld_lt 4 2 w
theorem yW_lt (w k : Nat) : yW w k < 4 := fld_lt (10 + 2 * k) 2 w
theorem pW_lt (w k : Nat) : pW w k < 256 := fld_lt (8 * k) 8 w
theorem g_inState {G : GI} {T : Hp} {m : Nat} {V : RVal} {g : Nat → Nat} {od : Nat → UInt64} (hs : RS T m) (hb : WB g) {l x : Nat} (hl : l < 24) (hz : g (90 + 13 * l + 1) ≤ 200) (hx : x < 2 ^ 31) : Fn m_X13_inState G [.ref (m), .int (nI (l)), .int (nI (x))] (rput T m (sg V g) od) (some (.int (nI (inS g l x)))) (rput T m (sg V g) od) := Fn.eq (f_inState hs hl rfl hz) (congrArg (fun x => some (Value.int (nI x))) (cnt_congr (fun u hu => by
  show wS (nI (g (402 + 2 * (200 * l + u)))) = nI x ↔ _
  have h9 := hb (402 + 2 * (200 * l + u)) (by omega)
  rw [wS_n (by omega)]
  exact nI_eq (Nat.lt_trans (sW_lt _) (by decide)) hx))) rfl
set_option maxRecDepth 4000 in
theorem g_badHere {G : GI} {T : Hp} {m : Nat} {V : RVal} {g : Nat → Nat} {od : Nat → UInt64} (hs : RS T m)  (hb : WB g) {l : Nat} (hl : l < 24) (hz : g (90 + 13 * l + 1) ≤ 200) (hp : g (90 + 13 * l + 0) < 4) (h15 : g (22 + 10 * g (90 + 13 * l + 0) + 1) < 16) : Fn m_X13_badHere G [.ref (m), .int (nI (l))] (rput T m (sg V g) od) (some (.int (nI (badN g l)))) (rput T m (sg V g) od) := by
  refine Cn.of rfl (by decide) (Nat.le_of_ble_eq_true rfl) (fun hN hM => ?_)
  show Wx _ G _ 0 [(0, .ref (m)), (1, .int (nI (l)))] [] _
  refine r_iconst (v := nI 0) dX13_badHere_0 (by decide) ?_
  refine r_istore_n (lv' := [(2, .int (nI (0))), (0, .ref (m)), (1, .int (nI (l)))]) dX13_badHere_1 rfl (by decide) rfl ?_
  refine r_iconst (v := nI 0) dX13_badHere_2 (by decide) ?_
  refine r_istore_n (lv' := [(3, .int (nI (0))), (2, .int (nI (0))), (0, .ref (m)), (1, .int (nI (l)))]) dX13_badHere_3 rfl (by decide) rfl ?_
  refine Wx.sub [2, 3, 1, 0] rfl ?_
  refine Wx.loop (fun u => (rput T m (sg V g) od)) (fun u => [(0, .ref (m)), (1, .int (nI (l))), (2, .int (nI (cnt (fun u => sW (g (402 + 2 * (200 * l + u))) = 0 ∧ badG g l u) u))), (3, .int (nI (u)))]) (g (90 + 13 * l + 1)) (0) (Nat.zero_le _) (fun u hge hle next => ?_)
  show Wx _ G ((rput T m (sg V g) od)) 4 [(0, .ref (m)), (1, .int (nI (l))), (2, .int (nI (cnt (fun u => sW (g (402 + 2 * (200 * l + u))) = 0 ∧ badG g l u) u))), (3, .int (nI (u)))] [] _
  refine r_iload_n dX13_badHere_4 rfl 3 rfl ?_
  refine r_aload_n dX13_badHere_5 rfl 0 rfl ?_
  refine r_iload_n dX13_badHere_6 rfl 1 rfl ?_
  refine r_fnV (M2 := m_X13_size) (As := [.int (nI (l))]) (rest := [.int (nI (u))]) (v := some (.int (nI (g (90 + 13 * l + 1))))) dX13_badHere_7 cc_X13_badHere_80 rfl rfl rfl (Nat.le_of_ble_eq_true rfl) hs.1 rfl rfl (by decide) (g_size hs (by (have := sW_lt (g (402 + 2 * (200 * l + u))); omega))) rfl ?_
  refine r_icmp_geN (tgt := 45) dX13_badHere_10 (by decide) (by (have := sW_lt (g (402 + 2 * (200 * l + u))); omega)) (by (have := sW_lt (g (402 + 2 * (200 * l + u))); omega)) (fun h10 => ?_) (fun h10 => ?_)
  · refine r_iload_n dX13_badHere_45 rfl 2 rfl ?_
    obtain rfl : u = g (90 + 13 * l + 1) := by omega
    exact r_iret (ty := .int) dX13_badHere_46 rfl rfl ⟨rfl, rfl⟩
  · refine r_iload_n dX13_badHere_13 rfl 2 rfl ?_
    refine r_aload_n dX13_badHere_14 rfl 0 rfl ?_
    refine r_iload_n dX13_badHere_15 rfl 1 rfl ?_
    refine r_iload_n dX13_badHere_16 rfl 3 rfl ?_
    refine r_fnV (M2 := m_X13_state) (As := [.int (nI (l)), .int (nI (u))]) (rest := [.int (nI (cnt (fun u => sW (g (402 + 2 * (200 * l + u))) = 0 ∧ badG g l u) u))]) (v := some (.int (nI (sW (g (402 + 2 * (200 * l + u))))))) dX13_badHere_17 cc_X13_badHere_93 rfl rfl rfl (Nat.le_of_ble_eq_true rfl) hs.1 rfl rfl (by decide) (g_state hs hb (by (have := sW_lt (g (402 + 2 * (200 * l + u))); omega)) (by (have := sW_lt (g (402 + 2 * (200 * l + u))); omega))) rfl ?_
    refine r_if_neN (tgt := 36) dX13_badHere_20 (by decide) (by (have := sW_lt (g (402 + 2 * (200 * l + u))); omega)) (fun h20 => ?_) (fun h20 => ?_)
    · refine r_iconst (v := nI 0) dX13_badHere_36 (by decide) ?_
      refine r_iaddN dX13_badHere_37 ?_
      refine r_istore_n (lv' := [(2, .int (nI (cnt (fun u => sW (g (402 + 2 * (200 * l + u))) = 0 ∧ badG g l u) u + 0))), (0, .ref (m)), (1, .int (nI (l))), (3, .int (nI (u)))]) dX13_badHere_38 rfl (by decide) rfl ?_
      refine r_iincN (k := 1) (lv' := [(3, .int (nI (u + 1))), (2, .int (nI (cnt (fun u => sW (g (402 + 2 * (200 * l + u))) = 0 ∧ badG g l u) u + 0))), (0, .ref (m)), (1, .int (nI (l)))]) dX13_badHere_39 (by decide) 3 rfl (by decide) rfl ?_
      refine r_goto (tgt := 4) dX13_badHere_42 (by decide) ?_
      refine Wx.sub [2, 3, 1, 0] rfl ?_
      have n2 := next (by omega)
      first | exact n2 | (rw [cnt_t (p := fun u => sW (g (402 + 2 * (200 * l + u))) = 0 ∧ badG g l u) (by first | assumption | exact ⟨by assumption, by assumption⟩)] at n2; exact n2) | (rw [cnt_f (p := fun u => sW (g (402 + 2 * (200 * l + u))) = 0 ∧ badG g l u) (by first | assumption | (intro q; exact absurd q.1 (by assumption)) | (intro q; exact absurd q.2 (by assumption)))] at n2; exact n2)
    · refine r_aload_n dX13_badHere_23 rfl 0 rfl ?_
      refine r_iload_n dX13_badHere_24 rfl 1 rfl ?_
      refine r_iload_n dX13_badHere_25 rfl 3 rfl ?_
      refine r_fnV (M2 := m_X13_isBad) (As := [.int (nI (l)), .int (nI (u))]) (rest := [.int (nI (cnt (fun u => sW (g (402 + 2 * (200 * l + u))) = 0 ∧ badG g l u) u))]) (v := some (.int (bI (badG g l u)))) dX13_badHere_26 cc_X13_badHere_96 rfl rfl rfl (Nat.le_of_ble_eq_true rfl) hs.1 rfl rfl (by decide) (g_isBad hs hb (by (have := sW_lt (g (402 + 2 * (200 * l + u))); omega)) (by (have := sW_lt (g (402 + 2 * (200 * l + u))); omega)) hp h15) rfl ?_
      refine r_if_eqB (tgt := 36) dX13_badHere_29 (by decide) (fun h29 => ?_) (fun h29 => ?_)
      · refine r_iconst (v := nI 0) dX13_badHere_36 (by decide) ?_
        refine r_iaddN dX13_badHere_37 ?_
        refine r_istore_n (lv' := [(2, .int (nI (cnt (fun u => sW (g (402 + 2 * (200 * l + u))) = 0 ∧ badG g l u) u + 0))), (0, .ref (m)), (1, .int (nI (l))), (3, .int (nI (u)))]) dX13_badHere_38 rfl (by decide) rfl ?_
        refine r_iincN (k := 1) (lv' := [(3, .int (nI (u + 1))), (2, .int (nI (cnt (fun u => sW (g (402 + 2 * (200 * l + u))) = 0 ∧ badG g l u) u + 0))), (0, .ref (m)), (1, .int (nI (l)))]) dX13_badHere_39 (by decide) 3 rfl (by decide) rfl ?_
        refine r_goto (tgt := 4) dX13_badHere_42 (by decide) ?_
        refine Wx.sub [2, 3, 1, 0] rfl ?_
        have n2 := next (by omega)
        first | exact n2 | (rw [cnt_t (p := fun u => sW (g (402 + 2 * (200 * l + u))) = 0 ∧ badG g l u) (by first | assumption | exact ⟨by assumption, by assumption⟩)] at n2; exact n2) | (rw [cnt_f (p := fun u => sW (g (402 + 2 * (200 * l + u))) = 0 ∧ badG g l u) (by first | assumption | (intro q; exact absurd q.1 (by assumption)) | (intro q; exact absurd q.2 (by assumption)))] at n2; exact n2)
      · refine r_iconst (v := nI 1) dX13_badHere_32 (by decide) ?_
        refine r_goto (tgt := 37) dX13_badHere_33 (by decide) ?_
        refine r_iaddN dX13_badHere_37 ?_
        refine r_istore_n (lv' := [(2, .int (nI (cnt (fun u => sW (g (402 + 2 * (200 * l + u))) = 0 ∧ badG g l u) u + 1))), (0, .ref (m)), (1, .int (nI (l))), (3, .int (nI (u)))]) dX13_badHere_38 rfl (by decide) rfl ?_
        refine r_iincN (k := 1) (lv' := [(3, .int (nI (u + 1))), (2, .int (nI (cnt (fun u => sW (g (402 + 2 * (200 * l + u))) = 0 ∧ badG g l u) u + 1))), (0, .ref (m)), (1, .int (nI (l)))]) dX13_badHere_39 (by decide) 3 rfl (by decide) rfl ?_
        refine r_goto (tgt := 4) dX13_badHere_42 (by decide) ?_
        refine Wx.sub [2, 3, 1, 0] rfl ?_
        have n2 := next (by omega)
        first | exact n2 | (rw [cnt_t (p := fun u => sW (g (402 + 2 * (200 * l + u))) = 0 ∧ badG g l u) (by first | assumption | exact ⟨by assumption, by assumption⟩)] at n2; exact n2) | (rw [cnt_f (p := fun u => sW (g (402 + 2 * (200 * l + u))) = 0 ∧ badG g l u) (by first | assumption | (intro q; exact absurd q.1 (by assumption)) | (intro q; exact absurd q.2 (by assumption)))] at n2; exact n2)
