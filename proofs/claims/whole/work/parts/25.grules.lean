/-! the reference's row of numbers by plain numbers: g -/
def sg (V : RVal) (g : Nat → Nat) : RVal := fun j i => if j = 1 then nI (g i) else V j i
theorem sg_up {V : RVal} {g : Nat → Nat} {i x : Nat} : up2 (sg V g) 1 i (nI x) = sg V (up1 g i x) := by
  funext a b
  unfold up2 sg up1
  by_cases h : a = 1
  · subst h
    by_cases h2 : b = i
    · subst h2; rw [if_pos ⟨rfl, rfl⟩, if_pos rfl, if_pos rfl]
    · rw [if_neg (fun h => h2 h.2), if_pos rfl, if_pos rfl, if_neg h2]
  · rw [if_neg (fun q => h q.1), if_neg h, if_neg h]
theorem sg_o {V : RVal} {g : Nat → Nat} {j i : Nat} {x : Int32} (hj : j ≠ 1) : up2 (sg V g) j i x = sg (up2 V j i x) g := by
  funext a b
  unfold up2 sg
  by_cases h : a = 1
  · subst h
    rw [if_neg (fun q => hj q.1.symm), if_pos rfl, if_pos rfl]
  · rw [if_neg h, if_neg h]
theorem sg_ex (V : RVal) : ∃ g : Nat → Nat, (∀ i, g i < 2 ^ 32) ∧ V = sg V g := by
  refine ⟨fun i => (V 1 i).toBitVec.toNat, fun i => (V 1 i).toBitVec.isLt, ?_⟩
  funext j i
  unfold sg
  by_cases h : j = 1
  · subst h; rw [if_pos rfl]; exact i32_n rfl
  · rw [if_neg h]
theorem up1_s {α : Type} {f : Nat → α} {i : Nat} {x : α} : up1 f i x i = x := by unfold up1; rw [if_pos rfl]
theorem up1_e {α : Type} {f : Nat → α} {i j : Nat} {x : α} (h : j = i) : up1 f i x j = x := by unfold up1; rw [if_pos h]
theorem up1_n {α : Type} {f : Nat → α} {i j : Nat} {x : α} (h : j ≠ i) : up1 f i x j = f j := by unfold up1; rw [if_neg h]
theorem up1_up {α : Type} {f : Nat → α} {i : Nat} {x y : α} : up1 (up1 f i x) i y = up1 f i y := by
  funext j; unfold up1; by_cases h : j = i
  · rw [if_pos h, if_pos h]
  · rw [if_neg h, if_neg h, if_neg h]
theorem up1_self {α : Type} {f : Nat → α} {i : Nat} : up1 f i (f i) = f := by
  funext j; unfold up1; by_cases h : j = i
  · rw [if_pos h, h]
  · rw [if_neg h]
section GRules
variable {M M2 : MI} {G : GI} {T : Hp} {m : Nat} {V : RVal} {g : Nat → Nat} {od : Nat → UInt64} {pc : Nat} {lv : List (Nat × Value)} {st : List Value} {Q : OV → Hp → Prop}
theorem g_iald {i : Nat} (hs : RS T m) (hd : decode (mB M) pc = .ok (.iaload, 1)) (hi : i < 10002) (kk : Wx M G (rput T m (sg V g) od) (pc + 1) lv (.int (nI (g i)) :: st) Q) : Wx M G (rput T m (sg V g) od) pc lv (.int (nI i) :: .ref (m + 1) :: st) Q :=
  m_iald (j := 1) hs (Or.inl ⟨rfl, rfl⟩) hd hi (by decide) kk
theorem g_iast {i x : Nat} (hs : RS T m) (hd : decode (mB M) pc = .ok (.iastore, 1)) (hi : i < 10002) (kk : Wx M G (rput T m (sg V (up1 g i x)) od) (pc + 1) lv st Q) : Wx M G (rput T m (sg V g) od) pc lv (.int (nI x) :: .int (nI i) :: .ref (m + 1) :: st) Q :=
  m_iast (j := 1) hs (Or.inl ⟨rfl, rfl⟩) hd hi (by decide) (by rw [sg_up]; exact kk)
theorem o_iald {j n i : Nat} (hj : j ≠ 1) (hs : RS T m) (hr : rowI j n) (hd : decode (mB M) pc = .ok (.iaload, 1)) (hi : i < n) (hn : n < 2 ^ 31) (kk : Wx M G (rput T m (sg V g) od) (pc + 1) lv (.int (V j i) :: st) Q) : Wx M G (rput T m (sg V g) od) pc lv (.int (nI i) :: .ref (m + j) :: st) Q :=
  m_iald hs hr hd hi hn (by rw [show sg V g j i = V j i by unfold sg; rw [if_neg hj]]; exact kk)
theorem o_iast {j n i : Nat} {x : Int32} (hj : j ≠ 1) (hs : RS T m) (hr : rowI j n) (hd : decode (mB M) pc = .ok (.iastore, 1)) (hi : i < n) (hn : n < 2 ^ 31) (kk : Wx M G (rput T m (sg (up2 V j i x) g) od) (pc + 1) lv st Q) : Wx M G (rput T m (sg V g) od) pc lv (.int x :: .int (nI i) :: .ref (m + j) :: st) Q :=
  m_iast hs hr hd hi hn (by rw [sg_o hj]; exact kk)
theorem o_zald {j n i : Nat} (hj : j ≠ 1) (hs : RS T m) (hr : rowZ j n) (hd : decode (mB M) pc = .ok (.baload, 1)) (hi : i < n) (hn : n < 2 ^ 31) (kk : Wx M G (rput T m (sg V g) od) (pc + 1) lv (.int (V j i) :: st) Q) : Wx M G (rput T m (sg V g) od) pc lv (.int (nI i) :: .ref (m + j) :: st) Q :=
  m_zald hs hr hd hi hn (by rw [show sg V g j i = V j i by unfold sg; rw [if_neg hj]]; exact kk)
theorem o_zast {j n i : Nat} {x : Int32} (hj : j ≠ 1) (hs : RS T m) (hr : rowZ j n) (hd : decode (mB M) pc = .ok (.bastore, 1)) (hi : i < n) (hn : n < 2 ^ 31) (hx : vp_nar .boolean x = x) (kk : Wx M G (rput T m (sg (up2 V j i x) g) od) (pc + 1) lv st Q) : Wx M G (rput T m (sg V g) od) pc lv (.int x :: .int (nI i) :: .ref (m + j) :: st) Q :=
  m_zast hs hr hd hi hn hx (by rw [sg_o hj]; exact kk)
theorem o_get {idx k : Nat} (hs : RS T m) (hd : decode (mB M) pc = .ok (.getfield idx, 3)) (hf : fR (mY M).cls idx 14 k) (hi : rfF (32 * 14 + k) = false) (kk : Wx M G (rput T m (sg V g) od) (pc + 3) lv (.int (V 0 k) :: st) Q) : Wx M G (rput T m (sg V g) od) pc lv (.ref m :: st) Q :=
  m_get hs hd hf hi kk
theorem o_put {idx k : Nat} {x : Int32} {ty0 : FieldType} (hs : RS T m) (hd : decode (mB M) pc = .ok (.putfield idx, 3)) (hf : fW M idx 14 k ty0) (hi : rfF (32 * 14 + k) = false) (hn : narrow ty0 (.int x) = .int x) (hfit : fits ty0 (.int x) = true) (kk : Wx M G (rput T m (sg (up2 V 0 k x) g) od) (pc + 3) lv st Q) : Wx M G (rput T m (sg V g) od) pc lv (.int x :: .ref m :: st) Q :=
  m_put hs hd hf hi hn hfit (by rw [sg_o (by decide)]; exact kk)
end GRules
section BitRules
variable {M : MI} {G : GI} {S : Hp} {pc : Nat} {lv : List (Nat × Value)} {st : List Value} {Q : OV → Hp → Prop}
theorem r_iandN {a b : Nat} (hd : decode (mB M) pc = .ok (.iand, 1)) (ha : a < 2 ^ 32) (hb : b < 2 ^ 32) (kk : Wx M G S (pc + 1) lv (.int (nI (a &&& b)) :: st) Q) : Wx M G S pc lv (.int (nI b) :: .int (nI a) :: st) Q := r_iand hd (by rw [nI_and ha hb]; exact kk)
theorem nI_tn (n : Nat) : (nI n).toBitVec.toNat = n % 2 ^ 32 := rfl
theorem r_iandM {a b k c : Nat} (hk : b = 2 ^ k - 1) (hc : c = 2 ^ k) (hd : decode (mB M) pc = .ok (.iand, 1)) (h3 : k < 32) (kk : Wx M G S (pc + 1) lv (.int (nI (a % c)) :: st) Q) : Wx M G S pc lv (.int (nI b) :: .int (nI a) :: st) Q := by
  refine r_iand hd ?_
  have h2 : 2 ^ k ≤ 2 ^ 31 := Nat.pow_le_pow_right (by decide) (by omega)
  have e : nI a &&& nI b = nI (a % c) := by
    rw [pk_and (nI a) (m := nI b) k (by rw [nI_tn, hk]; omega), nI_tn, hc, Nat.mod_mod_of_dvd _ (Nat.pow_dvd_pow 2 (by omega))]
  rw [e]
  exact kk
theorem r_iorN {a b : Nat} (hd : decode (mB M) pc = .ok (.ior, 1)) (ha : a < 2 ^ 32) (hb : b < 2 ^ 32) (kk : Wx M G S (pc + 1) lv (.int (nI (a ||| b)) :: st) Q) : Wx M G S pc lv (.int (nI b) :: .int (nI a) :: st) Q := r_ior hd (by rw [nI_or ha hb]; exact kk)
theorem nI_xor {a b : Nat} (ha : a < 2 ^ 32) (hb : b < 2 ^ 32) : nI a ^^^ nI b = nI (a ^^^ b) := by
  apply i32_n
  rw [Int32.toBitVec_xor, BitVec.toNat_xor, pk_tn ha, pk_tn hb]
theorem r_ixorN {a b : Nat} (hd : decode (mB M) pc = .ok (.ixor, 1)) (ha : a < 2 ^ 32) (hb : b < 2 ^ 32) (kk : Wx M G S (pc + 1) lv (.int (nI (a ^^^ b)) :: st) Q) : Wx M G S pc lv (.int (nI b) :: .int (nI a) :: st) Q := r_ixor hd (by rw [nI_xor ha hb]; exact kk)
theorem r_ishlN {a s : Nat} (hd : decode (mB M) pc = .ok (.ishl, 1)) (hs : s < 31) (h : a * 2 ^ s < 2 ^ 32) (kk : Wx M G S (pc + 1) lv (.int (nI (a * 2 ^ s)) :: st) Q) : Wx M G S pc lv (.int (nI s) :: .int (nI a) :: st) Q := r_ishl hd (by rw [nI_shl hs h]; exact kk)
theorem r_ishrN {a s : Nat} (hd : decode (mB M) pc = .ok (.ishr, 1)) (ha : a < 2 ^ 31) (hs : s < 31) (kk : Wx M G S (pc + 1) lv (.int (nI (a / 2 ^ s)) :: st) Q) : Wx M G S pc lv (.int (nI s) :: .int (nI a) :: st) Q := r_ishr hd (by rw [nI_shr ha hs]; exact kk)
theorem Wx.topN {x y : Nat} (h : x = y) (kk : Wx M G S pc lv (.int (nI y) :: st) Q) : Wx M G S pc lv (.int (nI x) :: st) Q := h ▸ kk
end BitRules
theorem wD_n {n : Nat} (h : n < 2 ^ 31) : wD (nI n) = nI (n % 16) := nI_am (k := 4) (by omega) (by decide)
theorem wR_n {n : Nat} (h : n < 2 ^ 31) : wR (nI n) = nI (fld 4 2 n) := nI_fld (t := 4) (q := 2) h (by decide) (by decide)
theorem wS_n {n : Nat} (h : n < 2 ^ 31) : wS (nI n) = nI (fld 6 3 n) := nI_fld (t := 6) (q := 3) h (by decide) (by decide)
theorem wC_n {n : Nat} (h : n < 2 ^ 31) : wC (nI n) = nI (fld 9 1 n) := nI_fld (t := 9) (q := 1) h (by decide) (by decide)
theorem wP_n {n k : Nat} (h : n < 2 ^ 31) (hk : k < 3) : wP (nI n) k = nI (fld (8 * k) 8 n) := nI_fld (t := 8 * k) (q := 8) h (by omega) (by decide)
theorem wY_n {n k : Nat} (h : n < 2 ^ 31) (hk : k < 4) : wY (nI n) k = nI (fld (10 + 2 * k) 2 n) := nI_fld (t := 10 + 2 * k) (q := 2) h (by omega) (by decide)
/-- the unit words stay small, whatever lies there -/
def WB (g : Nat → Nat) : Prop := ∀ i, 402 ≤ i → g i < 16777216
def sW (w : Nat) : Nat := fld 6 3 w
def rW (w : Nat) : Nat := fld 4 2 w
def yW (w k : Nat) : Nat := fld (10 + 2 * k) 2 w
def pW (w k : Nat) : Nat := fld (8 * k) 8 w
def bW (w k : Nat) : Nat := w % 16 / 2 ^ k % 2
