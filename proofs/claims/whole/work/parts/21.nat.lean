def Fn (M : MI) (G : GI) (av : List Value) (S : Hp) (v : Option Value) (S' : Hp) : Prop := Cn M G av S (fun o T => o = .inl v ∧ T = S')
section NatRules
variable {M M2 : MI} {G : GI} {S : Hp} {pc : Nat} {lv : List (Nat × Value)} {st : List Value} {Q : OV → Hp → Prop}
theorem r_iaddN {a b : Nat} (hd : decode (mB M) pc = .ok (.iadd, 1))  (kk : Wx M G S (pc + 1) lv (.int (nI (a + b)) :: st) Q) : Wx M G S pc lv (.int (nI b) :: .int (nI a) :: st) Q := r_iadd hd (by rw [nI_add]; exact kk)
theorem r_imulN {a b : Nat} (hd : decode (mB M) pc = .ok (.imul, 1))  (kk : Wx M G S (pc + 1) lv (.int (nI (a * b)) :: st) Q) : Wx M G S pc lv (.int (nI b) :: .int (nI a) :: st) Q := r_imul hd (by rw [pk_mul]; exact kk)
theorem r_isubN {a b : Nat} (hd : decode (mB M) pc = .ok (.isub, 1)) (h : b ≤ a) (kk : Wx M G S (pc + 1) lv (.int (nI (a - b)) :: st) Q) : Wx M G S pc lv (.int (nI b) :: .int (nI a) :: st) Q := r_isub hd (by rw [pk_sub h]; exact kk)
theorem r_idivN {a b : Nat} (hd : decode (mB M) pc = .ok (.idiv, 1)) (ha : a < 2 ^ 31) (h0 : 0 < b) (hb : b < 2 ^ 31) (kk : Wx M G S (pc + 1) lv (.int (nI (a / b)) :: st) Q) : Wx M G S pc lv (.int (nI b) :: .int (nI a) :: st) Q := r_idiv hd (nI_ne0 h0 hb) (by rw [pk_div ha h0 hb]; exact kk)
theorem r_iremN {a b : Nat} (hd : decode (mB M) pc = .ok (.irem, 1)) (ha : a < 2 ^ 31) (h0 : 0 < b) (hb : b < 2 ^ 31) (kk : Wx M G S (pc + 1) lv (.int (nI (a % b)) :: st) Q) : Wx M G S pc lv (.int (nI b) :: .int (nI a) :: st) Q := r_irem hd (nI_ne0 h0 hb) (by rw [pk_rem ha h0 hb]; exact kk)
theorem r_iincN {i k a : Nat} {n : Int} {lv' : List (Nat × Value)} (hd : decode (mB M) pc = .ok (.iinc i n, 3)) (hv : Int32.ofInt n = nI k) (j : Nat) (hj : lv[j]? = some (i, .int (nI a))) (hn : i < mN M) (hq : (i, Value.int (nI (a + k))) :: lv.filter (fun q => !(q.1 == i) && !(q.1 + 1 == i && q.2.category == 2)) = lv') (kk : Wx M G S (pc + 3) lv' st Q) : Wx M G S pc lv st Q := r_iinc hd j hj (by rw [hv, nI_add]) hn hq kk
theorem r_icmp_eqN {a b : Nat} {off : Int} {tgt : Nat} (hd : decode (mB M) pc = .ok (.if_icmp .eq off, 3)) (ht : (pc : Int) + off = (tgt : Int)) (ha : a < 2 ^ 31) (hb : b < 2 ^ 31) (kt : a = b → Wx M G S tgt lv st Q) (kf : ¬ a = b → Wx M G S (pc + 3) lv st Q) : Wx M G S pc lv (.int (nI b) :: .int (nI a) :: st) Q := r_icmp_eq hd ht (fun h => kt ((nI_eq ha hb).mp h)) (fun h => kf (fun q => h ((nI_eq ha hb).mpr q)))
theorem r_icmp_ltN {a b : Nat} {off : Int} {tgt : Nat} (hd : decode (mB M) pc = .ok (.if_icmp .lt off, 3)) (ht : (pc : Int) + off = (tgt : Int)) (ha : a < 2 ^ 31) (hb : b < 2 ^ 31) (kt : a < b → Wx M G S tgt lv st Q) (kf : ¬ a < b → Wx M G S (pc + 3) lv st Q) : Wx M G S pc lv (.int (nI b) :: .int (nI a) :: st) Q := r_icmp_lt hd ht (fun h => kt ((nI_ltI ha hb).mp h)) (fun h => kf (fun q => h ((nI_ltI ha hb).mpr q)))
theorem r_icmp_leN {a b : Nat} {off : Int} {tgt : Nat} (hd : decode (mB M) pc = .ok (.if_icmp .le off, 3)) (ht : (pc : Int) + off = (tgt : Int)) (ha : a < 2 ^ 31) (hb : b < 2 ^ 31) (kt : a ≤ b → Wx M G S tgt lv st Q) (kf : ¬ a ≤ b → Wx M G S (pc + 3) lv st Q) : Wx M G S pc lv (.int (nI b) :: .int (nI a) :: st) Q := r_icmp_le hd ht (fun h => kt ((nI_leI ha hb).mp h)) (fun h => kf (fun q => h ((nI_leI ha hb).mpr q)))
theorem r_icmp_neN {a b : Nat} {off : Int} {tgt : Nat} (hd : decode (mB M) pc = .ok (.if_icmp .ne off, 3)) (ht : (pc : Int) + off = (tgt : Int)) (ha : a < 2 ^ 31) (hb : b < 2 ^ 31) (kt : ¬ a = b → Wx M G S tgt lv st Q) (kf : a = b → Wx M G S (pc + 3) lv st Q) : Wx M G S pc lv (.int (nI b) :: .int (nI a) :: st) Q := r_icmp_ne hd ht (fun h => kt (fun q => h ((nI_eq ha hb).mpr q))) (fun h => kf ((nI_eq ha hb).mp h))
theorem r_icmp_geN {a b : Nat} {off : Int} {tgt : Nat} (hd : decode (mB M) pc = .ok (.if_icmp .ge off, 3)) (ht : (pc : Int) + off = (tgt : Int)) (ha : a < 2 ^ 31) (hb : b < 2 ^ 31) (kt : b ≤ a → Wx M G S tgt lv st Q) (kf : a < b → Wx M G S (pc + 3) lv st Q) : Wx M G S pc lv (.int (nI b) :: .int (nI a) :: st) Q := r_icmp_ge hd ht (fun h => kt ((nI_leI hb ha).mp h)) (fun h => kf (Nat.lt_of_not_le fun q => h ((nI_leI hb ha).mpr q)))
theorem r_icmp_gtN {a b : Nat} {off : Int} {tgt : Nat} (hd : decode (mB M) pc = .ok (.if_icmp .gt off, 3)) (ht : (pc : Int) + off = (tgt : Int)) (ha : a < 2 ^ 31) (hb : b < 2 ^ 31) (kt : b < a → Wx M G S tgt lv st Q) (kf : a ≤ b → Wx M G S (pc + 3) lv st Q) : Wx M G S pc lv (.int (nI b) :: .int (nI a) :: st) Q := r_icmp_gt hd ht (fun h => kt ((nI_ltI hb ha).mp h)) (fun h => kf (Nat.le_of_not_lt fun q => h ((nI_ltI hb ha).mpr q)))
theorem r_if_eqN {a : Nat} {off : Int} {tgt : Nat} (hd : decode (mB M) pc = .ok (.ifCond .eq off, 3)) (ht : (pc : Int) + off = (tgt : Int)) (ha : a < 2 ^ 31) (kt : a = 0 → Wx M G S tgt lv st Q) (kf : ¬ a = 0 → Wx M G S (pc + 3) lv st Q) : Wx M G S pc lv (.int (nI a) :: st) Q := r_if_eq hd ht (fun h => kt ((nI_eq ha (by decide : 0 < 2 ^ 31)).mp (h.trans nI_0.symm))) (fun h => kf (fun q => h (by rw [q]; exact nI_0)))
theorem r_if_neN {a : Nat} {off : Int} {tgt : Nat} (hd : decode (mB M) pc = .ok (.ifCond .ne off, 3)) (ht : (pc : Int) + off = (tgt : Int)) (ha : a < 2 ^ 31) (kt : ¬ a = 0 → Wx M G S tgt lv st Q) (kf : a = 0 → Wx M G S (pc + 3) lv st Q) : Wx M G S pc lv (.int (nI a) :: st) Q := r_if_ne hd ht (fun h => kt (fun q => h (by rw [q]; exact nI_0))) (fun h => kf ((nI_eq ha (by decide : 0 < 2 ^ 31)).mp (h.trans nI_0.symm)))
theorem r_if_ltN {a : Nat} {off : Int} {tgt : Nat} (hd : decode (mB M) pc = .ok (.ifCond .lt off, 3)) (ht : (pc : Int) + off = (tgt : Int)) (ha : a < 2 ^ 31) (kf : Wx M G S (pc + 3) lv st Q) : Wx M G S pc lv (.int (nI a) :: st) Q := r_if_lt hd ht (fun h => absurd h (nI_pos ha)) (fun _ => kf)
theorem r_if_geN {a : Nat} {off : Int} {tgt : Nat} (hd : decode (mB M) pc = .ok (.ifCond .ge off, 3)) (ht : (pc : Int) + off = (tgt : Int)) (ha : a < 2 ^ 31) (kt : Wx M G S tgt lv st Q) : Wx M G S pc lv (.int (nI a) :: st) Q := r_if_ge hd ht (fun _ => kt) (fun h => absurd (nI_pos' ha) h)
theorem r_if_leN {a : Nat} {off : Int} {tgt : Nat} (hd : decode (mB M) pc = .ok (.ifCond .le off, 3)) (ht : (pc : Int) + off = (tgt : Int)) (ha : a < 2 ^ 31) (kt : a = 0 → Wx M G S tgt lv st Q) (kf : 0 < a → Wx M G S (pc + 3) lv st Q) : Wx M G S pc lv (.int (nI a) :: st) Q := r_if_le hd ht (fun h => kt (Nat.eq_zero_of_not_pos fun q => nI_nle q ha h)) (fun h => kf (Nat.pos_of_ne_zero fun q => h (by rw [q, nI_0]; decide)))
theorem r_if_gtN {a : Nat} {off : Int} {tgt : Nat} (hd : decode (mB M) pc = .ok (.ifCond .gt off, 3)) (ht : (pc : Int) + off = (tgt : Int)) (ha : a < 2 ^ 31) (kt : 0 < a → Wx M G S tgt lv st Q) (kf : a = 0 → Wx M G S (pc + 3) lv st Q) : Wx M G S pc lv (.int (nI a) :: st) Q := r_if_gt hd ht (fun h => kt (Nat.pos_of_ne_zero fun q => absurd h (by rw [q, nI_0]; decide))) (fun h => kf (Nat.eq_zero_of_not_pos fun q => h (by rw [← nI_0]; exact nI_lt q ha)))
theorem r_fnV {idx n b ci : Nat} {r : vw_C} {As rest : List Value} {v : Option Value} {S' : Hp} {st' : List Value} (hd : decode (mB M) pc = .ok (.invokevirtual idx, 3)) (hcs : cV M M2 idx n) (hh : mH M2 = []) (hn : As.length = n) (hst : st = As.reverse ++ .ref b :: rest) (hcat : (rest.map fun v => v.category).sum ≤ 8)
    (hbt : zT S b = ci + 1) (hc0 : vwCl[ci]? = some r) (hr1 : r.1 = (mY M2).cls) (h3 : ci < 100) (hf : Fn M2 G (.ref b :: As) S v S') (hs : v.toList ++ rest = st') (kk : Wx M G S' (pc + 3) lv st' Q) : Wx M G S pc lv st Q :=
  r_callV hd hcs hh hn hst hcat hbt hc0 hr1 h3 hf (fun v1 T h => by obtain ⟨h1, rfl⟩ := h; cases h1; rw [hs]; exact kk) (fun E T h => by cases h.1)
theorem r_fnS {idx n : Nat} {As rest : List Value} {v : Option Value} {S' : Hp} {st' : List Value} (hd : decode (mB M) pc = .ok (.invokestatic idx, 3)) (hcs : cS M M2 idx n) (hh : mH M2 = []) (hn : As.length = n) (hst : st = As.reverse ++ rest) (hcat : (rest.map fun v => v.category).sum ≤ 8)
    (hf : Fn M2 G As S v S') (hs : v.toList ++ rest = st') (kk : Wx M G S' (pc + 3) lv st' Q) : Wx M G S pc lv st Q :=
  r_callS hd hcs hh hn hst hcat hf (fun v1 T h => by obtain ⟨h1, rfl⟩ := h; cases h1; rw [hs]; exact kk) (fun E T h => by cases h.1)
theorem r_fnI {idx n b : Nat} {As rest : List Value} {v : Option Value} {S' : Hp} {st' : List Value} (hd : decode (mB M) pc = .ok (.invokespecial idx, 3)) (hcs : cI M M2 idx n) (hh : mH M2 = []) (hn : As.length = n) (hst : st = As.reverse ++ .ref b :: rest) (hcat : (rest.map fun v => v.category).sum ≤ 8)
    (hf : Fn M2 G (.ref b :: As) S v S') (hs : v.toList ++ rest = st') (kk : Wx M G S' (pc + 3) lv st' Q) : Wx M G S pc lv st Q :=
  r_callI hd hcs hh hn hst hcat hf (fun v1 T h => by obtain ⟨h1, rfl⟩ := h; cases h1; rw [hs]; exact kk) (fun E T h => by cases h.1)
theorem Fn.eq {av : List Value} {v v' : Option Value} {S' S'' : Hp} (h : Fn M G av S v S') (hv : v = v') (hS : S' = S'') : Fn M G av S v' S'' := hv ▸ hS ▸ h
end NatRules
/-! THE REFERENCE's PART of the heap: V 0 its numbers, V j its row j (at m + j), od its odds -/
abbrev RVal : Type := Nat → Nat → Int32
def rput (T : Hp) (m : Nat) (V : RVal) (od : Nat → UInt64) : Hp := (zT T, zN T, (fun f a => if a = m ∧ 448 ≤ f then V 0 (f - 448) else zI T f a), zP T, (fun a i => if m + 1 ≤ a ∧ a ≤ m + 10 then V (a - m) i else zA T a i), zL T, (fun a i => if a = m + 6 then od i else zD T a i), zQ T, zX T, zU T)
def RS (T : Hp) (m : Nat) : Prop := zT T m = 15 ∧ (zP T 448 m = some (m + 1) ∧ zP T 449 m = some (m + 2) ∧ zP T 450 m = some (m + 3) ∧ zP T 452 m = some (m + 4) ∧ zP T 457 m = some (m + 5) ∧ zP T 458 m = some (m + 6) ∧ zP T 459 m = some (m + 7) ∧ zP T 460 m = some (m + 8) ∧ zP T 461 m = some (m + 9) ∧ zP T 464 m = some (m + 10) ∧ zP T 467 m = some (m + 11)) ∧
  (zT T (m + 1) = 101 ∧ zT T (m + 2) = 101 ∧ zT T (m + 3) = 101 ∧ zT T (m + 4) = 101 ∧ zT T (m + 5) = 106 ∧ zT T (m + 6) = 103 ∧ zT T (m + 7) = 106 ∧ zT T (m + 8) = 101 ∧ zT T (m + 9) = 101 ∧ zT T (m + 10) = 101) ∧
  (zN T (m + 1) = 10002 ∧ zN T (m + 2) = 10002 ∧ zN T (m + 3) = 10002 ∧ zN T (m + 4) = 80016 ∧ zN T (m + 5) = 200 ∧ zN T (m + 6) = 34 ∧ zN T (m + 7) = 4800 ∧ zN T (m + 8) = 88 ∧ zN T (m + 9) = 60 ∧ zN T (m + 10) = 160)
/-- row j holds ints, n of them -/
def rowI (j n : Nat) : Prop := (j = 1 ∧ n = 10002) ∨ (j = 2 ∧ n = 10002) ∨ (j = 3 ∧ n = 10002) ∨ (j = 4 ∧ n = 80016) ∨ (j = 8 ∧ n = 88) ∨ (j = 9 ∧ n = 60) ∨ (j = 10 ∧ n = 160)
def rowZ (j n : Nat) : Prop := (j = 5 ∧ n = 200) ∨ (j = 7 ∧ n = 4800)
theorem rowI_of {T : Hp} {m j n : Nat} (h : RS T m) (r : rowI j n) : zT T (m + j) = 101 ∧ zN T (m + j) = n ∧ 1 ≤ j ∧ j ≤ 10 := by
  obtain ⟨-, -, ⟨t1, t2, t3, t4, t5, t6, t7, t8, t9, t10⟩, n1, n2, n3, n4, n5, n6, n7, n8, n9, n10⟩ := h
  rcases r with ⟨rfl, rfl⟩ | ⟨rfl, rfl⟩ | ⟨rfl, rfl⟩ | ⟨rfl, rfl⟩ | ⟨rfl, rfl⟩ | ⟨rfl, rfl⟩ | ⟨rfl, rfl⟩ <;> refine ⟨by assumption, by assumption, by decide, by decide⟩
theorem rowZ_of {T : Hp} {m j n : Nat} (h : RS T m) (r : rowZ j n) : zT T (m + j) = 106 ∧ zN T (m + j) = n ∧ 1 ≤ j ∧ j ≤ 10 := by
  obtain ⟨-, -, ⟨t1, t2, t3, t4, t5, t6, t7, t8, t9, t10⟩, n1, n2, n3, n4, n5, n6, n7, n8, n9, n10⟩ := h
  rcases r with ⟨rfl, rfl⟩ | ⟨rfl, rfl⟩ <;> refine ⟨by assumption, by assumption, by decide, by decide⟩
section RefRules
variable {M M2 : MI} {G : GI} {T : Hp} {m : Nat} {V : RVal} {od : Nat → UInt64} {pc : Nat} {lv : List (Nat × Value)} {st : List Value} {Q : OV → Hp → Prop}
theorem rput_A {j i : Nat} (h1 : 1 ≤ j) (h2 : j ≤ 10) : zA (rput T m V od) (m + j) i = V j i := by
  show (if m + 1 ≤ m + j ∧ m + j ≤ m + 10 then V (m + j - m) i else _) = _
  rw [if_pos ⟨by omega, by omega⟩, Nat.add_sub_cancel_left]
theorem rput_uA {j i : Nat} {x : Int32} (h1 : 1 ≤ j) (h2 : j ≤ 10) : uA (rput T m V od) (m + j) i x = rput T m (up2 V j i x) od := by
  unfold rput uA
  refine Prod.ext rfl (Prod.ext rfl (Prod.ext ?_ (Prod.ext rfl (Prod.ext ?_ rfl))))
  · funext f a
    show (if a = m ∧ 448 ≤ f then V 0 (f - 448) else zI T f a) = (if a = m ∧ 448 ≤ f then up2 V j i x 0 (f - 448) else zI T f a)
    have : up2 V j i x 0 (f - 448) = V 0 (f - 448) := by unfold up2; rw [if_neg (by omega)]
    rw [this]
  · funext a b
    show up2 (fun a i => if m + 1 ≤ a ∧ a ≤ m + 10 then V (a - m) i else zA T a i) (m + j) i x a b = (if m + 1 ≤ a ∧ a ≤ m + 10 then up2 V j i x (a - m) b else zA T a b)
    unfold up2
    dsimp only
    by_cases ha : a = m + j
    · subst ha
      rw [if_pos (⟨by omega, by omega⟩ : m + 1 ≤ m + j ∧ m + j ≤ m + 10), if_pos (⟨by omega, by omega⟩ : m + 1 ≤ m + j ∧ m + j ≤ m + 10), Nat.add_sub_cancel_left]
      simp
    · rw [if_neg (fun h => ha h.1)]
      by_cases hz : m + 1 ≤ a ∧ a ≤ m + 10
      · rw [if_pos hz, if_pos hz, if_neg (by omega)]
      · rw [if_neg hz, if_neg hz]
theorem rput_I {k : Nat} : zI (rput T m V od) (448 + k) m = V 0 k := by
  show (if m = m ∧ 448 ≤ 448 + k then V 0 (448 + k - 448) else _) = _
  rw [if_pos ⟨rfl, by omega⟩, Nat.add_sub_cancel_left]
theorem rput_uI {k : Nat} {x : Int32} : uI (rput T m V od) (448 + k) m x = rput T m (up2 V 0 k x) od := by
  unfold rput uI
  refine Prod.ext rfl (Prod.ext rfl (Prod.ext ?_ (Prod.ext rfl (Prod.ext ?_ rfl))))
  · funext f a
    show up2 (fun f a => if a = m ∧ 448 ≤ f then V 0 (f - 448) else zI T f a) (448 + k) m x f a = (if a = m ∧ 448 ≤ f then up2 V 0 k x 0 (f - 448) else zI T f a)
    unfold up2
    dsimp only
    by_cases hz : a = m ∧ 448 ≤ f
    · obtain ⟨rfl, hf⟩ := hz
      by_cases e : f = 448 + k
      · subst e
        simp
      · rw [if_neg (fun h => e h.1), if_pos ⟨rfl, hf⟩, if_pos ⟨rfl, hf⟩, if_neg (by omega)]
    · rw [if_neg (fun h => hz ⟨h.2, by omega⟩), if_neg hz, if_neg hz]
  · funext a b
    show (if m + 1 ≤ a ∧ a ≤ m + 10 then V (a - m) b else zA T a b) = (if m + 1 ≤ a ∧ a ≤ m + 10 then up2 V 0 k x (a - m) b else zA T a b)
    by_cases hz : m + 1 ≤ a ∧ a ≤ m + 10
    · rw [if_pos hz, if_pos hz]
      unfold up2
      rw [if_neg (by omega)]
    · rw [if_neg hz, if_neg hz]
theorem m_ref {idx k j : Nat} (hs : RS T m) (hj : zP T (448 + k) m = some (m + j)) (hd : decode (mB M) pc = .ok (.getfield idx, 3)) (hf : fR (mY M).cls idx 14 k) (hi : rfF (32 * 14 + k) = true) (kk : Wx M G (rput T m V od) (pc + 3) lv (.ref (m + j) :: st) Q) : Wx M G (rput T m V od) pc lv (.ref m :: st) Q :=
  r_getR hd hf hs.1 hi hj kk
theorem m_get {idx k : Nat} (hs : RS T m) (hd : decode (mB M) pc = .ok (.getfield idx, 3)) (hf : fR (mY M).cls idx 14 k) (hi : rfF (32 * 14 + k) = false) (kk : Wx M G (rput T m V od) (pc + 3) lv (.int (V 0 k) :: st) Q) : Wx M G (rput T m V od) pc lv (.ref m :: st) Q :=
  r_getI hd hf hs.1 hi (by rw [show 32 * 14 + k = 448 + k from rfl, rput_I]; exact kk)
theorem m_put {idx k : Nat} {x : Int32} {ty0 : FieldType} (hs : RS T m) (hd : decode (mB M) pc = .ok (.putfield idx, 3)) (hf : fW M idx 14 k ty0) (hi : rfF (32 * 14 + k) = false) (hn : narrow ty0 (.int x) = .int x) (hfit : fits ty0 (.int x) = true) (kk : Wx M G (rput T m (up2 V 0 k x) od) (pc + 3) lv st Q) : Wx M G (rput T m V od) pc lv (.int x :: .ref m :: st) Q :=
  r_putI hd hf hs.1 hi hn hfit (by rw [show 32 * 14 + k = 448 + k from rfl, rput_uI]; exact kk)
theorem m_iald {j n i : Nat} (hs : RS T m) (hr : rowI j n) (hd : decode (mB M) pc = .ok (.iaload, 1)) (hi : i < n) (hn : n < 2 ^ 31) (kk : Wx M G (rput T m V od) (pc + 1) lv (.int (V j i) :: st) Q) : Wx M G (rput T m V od) pc lv (.int (nI i) :: .ref (m + j) :: st) Q := by
  obtain ⟨h1, h2, h3, h4⟩ := rowI_of hs hr
  refine r_iald hd h1 (by show vp_in (nI i) (zN T (m + j)); rw [h2]; exact vp_in_nI hi hn) ?_
  rw [nI_clamp (by omega), rput_A h3 h4]
  exact kk
theorem m_iast {j n i : Nat} {x : Int32} (hs : RS T m) (hr : rowI j n) (hd : decode (mB M) pc = .ok (.iastore, 1)) (hi : i < n) (hn : n < 2 ^ 31) (kk : Wx M G (rput T m (up2 V j i x) od) (pc + 1) lv st Q) : Wx M G (rput T m V od) pc lv (.int x :: .int (nI i) :: .ref (m + j) :: st) Q := by
  obtain ⟨h1, h2, h3, h4⟩ := rowI_of hs hr
  refine r_iast hd h1 (by show vp_in (nI i) (zN T (m + j)); rw [h2]; exact vp_in_nI hi hn) ?_
  rw [nI_clamp (by omega), rput_uA h3 h4]
  exact kk
theorem m_zald {j n i : Nat} (hs : RS T m) (hr : rowZ j n) (hd : decode (mB M) pc = .ok (.baload, 1)) (hi : i < n) (hn : n < 2 ^ 31) (kk : Wx M G (rput T m V od) (pc + 1) lv (.int (V j i) :: st) Q) : Wx M G (rput T m V od) pc lv (.int (nI i) :: .ref (m + j) :: st) Q := by
  obtain ⟨h1, h2, h3, h4⟩ := rowZ_of hs hr
  refine r_zald hd h1 (by show vp_in (nI i) (zN T (m + j)); rw [h2]; exact vp_in_nI hi hn) ?_
  rw [nI_clamp (by omega), rput_A h3 h4]
  exact kk
theorem m_zast {j n i : Nat} {x : Int32} (hs : RS T m) (hr : rowZ j n) (hd : decode (mB M) pc = .ok (.bastore, 1)) (hi : i < n) (hn : n < 2 ^ 31) (hx : vp_nar .boolean x = x) (kk : Wx M G (rput T m (up2 V j i x) od) (pc + 1) lv st Q) : Wx M G (rput T m V od) pc lv (.int x :: .int (nI i) :: .ref (m + j) :: st) Q := by
  obtain ⟨h1, h2, h3, h4⟩ := rowZ_of hs hr
  refine r_zast hd h1 (by show vp_in (nI i) (zN T (m + j)); rw [h2]; exact vp_in_nI hi hn) ?_
  rw [nI_clamp (by omega), hx, rput_uA h3 h4]
  exact kk
theorem m_zlen {j n : Nat} (hs : RS T m) (hr : rowI j n) (hd : decode (mB M) pc = .ok (.arraylength, 1)) (kk : Wx M G (rput T m V od) (pc + 1) lv (.int (nI n) :: st) Q) : Wx M G (rput T m V od) pc lv (.ref (m + j) :: st) Q := by
  obtain ⟨h1, h2, h3, h4⟩ := rowI_of hs hr
  refine r_alen101 hd h1 ?_
  rw [show zN (rput T m V od) (m + j) = n from h2]
  exact kk
theorem rput_T {a : Nat} : zT (rput T m V od) a = zT T a := rfl
end RefRules
