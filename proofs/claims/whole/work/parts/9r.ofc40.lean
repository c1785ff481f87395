/-! CALLS OF INHERITED METHODS; TEXTS COPIED -/
section UpRules
variable {M M2 : MI} {G : GI} {S : Hp} {pc : Nat} {lv : List (Nat × Value)} {st : List Value} {Q : OV → Hp → Prop}
def cU (M M2 : MI) (C : String) (idx n : Nat) : Prop := cD M M2 n ∧ Cond.instanceMethod (mY M2) ∈ BIG ∧ Cond.selects C (mY M2) (mY M2) ∈ BIG ∧ Cond.methodLink (mY M).cls idx (mY M2) ∈ BIG ∧ Cond.sameMethod (mY M2).cls (mY M2).cls (mY M2).name (mY M2).desc ∈ BIG
def cSU (M M2 : MI) (idx n : Nat) : Prop := cD M M2 n ∧ Cond.instanceMethod (mY M2) ∈ BIG ∧ (mY M2).name ≠ "<init>" ∧ Cond.methodLink (mY M).cls idx (mY M2) ∈ BIG ∧ Cond.sameMethod (mY M2).cls (mY M2).cls (mY M2).name (mY M2).desc ∈ BIG ∧ Cond.superclass (mY M).cls (mY M2).cls ∈ BIG
theorem r_callU {idx n b ci : Nat} {r : vw_C} {C : String} {As rest : List Value} {Q2 : OV → Hp → Prop} (hd : decode (mB M) pc = .ok (.invokevirtual idx, 3)) (hcs : cU M M2 C idx n) (hh : mH M2 = []) (hn : As.length = n) (hst : st = As.reverse ++ .ref b :: rest) (hcat : (rest.map fun v => v.category).sum ≤ 8)
    (hbt : zT S b = ci + 1) (hc0 : vwCl[ci]? = some r) (hr1 : r.1 = C) (h3 : ci < 100) (hcn : Cn M2 G (.ref b :: As) S Q2) (kk : ∀ v S', Q2 (.inl v) S' → Wx M G S' (pc + 3) lv (v.toList ++ rest) Q) (kx : ∀ E S', Q2 (.inr E) S' → WxT M G S' pc lv E Q) : Wx M G S pc lv st Q := by
  refine Wx.run (rest := rest) (fun _ _ => trivial) (fun p e R s m args below meth c C0 H locs cells slots ls hW hc hs hlv => ?_) kk kx
  obtain ⟨hx, hb, hml, hr, hown, hts, hlk, hin0, hK, hbase, hfr, hlo, htb⟩ := id C0
  obtain ⟨⟨d1, d2, d3, d4, d5⟩, d6, d7, d8, d9⟩ := hcs
  have hPre : PreV s H C b (va_Pc (.ref b :: As) (fun U => WD G S U.heap ∧ KK G U)) As := ⟨pc_blind, by rw [← hr1]; exact zrecv hW hK hbt hc0 h3, pc_pre hW hK⟩
  refine ⟨gN G - zX S, gM G - zU S, (Value.ref b :: As).toArray, ?_⟩
  have hT : GoodIn BIG (va_wsU (mY M).cls idx C (mY M2).cls (mY M2) (mY M2) (Cond.code (mY M2) (mB M2) (mN M2) (mR M2) :: BIG)) := fun w hw => by
    unfold va_wsU at hw
    rcases List.mem_append.mp hw with hw | hw
    · rcases List.mem_cons.mp hw with rfl | hw
      · exact big_good _ d8
      rcases List.mem_cons.mp hw with rfl | hw
      · exact big_good _ d9
      rcases List.mem_cons.mp hw with rfl | hw
      · exact big_good _ d7
      rcases List.mem_cons.mp hw with rfl | hw
      · exact big_good _ d6
      rcases List.mem_cons.mp hw with rfl | hw
      · exact big_good _ d2
      · exact absurd hw List.not_mem_nil
    · exact ws_good d1 w hw
  exact vx_runU (S := ⟨hx, hb, hml, hown, hts⟩) hcn (va_cwU n hts hT rfl rfl rfl rfl d3 ⟨Nat.le_trans d4 hfr, Nat.le_trans d5 hlo⟩) hPre rfl hn hlv.1 hst (lv_room hcat) hd (call_rm hW hc hs hbase)
theorem r_callSU {idx n b ci : Nat} {r : vw_C} {As rest : List Value} {Q2 : OV → Hp → Prop} (hd : decode (mB M) pc = .ok (.invokespecial idx, 3)) (hcs : cSU M M2 idx n) (hh : mH M2 = []) (hn : As.length = n) (hst : st = As.reverse ++ .ref b :: rest) (hcat : (rest.map fun v => v.category).sum ≤ 8)
    (hbt : zT S b = ci + 1) (hc0 : vwCl[ci]? = some r) (h3 : ci < 100) (hcn : Cn M2 G (.ref b :: As) S Q2) (kk : ∀ v S', Q2 (.inl v) S' → Wx M G S' (pc + 3) lv (v.toList ++ rest) Q) (kx : ∀ E S', Q2 (.inr E) S' → WxT M G S' pc lv E Q) : Wx M G S pc lv st Q := by
  refine Wx.run (rest := rest) (fun _ _ => trivial) (fun p e R s m args below meth c C0 H locs cells slots ls hW hc hs hlv => ?_) kk kx
  obtain ⟨hx, hb, hml, hr, hown, hts, hlk, hin0, hK, hbase, hfr, hlo, htb⟩ := id C0
  obtain ⟨⟨d1, d2, d3, d4, d5⟩, d6, d7, d8, d9, d10⟩ := hcs
  have hPre : PreV s H r.1 b (va_Pc (.ref b :: As) (fun U => WD G S U.heap ∧ KK G U)) As := ⟨pc_blind, zrecv hW hK hbt hc0 h3, pc_pre hW hK⟩
  refine ⟨gN G - zX S, gM G - zU S, (Value.ref b :: As).toArray, ?_⟩
  have hT : GoodIn BIG (va_wsSU (mY M).cls idx (mY M2) (Cond.code (mY M2) (mB M2) (mN M2) (mR M2) :: BIG)) := fun w hw => by
    unfold va_wsSU at hw
    rcases List.mem_append.mp hw with hw | hw
    · rcases List.mem_cons.mp hw with rfl | hw
      · exact big_good _ d8
      rcases List.mem_cons.mp hw with rfl | hw
      · exact big_good _ d9
      rcases List.mem_cons.mp hw with rfl | hw
      · exact big_good _ d10
      rcases List.mem_cons.mp hw with rfl | hw
      · exact big_good _ d6
      rcases List.mem_cons.mp hw with rfl | hw
      · exact big_good _ d2
      · exact absurd hw List.not_mem_nil
    · exact ws_good d1 w hw
  exact vx_runSU (hK.1.1 ci r hc0).2 ⟨hx, hb, hml, hown, hts⟩ hcn (va_cwSU n hts hT rfl rfl rfl ⟨d7, d3.2.2⟩ ⟨Nat.le_trans d4 hfr, Nat.le_trans d5 hlo⟩) hPre rfl hn hlv.1 hst (lv_room hcat) hd (call_rm hW hc hs hbase)
theorem r_fnU {idx n b ci : Nat} {r : vw_C} {C : String} {As rest : List Value} {v : Option Value} {S' : Hp} {st' : List Value} (hd : decode (mB M) pc = .ok (.invokevirtual idx, 3)) (hcs : cU M M2 C idx n) (hh : mH M2 = []) (hn : As.length = n) (hst : st = As.reverse ++ .ref b :: rest) (hcat : (rest.map fun v => v.category).sum ≤ 8)
    (hbt : zT S b = ci + 1) (hc0 : vwCl[ci]? = some r) (hr1 : r.1 = C) (h3 : ci < 100) (hf : Fn M2 G (.ref b :: As) S v S') (hs : v.toList ++ rest = st') (kk : Wx M G S' (pc + 3) lv st' Q) : Wx M G S pc lv st Q :=
  r_callU hd hcs hh hn hst hcat hbt hc0 hr1 h3 hf (fun v1 T h => by obtain ⟨h1, rfl⟩ := h; cases h1; rw [hs]; exact kk) (fun E T h => by cases h.1)
theorem r_fnSU {idx n b ci : Nat} {r : vw_C} {As rest : List Value} {v : Option Value} {S' : Hp} {st' : List Value} (hd : decode (mB M) pc = .ok (.invokespecial idx, 3)) (hcs : cSU M M2 idx n) (hh : mH M2 = []) (hn : As.length = n) (hst : st = As.reverse ++ .ref b :: rest) (hcat : (rest.map fun v => v.category).sum ≤ 8)
    (hbt : zT S b = ci + 1) (hc0 : vwCl[ci]? = some r) (h3 : ci < 100) (hf : Fn M2 G (.ref b :: As) S v S') (hs : v.toList ++ rest = st') (kk : Wx M G S' (pc + 3) lv st' Q) : Wx M G S pc lv st Q :=
  r_callSU hd hcs hh hn hst hcat hbt hc0 h3 hf (fun v1 T h => by obtain ⟨h1, rfl⟩ := h; cases h1; rw [hs]; exact kk) (fun E T h => by cases h.1)
theorem r_fnVC {idx n b : Nat} {As rest : List Value} {v : Option Value} {S' : Hp} {st' : List Value} (hO : ∀ U, KF G U → va_O (mY M2).cls b (gA G) U (gH G)) (hd : decode (mB M) pc = .ok (.invokevirtual idx, 3)) (hcs : cV M M2 idx n) (hh : mH M2 = []) (hn : As.length = n) (hst : st = As.reverse ++ .ref b :: rest) (hcat : (rest.map fun v => v.category).sum ≤ 8)
    (hf : Fn M2 G (.ref b :: As) S v S') (hs : v.toList ++ rest = st') (kk : Wx M G S' (pc + 3) lv st' Q) : Wx M G S pc lv st Q :=
  r_callVC hO hd hcs hh hn hst hcat hf (fun v1 T h => by obtain ⟨h1, rfl⟩ := h; cases h1; rw [hs]; exact kk) (fun E T h => by cases h.1)
/-- a private method is selected -/
theorem sel_private {s : State} {args : Array Value} {C C' : String} {cc : ClassId} {y z : MethodName} (hC : s.vm.findClass C = some cc) (hp : (Cond.privateMethod y).before args s = true) (hi : (Cond.instanceMethod y).before args s = true) (hy : y.cls ≠ "java/lang/invoke/MethodHandle" ∧ y.cls ≠ "java/lang/invoke/VarHandle") (hz : z.cls = y.cls) (h0 : (Cond.selects C' z z).before args s = true) : (Cond.selects C y y).before args s = true := by
  obtain ⟨mk, methM, hnamed, hmethM, -, habM⟩ := Cond.instanceMethod_spec hi
  obtain ⟨c2, r2, m2, q1, q2, q3, q4, kP, hkP, hkPi⟩ := Cond.selects_spec h0
  have e1 := findClass_of_methodNamed hnamed
  have e2 := findClass_of_methodNamed q3
  rw [hz] at e2
  have e3 : mk.cls = m2.cls := Option.some.inj (e1.symm.trans e2)
  have hf := State.methodFound?_of_named hnamed hy
  have hs : selectMethod {} s.vm cc mk = .method mk := selectMethod_private hmethM (Cond.privateMethod_at hp mk methM hnamed hmethM)
  simp [Cond.before, Cond.holds, Cond.value, hC, hf, hnamed, hs, e3, hkP, hkPi]
def cP (M M2 : MI) (idx n : Nat) : Prop := cD M M2 n ∧ Cond.instanceMethod (mY M2) ∈ BIG ∧ Cond.privateMethod (mY M2) ∈ NST ∧ Cond.methodLink (mY M).cls idx (mY M2) ∈ BIG ∧ Cond.sameMethod (mY M2).cls (mY M2).cls (mY M2).name (mY M2).desc ∈ BIG ∧ ∃ C' z, z.cls = (mY M2).cls ∧ Cond.selects C' z z ∈ BIG
theorem r_callP {idx n b ci : Nat} {r : vw_C} {As rest : List Value} {Q2 : OV → Hp → Prop} (hd : decode (mB M) pc = .ok (.invokevirtual idx, 3)) (hcs : cP M M2 idx n) (hh : mH M2 = []) (hn : As.length = n) (hst : st = As.reverse ++ .ref b :: rest) (hcat : (rest.map fun v => v.category).sum ≤ 8)
    (hbt : zT S b = ci + 1) (hc0 : vwCl[ci]? = some r) (h3 : ci < 100) (hcn : Cn M2 G (.ref b :: As) S Q2) (kk : ∀ v S', Q2 (.inl v) S' → Wx M G S' (pc + 3) lv (v.toList ++ rest) Q) (kx : ∀ E S', Q2 (.inr E) S' → WxT M G S' pc lv E Q) : Wx M G S pc lv st Q := by
  refine Wx.run (rest := rest) (fun _ _ => trivial) (fun p e R s m args below meth c C0 H locs cells slots ls hW hc hs hlv => ?_) kk kx
  obtain ⟨hx, hb, hml, hr, hown, hts, hlk, hin0, hK, hbase, hfr, hlo, htb⟩ := id C0
  obtain ⟨⟨d1, d2, d3, d4, d5⟩, d6, d7, d8, d9, C', z, d10, d11⟩ := hcs
  obtain ⟨cell9, g1, g2, g3⟩ := zrecv hW hK hbt hc0 h3
  have hPre : PreV s H r.1 b (va_Pc (.ref b :: As) (fun U => WD G S U.heap ∧ KK G U)) As := ⟨pc_blind, ⟨cell9, g1, g2, g3⟩, pc_pre hW hK⟩
  refine ⟨gN G - zX S, gM G - zU S, (Value.ref b :: As).toArray, ?_⟩
  have hG := ws_good d1
  have hc9 : Cond.code (mY M2) (mB M2) (mN M2) (mR M2) ∈ (Cond.code (mY M2) (mB M2) (mN M2) (mR M2) :: BIG) := List.mem_cons_self
  have hcw : va_CU R s args (mY M).cls r.1 (mY M2).cls idx (mY M2) (mY M2) (mB M2) (mN M2) (mR M2) (Cond.code (mY M2) (mB M2) (mN M2) (mR M2) :: BIG) { frames := mD M2, cells := gN G - zX S, slots := gM G - zU S, locals := 40 * mD M2 } (gN G - zX S) (gM G - zU S) n :=
    ⟨⟨rfl, rfl, Nat.le_trans d4 hfr, Nat.le_trans d5 hlo, pay_in hts hG, hc9⟩, hts _ d1, hts _ d2, ⟨d3.1, d3.2.1⟩, fun sig h => by
      have h2 := d3.2.2
      rw [h] at h2
      exact (Option.some.inj h2).symm, hts _ d8, hts _ d9, va_Decl.of (hts _ d6) (hts _ d1), sel_private g3 (hK.nest (args := args) d7) (hts _ d6) ⟨d3.1, d3.2.1⟩ d10 (hts _ d11), hts _ d6⟩
  exact vx_runU (S := ⟨hx, hb, hml, hown, hts⟩) hcn hcw hPre rfl hn hlv.1 hst (lv_room hcat) hd (call_rm hW hc hs hbase)
theorem r_fnP {idx n b ci : Nat} {r : vw_C} {As rest : List Value} {v : Option Value} {S' : Hp} {st' : List Value} (hd : decode (mB M) pc = .ok (.invokevirtual idx, 3)) (hcs : cP M M2 idx n) (hh : mH M2 = []) (hn : As.length = n) (hst : st = As.reverse ++ .ref b :: rest) (hcat : (rest.map fun v => v.category).sum ≤ 8)
    (hbt : zT S b = ci + 1) (hc0 : vwCl[ci]? = some r) (h3 : ci < 100) (hf : Fn M2 G (.ref b :: As) S v S') (hs : v.toList ++ rest = st') (kk : Wx M G S' (pc + 3) lv st' Q) : Wx M G S pc lv st Q :=
  r_callP hd hcs hh hn hst hcat hbt hc0 h3 hf (fun v1 T h => by obtain ⟨h1, rfl⟩ := h; cases h1; rw [hs]; exact kk) (fun E T h => by cases h.1)
/-- System.arraycopy out of a constant row of bytes -/
theorem r_copyT {idx a0 a n0 : Nat} {f : Nat → Int32} {sp dp n : Int32} (hT9 : ∀ U, KF G U → va_T .byte a0 n0 (fun j => .int (f j)) (gA G) U (gH G)) (hd : decode (mB M) pc = .ok (.invokestatic idx, 3)) (w1 : Cond.methodLink (mY M).cls idx arraycopyName ∈ BIG) (w2 : Cond.native arraycopyName ∈ BIG) (w3 : Cond.static arraycopyName ∈ BIG) (w4 : Cond.initialized "java/lang/System" ∈ BIG)
    (ht1 : zT S a = 104) (h1 : ¬ sp < 0) (h2 : ¬ dp < 0) (h3 : ¬ n < 0) (h4 : sp.toNatClampNeg + n.toNatClampNeg ≤ n0) (h5 : dp.toNatClampNeg + n.toNatClampNeg ≤ zN S a) (hfit : ∀ i, i < n.toNatClampNeg → fits .byte (.int (f (sp.toNatClampNeg + i))) = true)
    (hcat : (st.map fun v => v.category).sum ≤ 8) (hdp : 2 ≤ mD M) (kk : Wx M G (uR S a (va_cpy f (zA S a) sp.toNatClampNeg dp.toNatClampNeg n.toNatClampNeg)) (pc + 3) lv st Q) : Wx M G S pc lv (.int n :: .int dp :: .ref a :: .int sp :: .ref a0 :: st) Q := by
  intro p e R s m args below meth c C0 H locs cells slots ls hW hc hs hl hlv
  obtain ⟨hx, hb, hml, hr, hown, hts, hlk, hin0, hK, hbase, hfr, hlo, htb⟩ := id C0
  have htt : (104 : Nat) = 101 ∨ (104 : Nat) = 104 ∨ (104 : Nat) = 105 ∨ (104 : Nat) = 106 := Or.inr (Or.inl rfl)
  have hza : zT S a ≠ 0 := by omega
  obtain ⟨scr, hs1, hs2, hs3, hs4, -, hs5, hs7⟩ := (hT9 s hK.2.1).kept (base_H hW)
  obtain ⟨hs6, k0, hk0, cm0, hkk0⟩ := hs2
  have hP1 := one_P hW hza
  rw [zE_il ht1 htt] at hP1
  obtain ⟨t0, hg⟩ := gT_il (G := G) htt
  have nn : ∀ z : Int32, ¬ z < 0 → z.toInt = (z.toNatClampNeg : Int) := by
    intro z hz
    have hz0 : (0 : Int) ≤ z.toInt := by
      have := Int32.not_lt.mp hz
      simpa using Int32.le_iff_toInt_le.mp this
    show z.toInt = ((z.toInt.toNat : Nat) : Int)
    omega
  intro T hT X
  have hc0 : H[a0]? = some scr := hs1
  have hc1 : H[a]? = some (vp_cell (gC G 104) (zN S a, .inl (zA S a))) := hP1 0 _ rfl
  obtain ⟨-, k1, hk1, cm1, hkk1⟩ := (hK.1.2 t0 _ hg).1 (zN S a) (fun j => .int (zA S a j))
  obtain ⟨vm', X', step⟩ := X.arraycopy hx hown (hts _ w1) (hts _ w2) (hts _ w3) (hts _ w4) (src := a0) (dst := a) (cs := scr) (cd := vp_cell (gC G 104) (zN S a, .inl (zA S a))) (srcPos := sp) (destPos := dp) (n := n) (by rw [hT]; exact hc0) (by rw [hT]; exact hc1)
    hs6 (fun _ h => by cases h) hs3 (fun h => by cases h) hk0 hk1 hkk0 hkk1 (by simp [refKind, cpT]) h1 h2 h3
    (by rw [nn sp h1, nn n h3]; omega)
    (by rw [nn dp h2, nn n h3]; show ¬ _ > ((arrV (gC G 104) (zN S a) (fun j => .int (zA S a j))).slots.size : Int); rw [arrV_size]; omega)
    (fun vm₁ _ i hi => by
      have e : scr.slots.getD (sp.toNatClampNeg + i) .null = .int (f (sp.toNatClampNeg + i)) := by
        rw [Array.getD_eq_getD_getElem?, hs5 _ (by omega)]
        rfl
      refine ⟨?_, ?_⟩
      · rw [e]
        exact hfit i hi
      · rw [e]
        exact trivial)
    (g := F0 m pc ls (.int n :: .int dp :: .ref a :: .int sp :: .ref a0 :: st)) rfl (hlv.1.trans hml.symm) (rest := st) rfl (by rw [hb]; exact hd) (by omega) (by
      have hq : nativeFrameWords "java/lang/System" "arraycopy" 5 ≤ 40 := by decide
      show 2 * 0 + _ + _ ≤ _
      omega)
  have e1 : copied scr (vp_cell (gC G 104) (zN S a, .inl (zA S a))) sp dp n = vp_cell (gC G 104) (zN S a, .inl (va_cpy f (zA S a) sp.toNatClampNeg dp.toNatClampNeg n.toNatClampNeg)) := va_copiedX (fun z => .int z) scr (gC G 104) f (zA S a) hs5 h4
  rw [e1] at X' step
  have hl1 : a < H.size := (Array.getElem?_eq_some_iff.mp hc1).1
  have hh : ((T.setVm vm').setCell a (vp_cell (gC G 104) (zN S a, .inl (va_cpy f (zA S a) sp.toNatClampNeg dp.toNatClampNeg n.toNatClampNeg)))).heap = H.setIfInBounds a (vp_cell (gC G 104) (zN S a, .inl (va_cpy f (zA S a) sp.toNatClampNeg dp.toNatClampNeg n.toNatClampNeg))) := by rw [← hT]; rfl
  have hW' : WD G (uR S a (va_cpy f (zA S a) sp.toNatClampNeg dp.toNatClampNeg n.toNatClampNeg)) (H.setIfInBounds a (vp_cell (gC G 104) (zN S a, .inl (va_cpy f (zA S a) sp.toNatClampNeg dp.toNatClampNeg n.toNatClampNeg)))) := by
    refine hW.put (c' := vp_cell (gC G 104) (zN S a, .inl (va_cpy f (zA S a) sp.toNatClampNeg dp.toNatClampNeg n.toNatClampNeg))) (S' := uR S a (va_cpy f (zA S a) sp.toNatClampNeg dp.toNatClampNeg n.toNatClampNeg)) (a := a) hza rfl rfl rfl (fun b hb => zE_uR hb) hc1 (by simp [Array.getElem?_setIfInBounds, hl1]) ?_ (by simp) (fun q hq => by simp [Array.getElem?_setIfInBounds, Ne.symm hq]) ?_
    · show (arrV _ _ _).slots.size = (arrV _ _ _).slots.size
      rw [arrV_size, arrV_size]
    · rw [zE_il (show zT (uR S a _) a = 104 from ht1) htt]
      have e2 : zA (uR S a (va_cpy f (zA S a) sp.toNatClampNeg dp.toNatClampNeg n.toNatClampNeg)) a = va_cpy f (zA S a) sp.toNatClampNeg dp.toNatClampNeg n.toNatClampNeg := by show up1 _ _ _ _ = _; simp [up1]
      rw [e2]
      show (H.setIfInBounds a _)[a]? = some _
      simp [Array.getElem?_setIfInBounds, hl1]
      rfl
  obtain ⟨t9, a1, b1⟩ := kk p e R s m args below meth c C0 _ _ cells slots ls hW' hc hs (fun q hq => by
      rcases List.mem_append.mp hq with h | h
      · exact hl q h
      · obtain ⟨z, -, hz⟩ := List.mem_map.mp h
        rw [← hz]
        exact (hW.1 a hza).2) hlv _ hh X'
  exact ⟨t9, step t9 a1, b1⟩
end UpRules
theorem cu_J5_ensureCapacityInternal_d00df_104 : cP m_J5_ensureCapacityInternal_d00df m_J5_newCapacity_0f7a4 104 1 := ⟨⟨kc_J5_newCapacity_0f7a4, (sg1 7 rfl rfl), ⟨by decide, by decide, by decide +kernel⟩, by decide, by decide⟩, (sg6 137 rfl rfl), (sn6 136 rfl rfl), (sg6 135 rfl rfl), (sg10 61 rfl rfl), "java/lang/StringBuilder", yJ5_isLatin1_aae02, rfl, (sg6 163 rfl rfl)⟩
theorem cu_J5_inflate_da8c8_83 : cU m_J5_inflate_da8c8 m_J5_isLatin1_aae02 "java/lang/StringBuilder" 83 0 := ⟨⟨kc_J5_isLatin1_aae02, (sg1 7 rfl rfl), ⟨by decide, by decide, by decide +kernel⟩, by decide, by decide⟩, (sg6 161 rfl rfl), (sg6 163 rfl rfl), (sg6 160 rfl rfl), (sg6 162 rfl rfl)⟩
theorem cu_J5_setLength_d00df_100 : cP m_J5_setLength_d00df m_J5_ensureCapacityInternal_d00df 100 1 := ⟨⟨kc_J5_ensureCapacityInternal_d00df, (sg1 7 rfl rfl), ⟨by decide, by decide, by decide +kernel⟩, by decide, by decide⟩, (sg6 133 rfl rfl), (sn6 132 rfl rfl), (sg6 131 rfl rfl), (sg10 60 rfl rfl), "java/lang/StringBuilder", yJ5_isLatin1_aae02, rfl, (sg6 163 rfl rfl)⟩
theorem cu_J5_setLength_d00df_83 : cU m_J5_setLength_d00df m_J5_isLatin1_aae02 "java/lang/StringBuilder" 83 0 := ⟨⟨kc_J5_isLatin1_aae02, (sg1 7 rfl rfl), ⟨by decide, by decide, by decide +kernel⟩, by decide, by decide⟩, (sg6 161 rfl rfl), (sg6 163 rfl rfl), (sg6 160 rfl rfl), (sg6 162 rfl rfl)⟩
theorem cu_J5_append_cf1ce_204 : cP m_J5_append_cf1ce m_J5_appendNull_278bc 204 0 := ⟨⟨kc_J5_appendNull_278bc, (sg1 7 rfl rfl), ⟨by decide, by decide, by decide +kernel⟩, by decide, by decide⟩, (sg6 129 rfl rfl), (sn6 128 rfl rfl), (sg6 127 rfl rfl), (sg10 59 rfl rfl), "java/lang/StringBuilder", yJ5_isLatin1_aae02, rfl, (sg6 163 rfl rfl)⟩
theorem cu_J5_append_cf1ce_100 : cP m_J5_append_cf1ce m_J5_ensureCapacityInternal_d00df 100 1 := ⟨⟨kc_J5_ensureCapacityInternal_d00df, (sg1 7 rfl rfl), ⟨by decide, by decide, by decide +kernel⟩, by decide, by decide⟩, (sg6 133 rfl rfl), (sn6 132 rfl rfl), (sg6 131 rfl rfl), (sg10 60 rfl rfl), "java/lang/StringBuilder", yJ5_isLatin1_aae02, rfl, (sg6 163 rfl rfl)⟩
theorem cu_J5_append_cf1ce_208 : cP m_J5_append_cf1ce m_J5_putStringAt_47b60 208 2 := ⟨⟨kc_J5_putStringAt_47b60, (sg1 7 rfl rfl), ⟨by decide, by decide, by decide +kernel⟩, by decide, by decide⟩, (sg6 183 rfl rfl), (sn6 182 rfl rfl), (sg6 181 rfl rfl), (sg10 62 rfl rfl), "java/lang/StringBuilder", yJ5_isLatin1_aae02, rfl, (sg6 163 rfl rfl)⟩
theorem cu_J5_appendNull_278bc_100 : cP m_J5_appendNull_278bc m_J5_ensureCapacityInternal_d00df 100 1 := ⟨⟨kc_J5_ensureCapacityInternal_d00df, (sg1 7 rfl rfl), ⟨by decide, by decide, by decide +kernel⟩, by decide, by decide⟩, (sg6 133 rfl rfl), (sn6 132 rfl rfl), (sg6 131 rfl rfl), (sg10 60 rfl rfl), "java/lang/StringBuilder", yJ5_isLatin1_aae02, rfl, (sg6 163 rfl rfl)⟩
theorem cu_J5_appendNull_278bc_83 : cU m_J5_appendNull_278bc m_J5_isLatin1_aae02 "java/lang/StringBuilder" 83 0 := ⟨⟨kc_J5_isLatin1_aae02, (sg1 7 rfl rfl), ⟨by decide, by decide, by decide +kernel⟩, by decide, by decide⟩, (sg6 161 rfl rfl), (sg6 163 rfl rfl), (sg6 160 rfl rfl), (sg6 162 rfl rfl)⟩
theorem cu_J5_append_3fe6f_100 : cP m_J5_append_3fe6f m_J5_ensureCapacityInternal_d00df 100 1 := ⟨⟨kc_J5_ensureCapacityInternal_d00df, (sg1 7 rfl rfl), ⟨by decide, by decide, by decide +kernel⟩, by decide, by decide⟩, (sg6 133 rfl rfl), (sn6 132 rfl rfl), (sg6 131 rfl rfl), (sg10 60 rfl rfl), "java/lang/StringBuilder", yJ5_isLatin1_aae02, rfl, (sg6 163 rfl rfl)⟩
theorem cu_J5_append_3fe6f_83 : cU m_J5_append_3fe6f m_J5_isLatin1_aae02 "java/lang/StringBuilder" 83 0 := ⟨⟨kc_J5_isLatin1_aae02, (sg1 7 rfl rfl), ⟨by decide, by decide, by decide +kernel⟩, by decide, by decide⟩, (sg6 161 rfl rfl), (sg6 163 rfl rfl), (sg6 160 rfl rfl), (sg6 162 rfl rfl)⟩
theorem cu_J5_append_3fe6f_195 : cP m_J5_append_3fe6f m_J5_inflate_da8c8 195 0 := ⟨⟨kc_J5_inflate_da8c8, (sg1 7 rfl rfl), ⟨by decide, by decide, by decide +kernel⟩, by decide, by decide⟩, (sg6 192 rfl rfl), (sn6 191 rfl rfl), (sg6 190 rfl rfl), (sg10 64 rfl rfl), "java/lang/StringBuilder", yJ5_isLatin1_aae02, rfl, (sg6 163 rfl rfl)⟩
theorem cu_J5_append_c97b9_100 : cP m_J5_append_c97b9 m_J5_ensureCapacityInternal_d00df 100 1 := ⟨⟨kc_J5_ensureCapacityInternal_d00df, (sg1 7 rfl rfl), ⟨by decide, by decide, by decide +kernel⟩, by decide, by decide⟩, (sg6 133 rfl rfl), (sn6 132 rfl rfl), (sg6 131 rfl rfl), (sg10 60 rfl rfl), "java/lang/StringBuilder", yJ5_isLatin1_aae02, rfl, (sg6 163 rfl rfl)⟩
theorem cu_J5_append_c97b9_83 : cU m_J5_append_c97b9 m_J5_isLatin1_aae02 "java/lang/StringBuilder" 83 0 := ⟨⟨kc_J5_isLatin1_aae02, (sg1 7 rfl rfl), ⟨by decide, by decide, by decide +kernel⟩, by decide, by decide⟩, (sg6 161 rfl rfl), (sg6 163 rfl rfl), (sg6 160 rfl rfl), (sg6 162 rfl rfl)⟩
theorem cu_J5_inflateIfNeededFor_a7421_195 : cP m_J5_inflateIfNeededFor_a7421 m_J5_inflate_da8c8 195 0 := ⟨⟨kc_J5_inflate_da8c8, (sg1 7 rfl rfl), ⟨by decide, by decide, by decide +kernel⟩, by decide, by decide⟩, (sg6 192 rfl rfl), (sn6 191 rfl rfl), (sg6 190 rfl rfl), (sg10 64 rfl rfl), "java/lang/StringBuilder", yJ5_isLatin1_aae02, rfl, (sg6 163 rfl rfl)⟩
theorem cu_J5_putStringAt_47b60_397 : cP m_J5_putStringAt_47b60 m_J5_inflateIfNeededFor_a7421 397 1 := ⟨⟨kc_J5_inflateIfNeededFor_a7421, (sg1 7 rfl rfl), ⟨by decide, by decide, by decide +kernel⟩, by decide, by decide⟩, (sg6 187 rfl rfl), (sn6 186 rfl rfl), (sg6 185 rfl rfl), (sg10 63 rfl rfl), "java/lang/StringBuilder", yJ5_isLatin1_aae02, rfl, (sg6 163 rfl rfl)⟩
theorem cu_J4_append_15ec4_29 : cSU m_J4_append_15ec4 m_J5_append_cf1ce 29 1 := ⟨⟨kc_J5_append_cf1ce, (sg1 7 rfl rfl), ⟨by decide, by decide, by decide +kernel⟩, by decide, by decide⟩, (sg6 125 rfl rfl), by decide, (sg6 124 rfl rfl), (sg10 58 rfl rfl), (sg1 229 rfl rfl)⟩
theorem cu_J4_append_cf468_50 : cSU m_J4_append_cf468 m_J5_append_3fe6f 50 1 := ⟨⟨kc_J5_append_3fe6f, (sg1 7 rfl rfl), ⟨by decide, by decide, by decide +kernel⟩, by decide, by decide⟩, (sg7 117 rfl rfl), by decide, (sg7 116 rfl rfl), (sg10 66 rfl rfl), (sg1 229 rfl rfl)⟩
theorem cu_J4_append_bf812_53 : cSU m_J4_append_bf812 m_J5_append_c97b9 53 1 := ⟨⟨kc_J5_append_c97b9, (sg1 7 rfl rfl), ⟨by decide, by decide, by decide +kernel⟩, by decide, by decide⟩, (sg6 220 rfl rfl), by decide, (sg6 219 rfl rfl), (sg10 65 rfl rfl), (sg1 229 rfl rfl)⟩
theorem cu_J4_charAt_5068e_329 : cSU m_J4_charAt_5068e m_J5_charAt_5068e 329 1 := ⟨⟨kc_J5_charAt_5068e, (sg1 7 rfl rfl), ⟨by decide, by decide, by decide +kernel⟩, by decide, by decide⟩, (sg7 146 rfl rfl), by decide, (sg7 145 rfl rfl), (sg10 68 rfl rfl), (sg1 229 rfl rfl)⟩
theorem cu_J4_setLength_d00df_333 : cSU m_J4_setLength_d00df m_J5_setLength_d00df 333 1 := ⟨⟨kc_J5_setLength_d00df, (sg1 7 rfl rfl), ⟨by decide, by decide, by decide +kernel⟩, by decide, by decide⟩, (sg6 110 rfl rfl), by decide, (sg6 109 rfl rfl), (sg10 57 rfl rfl), (sg1 229 rfl rfl)⟩
theorem cu_J4_length_8abf5_343 : cSU m_J4_length_8abf5 m_J5_length_8abf5 343 0 := ⟨⟨kc_J5_length_8abf5, (sg1 7 rfl rfl), ⟨by decide, by decide, by decide +kernel⟩, by decide, by decide⟩, (sg7 18 rfl rfl), by decide, (sg7 23 rfl rfl), (sg7 19 rfl rfl), (sg1 229 rfl rfl)⟩
