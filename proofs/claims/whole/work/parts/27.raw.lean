section RawRules
variable {M : MI} {G : GI} {S : Hp} {pc : Nat} {lv : List (Nat × Value)} {st : List Value} {Q : OV → Hp → Prop}
theorem r_d2raw {idx : Nat} {b : UInt64} (hd : decode (mB M) pc = .ok (.invokestatic idx, 3)) (w1 : Cond.methodLink (mY M).cls idx ⟨"java/lang/Double", "doubleToRawLongBits", "(D)J"⟩ ∈ BIG) (w2 : Cond.native ⟨"java/lang/Double", "doubleToRawLongBits", "(D)J"⟩ ∈ BIG) (w3 : Cond.static ⟨"java/lang/Double", "doubleToRawLongBits", "(D)J"⟩ ∈ BIG) (w4 : Cond.initialized "java/lang/Double" ∈ BIG) (hcat : (st.map fun v => v.category).sum ≤ 8) (hdp : 1 ≤ mD M) (kk : Wx M G S (pc + 3) lv (.long b.toInt64 :: st) Q) : Wx M G S pc lv (.double b :: st) Q := by
  intro p e R s m args below meth c C0 H locs cells slots ls hW hc hs hl hlv
  obtain ⟨hx, hb, hml, hr, hown, hts, hlk, hin0, hK, hbase, hfr, hlo, htb⟩ := id C0
  exact vn_d2l hx hb (hml.trans hlv.1.symm) hown (hts _ w1) (hts _ w2) (hts _ w3) (hts _ w4) (Nat.le_trans hdp hfr) (by omega) hd (kk p e R s m args below meth c C0 H locs cells slots ls hW hc hs hl hlv)
theorem r_f2raw {idx : Nat} {b : UInt32} (hd : decode (mB M) pc = .ok (.invokestatic idx, 3)) (w1 : Cond.methodLink (mY M).cls idx ⟨"java/lang/Float", "floatToRawIntBits", "(F)I"⟩ ∈ BIG) (w2 : Cond.native ⟨"java/lang/Float", "floatToRawIntBits", "(F)I"⟩ ∈ BIG) (w3 : Cond.static ⟨"java/lang/Float", "floatToRawIntBits", "(F)I"⟩ ∈ BIG) (w4 : Cond.initialized "java/lang/Float" ∈ BIG) (hcat : (st.map fun v => v.category).sum ≤ 8) (hdp : 1 ≤ mD M) (kk : Wx M G S (pc + 3) lv (.int b.toInt32 :: st) Q) : Wx M G S pc lv (.float b :: st) Q := by
  intro p e R s m args below meth c C0 H locs cells slots ls hW hc hs hl hlv
  obtain ⟨hx, hb, hml, hr, hown, hts, hlk, hin0, hK, hbase, hfr, hlo, htb⟩ := id C0
  exact vn_f2i hx hb (hml.trans hlv.1.symm) hown (hts _ w1) (hts _ w2) (hts _ w3) (hts _ w4) (Nat.le_trans hdp hfr) (by omega) hd (kk p e R s m args below meth c C0 H locs cells slots ls hW hc hs hl hlv)
end RawRules
/-- a body's contract where the class has entries of the machine, but not for this member -/
theorem vx_ofWF {l : Launch} {y : MethodName} {ws ws' : List Cond} {rm : Room} {Pc : Array Value → State → Prop} {Qc : Array Value → State → Outcome → State → Prop} {XC : String → State → State → Prop} {mc ms : Nat} {free : Addr → Prop} {cc : ByteArray} {maxL : Nat} {ret : Option FieldType}
    (hy : plainFor y = true) (hw : ws = Cond.code y cc maxL ret :: ws')
    (body : ∀ p e s m args below meth c s₁, BodyLoose p l y (headSpec ws rm) cc maxL ret e s m args below meth c s₁ → c.maxLocals = maxL → (∀ x ∈ c.exceptionTable.toList, False) → Pc args s →
      W p l e (headSpec ws rm).room s m args below meth c s.heap [] 0 0 (vx_MQ below Qc XC args s mc ms free) (entryFrame m args maxL)) : vx_Met l y ws rm Pc Qc XC mc ms free := by
  refine MetFree.of_bodySF (code := cc) (maxLocals := maxL) (ret := ret) hy ?_ ?_
  · intro args s m h hn
    obtain ⟨meth, c, h1, h2, h3, h4, h5, h6, -, -⟩ := Cond.code_spec hn (atoms_spec (ws := ws) h _ (by rw [hw]; exact List.mem_cons_self))
    exact ⟨meth, c, h1, h2, h3, h4, h5, h6⟩
  · intro p e s m args below meth c s₁ B hml hP _
    have hh0 : s₁.heap = s.heap := by rw [B.state]; rfl
    have ht : ∀ x ∈ c.exceptionTable.toList, False := by
      obtain ⟨meth9, c9, h1, h2, -, -, -, -, h7, -⟩ := Cond.code_spec B.named (atoms_spec (ws := ws) B.pre _ (by rw [hw]; exact List.mem_cons_self))
      cases Option.some.inj (h1.symm.trans B.method)
      cases Option.some.inj (h2.symm.trans (Stand.of_body B).code)
      intro x hx
      rw [Array.isEmpty_iff.mp h7] at hx
      cases hx
    obtain ⟨t, a1, o, b1, b2, b3⟩ := body p e s m args below meth c s₁ B hml ht hP s₁ hh0 (Stand.of_body B)
    exact ⟨t, o, a1, b1, b2, b3⟩
theorem Cn.ofF {M : MI} {G : GI} {S : Hp} {Q : OV → Hp → Prop} {av : List Value} (hh : mH M = []) (hp : plainFor (mY M) = true) (hn : (lg_sl av).length ≤ mN M) (hN : zX S ≤ gN G → zU S ≤ gM G → Wx M G S 0 (lv_args 0 av) [] Q) : Cn M G av S Q := by
  refine vx_ofWF (cc := mB M) (maxL := mN M) (ret := mR M) hp rfl ?_
  intro p e s m args below meth c s₁ B hml ht hv
  obtain ⟨rfl, hW, hK⟩ := hv
  have hpre := atoms_spec (ws := Cond.code (mY M) (mB M) (mN M) (mR M) :: BIG) B.pre
  have z1 : s.heap.size = zX S := hW.2.1
  have z2 : hsum s.heap = zU S := hW.2.2.1
  have z3 := hW.2.2.2.1
  have z4 := hW.2.2.2.2.1
  have htb : c.exceptionTable.toList = tableOf (mH M) := by
    rw [hh]
    exact List.eq_nil_iff_forall_not_mem.mpr fun x hx => ht x hx
  have hl := lv_entry av (n := mN M) hn
  rw [lg_entry_eq]
  exact hN z3 z4 p e _ s m av.toArray below meth c ⟨B.exec, B.bytes, hml, B.returns, findClass_of_methodNamed B.named, fun w hw => hpre w (List.mem_cons_of_mem _ hw), B.notSynchronized, fun h => (name_of_methodNamed B.named B.method).1.trans h, hK,
    ⟨by show s.heap.size + (gN G - zX S) = gN G; omega, by show hsum s.heap + (gM G - zU S) = gM G; omega, fun q hq => hW.2.2.2.2.2.2 q hq, by rw [z1]; exact hW.2.2.2.2.2.1⟩, Nat.le_refl _, Nat.le_refl _, htb⟩ s.heap [] 0 0 _ hW (by omega) (by omega) (fun q h => absurd h List.not_mem_nil) hl
