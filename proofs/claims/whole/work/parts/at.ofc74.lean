/-! METHODS WITH HANDLERS -/
section HandlerRules
variable {M M2 : MI} {G : GI} {S : Hp} {pc : Nat} {lv : List (Nat × Value)} {st : List Value} {Q : OV → Hp → Prop}
/-- a contract of a method with handlers -/
def CnH (M : MI) (G : GI) (av : List Value) (S : Hp) (Q : OV → Hp → Prop) : Prop :=
  vx_Met (gL G) (mY M) (Cond.codeWith (mY M) (mB M) (mN M) (mR M) (mH M) :: BIG) { frames := mD M, cells := gN G - zX S, slots := gM G - zU S, locals := 40 * mD M } (va_Pc av (fun U => WD G S U.heap ∧ KK G U)) (QcO G Q) (XcO G Q) (gN G - zX S) (gM G - zU S) (fun q => gB G ≤ q)
theorem CnH.of {av : List Value} (hp : plainName (mY M).cls = true) (hn : (lg_sl av).length ≤ mN M) (hN : zX S ≤ gN G → zU S ≤ gM G → Wx M G S 0 (lv_args 0 av) [] Q) : CnH M G av S Q := by
  refine vx_ofWH (cc := mB M) (maxL := mN M) (ret := mR M) (hh := mH M) hp rfl ?_
  intro p e s m args below meth c s₁ B hml hv
  obtain ⟨rfl, hW, hK⟩ := hv
  have hpre := atoms_spec (ws := Cond.codeWith (mY M) (mB M) (mN M) (mR M) (mH M) :: BIG) B.pre
  have z1 : s.heap.size = zX S := hW.2.1
  have z2 : hsum s.heap = zU S := hW.2.2.1
  have z3 := hW.2.2.2.1
  have z4 := hW.2.2.2.2.1
  have htb : c.exceptionTable.toList = tableOf (mH M) := vx_table (x := mY M) B (hpre _ List.mem_cons_self)
  have hl := lv_entry av (n := mN M) hn
  rw [lg_entry_eq]
  exact hN z3 z4 p e _ s m av.toArray below meth c ⟨B.exec, B.bytes, hml, B.returns, findClass_of_methodNamed B.named, fun w hw => hpre w (List.mem_cons_of_mem _ hw), B.notSynchronized, fun h => (name_of_methodNamed B.named B.method).1.trans h, hK,
    ⟨by show s.heap.size + (gN G - zX S) = gN G; omega, by show hsum s.heap + (gM G - zU S) = gM G; omega, fun q hq => hW.2.2.2.2.2.2 q hq, by rw [z1]; exact hW.2.2.2.2.2.1⟩, Nat.le_refl _, Nat.le_refl _, htb⟩ s.heap [] 0 0 _ hW (by omega) (by omega) (fun q h => absurd h List.not_mem_nil) hl
theorem asg_self (vm : Vm) (c : ClassId) : vm.assignable c c = true := by
  show vm.assignableAux (255 + 1) c c = true
  rw [Vm.assignableAux]
  simp only [beq_self_eq_true, Bool.true_or]
/-- the first handler that takes E -/
theorem r_catch {E : String} {lo hi hpc ct : Nat} (pre suf : List (Nat × Nat × Nat × Nat)) (hm : mH M = pre ++ (lo, hi, hpc, ct) :: suf) (hpre : ∀ z ∈ pre, z.2.2.2 ≠ 0 ∧ ∃ nm : String, Cond.classLink (mY M).cls z.2.2.2 nm ∈ BIG ∧ (E, nm) ∈ ncL) (hx : covers ⟨lo, hi, hpc, ct⟩ pc = true) (h0 : ct ≠ 0) (hlink : Cond.classLink (mY M).cls ct E ∈ BIG) (kk : ∀ q : Nat, Wx M G S hpc lv [.ref q] Q) : WxT M G S pc lv E Q := by
  intro p e R s m args below meth c C0 H locs cells slots ls rest q ce hW hc hs hl hlv hq1 hq2 hq3
  obtain ⟨hx', hb, hml, hr, hown, hts, hlk, hin0, hK, hbase, hfr, hlo, htb⟩ := id C0
  have hcast : (Cond.castable E E).before args s = true := by
    simp [Cond.before, Cond.holds, Cond.value, hq3, asg_self]
  refine vx_catch hown (tableOf pre) ⟨lo, hi, hpc, ct⟩ (tableOf suf) (by rw [htb, hm]; simp [tableOf]) (fun z hz => ?_) hx h0 (hts _ hlink) hcast hq1 hq2 hq3 (kk q p e R s m args below meth c C0 H locs cells slots ls hW hc hs hl hlv)
  obtain ⟨y, hy, rfl⟩ := List.mem_map.mp hz
  obtain ⟨h1, nm, h2, h3⟩ := hpre y hy
  exact Or.inr ⟨h1, nm, hts _ h2, hK.2.2.2.2.2.1 (E, nm) h3⟩
def cSX (M M2 : MI) (idx n : Nat) : Prop := (Cond.codeWith (mY M2) (mB M2) (mN M2) (mR M2) (mH M2) ∈ BIG ∧ Cond.initialized (mY M2).cls ∈ BIG ∧ ((mY M2).cls ≠ "java/lang/invoke/MethodHandle" ∧ (mY M2).cls ≠ "java/lang/invoke/VarHandle" ∧ (parseMethodDescriptor (mY M2).desc).map (fun d => d.parameters.length) = some n) ∧ mD M2 + 1 ≤ mD M ∧ 8 + (mN M2 + 11) + 40 * mD M2 ≤ 40 * mD M) ∧ Cond.static (mY M2) ∈ BIG ∧ Cond.methodLink (mY M).cls idx (mY M2) ∈ BIG
theorem r_callSX {idx n : Nat} {As rest : List Value} {Q2 : OV → Hp → Prop} (hd : decode (mB M) pc = .ok (.invokestatic idx, 3)) (hcs : cSX M M2 idx n) (hn : As.length = n) (hst : st = As.reverse ++ rest) (hcat : (rest.map fun v => v.category).sum ≤ 8)
    (hcn : CnH M2 G As S Q2) (kk : ∀ v S', Q2 (.inl v) S' → Wx M G S' (pc + 3) lv (v.toList ++ rest) Q) (kx : ∀ E S', Q2 (.inr E) S' → WxT M G S' pc lv E Q) : Wx M G S pc lv st Q := by
  refine Wx.run (rest := rest) (fun _ _ => trivial) (fun p e R s m args below meth c C0 H locs cells slots ls hW hc hs hlv => ?_) kk kx
  obtain ⟨hx, hb, hml, hr, hown, hts, hlk, hin0, hK, hbase, hfr, hlo, htb⟩ := id C0
  obtain ⟨⟨d1, d2, d3, d4, d5⟩, d6, d8⟩ := hcs
  have hPre : PreS s H (va_Pc As (fun U => WD G S U.heap ∧ KK G U)) As := ⟨pc_blind, pc_pre hW hK⟩
  refine ⟨gN G - zX S, gM G - zU S, As.toArray, ?_⟩
  have hT : GoodIn BIG (va_wsS (mY M).cls idx (mY M2) (Cond.codeWith (mY M2) (mB M2) (mN M2) (mR M2) (mH M2) :: BIG)) := fun w hw => by
    unfold va_wsS at hw
    rcases List.mem_append.mp hw with hw | hw
    · rcases List.mem_cons.mp hw with rfl | hw
      · exact big_good _ d8
      rcases List.mem_cons.mp hw with rfl | hw
      · exact big_good _ d6
      rcases List.mem_cons.mp hw with rfl | hw
      · exact big_good _ d2
      · exact absurd hw List.not_mem_nil
    · rcases List.mem_cons.mp hw with rfl | hw
      · exact big_good _ d1
      · exact big_good _ hw
  exact vx_runSX (S := ⟨hx, hb, hml, hown, hts⟩) hcn (vx_cwSW n hts hT rfl rfl rfl d3 ⟨Nat.le_trans d4 hfr, Nat.le_trans d5 hlo⟩) hPre rfl hn hlv.1 hst (lv_room hcat) hd (call_rm hW hc hs hbase)
end HandlerRules
