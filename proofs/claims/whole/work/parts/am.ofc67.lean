/-! A WORD's PLACE: Enum.ordinal, stepped by hand (the words do not say that Enum is initialized) -/
section OrdRules
variable {M : MI} {G : GI} {S : Hp} {pc : Nat} {lv : List (Nat × Value)} {Q : OV → Hp → Prop}
theorem r_ordinal {k idx : Nat} {rest : List Value} (hk : k < 9) (hd : decode (mB M) pc = .ok (.invokevirtual idx, 3)) (hm1 : 1 ≤ mD M) (hl : Cond.methodLink (mY M).cls idx ⟨"LotInspector$Word", "ordinal", "()I"⟩ ∈ BIG) (hcat : (rest.map fun v => v.category).sum ≤ 8) (kk : Wx M G S (pc + 3) lv (.int (nI k) :: rest) Q) : Wx M G S pc lv (.ref (gK G 1 k) :: rest) Q := by
  intro p e R s m args below meth c C0 H locs cells slots ls hW hc hs hl2 hlv
  obtain ⟨hx, hb, hml, hr, hown, hts, hlk, hin0, hK, hbase, hfr, hlo, htb⟩ := id C0
  have k1 := kk p e R s m args below meth c C0 H locs cells slots ls hW hc hs hl2 hlv
  obtain ⟨kO, kF, -⟩ := hK.2.1.2.2.1 k hk
  obtain ⟨cell0, o1, o2, o3, -⟩ := kO.kept (base_H hW)
  obtain ⟨cf, kf, fi, f, cell, f1, f2, f3, f4, f5⟩ := kF.kept (base_H hW)
  cases o1.symm.trans f3
  have w1 : (Cond.methodLink (mY M).cls idx ⟨"LotInspector$Word", "ordinal", "()I"⟩).before args s = true := hts _ hl
  have w2 : (Cond.sameMethod "LotInspector$Word" "java/lang/Enum" "ordinal" "()I").before args s = true := hts _ (sg6 89 rfl rfl)
  have w3 : (Cond.instanceMethod ⟨"java/lang/Enum", "ordinal", "()I"⟩).before args s = true := hts _ (sg6 92 rfl rfl)
  have w4 : (Cond.selects "LotInspector$Word" ⟨"LotInspector$Word", "ordinal", "()I"⟩ ⟨"java/lang/Enum", "ordinal", "()I"⟩).before args s = true := hts _ (sg6 91 rfl rfl)
  have w5 : (Cond.code ⟨"java/lang/Enum", "ordinal", "()I"⟩ (mB m_Jx29ce0_ordinal_8abf5) 1 (some .int)).before args s = true := hts _ kc_Jx29ce0_ordinal_8abf5
  have w6 : (Cond.fieldLink "java/lang/Enum" 7 "java/lang/Enum" "ordinal" "I").before args s = true := hts _ (sg10 97 rfl rfl)
  obtain ⟨r0, r, hn, hrm, hstR, hsigR⟩ := va_Decl.of w3 w5
  obtain ⟨cn, ck, r1, hcn, hck, hni, hf, hn1⟩ := Cond.sameMethod_found w2
  cases hn.symm.trans hn1
  obtain ⟨mk, methM, hnamed, hmethM, -, habM⟩ := Cond.instanceMethod_spec w3
  obtain ⟨methM', cM, hmethM', hcodeM', hbytes, hlocalsM, hret, hlockM, -, -⟩ := Cond.code_spec hnamed w5
  cases hmethM.symm.trans hmethM'
  obtain ⟨c2, r2, m2, q1, q2, q3, q4, kP, hkP, hkPi⟩ := Cond.selects_spec w4
  cases o3.symm.trans q1
  cases hf.symm.trans q2
  cases hnamed.symm.trans q3
  have hownE : s.vm.findClass "java/lang/Enum" = some mk.cls := findClass_of_methodNamed hnamed
  intro T hT X
  have hpl : e.platform.magicAccessors = ({} : Platform).magicAccessors := by rw [X.admits.platform]
  have hselP : selectMethod e.platform s.vm cell0.cls r0 = .method mk := by rw [Launch.admits_selectMethod X.admits]; exact q4
  have hlen : ([] : List Value).length = r.sig.parameters.length := by
    have h' : parseMethodDescriptor "()I" = some r.sig := hsigR
    rw [show parseMethodDescriptor "()I" = some ⟨[], some .int⟩ from by decide +kernel] at h'
    rw [← Option.some.inj h']; rfl
  obtain ⟨vm₁, X₁, hstep₁⟩ := X.invokevirtualUp hx hown w1 w2 (by decide) hn hrm hstR (a := gK G 1 k) (cell := cell0) (by rw [hT]; exact o1) (fun z h => by rw [h] at o2; cases o2) hselP hmethM habM hkP hkPi (g := F0 m pc ls (.ref (gK G 1 k) :: rest)) rfl (argsL := []) (rest := rest) hlen rfl (by rw [hb]; exact hd)
  obtain ⟨ci', cfl, k', i', f', hi', hlinks, hright⟩ := Cond.fieldLink_spec hownE w6 e.platform hpl
  cases f1.symm.trans hi'
  obtain ⟨hkf, hff⟩ := State.fieldFound?_spec f1
  obtain ⟨vm', hgives, hW', hready, hfi⟩ := State.fieldEntry (e := e) X₁.warmed hlinks hright hkf hff
  have X₂ := X₁.noted hW'
  obtain ⟨t, a1, b1⟩ := k1 ((T.setVm vm₁).setVm vm') hT X₂
  have hm₁ : (T.setVm vm₁).vm.method? mk = some methM := by rw [X₁.warmed.alike.method?]; exact hmethM
  have hplain : (T.setVm vm₁).plainMethod mk := by
    obtain ⟨kY, hkY, hname⟩ := className_of_methodNamed hnamed
    obtain ⟨kY₁, hkY₁, heY⟩ := X₁.warmed.alike.2.2 _ _ hkY
    exact State.plainMethod.of_name (fun k' hk' => by cases (show vm₁.classes[mk.cls]? = some k' from hk').symm.trans hkY₁; rw [heY]; show plainName kY.name = true; rw [hname]; decide)
  have hroom := X₁.notFull (g := F0 m pc ls rest) (vars := cM.maxLocals) (hlv.1.trans hml.symm) (by omega) (by
    rw [hlocalsM]
    show 2 * (F0 m pc ls rest).monitorRoom + (rest.map fun v => v.category).sum + (1 + 11) ≤ R.locals
    have z : (F0 m pc ls rest).monitorRoom = 0 := rfl
    omega)
  refine ⟨t, hstep₁ _ fun acts => ?_, b1⟩
  refine Steps.intGetterInline (g := F0 m pc ls rest) X₁.here hx acts hm₁ hcodeM' hlockM hplain hret hlocalsM (by rw [hbytes]; exact dJx29ce0_ordinal_8abf5_0) (by rw [hbytes]; exact dJx29ce0_ordinal_8abf5_1) (by rw [hbytes]; exact dJx29ce0_ordinal_8abf5_4) hroom (by rw [hb]; exact hd) (X₁.warmed.alike.symm.trans hW'.alike) hgives hready hfi f2 (by rw [show (T.setVm vm₁).heap = T.heap from rfl, hT]; exact o1) f4 f5.1 ?_
  exact a1
theorem ml_ordinal : Cond.methodLink (mY m_X12_carryOut).cls 391 ⟨"LotInspector$Word", "ordinal", "()I"⟩ ∈ BIG := (sg6 88 rfl rfl)
end OrdRules
