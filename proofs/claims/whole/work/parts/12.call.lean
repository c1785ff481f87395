section CallRules
variable {M M2 : MI} {G : GI} {S : Hp} {pc : Nat} {lv : List (Nat × Value)} {st : List Value} {Q : OV → Hp → Prop}
theorem hsum_drop {s T : State} (hp : s.heap.size ≤ T.heap.size) (hk : ∀ (a : Nat) (c : Cell), s.heap[a]? = some c → ∃ c' : Cell, T.heap[a]? = some c' ∧ c'.slots.size = c.slots.size) : hsum T.heap = hsum s.heap + ((T.heap.toList.drop s.heap.size).map (fun c : Cell => c.slots.size)).sum := by
  unfold hsum
  have e : (T.heap.toList.take s.heap.size).map (fun c : Cell => c.slots.size) = s.heap.toList.map (fun c : Cell => c.slots.size) := by
    apply List.ext_getElem?
    intro i
    rw [List.getElem?_map, List.getElem?_map, List.getElem?_take, Array.getElem?_toList, Array.getElem?_toList]
    by_cases h : i < s.heap.size
    · rw [if_pos h]
      obtain ⟨c', h1, h2⟩ := hk i _ (Array.getElem?_eq_getElem h)
      rw [h1, Array.getElem?_eq_getElem h]
      simp [h2]
    · rw [if_neg h, Array.getElem?_eq_none (by omega)]
  rw [← e, ← List.sum_append, ← List.map_append, List.take_append_drop]
theorem stand_exact {p : Program} {l : Launch} {e : Env} {R : Room} {s : State} {m : MethodId} {args : Array Value} {below : List Frame} {meth : Method} {c : Code} {T : State} {locs : List Loc} {cells slots k n : Nat} (X : Stand p l e R s m args below meth c T locs cells slots) (h1 : T.heap.size = s.heap.size + k) (h2 : hsum T.heap = hsum s.heap + n) : Stand p l e R s m args below meth c T locs k n := by
  obtain ⟨g1, g2, g3, g4, g5, g6⟩ := X.same
  have hd := hsum_drop (s := s) (T := T) g2 (fun a c9 hc => by
    obtain ⟨c', e1, -, e2, -⟩ := g6 a c9 hc
    exact ⟨c', e1, e2⟩)
  exact { X with same := ⟨g1, g2, by show T.heap.size ≤ _; omega, g4, by show ((T.heap.toList.drop s.heap.size).map (fun c : Cell => c.slots.size)).sum ≤ n; omega, g6⟩ }
/-- E is thrown over this place of the method, in the heap S -/
def WxT (M : MI) (G : GI) (S : Hp) (pc : Nat) (lv : List (Nat × Value)) (E : String) (Q : OV → Hp → Prop) : Prop :=
  ∀ (p : Program) (e : Env) (R : Room) (s : State) (m : MethodId) (args : Array Value) (below : List Frame) (meth : Method) (c : Code), CX M G p R s m args meth c →
    ∀ (H : Heap) (locs : List Loc) (cells slots : Nat) (ls : Array Slot) (rest : List Value) (q : Addr) (ce : Cell), WD G S H → s.heap.size + cells = zX S → hsum s.heap + slots = zU S → (∀ q ∈ locs, gB G ≤ q.base) → lv_has ls (mN M) lv → H[q]? = some ce → ce.vm = .none → s.vm.findClass E = some ce.cls →
      vx_W p (gL G) e R s m args below meth c H locs cells slots (vx_MQ below (QcO G Q) (XcO G Q) args s R.cells R.slots (fun q => gB G ≤ q)) (F0 m pc ls rest) q
theorem WxT.out {E : String} (hh : mH M = []) (hq : Q (.inr E) S) : WxT M G S pc lv E Q := by
  intro p e R s m args below meth c C0 H locs cells slots ls rest q ce hW hc hs hl hlv hq1 hq2 hq3
  obtain ⟨hx, hb, hml, hr, hown, hts, hlk, hin0, hK, hbase, hfr, hlo, htb⟩ := id C0
  obtain ⟨g1, g2⟩ := w_room hW hc hs hbase
  refine vx_out (fun x hx => ?_) hlk hq1 hq2 hq3 (fun t ht _ => ⟨S, hq, by rw [ht]; exact hW⟩) hl g1 g2
  rw [htb, hh] at hx
  exact absurd hx (by simp [tableOf])
/-- the words of a method's contract -/
theorem ws_good (h : Cond.code (mY M2) (mB M2) (mN M2) (mR M2) ∈ BIG) : GoodIn BIG (Cond.code (mY M2) (mB M2) (mN M2) (mR M2) :: BIG) := fun w hw => by
  rcases List.mem_cons.mp hw with rfl | hw
  · exact big_good _ h
  · exact big_good _ hw
def cD (M M2 : MI) (n : Nat) : Prop := Cond.code (mY M2) (mB M2) (mN M2) (mR M2) ∈ BIG ∧ Cond.initialized (mY M2).cls ∈ BIG ∧ ((mY M2).cls ≠ "java/lang/invoke/MethodHandle" ∧ (mY M2).cls ≠ "java/lang/invoke/VarHandle" ∧ (parseMethodDescriptor (mY M2).desc).map (fun d => d.parameters.length) = some n) ∧ mD M2 + 1 ≤ mD M ∧ 8 + (mN M2 + 11) + 40 * mD M2 ≤ 40 * mD M
def cV (M M2 : MI) (idx n : Nat) : Prop := cD M M2 n ∧ Cond.instanceMethod (mY M2) ∈ BIG ∧ Cond.selects (mY M2).cls (mY M2) (mY M2) ∈ BIG ∧ (Cond.methodLink (mY M).cls idx (mY M2) ∈ BIG ∨ ∃ host, Cond.methodLinkNest (mY M).cls idx (mY M2) host ∈ NST)
def cS (M M2 : MI) (idx n : Nat) : Prop := cD M M2 n ∧ Cond.static (mY M2) ∈ BIG ∧ (Cond.methodLink (mY M).cls idx (mY M2) ∈ BIG ∨ ∃ host, Cond.methodLinkNest (mY M).cls idx (mY M2) host ∈ NST)
def cI (M M2 : MI) (idx n : Nat) : Prop := cD M M2 n ∧ Cond.instanceMethod (mY M2) ∈ BIG ∧ (mY M2).name = "<init>" ∧ mR M2 = none ∧ (Cond.methodLink (mY M).cls idx (mY M2) ∈ BIG ∨ ∃ host, Cond.methodLinkNest (mY M).cls idx (mY M2) host ∈ NST)
theorem pc_blind {av : List Value} : FrameBlind (va_Pc av (fun U => WD G S U.heap ∧ KK G U)) := fun a U g mk q => ⟨q.1, q.2.1, KK.same (u := U) (U := U.calling g mk a) rfl q.2.2⟩
theorem pc_pre {s : State} {H : Heap} {av : List Value} (hW : WD G S H) (hK : KK G s) : ∀ U : State, U.heap = H → s.WarmedH U.vm → va_Pc av (fun U => WD G S U.heap ∧ KK G U) av.toArray U := fun U hU hw => ⟨rfl, by rw [hU]; exact hW, KK.warm hw hK⟩
/-- a call, once it runs -/
theorem Wx.run {rest : List Value} {Q2 : OV → Hp → Prop} (hst : ∀ v ∈ rest, True)
    (h : ∀ (p : Program) (e : Env) (R : Room) (s : State) (m : MethodId) (args : Array Value) (below : List Frame) (meth : Method) (c : Code), CX M G p R s m args meth c →
      ∀ (H : Heap) (locs : List Loc) (cells slots : Nat) (ls : Array Slot), WD G S H → s.heap.size + cells = zX S → hsum s.heap + slots = zU S → lv_has ls (mN M) lv → ∃ mc ms a,
        vx_Run p (gL G) e R s m args below meth c H locs cells slots mc ms (F0 m pc ls st) rest (QcO G Q2 a) (XcO G Q2) (fun q => gB G ≤ q))
    (kk : ∀ v S', Q2 (.inl v) S' → Wx M G S' (pc + 3) lv (v.toList ++ rest) Q) (kx : ∀ E S', Q2 (.inr E) S' → WxT M G S' pc lv E Q) : Wx M G S pc lv st Q := by
  intro p e R s m args below meth c C0 H locs cells slots ls hW hc hs hl hlv
  obtain ⟨mc, ms, a0, hr⟩ := h p e R s m args below meth c C0 H locs cells slots ls hW hc hs hlv
  intro T hT X
  have hLL : ∀ L : List Loc, (∀ q ∈ L, gB G ≤ q.base) → ∀ q ∈ locs ++ L, gB G ≤ q.base := fun L hL q hq => by
    rcases List.mem_append.mp hq with h | h
    · exact hl q h
    · exact hL q h
  have hex : ∀ (S' : Hp) (T' : State) (L : List Loc), WD G S' T'.heap → Stand p (gL G) e R s m args below meth c T' (locs ++ L) (cells + mc) (slots + ms) → s.heap.size + (zX S' - s.heap.size) = zX S' ∧ hsum s.heap + (zU S' - hsum s.heap) = zU S' ∧ Stand p (gL G) e R s m args below meth c T' (locs ++ L) (zX S' - s.heap.size) (zU S' - hsum s.heap) := by
    intro S' T' L w X'
    obtain ⟨g1, g2, g3, g4, g5, g6⟩ := X'.same
    have z1 : T'.heap.size = zX S' := w.2.1
    have z2 : hsum T'.heap = zU S' := w.2.2.1
    have z3 : s.heap.size ≤ T'.heap.size := g2
    have hd := hsum_drop (s := s) (T := T') g2 (fun a c9 hc => by
      obtain ⟨c', e1, -, e2, -⟩ := g6 a c9 hc
      exact ⟨c', e1, e2⟩)
    have e1 : s.heap.size + (zX S' - s.heap.size) = zX S' := by omega
    have e2 : hsum s.heap + (zU S' - hsum s.heap) = zU S' := by omega
    exact ⟨e1, e2, stand_exact X' (by rw [z1, e1]) (by rw [z2, e2])⟩
  rcases hr T hT X with ⟨v, st₀, t, T', L, h0, X', hL, e1, e2, ⟨v', S', hv, hq, hw⟩, st⟩ | ⟨q, st₀, t, T', L, E, ce, h0, X', hL, e1, e2, ⟨S', hq, hw⟩, hce, hcv, hcl, st⟩
  · cases hv
    rw [← e1] at hw
    obtain ⟨z1, z2, X2⟩ := hex S' T' L hw X'
    obtain ⟨t2, a1, b1⟩ := kk _ S' hq p e R s m args below meth c C0 T'.heap (locs ++ L) _ _ ls hw z1 z2 (hLL L hL) hlv T' rfl X2
    exact ⟨t2, st t2 a1, b1⟩
  · rw [← e1] at hw hce
    obtain ⟨z1, z2, X2⟩ := hex S' T' L hw X'
    obtain ⟨t2, a1, b1⟩ := kx E S' hq p e R s m args below meth c C0 T'.heap (locs ++ L) _ _ ls rest q ce hw z1 z2 (hLL L hL) hlv hce hcv hcl T' rfl X2
    exact ⟨t2, st.trans a1, b1⟩
theorem call_rm {H : Heap} {s : State} {R : Room} {cells slots : Nat} (hW : WD G S H) (h1 : s.heap.size + cells = zX S) (h2 : hsum s.heap + slots = zU S) (hb : s.heap.size + R.cells = gN G ∧ hsum s.heap + R.slots = gM G ∧ (∀ q, q < gB G → s.heap[q]? = (gH G)[q]?) ∧ gB G ≤ s.heap.size) : cells + (gN G - zX S) ≤ R.cells ∧ slots + (gM G - zU S) ≤ R.slots := by
  have := hW.2.2.2.1
  have := hW.2.2.2.2.1
  exact ⟨by omega, by omega⟩
theorem zrecv {H : Heap} {s : State} {b ci : Nat} {r : vw_C} (hW : WD G S H) (hK : KK G s) (hb : zT S b = ci + 1) (hc : vwCl[ci]? = some r) (h3 : ci < 100) : ∃ cell : Cell, H[b]? = some cell ∧ cell.vm.isStatics = false ∧ s.vm.findClass r.1 = some cell.cls := by
  have hP := one_P hW (a := b) (by omega)
  rw [zE_obj hb h3] at hP
  exact va_recv hK.1 hP hc (q0 := 0) rfl
theorem r_callV {idx n b ci : Nat} {r : vw_C} {As rest : List Value} {Q2 : OV → Hp → Prop} (hd : decode (mB M) pc = .ok (.invokevirtual idx, 3)) (hcs : cV M M2 idx n) (hh : mH M2 = []) (hn : As.length = n) (hst : st = As.reverse ++ .ref b :: rest) (hcat : (rest.map fun v => v.category).sum ≤ 8)
    (hbt : zT S b = ci + 1) (hc0 : vwCl[ci]? = some r) (hr1 : r.1 = (mY M2).cls) (h3 : ci < 100) (hcn : Cn M2 G (.ref b :: As) S Q2) (kk : ∀ v S', Q2 (.inl v) S' → Wx M G S' (pc + 3) lv (v.toList ++ rest) Q) (kx : ∀ E S', Q2 (.inr E) S' → WxT M G S' pc lv E Q) : Wx M G S pc lv st Q := by
  refine Wx.run (rest := rest) (fun _ _ => trivial) (fun p e R s m args below meth c C0 H locs cells slots ls hW hc hs hlv => ?_) kk kx
  obtain ⟨hx, hb, hml, hr, hown, hts, hlk, hin0, hK, hbase, hfr, hlo, htb⟩ := id C0
  obtain ⟨⟨d1, d2, d3, d4, d5⟩, d6, d7, d8⟩ := hcs
  have hG := ws_good d1
  have hPre : PreV s H (mY M2).cls b (va_Pc (.ref b :: As) (fun U => WD G S U.heap ∧ KK G U)) As := ⟨pc_blind, by rw [← hr1]; exact zrecv hW hK hbt hc0 h3, pc_pre hW hK⟩
  refine ⟨gN G - zX S, gM G - zU S, (Value.ref b :: As).toArray, ?_⟩
  rcases d8 with d8 | ⟨host, d8⟩
  · exact vx_runV (S := ⟨hx, hb, hml, hown, hts⟩) hcn ⟨callB_of n hts hG rfl rfl rfl (hts _ d2) (hts _ d8) d3 ⟨Nat.le_trans d4 hfr, Nat.le_trans d5 hlo⟩, hts _ d6, hts _ d7⟩ hPre rfl hn hlv.1 hst (lv_room hcat) hd (call_rm hW hc hs hbase)
  · exact vx_runVN ⟨hx, hb, hml, hown, hts⟩ hcn ⟨va_cnB n hts hG rfl rfl rfl (va_Nw.of rfl (hK.nest (args := args) d8)) (hts _ d2) d3 ⟨Nat.le_trans d4 hfr, Nat.le_trans d5 hlo⟩, hts _ d6, hts _ d7⟩ hPre rfl hn hlv.1 hst (lv_room hcat) hd (call_rm hW hc hs hbase)
theorem r_callS {idx n : Nat} {As rest : List Value} {Q2 : OV → Hp → Prop} (hd : decode (mB M) pc = .ok (.invokestatic idx, 3)) (hcs : cS M M2 idx n) (hh : mH M2 = []) (hn : As.length = n) (hst : st = As.reverse ++ rest) (hcat : (rest.map fun v => v.category).sum ≤ 8)
    (hcn : Cn M2 G As S Q2) (kk : ∀ v S', Q2 (.inl v) S' → Wx M G S' (pc + 3) lv (v.toList ++ rest) Q) (kx : ∀ E S', Q2 (.inr E) S' → WxT M G S' pc lv E Q) : Wx M G S pc lv st Q := by
  refine Wx.run (rest := rest) (fun _ _ => trivial) (fun p e R s m args below meth c C0 H locs cells slots ls hW hc hs hlv => ?_) kk kx
  obtain ⟨hx, hb, hml, hr, hown, hts, hlk, hin0, hK, hbase, hfr, hlo, htb⟩ := id C0
  obtain ⟨⟨d1, d2, d3, d4, d5⟩, d6, d8⟩ := hcs
  have hG := ws_good d1
  have hPre : PreS s H (va_Pc As (fun U => WD G S U.heap ∧ KK G U)) As := ⟨pc_blind, pc_pre hW hK⟩
  refine ⟨gN G - zX S, gM G - zU S, As.toArray, ?_⟩
  rcases d8 with d8 | ⟨host, d8⟩
  · exact vx_runS (S := ⟨hx, hb, hml, hown, hts⟩) hcn ⟨callB_of n hts hG rfl rfl rfl (hts _ d2) (hts _ d8) d3 ⟨Nat.le_trans d4 hfr, Nat.le_trans d5 hlo⟩, hts _ d6⟩ hPre rfl hn hlv.1 hst (lv_room hcat) hd (call_rm hW hc hs hbase)
  · exact vx_runSN ⟨hx, hb, hml, hown, hts⟩ hcn ⟨va_cnB n hts hG rfl rfl rfl (va_Nw.of rfl (hK.nest (args := args) d8)) (hts _ d2) d3 ⟨Nat.le_trans d4 hfr, Nat.le_trans d5 hlo⟩, hts _ d6, trivial⟩ hPre rfl hn hlv.1 hst (lv_room hcat) hd (call_rm hW hc hs hbase)
theorem r_callI {idx n b : Nat} {As rest : List Value} {Q2 : OV → Hp → Prop} (hd : decode (mB M) pc = .ok (.invokespecial idx, 3)) (hcs : cI M M2 idx n) (hh : mH M2 = []) (hn : As.length = n) (hst : st = As.reverse ++ .ref b :: rest) (hcat : (rest.map fun v => v.category).sum ≤ 8)
    (hcn : Cn M2 G (.ref b :: As) S Q2) (kk : ∀ v S', Q2 (.inl v) S' → Wx M G S' (pc + 3) lv (v.toList ++ rest) Q) (kx : ∀ E S', Q2 (.inr E) S' → WxT M G S' pc lv E Q) : Wx M G S pc lv st Q := by
  refine Wx.run (rest := rest) (fun _ _ => trivial) (fun p e R s m args below meth c C0 H locs cells slots ls hW hc hs hlv => ?_) kk kx
  obtain ⟨hx, hb, hml, hr, hown, hts, hlk, hin0, hK, hbase, hfr, hlo, htb⟩ := id C0
  obtain ⟨⟨d1, d2, d3, d4, d5⟩, d6, d7, d9, d8⟩ := hcs
  have hG := ws_good d1
  have hPre : PreS s H (va_Pc (.ref b :: As) (fun U => WD G S U.heap ∧ KK G U)) (.ref b :: As) := ⟨pc_blind, pc_pre hW hK⟩
  refine ⟨gN G - zX S, gM G - zU S, (Value.ref b :: As).toArray, ?_⟩
  rcases d8 with d8 | ⟨host, d8⟩
  · refine vx_runI (bytes := mB M2) (maxL := mN M2) (S := ⟨hx, hb, hml, hown, hts⟩) hcn ⟨?_, d7, hts _ d6⟩ hPre rfl hn hlv.1 hst (lv_room hcat) hd (call_rm hW hc hs hbase)
    rw [← d9]
    exact callB_of n hts hG rfl rfl rfl (hts _ d2) (hts _ d8) d3 ⟨Nat.le_trans d4 hfr, Nat.le_trans d5 hlo⟩
  · refine vx_runIN (host := host) (bytes := mB M2) (maxL := mN M2) ⟨hx, hb, hml, hown, hts⟩ hcn ⟨?_, d7, hts _ d6⟩ hPre rfl hn hlv.1 hst (lv_room hcat) hd (call_rm hW hc hs hbase)
    rw [← d9]
    exact va_cnB n hts hG rfl rfl rfl (va_Nw.of rfl (hK.nest (args := args) d8)) (hts _ d2) d3 ⟨Nat.le_trans d4 hfr, Nat.le_trans d5 hlo⟩
/-- Object's own constructor -/
theorem r_objInit {idx a : Nat} (hd : decode (mB M) pc = .ok (.invokespecial idx, 3)) (h1 : Cond.methodLink (mY M).cls idx Lib.objectInit ∈ BIG) (h2 : Cond.instanceMethod Lib.objectInit ∈ BIG) (h3 : Cond.code Lib.objectInit ⟨#[0xb1]⟩ 1 none ∈ BIG) (hcat : (st.map fun v => v.category).sum ≤ 8) (h4 : 1 ≤ mD M) (kk : Wx M G S (pc + 3) lv st Q) : Wx M G S pc lv (.ref a :: st) Q := by
  intro p e R s m args below meth c C0 H locs cells slots ls hW hc hs hl hlv
  obtain ⟨hx, hb, hml, hr, hown, hts, hlk, hin0, hK, hbase, hfr, hlo, htb⟩ := id C0
  have h9 := lv_room (m := m) (pc := pc) (ls := ls) (rest := Value.ref a :: st) hcat
  refine W.objInit hx hb hown (hts _ h1) (hts _ h2) (hts _ h3) rfl (hlv.1.trans hml.symm) rfl hd (Nat.le_trans h4 hfr) (Nat.le_trans (Nat.add_le_add_right h9 12) (by omega)) ?_
  exact kk p e R s m args below meth c C0 H locs cells slots ls hW hc hs hl hlv
/-- a method's contract out of its body -/
theorem Cn.of {av : List Value} (hh : mH M = []) (hp : plainName (mY M).cls = true) (hn : (lg_sl av).length ≤ mN M) (hN : zX S ≤ gN G → zU S ≤ gM G → Wx M G S 0 (lv_args 0 av) [] Q) : Cn M G av S Q := by
  refine vx_ofW (cc := mB M) (maxL := mN M) (ret := mR M) hp rfl ?_
  intro p e s m args below meth c s₁ B hml ht hv
  obtain ⟨rfl, hW, hK⟩ := hv
  have hpre := atoms_spec (ws := Cond.code (mY M) (mB M) (mN M) (mR M) :: BIG) B.pre
  have z1 : s.heap.size = zX S := hW.2.1
  have z2 : hsum s.heap = zU S := hW.2.2.1
  have z3 := hW.2.2.2.1
  have z4 := hW.2.2.2.2.1
  have htb : c.exceptionTable.toList = tableOf (mH M) := by
    rw [hh]
    exact List.eq_nil_iff_forall_not_mem.mpr fun x hx => ht x hx
  have hl := lv_entry av (n := mN M) hn
  rw [lg_entry_eq]
  exact hN z3 z4 p e _ s m av.toArray below meth c ⟨B.exec, B.bytes, hml, B.returns, findClass_of_methodNamed B.named, fun w hw => hpre w (List.mem_cons_of_mem _ hw), B.notSynchronized, fun h => (name_of_methodNamed B.named B.method).1.trans h, hK,
    ⟨by show s.heap.size + (gN G - zX S) = gN G; omega, by show hsum s.heap + (gM G - zU S) = gM G; omega, fun q hq => hW.2.2.2.2.2.2 q hq, by rw [z1]; exact hW.2.2.2.2.2.1⟩, Nat.le_refl _, Nat.le_refl _, htb⟩ s.heap [] 0 0 _ hW (by omega) (by omega) (fun q h => absurd h List.not_mem_nil) hl
theorem Cn.mono {av : List Value} {Q' : OV → Hp → Prop} (h : ∀ o T, Q' o T → Q o T) (k : Cn M G av S Q') : Cn M G av S Q := by
  intro p e ha hc hk s m args below hf h1 hP hT
  obtain ⟨t, o, a1, a2, a3, a4⟩ := k p e ha hc hk s m args below hf h1 hP hT
  refine ⟨t, o, a1, a2, a3, ?_⟩
  rcases a4 with ⟨⟨v, S', e1, e2, e3⟩, b4⟩ | ⟨q, e1, E, ce, L, ⟨S', e2, e3⟩, e4⟩
  · exact Or.inl ⟨⟨v, S', e1, h _ _ e2, e3⟩, b4⟩
  · exact Or.inr ⟨q, e1, E, ce, L, ⟨S', h _ _ e2, e3⟩, e4⟩
/-- throw new E(): new, dup, invokespecial, athrow -/
def fT (own cls : String) (ik ic d : Nat) : Prop := ∃ names : List String, Bundle.fit cls = true ∧ (∀ n ∈ names, Bundle.fit n = true) ∧ Cond.classLink own ik cls ∈ BIG ∧ Cond.initialized cls ∈ BIG ∧ (∀ w ∈ vx_at0 own ic cls names, w ∈ BIG ∨ w ∈ NST) ∧ names.length + 3 < d ∧ 8 + (13 * (names.length + 1) + 42) ≤ 40 * d
theorem r_throw {cls : String} {ik ic : Nat} (hf : fT (mY M).cls cls ik ic (mD M)) (hh : mH M = []) (d0 : decode (mB M) pc = .ok (.new ik, 3)) (d3 : decode (mB M) (pc + 3) = .ok (.dup, 1)) (d4 : decode (mB M) (pc + 4) = .ok (.invokespecial ic, 3)) (d7 : decode (mB M) (pc + 7) = .ok (.athrow, 1))
    (hcat : (st.map fun v => v.category).sum ≤ 8) (h1 : zX S + 1 ≤ gN G) (h2 : zU S + 6 ≤ gM G) (kx : ∀ x u, zX S ≤ x → x ≤ zX S + 1 → zU S ≤ u → u ≤ zU S + 6 → Q (.inr cls) (uX S x u)) : Wx M G S pc lv st Q := by
  intro p e R s m args below meth c C0 H locs cells slots ls hW hc hs hl hlv
  obtain ⟨hx, hb, hml, hr, hown, hts, hlk, hin0, hK, hbase, hfr, hlo, htb⟩ := id C0
  obtain ⟨names, f1, f2, f3, f4, f5, f6, f7⟩ := hf
  obtain ⟨b1, b2, b3, b4⟩ := id hbase
  have hkept : ∀ a : Nat, a < (gH G).size → ¬ gA G a → s.heap[a]? = (gH G)[a]? := fun a _ h => b3 a (Nat.not_le.mp h)
  have hS : va_S (gA G) s.heap H locs := ⟨by rw [hW.2.1]; omega, fun q _ h => by rw [hW.2.2.2.2.2.2 q (Nat.not_le.mp h), b3 q (Nat.not_le.mp h)], hl⟩
  have hot : ∀ w ∈ BIG, vx_ot w = true := fun w hw => by
    unfold vx_ot
    rw [(List.mem_filter.mp hw).2, Bool.or_true]
  have key := vx_throw0 (p := p) (l := gL G) (e := e) (R := R) (s := s) (m := m) (args := args) (below := below) (meth := meth) (c := c) (H := H) (locs := locs) (cells := cells) (slots := slots) (free := fun q => gB G ≤ q) (ls := ls) (rest := st) (Qc := fun _ _ _ _ => False) (XC := fun E _ t => E = cls ∧ H.size ≤ t.heap.size ∧ ∀ q : Nat, q < H.size → t.heap[q]? = H[q]?) (mc := cells + 1) (ms := slots + 6) (pc := pc) hx hb hK.2.2.2.1 hown f1 f2 (hts _ f3) (hts _ f4) (fun w hw => (f5 w hw).elim (fun q => hts _ q) (fun q => hK.nest q))
    (fun w hw => by
      rcases List.mem_cons.mp hw with rfl | hw
      · exact hot _ f3
      rcases List.mem_cons.mp hw with rfl | hw
      · exact hot _ f4
      · exact (f5 w hw).elim (fun q => hot _ q) (fun q => by unfold vx_ot; rw [nest_tab (List.mem_filter.mp q).2, Bool.true_or]))
    (vx_Zq.kept hK.2.1.1.1 hkept) (vx_Zq.kept hK.2.1.1.2.1 hkept) hS (hlv.1.trans hml.symm) d0 d3 d4 d7 (fun x hx => by rw [htb, hh] at hx; exact absurd hx (by simp [tableOf])) (Nat.lt_of_lt_of_le f6 hfr) (by omega) (by omega) (by omega) hlk
    (fun t _ g1 g2 => ⟨rfl, g1, g2⟩) hl (Nat.le_refl _) (Nat.le_refl _)
  intro T hT X
  obtain ⟨t, a1, o, a2, a3, a4⟩ := key T hT X
  have noend : ∀ (o : Outcome), vx_Q (fun _ _ _ _ => False) (fun E _ t => E = cls ∧ H.size ≤ t.heap.size ∧ ∀ q : Nat, q < H.size → t.heap[q]? = H[q]?) (cells + 1) (slots + 6) (fun q => gB G ≤ q) args s o t → vx_Q (QcO G Q) (XcO G Q) R.cells R.slots (fun q => gB G ≤ q) args s o t := by
    intro o h
    rcases h with ⟨h, -⟩ | ⟨q, e1, E, ce, L, ⟨rfl, g1, g2⟩, k1, k2, k3, k4, k5, k6⟩
    · exact h.elim
    · refine Or.inr ⟨q, e1, E, ce, L, ⟨uX S t.heap.size (hsum t.heap), ?_, ?_⟩, k1, k2, k3, k4, k5.mono (by omega) (by omega), k6⟩
      · obtain ⟨j1, j2, j3, j4, j5, j6⟩ := k5
        have hz : H.size = zX S := hW.2.1
        have hu : hsum H = zU S := hW.2.2.1
        have q1 : t.heap.size ≤ s.heap.size + (cells + 1) := j3
        have hd := hsum_drop (s := s) (T := t) j2 (fun a c9 hc => by
          obtain ⟨c', e1, -, e2, -⟩ := j6 a c9 hc
          exact ⟨c', e1, e2⟩)
        have q2 : ((t.heap.toList.drop s.heap.size).map (fun c : Cell => c.slots.size)).sum ≤ slots + 6 := j5
        have hd2 := hsum_drop (s := ({ s with heap := H } : State)) (T := t) g1 (fun a c9 hc => ⟨c9, by rw [g2 a (Array.getElem?_eq_some_iff.mp hc).1]; exact hc, rfl⟩)
        have q3 : hsum t.heap = hsum H + ((t.heap.toList.drop H.size).map (fun c : Cell => c.slots.size)).sum := hd2
        exact kx _ _ (by omega) (by omega) (by omega) (by omega)
      · have hz : H.size = zX S := hW.2.1
        obtain ⟨w1, w2, w3, w4, w5, w6, w7⟩ := hW
        obtain ⟨j1, j2, j3, j4, j5, j6⟩ := k5
        have q1 : t.heap.size ≤ s.heap.size + (cells + 1) := j3
        have hd := hsum_drop (s := s) (T := t) j2 (fun a c9 hc => by
          obtain ⟨c', e1, -, e2, -⟩ := j6 a c9 hc
          exact ⟨c', e1, e2⟩)
        have q2 : ((t.heap.toList.drop s.heap.size).map (fun c : Cell => c.slots.size)).sum ≤ slots + 6 := j5
        refine ⟨fun a ha => ⟨(w1 a ha).1.kept (g2 a (w1 a ha).1.lt), (w1 a ha).2⟩, rfl, rfl, by show t.heap.size ≤ _; omega, by show hsum t.heap ≤ _; omega, by show _ ≤ t.heap.size; omega, fun q hq => by rw [g2 q (by omega)]; exact w7 q hq⟩
  exact ⟨t, a1, o, a2, a3, noend o a4⟩
end CallRules
