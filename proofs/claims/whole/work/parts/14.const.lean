section ConstRules
variable {M M2 : MI} {G : GI} {S : Hp} {pc : Nat} {lv : List (Nat × Value)} {st : List Value} {Q : OV → Hp → Prop}
theorem base_kept {s : State} {R : Room} (hb : s.heap.size + R.cells = gN G ∧ hsum s.heap + R.slots = gM G ∧ (∀ q, q < gB G → s.heap[q]? = (gH G)[q]?) ∧ gB G ≤ s.heap.size) : ∀ a : Nat, a < (gH G).size → ¬ gA G a → s.heap[a]? = (gH G)[a]? := fun a _ h => hb.2.2.1 a (Nat.not_le.mp h)
theorem base_S {s : State} {R : Room} {H : Heap} {locs : List Loc} {cells : Nat} (hW : WD G S H) (hc : s.heap.size + cells = zX S) (hb : s.heap.size + R.cells = gN G ∧ hsum s.heap + R.slots = gM G ∧ (∀ q, q < gB G → s.heap[q]? = (gH G)[q]?) ∧ gB G ≤ s.heap.size) (hl : ∀ q ∈ locs, gB G ≤ q.base) : va_S (gA G) s.heap H locs :=
  ⟨by rw [hW.2.1]; omega, fun q _ h => by rw [hW.2.2.2.2.2.2 q (Nat.not_le.mp h), hb.2.2.1 q (Nat.not_le.mp h)], hl⟩
theorem base_H {H : Heap} (hW : WD G S H) : ∀ a : Nat, a < (gH G).size → ¬ gA G a → H[a]? = (gH G)[a]? := fun a _ h => hW.2.2.2.2.2.2 a (Nat.not_le.mp h)
/-- a static that holds v -/
theorem r_gets {C n d : String} {v : Value} {idx : Nat} (hZ : ∀ U, KF G U → va_Z C n d v (gA G) U (gH G)) (hd : decode (mB M) pc = .ok (.getstatic idx, 3)) (hw : Cond.fieldLink (mY M).cls idx C n d ∈ BIG) (kk : Wx M G S (pc + 3) lv (v :: st) Q) : Wx M G S pc lv st Q := by
  intro p e R s m args below meth c C0 H locs cells slots ls hW hc hs hl hlv
  obtain ⟨hx, hb, hml, hr, hown, hts, hlk, hin0, hK, hbase, hfr, hlo, htb⟩ := id C0
  exact va_gets hx hb ((hZ s hK.2.1).kept (base_kept hbase)) (base_S hW hc hbase hl) hown (hts _ hw) (fun _ h => h) hd (kk p e R s m args below meth c C0 H locs cells slots ls hW hc hs hl hlv)
/-- a field of a constant -/
theorem r_getC {a : Nat} {o n d : String} {v : Value} {idx : Nat} (hF : ∀ U, KF G U → va_OF o n d v a (gA G) U (gH G)) (hd : decode (mB M) pc = .ok (.getfield idx, 3)) (hw : Cond.fieldLink (mY M).cls idx o n d ∈ BIG ∨ ∃ host, Cond.fieldLinkNest (mY M).cls idx o n d host ∈ NST) (kk : Wx M G S (pc + 3) lv (v :: st) Q) : Wx M G S pc lv (.ref a :: st) Q := by
  intro p e R s m args below meth c C0 H locs cells slots ls hW hc hs hl hlv
  obtain ⟨hx, hb, hml, hr, hown, hts, hlk, hin0, hK, hbase, hfr, hlo, htb⟩ := id C0
  have k1 := kk p e R s m args below meth c C0 H locs cells slots ls hW hc hs hl hlv
  rcases hw with hw | ⟨host, hw⟩
  · exact vk_getf hx hb ((hF s hK.2.1).kept (base_kept hbase)) (base_S hW hc hbase hl) hown (hts _ hw) (fun _ h => h) hd k1
  · obtain ⟨cf, k, fi, f, cell, h1, h2, h3, h4, h5, h6⟩ := (hF s hK.2.1).kept (base_H hW)
    exact va_Wgetf hx hb hown (hK.nest hw) h1 h2 h3 h4 (v := v) h5 rfl rfl hd k1
theorem T_at {ty : FieldType} {t N : Nat} {f : Nat → Value} {H : Heap} {s : State} (hW : WD G S H) (h : va_T ty t N f (gA G) s (gH G)) {i : Int32} (hi : vp_in i N) : ∃ cell : Cell, H[t]? = some cell ∧ s.isArrayOf cell ty ∧ cell.vm ≠ .unknown ∧ ¬ (i < 0 ∨ cell.slots.size ≤ i.toNatClampNeg) ∧ cell.slots[i.toNatClampNeg]? = some (f i.toNatClampNeg) := by
  obtain ⟨cell, h1, h2, h3, h4, h5, h6, h7⟩ := h.kept (base_H hW)
  have hlt : i.toNatClampNeg < N := Nat.not_le.mp fun q => hi (Or.inr q)
  exact ⟨cell, h1, h2, h3, fun q => q.elim (fun q => hi (Or.inl q)) (fun q => by omega), h6 _ hlt⟩
theorem r_ialdT {t N : Nat} {f : Nat → Value} {i : Int32} (hT : ∀ U, KF G U → va_T .int t N f (gA G) U (gH G)) (hd : decode (mB M) pc = .ok (.iaload, 1)) (hi : vp_in i N) (kk : Wx M G S (pc + 1) lv (f i.toNatClampNeg :: st) Q) : Wx M G S pc lv (.int i :: .ref t :: st) Q := by
  intro p e R s m args below meth c C0 H locs cells slots ls hW hc hs hl hlv
  obtain ⟨hx, hb, hml, hr, hown, hts, hlk, hin0, hK, hbase, hfr, hlo, htb⟩ := id C0
  obtain ⟨cell, h1, h2, h3, h4, h5⟩ := T_at hW (hT s hK.2.1) hi
  exact W.iald hx hb h1 h2 h3 h4 h5 rfl rfl hd (kk p e R s m args below meth c C0 H locs cells slots ls hW hc hs hl hlv)
theorem r_baldT {t N : Nat} {f : Nat → Value} {i : Int32} (hT : ∀ U, KF G U → va_T .byte t N f (gA G) U (gH G)) (hd : decode (mB M) pc = .ok (.baload, 1)) (hi : vp_in i N) (kk : Wx M G S (pc + 1) lv (f i.toNatClampNeg :: st) Q) : Wx M G S pc lv (.int i :: .ref t :: st) Q := by
  intro p e R s m args below meth c C0 H locs cells slots ls hW hc hs hl hlv
  obtain ⟨hx, hb, hml, hr, hown, hts, hlk, hin0, hK, hbase, hfr, hlo, htb⟩ := id C0
  obtain ⟨cell, h1, h2, h3, h4, h5⟩ := T_at hW (hT s hK.2.1) hi
  exact W.bald hx hb h1 h2 h3 h4 h5 rfl rfl hd (kk p e R s m args below meth c C0 H locs cells slots ls hW hc hs hl hlv)
theorem r_aaldT {t N : Nat} {f : Nat → Value} {i : Int32} {E : String} (hT : ∀ U, KF G U → va_T (.object E) t N f (gA G) U (gH G)) (hd : decode (mB M) pc = .ok (.aaload, 1)) (hi : vp_in i N) (kk : Wx M G S (pc + 1) lv (f i.toNatClampNeg :: st) Q) : Wx M G S pc lv (.int i :: .ref t :: st) Q := by
  intro p e R s m args below meth c C0 H locs cells slots ls hW hc hs hl hlv
  obtain ⟨hx, hb, hml, hr, hown, hts, hlk, hin0, hK, hbase, hfr, hlo, htb⟩ := id C0
  obtain ⟨cell, h1, h2, h3, h4, h5⟩ := T_at hW (hT s hK.2.1) hi
  exact W.aald hx hb h1 h2 rfl h3 h4 h5 rfl rfl hd (kk p e R s m args below meth c C0 H locs cells slots ls hW hc hs hl hlv)
theorem r_alenT {t N : Nat} {f : Nat → Value} {ty : FieldType} (hT : ∀ U, KF G U → va_T ty t N f (gA G) U (gH G)) (hd : decode (mB M) pc = .ok (.arraylength, 1)) (kk : Wx M G S (pc + 1) lv (.int (nI N) :: st) Q) : Wx M G S pc lv (.ref t :: st) Q := by
  intro p e R s m args below meth c C0 H locs cells slots ls hW hc hs hl hlv
  obtain ⟨hx, hb, hml, hr, hown, hts, hlk, hin0, hK, hbase, hfr, hlo, htb⟩ := id C0
  obtain ⟨cell, h1, h2, h3, h4, h5, h6, h7⟩ := (hT s hK.2.1).kept (base_H hW)
  exact W.alen hx hb h1 h2 h5 rfl rfl hd (kk p e R s m args below meth c C0 H locs cells slots ls hW hc hs hl hlv)
/-- a call whose receiver is a constant of class E -/
theorem r_callVC {idx n b : Nat} {As rest : List Value} {Q2 : OV → Hp → Prop} (hO : ∀ U, KF G U → va_O (mY M2).cls b (gA G) U (gH G)) (hd : decode (mB M) pc = .ok (.invokevirtual idx, 3)) (hcs : cV M M2 idx n) (hh : mH M2 = []) (hn : As.length = n) (hst : st = As.reverse ++ .ref b :: rest) (hcat : (rest.map fun v => v.category).sum ≤ 8)
    (hcn : Cn M2 G (.ref b :: As) S Q2) (kk : ∀ v S', Q2 (.inl v) S' → Wx M G S' (pc + 3) lv (v.toList ++ rest) Q) (kx : ∀ E S', Q2 (.inr E) S' → WxT M G S' pc lv E Q) : Wx M G S pc lv st Q := by
  refine Wx.run (rest := rest) (fun _ _ => trivial) (fun p e R s m args below meth c C0 H locs cells slots ls hW hc hs hlv => ?_) kk kx
  obtain ⟨hx, hb, hml, hr, hown, hts, hlk, hin0, hK, hbase, hfr, hlo, htb⟩ := id C0
  obtain ⟨⟨d1, d2, d3, d4, d5⟩, d6, d7, d8⟩ := hcs
  have hG := ws_good d1
  obtain ⟨cell, g1, g2, g3, -⟩ := (hO s hK.2.1).kept (base_H hW)
  have hPre : PreV s H (mY M2).cls b (va_Pc (.ref b :: As) (fun U => WD G S U.heap ∧ KK G U)) As := ⟨pc_blind, ⟨cell, g1, g2, g3⟩, pc_pre hW hK⟩
  refine ⟨gN G - zX S, gM G - zU S, (Value.ref b :: As).toArray, ?_⟩
  rcases d8 with d8 | ⟨host, d8⟩
  · exact vx_runV (S := ⟨hx, hb, hml, hown, hts⟩) hcn ⟨callB_of n hts hG rfl rfl rfl (hts _ d2) (hts _ d8) d3 ⟨Nat.le_trans d4 hfr, Nat.le_trans d5 hlo⟩, hts _ d6, hts _ d7⟩ hPre rfl hn hlv.1 hst (lv_room hcat) hd (call_rm hW hc hs hbase)
  · exact vx_runVN ⟨hx, hb, hml, hown, hts⟩ hcn ⟨va_cnB n hts hG rfl rfl rfl (va_Nw.of rfl (hK.nest (args := args) d8)) (hts _ d2) d3 ⟨Nat.le_trans d4 hfr, Nat.le_trans d5 hlo⟩, hts _ d6, hts _ d7⟩ hPre rfl hn hlv.1 hst (lv_room hcat) hd (call_rm hW hc hs hbase)
theorem r_ldcS {a idx : Nat} {tx : String} (hR : ∀ U, KF G U → vk_R (mY M).cls idx tx a U) (hd : decode (mB M) pc = .ok (.ldc idx, 2)) (kk : Wx M G S (pc + 2) lv (.ref a :: st) Q) : Wx M G S pc lv st Q := by
  intro p e R s m args below meth c C0 H locs cells slots ls hW hc hs hl hlv
  obtain ⟨hx, hb, hml, hr, hown, hts, hlk, hin0, hK, hbase, hfr, hlo, htb⟩ := id C0
  exact va_ldcS hx hb hown (hR s hK.2.1) hd (kk p e R s m args below meth c C0 H locs cells slots ls hW hc hs hl hlv)
theorem r_ldcwS {a idx : Nat} {tx : String} (hR : ∀ U, KF G U → vk_R (mY M).cls idx tx a U) (hd : decode (mB M) pc = .ok (.ldc_w idx, 3)) (kk : Wx M G S (pc + 3) lv (.ref a :: st) Q) : Wx M G S pc lv st Q := by
  intro p e R s m args below meth c C0 H locs cells slots ls hW hc hs hl hlv
  obtain ⟨hx, hb, hml, hr, hown, hts, hlk, hin0, hK, hbase, hfr, hlo, htb⟩ := id C0
  have k1 := kk p e R s m args below meth c C0 H locs cells slots ls hW hc hs hl hlv
  have hZ := hR s hK.2.1
  intro T hT X
  obtain ⟨t, a1, b1⟩ := k1 T hT X
  exact ⟨t, X.ldcStringW hx hown (text := tx) (a := a) hZ.1 hZ.2 (g := F0 m pc ls st) rfl (by rw [hb]; exact hd) t a1, b1⟩
end ConstRules
