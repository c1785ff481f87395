section MakeRules
variable {M : MI} {G : GI} {S : Hp} {pc : Nat} {lv : List (Nat × Value)} {st : List Value} {Q : OV → Hp → Prop}
theorem zE_nO {t n b : Nat} (h : b ≠ zX S) : zE G (nO S t n) b = zE G S b :=
  zE_eq (show up1 (zT S) (zX S) t b = zT S b by simp [up1, h]) (fun f => by show (if b = zX S then 0 else zI S f b) = _; rw [if_neg h]) (fun f => by show (if b = zX S then none else zP S f b) = _; rw [if_neg h]) rfl rfl rfl rfl rfl
theorem zE_nA {t n b : Nat} (h : b ≠ zX S) : zE G (nA S t n) b = zE G S b :=
  zE_eq (show up1 (zT S) (zX S) t b = zT S b by simp [up1, h]) (fun _ => rfl) (fun _ => rfl) (show up1 (zN S) (zX S) n b = zN S b by simp [up1, h]) (show up1 (zA S) (zX S) _ b = zA S b by simp [up1, h]) (show up1 (zL S) (zX S) _ b = zL S b by simp [up1, h]) (show up1 (zD S) (zX S) _ b = zD S b by simp [up1, h]) (show up1 (zQ S) (zX S) _ b = zQ S b by simp [up1, h])
theorem zT_nO {t n : Nat} : zT (nO S t n) (zX S) = t := by show up1 _ _ _ _ = t; simp [up1]
theorem zT_nA {t n : Nat} : zT (nA S t n) (zX S) = t := by show up1 _ _ _ _ = t; simp [up1]
/-- class ci can be made by the entry idx: its fields' first values -/
def fN (own : String) (idx ci N : Nat) : Prop := ∃ Cn T ty, cK ci Cn T N ty ∧ Cond.classLink own idx Cn ∈ BIG ∧ Cond.instantiable Cn N ∈ BIG ∧ Cond.initialized Cn ∈ BIG ∧ ∀ k, k < N → defaultValue (ty k) = if isR (ty k) = true then .null else .int 0
theorem r_new {idx ci N : Nat} (hd : decode (mB M) pc = .ok (.new idx, 3)) (hf : fN (mY M).cls idx ci N) (h1 : zX S + 1 ≤ gN G) (h2 : zU S + N ≤ gM G) (kk : Wx M G (nO S (ci + 1) N) (pc + 3) lv (.ref (zX S) :: st) Q) : Wx M G S pc lv st Q := by
  intro p e R s m args below meth c C0 H locs cells slots ls hW hc hs hl hlv
  obtain ⟨hx, hb, hml, hr, hown, hts, hlk, hin0, hK, hbase, hfr, hlo, htb⟩ := id C0
  obtain ⟨Cn, T, ty, ⟨c1, c2, c3, c4, c5, c6⟩, w1, w2, w3, hdf⟩ := hf
  have hKn := hK.1.1 ci _ c1
  obtain ⟨b1, b2, -, -⟩ := id hbase
  refine W.newc hx hb hown (hts _ w1) (hts _ w2) (hts _ w3) rfl hd (by omega) (by omega) fun cC kC g1 g2 g3 g4 => ?_
  have hz : H.size = zX S := hW.2.1
  generalize hH1 : H.push ({ cls := cC, slots := kC.instanceTypes.map defaultValue, vm := .none } : Cell) = H1
  have z1 : H1.size = H.size + 1 := by rw [← hH1, Array.size_push]
  have e1 : H1[H.size]? = some (blank cC kC) := by rw [← hH1, Array.getElem?_push_size]; rfl
  have o1 : ∀ q : Nat, q < H.size → H1[q]? = H[q]? := fun q hq => by rw [← hH1, Array.getElem?_push, if_neg (Nat.ne_of_lt hq)]
  have hcC : cC = (gD G).1 ci := Option.some.inj (g1.symm.trans hKn.2.1)
  subst hcC
  rw [hz]
  refine kk p e R s m args below meth c C0 H1 locs (cells + 1) (slots + N) ls ?_ (by show _ = zX S + 1; omega) (by show _ = zU S + N; omega) hl hlv
  refine hW.mk (S' := nO S (ci + 1) N) (t := ci + 1) (n := N) rfl rfl rfl (fun b hb _ => zE_nO hb) e1 (by simp [blank, g4]) z1 o1 ?_ h1 h2
  rw [zE_obj zT_nO c2]
  have hbn := u_born (o := H.size) ty hts c3 hKn g2 e1 c4
  rw [hz] at hbn
  refine ⟨_, c1, hbn.to fun k hk => ?_⟩
  rw [hdf k hk]
  unfold vp_V
  rw [List.getD_eq_getElem?_getD, fV_at (nF_of c1) hk, c6 k hk]
  split
  · show _ = va_rf (if zX S = zX S then none else _)
    rw [if_pos rfl]
    rfl
  · show _ = Value.int (if zX S = zX S then 0 else _)
    rw [if_pos rfl]
theorem new_row {H H1 : Heap} {zE_c : vp_A} {cA : ClassId} {n t : Nat} {v : Value} (hW : WD G S H) (hH1 : H.push (arrV cA n (fun _ => v)) = H1) (h1 : zX S + 1 ≤ gN G) (h2 : zU S + n ≤ gM G) (hc : zE G (nA S t n) (zX S) = .inl (cA, n, (zE_c : vp_A).2)) (hv : vp_cell cA (n, (zE_c : vp_A).2) = arrV cA n (fun _ => v)) : WD G (nA S t n) H1 := by
  have hz : H.size = zX S := hW.2.1
  have z1 : H1.size = H.size + 1 := by rw [← hH1, Array.size_push]
  have e1 : H1[H.size]? = some (arrV cA n (fun _ => v)) := by rw [← hH1, Array.getElem?_push_size]
  have o1 : ∀ q : Nat, q < H.size → H1[q]? = H[q]? := fun q hq => by rw [← hH1, Array.getElem?_push, if_neg (Nat.ne_of_lt hq)]
  refine hW.mk (S' := nA S t n) (t := t) (n := n) rfl rfl rfl (fun b hb _ => zE_nA hb) e1 (arrV_size _ _ _) z1 o1 ?_ h1 h2
  rw [hc]
  show H1[zX S]? = some (vp_cell _ _)
  rw [hv, ← hz]
  exact e1
theorem r_new_int {n : Int32} {N : Nat} (hd : decode (mB M) pc = .ok (.newarray .int, 2)) (hw : Cond.arrayClass .int ∈ BIG) (hn : ¬ n < 0) (hN : n.toNatClampNeg = N) (hN2 : N * 8 ≤ 536870912) (h1 : zX S + 1 ≤ gN G) (h2 : zU S + N ≤ gM G) (kk : Wx M G (nA S 101 N) (pc + 2) lv (.ref (zX S) :: st) Q) : Wx M G S pc lv (.int n :: st) Q := by
  intro p e R s m args below meth c C0 H locs cells slots ls hW hc hs hl hlv
  obtain ⟨hx, hb, hml, hr, hown, hts, hlk, hin0, hK, hbase, hfr, hlo, htb⟩ := id C0
  subst hN
  obtain ⟨b1, b2, -, -⟩ := id hbase
  refine W.newa (atype := .int) hx hb (hts _ hw) rfl hd rfl hn (by show _ * componentBytes .int ≤ _; simp only [componentBytes]; omega) (by omega) (by omega) fun cA kA comp g1 g2 g3 => ?_
  have hcA : cA = gC G 101 := Option.some.inj (g1.symm.trans (hK.1.2 0 _ rfl).2)
  subst hcA
  have hz : H.size = zX S := hW.2.1
  rw [hz]
  refine kk p e R s m args below meth c C0 _ locs (cells + 1) (slots + n.toNatClampNeg) ls ?_ (by show _ = zX S + 1; omega) (by show _ = zU S + _; omega) hl hlv
  refine new_row (v := defaultValue .int) (zE_c := (n.toNatClampNeg, (.inl (fun _ => 0)))) hW (by rw [← arrV_new]; rfl) h1 h2 ?_ rfl
  rw [zE_int zT_nA]
  have e1 : zN (nA S 101 n.toNatClampNeg) (zX S) = n.toNatClampNeg := by show up1 _ _ _ _ = _; simp [up1]
  have e2 : zA (nA S 101 n.toNatClampNeg) (zX S) = fun _ => 0 := by show up1 _ _ _ _ = _; simp [up1]
  rw [e1, e2]
theorem r_new_long {n : Int32} {N : Nat} (hd : decode (mB M) pc = .ok (.newarray .long, 2)) (hw : Cond.arrayClass .long ∈ BIG) (hn : ¬ n < 0) (hN : n.toNatClampNeg = N) (hN2 : N * 8 ≤ 536870912) (h1 : zX S + 1 ≤ gN G) (h2 : zU S + N ≤ gM G) (kk : Wx M G (nA S 102 N) (pc + 2) lv (.ref (zX S) :: st) Q) : Wx M G S pc lv (.int n :: st) Q := by
  intro p e R s m args below meth c C0 H locs cells slots ls hW hc hs hl hlv
  obtain ⟨hx, hb, hml, hr, hown, hts, hlk, hin0, hK, hbase, hfr, hlo, htb⟩ := id C0
  subst hN
  obtain ⟨b1, b2, -, -⟩ := id hbase
  refine W.newa (atype := .long) hx hb (hts _ hw) rfl hd rfl hn (by show _ * componentBytes .long ≤ _; simp only [componentBytes]; omega) (by omega) (by omega) fun cA kA comp g1 g2 g3 => ?_
  have hcA : cA = gC G 102 := Option.some.inj (g1.symm.trans (hK.1.2 1 _ rfl).2)
  subst hcA
  have hz : H.size = zX S := hW.2.1
  rw [hz]
  refine kk p e R s m args below meth c C0 _ locs (cells + 1) (slots + n.toNatClampNeg) ls ?_ (by show _ = zX S + 1; omega) (by show _ = zU S + _; omega) hl hlv
  refine new_row (v := defaultValue .long) (zE_c := (n.toNatClampNeg, (.inr (.inl (fun _ => 0))))) hW (by rw [← arrV_new]; rfl) h1 h2 ?_ rfl
  rw [zE_long zT_nA]
  have e1 : zN (nA S 102 n.toNatClampNeg) (zX S) = n.toNatClampNeg := by show up1 _ _ _ _ = _; simp [up1]
  have e2 : zL (nA S 102 n.toNatClampNeg) (zX S) = fun _ => 0 := by show up1 _ _ _ _ = _; simp [up1]
  rw [e1, e2]
theorem r_new_double {n : Int32} {N : Nat} (hd : decode (mB M) pc = .ok (.newarray .double, 2)) (hw : Cond.arrayClass .double ∈ BIG) (hn : ¬ n < 0) (hN : n.toNatClampNeg = N) (hN2 : N * 8 ≤ 536870912) (h1 : zX S + 1 ≤ gN G) (h2 : zU S + N ≤ gM G) (kk : Wx M G (nA S 103 N) (pc + 2) lv (.ref (zX S) :: st) Q) : Wx M G S pc lv (.int n :: st) Q := by
  intro p e R s m args below meth c C0 H locs cells slots ls hW hc hs hl hlv
  obtain ⟨hx, hb, hml, hr, hown, hts, hlk, hin0, hK, hbase, hfr, hlo, htb⟩ := id C0
  subst hN
  obtain ⟨b1, b2, -, -⟩ := id hbase
  refine W.newa (atype := .double) hx hb (hts _ hw) rfl hd rfl hn (by show _ * componentBytes .double ≤ _; simp only [componentBytes]; omega) (by omega) (by omega) fun cA kA comp g1 g2 g3 => ?_
  have hcA : cA = gC G 103 := Option.some.inj (g1.symm.trans (hK.1.2 2 _ rfl).2)
  subst hcA
  have hz : H.size = zX S := hW.2.1
  rw [hz]
  refine kk p e R s m args below meth c C0 _ locs (cells + 1) (slots + n.toNatClampNeg) ls ?_ (by show _ = zX S + 1; omega) (by show _ = zU S + _; omega) hl hlv
  refine new_row (v := defaultValue .double) (zE_c := (n.toNatClampNeg, (.inr (.inr (.inr (.inl (fun _ => 0))))))) hW (by rw [← arrV_new]; rfl) h1 h2 ?_ rfl
  rw [zE_dbl zT_nA]
  have e1 : zN (nA S 103 n.toNatClampNeg) (zX S) = n.toNatClampNeg := by show up1 _ _ _ _ = _; simp [up1]
  have e2 : zD (nA S 103 n.toNatClampNeg) (zX S) = fun _ => 0 := by show up1 _ _ _ _ = _; simp [up1]
  rw [e1, e2]
theorem r_new_byte {n : Int32} {N : Nat} (hd : decode (mB M) pc = .ok (.newarray .byte, 2)) (hw : Cond.arrayClass .byte ∈ BIG) (hn : ¬ n < 0) (hN : n.toNatClampNeg = N) (hN2 : N * 8 ≤ 536870912) (h1 : zX S + 1 ≤ gN G) (h2 : zU S + N ≤ gM G) (kk : Wx M G (nA S 104 N) (pc + 2) lv (.ref (zX S) :: st) Q) : Wx M G S pc lv (.int n :: st) Q := by
  intro p e R s m args below meth c C0 H locs cells slots ls hW hc hs hl hlv
  obtain ⟨hx, hb, hml, hr, hown, hts, hlk, hin0, hK, hbase, hfr, hlo, htb⟩ := id C0
  subst hN
  obtain ⟨b1, b2, -, -⟩ := id hbase
  refine W.newa (atype := .byte) hx hb (hts _ hw) rfl hd rfl hn (by show _ * componentBytes .byte ≤ _; simp only [componentBytes]; omega) (by omega) (by omega) fun cA kA comp g1 g2 g3 => ?_
  have hcA : cA = gC G 104 := Option.some.inj (g1.symm.trans (hK.1.2 3 _ rfl).2)
  subst hcA
  have hz : H.size = zX S := hW.2.1
  rw [hz]
  refine kk p e R s m args below meth c C0 _ locs (cells + 1) (slots + n.toNatClampNeg) ls ?_ (by show _ = zX S + 1; omega) (by show _ = zU S + _; omega) hl hlv
  refine new_row (v := defaultValue .byte) (zE_c := (n.toNatClampNeg, (.inl (fun _ => 0)))) hW (by rw [← arrV_new]; rfl) h1 h2 ?_ rfl
  rw [zE_byte zT_nA]
  have e1 : zN (nA S 104 n.toNatClampNeg) (zX S) = n.toNatClampNeg := by show up1 _ _ _ _ = _; simp [up1]
  have e2 : zA (nA S 104 n.toNatClampNeg) (zX S) = fun _ => 0 := by show up1 _ _ _ _ = _; simp [up1]
  rw [e1, e2]
theorem r_new_char {n : Int32} {N : Nat} (hd : decode (mB M) pc = .ok (.newarray .char, 2)) (hw : Cond.arrayClass .char ∈ BIG) (hn : ¬ n < 0) (hN : n.toNatClampNeg = N) (hN2 : N * 8 ≤ 536870912) (h1 : zX S + 1 ≤ gN G) (h2 : zU S + N ≤ gM G) (kk : Wx M G (nA S 105 N) (pc + 2) lv (.ref (zX S) :: st) Q) : Wx M G S pc lv (.int n :: st) Q := by
  intro p e R s m args below meth c C0 H locs cells slots ls hW hc hs hl hlv
  obtain ⟨hx, hb, hml, hr, hown, hts, hlk, hin0, hK, hbase, hfr, hlo, htb⟩ := id C0
  subst hN
  obtain ⟨b1, b2, -, -⟩ := id hbase
  refine W.newa (atype := .char) hx hb (hts _ hw) rfl hd rfl hn (by show _ * componentBytes .char ≤ _; simp only [componentBytes]; omega) (by omega) (by omega) fun cA kA comp g1 g2 g3 => ?_
  have hcA : cA = gC G 105 := Option.some.inj (g1.symm.trans (hK.1.2 4 _ rfl).2)
  subst hcA
  have hz : H.size = zX S := hW.2.1
  rw [hz]
  refine kk p e R s m args below meth c C0 _ locs (cells + 1) (slots + n.toNatClampNeg) ls ?_ (by show _ = zX S + 1; omega) (by show _ = zU S + _; omega) hl hlv
  refine new_row (v := defaultValue .char) (zE_c := (n.toNatClampNeg, (.inl (fun _ => 0)))) hW (by rw [← arrV_new]; rfl) h1 h2 ?_ rfl
  rw [zE_char zT_nA]
  have e1 : zN (nA S 105 n.toNatClampNeg) (zX S) = n.toNatClampNeg := by show up1 _ _ _ _ = _; simp [up1]
  have e2 : zA (nA S 105 n.toNatClampNeg) (zX S) = fun _ => 0 := by show up1 _ _ _ _ = _; simp [up1]
  rw [e1, e2]
theorem r_new_boolean {n : Int32} {N : Nat} (hd : decode (mB M) pc = .ok (.newarray .boolean, 2)) (hw : Cond.arrayClass .boolean ∈ BIG) (hn : ¬ n < 0) (hN : n.toNatClampNeg = N) (hN2 : N * 8 ≤ 536870912) (h1 : zX S + 1 ≤ gN G) (h2 : zU S + N ≤ gM G) (kk : Wx M G (nA S 106 N) (pc + 2) lv (.ref (zX S) :: st) Q) : Wx M G S pc lv (.int n :: st) Q := by
  intro p e R s m args below meth c C0 H locs cells slots ls hW hc hs hl hlv
  obtain ⟨hx, hb, hml, hr, hown, hts, hlk, hin0, hK, hbase, hfr, hlo, htb⟩ := id C0
  subst hN
  obtain ⟨b1, b2, -, -⟩ := id hbase
  refine W.newa (atype := .boolean) hx hb (hts _ hw) rfl hd rfl hn (by show _ * componentBytes .boolean ≤ _; simp only [componentBytes]; omega) (by omega) (by omega) fun cA kA comp g1 g2 g3 => ?_
  have hcA : cA = gC G 106 := Option.some.inj (g1.symm.trans (hK.1.2 5 _ rfl).2)
  subst hcA
  have hz : H.size = zX S := hW.2.1
  rw [hz]
  refine kk p e R s m args below meth c C0 _ locs (cells + 1) (slots + n.toNatClampNeg) ls ?_ (by show _ = zX S + 1; omega) (by show _ = zU S + _; omega) hl hlv
  refine new_row (v := defaultValue .boolean) (zE_c := (n.toNatClampNeg, (.inl (fun _ => 0)))) hW (by rw [← arrV_new]; rfl) h1 h2 ?_ rfl
  rw [zE_bool zT_nA]
  have e1 : zN (nA S 106 n.toNatClampNeg) (zX S) = n.toNatClampNeg := by show up1 _ _ _ _ = _; simp [up1]
  have e2 : zA (nA S 106 n.toNatClampNeg) (zX S) = fun _ => 0 := by show up1 _ _ _ _ = _; simp [up1]
  rw [e1, e2]
theorem r_anew111 {idx : Nat} {n : Int32} {N : Nat} (hd : decode (mB M) pc = .ok (.anewarray idx, 3)) (hw : Cond.classLink (mY M).cls idx "LotInspector$Drawer" ∈ BIG) (hn : ¬ n < 0) (hN : n.toNatClampNeg = N) (hN2 : N * 8 ≤ 536870912) (h1 : zX S + 1 ≤ gN G) (h2 : zU S + N ≤ gM G) (kk : Wx M G (nA S 111 N) (pc + 3) lv (.ref (zX S) :: st) Q) : Wx M G S pc lv (.int n :: st) Q := by
  intro p e R s m args below meth c C0 H locs cells slots ls hW hc hs hl hlv
  obtain ⟨hx, hb, hml, hr, hown, hts, hlk, hin0, hK, hbase, hfr, hlo, htb⟩ := id C0
  subst hN
  obtain ⟨b1, b2, -, -⟩ := id hbase
  refine W.anew hx hb hown (hts _ hw) (va_AO.use (hK.2.1.1.2.2 _ (by decide))) rfl hd rfl hn (by omega) (by omega) (by omega) fun cA kA comp g1 g2 g3 g4 => ?_
  have hcA : cA = gC G 111 := by
    obtain ⟨_, _, _, _, _, g9⟩ := (hK.1.2 6 _ rfl).2
    exact Option.some.inj (g1.symm.trans g9)
  subst hcA
  have hz : H.size = zX S := hW.2.1
  rw [hz]
  refine kk p e R s m args below meth c C0 _ locs (cells + 1) (slots + n.toNatClampNeg) ls ?_ (by show _ = zX S + 1; omega) (by show _ = zU S + _; omega) hl hlv
  refine new_row (v := .null) (zE_c := (n.toNatClampNeg, (.inr (.inr (.inr (.inr (fun _ => none))))))) hW (by rw [← arrV_new]) h1 h2 ?_ rfl
  rw [zE_ref zT_nA (by decide)]
  have e1 : zN (nA S 111 n.toNatClampNeg) (zX S) = n.toNatClampNeg := by show up1 _ _ _ _ = _; simp [up1]
  have e2 : zQ (nA S 111 n.toNatClampNeg) (zX S) = fun _ => none := by show up1 _ _ _ _ = _; simp [up1]
  rw [e1, e2]
theorem r_anew112 {idx : Nat} {n : Int32} {N : Nat} (hd : decode (mB M) pc = .ok (.anewarray idx, 3)) (hw : Cond.classLink (mY M).cls idx "LotInspector$Lot" ∈ BIG) (hn : ¬ n < 0) (hN : n.toNatClampNeg = N) (hN2 : N * 8 ≤ 536870912) (h1 : zX S + 1 ≤ gN G) (h2 : zU S + N ≤ gM G) (kk : Wx M G (nA S 112 N) (pc + 3) lv (.ref (zX S) :: st) Q) : Wx M G S pc lv (.int n :: st) Q := by
  intro p e R s m args below meth c C0 H locs cells slots ls hW hc hs hl hlv
  obtain ⟨hx, hb, hml, hr, hown, hts, hlk, hin0, hK, hbase, hfr, hlo, htb⟩ := id C0
  subst hN
  obtain ⟨b1, b2, -, -⟩ := id hbase
  refine W.anew hx hb hown (hts _ hw) (va_AO.use (hK.2.1.1.2.2 _ (by decide))) rfl hd rfl hn (by omega) (by omega) (by omega) fun cA kA comp g1 g2 g3 g4 => ?_
  have hcA : cA = gC G 112 := by
    obtain ⟨_, _, _, _, _, g9⟩ := (hK.1.2 7 _ rfl).2
    exact Option.some.inj (g1.symm.trans g9)
  subst hcA
  have hz : H.size = zX S := hW.2.1
  rw [hz]
  refine kk p e R s m args below meth c C0 _ locs (cells + 1) (slots + n.toNatClampNeg) ls ?_ (by show _ = zX S + 1; omega) (by show _ = zU S + _; omega) hl hlv
  refine new_row (v := .null) (zE_c := (n.toNatClampNeg, (.inr (.inr (.inr (.inr (fun _ => none))))))) hW (by rw [← arrV_new]) h1 h2 ?_ rfl
  rw [zE_ref zT_nA (by decide)]
  have e1 : zN (nA S 112 n.toNatClampNeg) (zX S) = n.toNatClampNeg := by show up1 _ _ _ _ = _; simp [up1]
  have e2 : zQ (nA S 112 n.toNatClampNeg) (zX S) = fun _ => none := by show up1 _ _ _ _ = _; simp [up1]
  rw [e1, e2]
theorem r_anew113 {idx : Nat} {n : Int32} {N : Nat} (hd : decode (mB M) pc = .ok (.anewarray idx, 3)) (hw : Cond.classLink (mY M).cls idx "LotInspector$Machine" ∈ BIG) (hn : ¬ n < 0) (hN : n.toNatClampNeg = N) (hN2 : N * 8 ≤ 536870912) (h1 : zX S + 1 ≤ gN G) (h2 : zU S + N ≤ gM G) (kk : Wx M G (nA S 113 N) (pc + 3) lv (.ref (zX S) :: st) Q) : Wx M G S pc lv (.int n :: st) Q := by
  intro p e R s m args below meth c C0 H locs cells slots ls hW hc hs hl hlv
  obtain ⟨hx, hb, hml, hr, hown, hts, hlk, hin0, hK, hbase, hfr, hlo, htb⟩ := id C0
  subst hN
  obtain ⟨b1, b2, -, -⟩ := id hbase
  refine W.anew hx hb hown (hts _ hw) (va_AO.use (hK.2.1.1.2.2 _ (by decide))) rfl hd rfl hn (by omega) (by omega) (by omega) fun cA kA comp g1 g2 g3 g4 => ?_
  have hcA : cA = gC G 113 := by
    obtain ⟨_, _, _, _, _, g9⟩ := (hK.1.2 8 _ rfl).2
    exact Option.some.inj (g1.symm.trans g9)
  subst hcA
  have hz : H.size = zX S := hW.2.1
  rw [hz]
  refine kk p e R s m args below meth c C0 _ locs (cells + 1) (slots + n.toNatClampNeg) ls ?_ (by show _ = zX S + 1; omega) (by show _ = zU S + _; omega) hl hlv
  refine new_row (v := .null) (zE_c := (n.toNatClampNeg, (.inr (.inr (.inr (.inr (fun _ => none))))))) hW (by rw [← arrV_new]) h1 h2 ?_ rfl
  rw [zE_ref zT_nA (by decide)]
  have e1 : zN (nA S 113 n.toNatClampNeg) (zX S) = n.toNatClampNeg := by show up1 _ _ _ _ = _; simp [up1]
  have e2 : zQ (nA S 113 n.toNatClampNeg) (zX S) = fun _ => none := by show up1 _ _ _ _ = _; simp [up1]
  rw [e1, e2]
theorem r_anew114 {idx : Nat} {n : Int32} {N : Nat} (hd : decode (mB M) pc = .ok (.anewarray idx, 3)) (hw : Cond.classLink (mY M).cls idx "LotInspector$Office" ∈ BIG) (hn : ¬ n < 0) (hN : n.toNatClampNeg = N) (hN2 : N * 8 ≤ 536870912) (h1 : zX S + 1 ≤ gN G) (h2 : zU S + N ≤ gM G) (kk : Wx M G (nA S 114 N) (pc + 3) lv (.ref (zX S) :: st) Q) : Wx M G S pc lv (.int n :: st) Q := by
  intro p e R s m args below meth c C0 H locs cells slots ls hW hc hs hl hlv
  obtain ⟨hx, hb, hml, hr, hown, hts, hlk, hin0, hK, hbase, hfr, hlo, htb⟩ := id C0
  subst hN
  obtain ⟨b1, b2, -, -⟩ := id hbase
  refine W.anew hx hb hown (hts _ hw) (va_AO.use (hK.2.1.1.2.2 _ (by decide))) rfl hd rfl hn (by omega) (by omega) (by omega) fun cA kA comp g1 g2 g3 g4 => ?_
  have hcA : cA = gC G 114 := by
    obtain ⟨_, _, _, _, _, g9⟩ := (hK.1.2 9 _ rfl).2
    exact Option.some.inj (g1.symm.trans g9)
  subst hcA
  have hz : H.size = zX S := hW.2.1
  rw [hz]
  refine kk p e R s m args below meth c C0 _ locs (cells + 1) (slots + n.toNatClampNeg) ls ?_ (by show _ = zX S + 1; omega) (by show _ = zU S + _; omega) hl hlv
  refine new_row (v := .null) (zE_c := (n.toNatClampNeg, (.inr (.inr (.inr (.inr (fun _ => none))))))) hW (by rw [← arrV_new]) h1 h2 ?_ rfl
  rw [zE_ref zT_nA (by decide)]
  have e1 : zN (nA S 114 n.toNatClampNeg) (zX S) = n.toNatClampNeg := by show up1 _ _ _ _ = _; simp [up1]
  have e2 : zQ (nA S 114 n.toNatClampNeg) (zX S) = fun _ => none := by show up1 _ _ _ _ = _; simp [up1]
  rw [e1, e2]
theorem r_anew115 {idx : Nat} {n : Int32} {N : Nat} (hd : decode (mB M) pc = .ok (.anewarray idx, 3)) (hw : Cond.classLink (mY M).cls idx "LotInspector$Product" ∈ BIG) (hn : ¬ n < 0) (hN : n.toNatClampNeg = N) (hN2 : N * 8 ≤ 536870912) (h1 : zX S + 1 ≤ gN G) (h2 : zU S + N ≤ gM G) (kk : Wx M G (nA S 115 N) (pc + 3) lv (.ref (zX S) :: st) Q) : Wx M G S pc lv (.int n :: st) Q := by
  intro p e R s m args below meth c C0 H locs cells slots ls hW hc hs hl hlv
  obtain ⟨hx, hb, hml, hr, hown, hts, hlk, hin0, hK, hbase, hfr, hlo, htb⟩ := id C0
  subst hN
  obtain ⟨b1, b2, -, -⟩ := id hbase
  refine W.anew hx hb hown (hts _ hw) (va_AO.use (hK.2.1.1.2.2 _ (by decide))) rfl hd rfl hn (by omega) (by omega) (by omega) fun cA kA comp g1 g2 g3 g4 => ?_
  have hcA : cA = gC G 115 := by
    obtain ⟨_, _, _, _, _, g9⟩ := (hK.1.2 10 _ rfl).2
    exact Option.some.inj (g1.symm.trans g9)
  subst hcA
  have hz : H.size = zX S := hW.2.1
  rw [hz]
  refine kk p e R s m args below meth c C0 _ locs (cells + 1) (slots + n.toNatClampNeg) ls ?_ (by show _ = zX S + 1; omega) (by show _ = zU S + _; omega) hl hlv
  refine new_row (v := .null) (zE_c := (n.toNatClampNeg, (.inr (.inr (.inr (.inr (fun _ => none))))))) hW (by rw [← arrV_new]) h1 h2 ?_ rfl
  rw [zE_ref zT_nA (by decide)]
  have e1 : zN (nA S 115 n.toNatClampNeg) (zX S) = n.toNatClampNeg := by show up1 _ _ _ _ = _; simp [up1]
  have e2 : zQ (nA S 115 n.toNatClampNeg) (zX S) = fun _ => none := by show up1 _ _ _ _ = _; simp [up1]
  rw [e1, e2]
theorem r_aast {a b t ci : Nat} {i : Int32} {r : vw_C} (hd : decode (mB M) pc = .ok (.aastore, 1)) (ht : zT S a = t) (h1 : 111 ≤ t) (t0 : Nat) (hg : (gT G)[t0]? = some (gC G t, .object r.1)) (hbt : zT S b = ci + 1) (hc0 : vwCl[ci]? = some r) (h3 : ci < 100) (hi : vp_in i (zN S a)) (kk : Wx M G (uQ S a i.toNatClampNeg (some b)) (pc + 1) lv st Q) : Wx M G S pc lv (.ref b :: .int i :: .ref a :: st) Q := by
  intro p e R s m args below meth c C0 H locs cells slots ls hW hc hs hl hlv
  obtain ⟨hx, hb, hml, hr, hown, hts, hlk, hin0, hK, hbase, hfr, hlo, htb⟩ := id C0
  have hza : zT S a ≠ 0 := by omega
  have hP := one_P hW hza
  rw [zE_ref ht h1] at hP
  have hP2 := one_P hW (a := b) (by omega)
  rw [zE_obj hbt h3] at hP2
  have hlt : i.toNatClampNeg < zN S a := Nat.not_le.mp fun q => hi (Or.inr q)
  have h0 : ¬ i < 0 := fun q => hi (Or.inl q)
  obtain ⟨r', hr', cellV, g1, g2, g3, -⟩ := hP2 0 _ rfl
  have hcls := (hK.1.1 ci r hc0).2
  obtain ⟨kA, comp, k1, k2, k3, -⟩ := (hK.1.2 t0 _ hg).2
  have hcomp : comp = (gD G).1 ci := Option.some.inj (k3.symm.trans hcls.1)
  subst hcomp
  obtain ⟨kC, hkC, -⟩ := hcls.2
  refine W.aast hx hb (hP 0 _ rfl) (fun q h => by cases h) (fun h => by cases h) k1 k2 rfl hkC ⟨h0, by show _ < (arrV _ _ _).slots.size; rw [arrV_size]; exact hlt⟩ g1 (fun q h => by rw [g3] at h; cases h) (by rw [g2]; exact hkC) (by rw [g2]; exact va_assign hcls) rfl rfl hd fun H1 eq1 z oq => ?_
  refine kk p e R s m args below meth c C0 H1 _ cells slots ls ?_ hc hs (locs_one hl (hW.1 a hza).2) hlv
  refine hW.put (S' := uQ S a i.toNatClampNeg (some b)) hza rfl rfl rfl (fun b hb => zE_uQ hb) (hP 0 _ rfl) eq1 arrV_sz z oq ?_
  rw [zE_ref (show zT (uQ S a i.toNatClampNeg (some b)) a = t from ht) h1]
  show H1[a]? = some (vp_cell _ _)
  rw [eq1, vp_cell_q, vp_cell_q, arrV_store]
  congr 2
  funext q
  show updV _ _ _ q = va_rf (zQ (uQ S a i.toNatClampNeg (some b)) a q)
  rw [zQ_uQ]
  by_cases hq : q = i.toNatClampNeg
  · subst hq
    simp [updV, va_rf]
  · simp [updV, hq]
end MakeRules
