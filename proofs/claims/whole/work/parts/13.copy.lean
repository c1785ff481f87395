section CopyRules
variable {M M2 : MI} {G : GI} {S : Hp} {pc : Nat} {lv : List (Nat × Value)} {st : List Value} {Q : OV → Hp → Prop}
theorem zE_uR {a b : Nat} {f : Nat → Int32} (h : b ≠ a) : zE G (uR S a f) b = zE G S b := zE_eq rfl (fun _ => rfl) (fun _ => rfl) rfl (show up1 (zA S) a f b = zA S b by simp [up1, h]) rfl rfl rfl
theorem zE_il {a t : Nat} (h : zT S a = t) (ht : t = 101 ∨ t = 104 ∨ t = 105 ∨ t = 106) : zE G S a = .inl (gC G t, zN S a, .inl (zA S a)) := by
  rcases ht with e | e | e | e <;> subst e
  · exact zE_int h
  · exact zE_byte h
  · exact zE_char h
  · exact zE_bool h
def cpT : Nat → FieldType := fun t => if t = 101 then .int else if t = 104 then .byte else if t = 105 then .char else .boolean
theorem gT_il {t : Nat} (ht : t = 101 ∨ t = 104 ∨ t = 105 ∨ t = 106) : ∃ t0 : Nat, (gT G)[t0]? = some (gC G t, cpT t) := by
  rcases ht with e | e | e | e <;> subst e
  · exact ⟨0, rfl⟩
  · exact ⟨3, rfl⟩
  · exact ⟨4, rfl⟩
  · exact ⟨5, rfl⟩
/-- System.arraycopy between rows of one small type -/
theorem r_copy {idx a0 a t : Nat} {sp dp n : Int32} (hd : decode (mB M) pc = .ok (.invokestatic idx, 3)) (w1 : Cond.methodLink (mY M).cls idx arraycopyName ∈ BIG) (w2 : Cond.native arraycopyName ∈ BIG) (w3 : Cond.static arraycopyName ∈ BIG) (w4 : Cond.initialized "java/lang/System" ∈ BIG)
    (htt : t = 101 ∨ t = 104 ∨ t = 105 ∨ t = 106) (ht0 : zT S a0 = t) (ht1 : zT S a = t) (h1 : ¬ sp < 0) (h2 : ¬ dp < 0) (h3 : ¬ n < 0) (h4 : sp.toNatClampNeg + n.toNatClampNeg ≤ zN S a0) (h5 : dp.toNatClampNeg + n.toNatClampNeg ≤ zN S a) (hfit : ∀ i, i < n.toNatClampNeg → fits (cpT t) (.int (zA S a0 (sp.toNatClampNeg + i))) = true)
    (hcat : (st.map fun v => v.category).sum ≤ 8) (hdp : 2 ≤ mD M) (kk : Wx M G (uR S a (va_cpy (zA S a0) (zA S a) sp.toNatClampNeg dp.toNatClampNeg n.toNatClampNeg)) (pc + 3) lv st Q) : Wx M G S pc lv (.int n :: .int dp :: .ref a :: .int sp :: .ref a0 :: st) Q := by
  intro p e R s m args below meth c C0 H locs cells slots ls hW hc hs hl hlv
  obtain ⟨hx, hb, hml, hr, hown, hts, hlk, hin0, hK, hbase, hfr, hlo, htb⟩ := id C0
  have hza : zT S a ≠ 0 := by omega
  have hP0 := one_P hW (a := a0) (by omega)
  rw [zE_il ht0 htt] at hP0
  have hP1 := one_P hW hza
  rw [zE_il ht1 htt] at hP1
  obtain ⟨t0, hg⟩ := gT_il (G := G) htt
  have nn : ∀ z : Int32, ¬ z < 0 → z.toInt = (z.toNatClampNeg : Int) := by
    intro z hz
    have hz0 : (0 : Int) ≤ z.toInt := by
      have := Int32.not_lt.mp hz
      simpa using Int32.le_iff_toInt_le.mp this
    show z.toInt = ((z.toInt.toNat : Nat) : Int)
    omega
  intro T hT X
  have hc0 : H[a0]? = some (vp_cell (gC G t) (zN S a0, .inl (zA S a0))) := hP0 0 _ rfl
  have hc1 : H[a]? = some (vp_cell (gC G t) (zN S a, .inl (zA S a))) := hP1 0 _ rfl
  obtain ⟨-, k0, hk0, cm0, hkk0⟩ := (hK.1.2 t0 _ hg).1 (zN S a0) (fun j => .int (zA S a0 j))
  obtain ⟨vm', X', step⟩ := X.arraycopy hx hown (hts _ w1) (hts _ w2) (hts _ w3) (hts _ w4) (src := a0) (dst := a) (cs := vp_cell (gC G t) (zN S a0, .inl (zA S a0))) (cd := vp_cell (gC G t) (zN S a, .inl (zA S a))) (srcPos := sp) (destPos := dp) (n := n) (by rw [hT]; exact hc0) (by rw [hT]; exact hc1)
    (fun _ h => by cases h) (fun _ h => by cases h) (fun h => by cases h) (fun h => by cases h) hk0 hk0 hkk0 hkk0 (by have : refKind (cpT t) = false := (by rcases htt with e | e | e | e <;> subst e <;> rfl); simp [this]) h1 h2 h3
    (by rw [nn sp h1, nn n h3]; show ¬ _ > ((arrV (gC G t) (zN S a0) (fun j => .int (zA S a0 j))).slots.size : Int); rw [arrV_size]; omega)
    (by rw [nn dp h2, nn n h3]; show ¬ _ > ((arrV (gC G t) (zN S a) (fun j => .int (zA S a j))).slots.size : Int); rw [arrV_size]; omega)
    (fun vm₁ _ i hi => by
      have e : (vp_cell (gC G t) (zN S a0, .inl (zA S a0))).slots.getD (sp.toNatClampNeg + i) .null = .int (zA S a0 (sp.toNatClampNeg + i)) := by
        show (arrV (gC G t) (zN S a0) (fun j => .int (zA S a0 j))).slots.getD _ _ = _
        rw [Array.getD_eq_getD_getElem?, arrV_read _ _ (by omega)]
        rfl
      refine ⟨?_, ?_⟩
      · rw [e]
        exact hfit i hi
      · rw [e]
        exact trivial)
    (g := F0 m pc ls (.int n :: .int dp :: .ref a :: .int sp :: .ref a0 :: st)) rfl (hlv.1.trans hml.symm) (rest := st) rfl (by rw [hb]; exact hd) (by omega) (by
      have hq : nativeFrameWords "java/lang/System" "arraycopy" 5 ≤ 40 := by decide
      show 2 * 0 + _ + _ ≤ _
      omega)
  have e1 : copied (vp_cell (gC G t) (zN S a0, .inl (zA S a0))) (vp_cell (gC G t) (zN S a, .inl (zA S a))) sp dp n = vp_cell (gC G t) (zN S a, .inl (va_cpy (zA S a0) (zA S a) sp.toNatClampNeg dp.toNatClampNeg n.toNatClampNeg)) := va_copied (fun z => .int z) (gC G t) (gC G t) (zA S a0) (zA S a) h4
  rw [e1] at X' step
  have hl1 : a < H.size := (Array.getElem?_eq_some_iff.mp hc1).1
  have hh : ((T.setVm vm').setCell a (vp_cell (gC G t) (zN S a, .inl (va_cpy (zA S a0) (zA S a) sp.toNatClampNeg dp.toNatClampNeg n.toNatClampNeg)))).heap = H.setIfInBounds a (vp_cell (gC G t) (zN S a, .inl (va_cpy (zA S a0) (zA S a) sp.toNatClampNeg dp.toNatClampNeg n.toNatClampNeg))) := by rw [← hT]; rfl
  refine ?_
  have hW' : WD G (uR S a (va_cpy (zA S a0) (zA S a) sp.toNatClampNeg dp.toNatClampNeg n.toNatClampNeg)) (H.setIfInBounds a (vp_cell (gC G t) (zN S a, .inl (va_cpy (zA S a0) (zA S a) sp.toNatClampNeg dp.toNatClampNeg n.toNatClampNeg)))) := by
    refine hW.put (c' := vp_cell (gC G t) (zN S a, .inl (va_cpy (zA S a0) (zA S a) sp.toNatClampNeg dp.toNatClampNeg n.toNatClampNeg))) (S' := uR S a (va_cpy (zA S a0) (zA S a) sp.toNatClampNeg dp.toNatClampNeg n.toNatClampNeg)) (a := a) hza rfl rfl rfl (fun b hb => zE_uR hb) hc1 (by simp [Array.getElem?_setIfInBounds, hl1]) ?_ (by simp) (fun q hq => by simp [Array.getElem?_setIfInBounds, Ne.symm hq]) ?_
    · show (arrV _ _ _).slots.size = (arrV _ _ _).slots.size
      rw [arrV_size, arrV_size]
    · rw [zE_il (show zT (uR S a _) a = t from ht1) htt]
      have e2 : zA (uR S a (va_cpy (zA S a0) (zA S a) sp.toNatClampNeg dp.toNatClampNeg n.toNatClampNeg)) a = va_cpy (zA S a0) (zA S a) sp.toNatClampNeg dp.toNatClampNeg n.toNatClampNeg := by show up1 _ _ _ _ = _; simp [up1]
      rw [e2]
      show (H.setIfInBounds a _)[a]? = some _
      simp [Array.getElem?_setIfInBounds, hl1]
      rfl
  obtain ⟨t9, a1, b1⟩ := kk p e R s m args below meth c C0 _ _ cells slots ls hW' hc hs (fun q hq => by
      rcases List.mem_append.mp hq with h | h
      · exact hl q h
      · obtain ⟨z, -, hz⟩ := List.mem_map.mp h
        rw [← hz]
        exact (hW.1 a hza).2) hlv _ hh X'
  exact ⟨t9, step t9 a1, b1⟩
end CopyRules
