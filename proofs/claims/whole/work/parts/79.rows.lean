/-! WHOLE ROWS ANEW -/
theorem zA_rs {S : Hp} {a : Nat} {F : Nat → Int32} : zA (uR S a F) a = F := if_pos rfl
theorem zA_rn {S : Hp} {a b : Nat} {F : Nat → Int32} (h : b ≠ a) : zA (uR S a F) b = zA S b := if_neg h
theorem same_uR {S : Hp} {a b : Nat} {F : Nat → Int32} (h : b ≠ a) : Same S (uR S a F) b := ⟨fun _ => rfl, fun _ => rfl, zA_rn h, rfl, rfl, rfl⟩
theorem CN.WB {S : Hp} {w : Nat → Nat} {k o : Nat} {A c : Nat → Nat} {c' : Nat → Nat} (hX : LoX S w k o A) (hm : ∀ j, j < 16 → w (o + j) = 32 * k) (h : CN S o A c) {F : Nat → Int32} (hF : ∀ j, j < 28 → F j = nI (c' (62 + j))) (hc : ∀ z, (∀ j, j < 28 → z ≠ 62 + j) → c' z = c z) : CN (uR S (o + 4) F) o A c' := by
  obtain ⟨c1, c2, c3, c4, c5, c6, c7, c8⟩ := h
  refine ⟨?_, fun i2 hi2 f2 hf2 => ?_, fun i2 hi2 f2 hf2 => ?_, fun j2 hj2 => ?_, fun j2 hj2 => ?_, fun i2 hi2 hA2 f2 hf2 => ?_, fun i2 hi2 hA2 j2 hj2 => ?_, fun i2 hi2 hA2 u2 hu2 f2 hf2 => ?_⟩
  · rw [hc 0 (fun j hj => by omega), hc 1 (fun j hj => by omega), hc 2 (fun j hj => by omega), hc 3 (fun j hj => by omega)]; exact c1
  · rw [hc _ (fun j hj => by omega)]; exact c2 i2 hi2 f2 hf2
  · have := pf_lt hf2
    rw [hc _ (fun j hj => by omega)]; exact c3 i2 hi2 f2 hf2
  · rw [zA_rs]; exact hF j2 hj2
  · rw [zA_rn (by omega), hc _ (fun j hj => by omega)]; exact c5 j2 hj2
  · have := lf_lt hf2
    rw [hc _ (fun j hj => by omega)]; exact c6 i2 hi2 hA2 f2 hf2
  · rw [zA_rn (by have := hX.neo hm hi2 hA2 (j := 1) (j2 := 4) (by omega) (by decide); omega), hc _ (fun j hj => by omega)]; exact c7 i2 hi2 hA2 j2 hj2
  · rw [zA_rn (by have := hX.neo hm hi2 hA2 (j := 2 + f2) (j2 := 4) (by omega) (by decide); omega), hc _ (fun j hj => by omega)]; exact c8 i2 hi2 hA2 u2 hu2 f2 hf2
theorem OX.WB {S0 S : Hp} {w0 w : Nat → Nat} {k o : Nat} {A0 A c c' : Nat → Nat} (h : OX S0 w0 A0 S w k o A c) {F : Nat → Int32} (hF : ∀ j, j < 28 → F j = nI (c' (62 + j))) (hc : ∀ z, (∀ j, j < 28 → z ≠ 62 + j) → c' z = c z) : OX S0 w0 A0 (uR S (o + 4) F) w k o A c' :=
  h.mk rfl rfl rfl rfl rfl rfl (fun _ hb => same_uR hb) (by rw [h.1.2.1 4 (by decide)]; omega) (CN.WB h.1.2.2.1 h.1.2.1 h.1.2.2.2.1 hF hc)
theorem CN.WD {S : Hp} {w : Nat → Nat} {k o : Nat} {A c : Nat → Nat} {c' : Nat → Nat} (hX : LoX S w k o A) (hm : ∀ j, j < 16 → w (o + j) = 32 * k) (h : CN S o A c) {F : Nat → Int32} (hF : ∀ j, j < 200 → F j = nI (c' (60000 + j))) (hc : ∀ z, (∀ j, j < 200 → z ≠ 60000 + j) → c' z = c z) : CN (uR S (o + 5) F) o A c' := by
  obtain ⟨c1, c2, c3, c4, c5, c6, c7, c8⟩ := h
  refine ⟨?_, fun i2 hi2 f2 hf2 => ?_, fun i2 hi2 f2 hf2 => ?_, fun j2 hj2 => ?_, fun j2 hj2 => ?_, fun i2 hi2 hA2 f2 hf2 => ?_, fun i2 hi2 hA2 j2 hj2 => ?_, fun i2 hi2 hA2 u2 hu2 f2 hf2 => ?_⟩
  · rw [hc 0 (fun j hj => by omega), hc 1 (fun j hj => by omega), hc 2 (fun j hj => by omega), hc 3 (fun j hj => by omega)]; exact c1
  · rw [hc _ (fun j hj => by omega)]; exact c2 i2 hi2 f2 hf2
  · have := pf_lt hf2
    rw [hc _ (fun j hj => by omega)]; exact c3 i2 hi2 f2 hf2
  · rw [zA_rn (by omega), hc _ (fun j hj => by omega)]; exact c4 j2 hj2
  · rw [zA_rs]; exact hF j2 hj2
  · have := lf_lt hf2
    rw [hc _ (fun j hj => by omega)]; exact c6 i2 hi2 hA2 f2 hf2
  · rw [zA_rn (by have := hX.neo hm hi2 hA2 (j := 1) (j2 := 5) (by omega) (by decide); omega), hc _ (fun j hj => by omega)]; exact c7 i2 hi2 hA2 j2 hj2
  · rw [zA_rn (by have := hX.neo hm hi2 hA2 (j := 2 + f2) (j2 := 5) (by omega) (by decide); omega), hc _ (fun j hj => by omega)]; exact c8 i2 hi2 hA2 u2 hu2 f2 hf2
theorem OX.WD {S0 S : Hp} {w0 w : Nat → Nat} {k o : Nat} {A0 A c c' : Nat → Nat} (h : OX S0 w0 A0 S w k o A c) {F : Nat → Int32} (hF : ∀ j, j < 200 → F j = nI (c' (60000 + j))) (hc : ∀ z, (∀ j, j < 200 → z ≠ 60000 + j) → c' z = c z) : OX S0 w0 A0 (uR S (o + 5) F) w k o A c' :=
  h.mk rfl rfl rfl rfl rfl rfl (fun _ hb => same_uR hb) (by rw [h.1.2.1 5 (by decide)]; omega) (CN.WD h.1.2.2.1 h.1.2.1 h.1.2.2.2.1 hF hc)
theorem CN.WR {S : Hp} {w : Nat → Nat} {k o : Nat} {A c : Nat → Nat} {c' : Nat → Nat} (hX : LoX S w k o A) (hm : ∀ j, j < 16 → w (o + j) = 32 * k) (h : CN S o A c) {i : Nat} (hi : i < 24) (hA : A i ≠ 0) {F : Nat → Int32} (hF : ∀ j, j < 3 → F j = nI (c' (90 + 13 * i + (10 + j)))) (hc : ∀ z, (∀ j, j < 3 → z ≠ 90 + 13 * i + (10 + j)) → c' z = c z) : CN (uR S (A i + 1) F) o A c' := by
  obtain ⟨c1, c2, c3, c4, c5, c6, c7, c8⟩ := h
  refine ⟨?_, fun i2 hi2 f2 hf2 => ?_, fun i2 hi2 f2 hf2 => ?_, fun j2 hj2 => ?_, fun j2 hj2 => ?_, fun i2 hi2 hA2 f2 hf2 => ?_, fun i2 hi2 hA2 j2 hj2 => ?_, fun i2 hi2 hA2 u2 hu2 f2 hf2 => ?_⟩
  · rw [hc 0 (fun j hj => by omega), hc 1 (fun j hj => by omega), hc 2 (fun j hj => by omega), hc 3 (fun j hj => by omega)]; exact c1
  · rw [hc _ (fun j hj => by omega)]; exact c2 i2 hi2 f2 hf2
  · have := pf_lt hf2
    rw [hc _ (fun j hj => by omega)]; exact c3 i2 hi2 f2 hf2
  · rw [zA_rn (by have := hX.neo hm hi hA (j := 1) (j2 := 4) (by omega) (by decide); omega), hc _ (fun j hj => by omega)]; exact c4 j2 hj2
  · rw [zA_rn (by have := hX.neo hm hi hA (j := 1) (j2 := 5) (by omega) (by decide); omega), hc _ (fun j hj => by omega)]; exact c5 j2 hj2
  · have := lf_lt hf2
    rw [hc _ (fun j hj => by omega)]; exact c6 i2 hi2 hA2 f2 hf2
  · by_cases e : i2 = i
    · obtain rfl := e; rw [zA_rs]; exact hF j2 hj2
    · rw [zA_rn (hX.ne hi2 hi hA2 hA (j := 1) (j2 := 1) (Or.inl e) (by decide) (by decide)), hc _ (fun j hj => by omega)]; exact c7 i2 hi2 hA2 j2 hj2
  · rw [zA_rn (by have := hX.ne hi2 hi hA2 hA (j := 2 + f2) (j2 := 1) (by omega) (by omega) (by omega); omega), hc _ (fun j hj => by omega)]; exact c8 i2 hi2 hA2 u2 hu2 f2 hf2
theorem OX.WR {S0 S : Hp} {w0 w : Nat → Nat} {k o : Nat} {A0 A c c' : Nat → Nat} (h : OX S0 w0 A0 S w k o A c) {i : Nat} (hi : i < 24) (hA : A i ≠ 0) {F : Nat → Int32} (hF : ∀ j, j < 3 → F j = nI (c' (90 + 13 * i + (10 + j)))) (hc : ∀ z, (∀ j, j < 3 → z ≠ 90 + 13 * i + (10 + j)) → c' z = c z) : OX S0 w0 A0 (uR S (A i + 1) F) w k o A c' :=
  h.mk rfl rfl rfl rfl rfl rfl (fun _ hb => same_uR hb) (h.1.2.2.1.w hi hA (j := 1) (by decide)) (CN.WR h.1.2.2.1 h.1.2.1 h.1.2.2.2.1 hi hA hF hc)
theorem CN.WU {S : Hp} {w : Nat → Nat} {k o : Nat} {A c : Nat → Nat} {c' : Nat → Nat} (hX : LoX S w k o A) (hm : ∀ j, j < 16 → w (o + j) = 32 * k) (h : CN S o A c) {i f : Nat} (hi : i < 24) (hA : A i ≠ 0) (hf : f < 6) {F : Nat → Int32} (hF : ∀ j, j < 200 → F j = nI (c' (402 + 8 * (200 * i + j) + f))) (hc : ∀ z, (∀ j, j < 200 → z ≠ 402 + 8 * (200 * i + j) + f) → c' z = c z) : CN (uR S (A i + 2 + f) F) o A c' := by
  obtain ⟨c1, c2, c3, c4, c5, c6, c7, c8⟩ := h
  refine ⟨?_, fun i2 hi2 f2 hf2 => ?_, fun i2 hi2 f2 hf2 => ?_, fun j2 hj2 => ?_, fun j2 hj2 => ?_, fun i2 hi2 hA2 f2 hf2 => ?_, fun i2 hi2 hA2 j2 hj2 => ?_, fun i2 hi2 hA2 u2 hu2 f2 hf2 => ?_⟩
  · rw [hc 0 (fun j hj => by omega), hc 1 (fun j hj => by omega), hc 2 (fun j hj => by omega), hc 3 (fun j hj => by omega)]; exact c1
  · rw [hc _ (fun j hj => by omega)]; exact c2 i2 hi2 f2 hf2
  · have := pf_lt hf2
    rw [hc _ (fun j hj => by omega)]; exact c3 i2 hi2 f2 hf2
  · rw [zA_rn (by have := hX.neo hm hi hA (j := 2 + f) (j2 := 4) (by omega) (by decide); omega), hc _ (fun j hj => by omega)]; exact c4 j2 hj2
  · rw [zA_rn (by have := hX.neo hm hi hA (j := 2 + f) (j2 := 5) (by omega) (by decide); omega), hc _ (fun j hj => by omega)]; exact c5 j2 hj2
  · have := lf_lt hf2
    rw [hc _ (fun j hj => by omega)]; exact c6 i2 hi2 hA2 f2 hf2
  · rw [zA_rn (by have := hX.ne hi2 hi hA2 hA (j := 1) (j2 := 2 + f) (by omega) (by omega) (by omega); omega), hc _ (fun j hj => by omega)]; exact c7 i2 hi2 hA2 j2 hj2
  · by_cases e : i2 = i ∧ f2 = f
    · obtain ⟨rfl, rfl⟩ := e; rw [zA_rs]; exact hF u2 hu2
    · rw [zA_rn ((by have := hX.ne hi2 hi hA2 hA (j := 2 + f2) (j2 := 2 + f) (by omega) (by omega) (by omega); omega)), hc _ (fun j hj => by omega)]; exact c8 i2 hi2 hA2 u2 hu2 f2 hf2
theorem OX.WU {S0 S : Hp} {w0 w : Nat → Nat} {k o : Nat} {A0 A c c' : Nat → Nat} (h : OX S0 w0 A0 S w k o A c) {i f : Nat} (hi : i < 24) (hA : A i ≠ 0) (hf : f < 6) {F : Nat → Int32} (hF : ∀ j, j < 200 → F j = nI (c' (402 + 8 * (200 * i + j) + f))) (hc : ∀ z, (∀ j, j < 200 → z ≠ 402 + 8 * (200 * i + j) + f) → c' z = c z) : OX S0 w0 A0 (uR S (A i + 2 + f) F) w k o A c' :=
  h.mk rfl rfl rfl rfl rfl rfl (fun _ hb => same_uR hb) (by rw [Nat.add_assoc]; exact h.1.2.2.1.w hi hA (j := 2 + f) (by omega)) (CN.WU h.1.2.2.1 h.1.2.1 h.1.2.2.2.1 hi hA hf hF hc)
/-- an office's method of whose numbers then P is known -/
def OEx (M : MI) (G : GI) (av : List Value) (S : Hp) (w : Nat → Nat) (k o : Nat) (A : Nat → Nat) (v : Option Value) (P : (Nat → Nat) → Prop) : Prop := Cn M G av S (fun r T => r = .inl v ∧ ∃ c', OX S w A T w k o A c' ∧ P c')
section OeRules
variable {M M2 : MI} {G : GI} {S S0 : Hp} {w w0 : Nat → Nat} {k o : Nat} {A A0 c : Nat → Nat} {pc : Nat} {lv : List (Nat × Value)} {st : List Value} {Q : OV → Hp → Prop}
theorem r_oexV {idx n b ci : Nat} {r : vw_C} {As rest : List Value} {v : Option Value} {P : (Nat → Nat) → Prop} {st' : List Value} (hd : decode (mB M) pc = .ok (.invokevirtual idx, 3)) (hcs : cV M M2 idx n) (hh : mH M2 = []) (hn : As.length = n) (hst : st = As.reverse ++ .ref b :: rest) (hcat : (rest.map fun v => v.category).sum ≤ 8)
    (hbt : zT S b = ci + 1) (hc0 : vwCl[ci]? = some r) (hr1 : r.1 = (mY M2).cls) (h3 : ci < 100) (hx : OX S0 w0 A0 S w k o A c) (hf : OEx M2 G (.ref b :: As) S w k o A v P) (hs : v.toList ++ rest = st') (kk : ∀ T c', OX S0 w0 A0 T w k o A c' → P c' → Wx M G T (pc + 3) lv st' Q) : Wx M G S pc lv st Q :=
  r_callV hd hcs hh hn hst hcat hbt hc0 hr1 h3 hf (fun v2 T h => by obtain ⟨h1, c', h2, h3⟩ := h; cases h1; rw [hs]; exact kk T c' (hx.trans h2) h3) (fun E T h => by obtain ⟨h1, -⟩ := h; cases h1)
end OeRules
theorem Rel.dr {c c' g : Nat → Nat} {N : Nat} (hc : ∀ i, i < 60000 → c' i = c i) (h : Rel c g N) : Rel c' g N :=
  Rel.head (Nat.le_refl N) (fun i _ h2 => hc i h2) (fun _ _ => rfl) rfl ⟨fun i hi => by rw [hc i (by omega)]; exact h.1.2.1 i hi, h.g3, h.g1, h.g2⟩ (fun i hi => ⟨fun f hf => by rw [hc _ (by omega)]; exact (h.2.1 i hi).1 f hf, h.mb hi⟩) (fun p hp => HdP.congr hp (Nat.le_refl N) (fun i h1 h2 => hc i (by omega)) (fun _ _ _ => rfl) (h.p hp)) (fun j hj => ⟨by rw [hc _ (by omega)]; exact h.b hj, h.bb hj⟩) (fun _ _ => Nat.le_refl _) h
/-! THE SEED -/
theorem bmod_id {x : Int} {m : Nat} (h1 : 0 ≤ x) (h2 : 2 * x < m) : x.bmod m = x := by
  have e : x % (m : Int) = x := Int.emod_eq_of_lt h1 (by omega)
  unfold Int.bmod
  rw [e]
  simp only []
  rw [if_pos (by omega)]
theorem seed_n {n : Nat} (h : n < 2147483648) : ((nI n).toInt64 * 1103515245 + 12345 - ((nI n).toInt64 * 1103515245 + 12345) / 2147483648 * 2147483648).toInt32 = nI (sdN n) := by
  have e0 : (nI n).toInt64.toInt = (n : Int) := by
    rw [Int32.toInt_toInt64]
    exact Int32.toInt_ofNat_of_lt h
  have c1 : (1103515245 : Int64).toInt = 1103515245 := by decide
  have c2 : (12345 : Int64).toInt = 12345 := by decide
  have c3 : (2147483648 : Int64).toInt = 2147483648 := by decide
  have e1 : ((nI n).toInt64 * 1103515245).toInt = (n : Int) * 1103515245 := by
    rw [Int64.toInt_mul, e0, c1, bmod_id (by omega) (by omega)]
  have e2 : ((nI n).toInt64 * 1103515245 + 12345).toInt = (n : Int) * 1103515245 + 12345 := by
    rw [Int64.toInt_add, e1, c2, bmod_id (by omega) (by omega)]
  have e3 : (((nI n).toInt64 * 1103515245 + 12345) / 2147483648).toInt = ((n : Int) * 1103515245 + 12345) / 2147483648 := by
    rw [Int64.toInt_div, e2, c3, Int.tdiv_eq_ediv_of_nonneg (by omega), bmod_id (by omega) (by omega)]
  have e4 : (((nI n).toInt64 * 1103515245 + 12345) / 2147483648 * 2147483648).toInt = ((n : Int) * 1103515245 + 12345) / 2147483648 * 2147483648 := by
    rw [Int64.toInt_mul, e3, c3, bmod_id (by omega) (by omega)]
  refine Int32.toInt_inj.mp ?_
  rw [Int64.toInt_toInt32, Int64.toInt_sub, e2, e4, bmod_id (m := 2 ^ 64) (by omega) (by omega), bmod_id (by omega) (by omega)]
  have e5 : (nI (sdN n)).toInt = (sdN n : Int) := Int32.toInt_ofNat_of_lt (by unfold sdN; omega)
  rw [e5]
  unfold sdN
  omega
