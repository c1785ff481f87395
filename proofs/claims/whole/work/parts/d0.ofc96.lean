/-! THE START: constants of the classes, classes and array classes, out of what the Statement gives -/
theorem st1 {w : Cond} (i : Nat) (e : tables_1_1[i]? = some w) : w ∈ lw_tbl := List.mem_append_right _ (show w ∈ tables_1 from (fun h => List.mem_append_left _ h) (List.mem_of_getElem? e))
theorem st2 {w : Cond} (i : Nat) (e : tables_1_2[i]? = some w) : w ∈ lw_tbl := List.mem_append_right _ (show w ∈ tables_1 from (fun h => List.mem_append_right _ (List.mem_append_left _ h)) (List.mem_of_getElem? e))
theorem st3 {w : Cond} (i : Nat) (e : tables_1_3[i]? = some w) : w ∈ lw_tbl := List.mem_append_right _ (show w ∈ tables_1 from (fun h => List.mem_append_right _ (List.mem_append_right _ (List.mem_append_left _ h))) (List.mem_of_getElem? e))
theorem st4 {w : Cond} (i : Nat) (e : tables_1_4[i]? = some w) : w ∈ lw_tbl := List.mem_append_right _ (show w ∈ tables_1 from (fun h => List.mem_append_right _ (List.mem_append_right _ (List.mem_append_right _ (List.mem_append_left _ h)))) (List.mem_of_getElem? e))
theorem st5 {w : Cond} (i : Nat) (e : tables_1_5[i]? = some w) : w ∈ lw_tbl := List.mem_append_right _ (show w ∈ tables_1 from (fun h => List.mem_append_right _ (List.mem_append_right _ (List.mem_append_right _ (List.mem_append_right _ (List.mem_append_left _ h))))) (List.mem_of_getElem? e))
theorem st6 {w : Cond} (i : Nat) (e : tables_1_6[i]? = some w) : w ∈ lw_tbl := List.mem_append_right _ (show w ∈ tables_1 from (fun h => List.mem_append_right _ (List.mem_append_right _ (List.mem_append_right _ (List.mem_append_right _ (List.mem_append_right _ (List.mem_append_left _ h)))))) (List.mem_of_getElem? e))
theorem st7 {w : Cond} (i : Nat) (e : tables_1_7[i]? = some w) : w ∈ lw_tbl := List.mem_append_right _ (show w ∈ tables_1 from (fun h => List.mem_append_right _ (List.mem_append_right _ (List.mem_append_right _ (List.mem_append_right _ (List.mem_append_right _ (List.mem_append_right _ (List.mem_append_left _ h))))))) (List.mem_of_getElem? e))
theorem st8 {w : Cond} (i : Nat) (e : tables_1_8[i]? = some w) : w ∈ lw_tbl := List.mem_append_right _ (show w ∈ tables_1 from (fun h => List.mem_append_right _ (List.mem_append_right _ (List.mem_append_right _ (List.mem_append_right _ (List.mem_append_right _ (List.mem_append_right _ (List.mem_append_right _ (List.mem_append_left _ h)))))))) (List.mem_of_getElem? e))
theorem st9 {w : Cond} (i : Nat) (e : tables_1_9[i]? = some w) : w ∈ lw_tbl := List.mem_append_right _ (show w ∈ tables_1 from (fun h => List.mem_append_right _ (List.mem_append_right _ (List.mem_append_right _ (List.mem_append_right _ (List.mem_append_right _ (List.mem_append_right _ (List.mem_append_right _ (List.mem_append_right _ (List.mem_append_left _ h))))))))) (List.mem_of_getElem? e))
theorem st10 {w : Cond} (i : Nat) (e : tables_1_10[i]? = some w) : w ∈ lw_tbl := List.mem_append_right _ (show w ∈ tables_1 from (fun h => List.mem_append_right _ (List.mem_append_right _ (List.mem_append_right _ (List.mem_append_right _ (List.mem_append_right _ (List.mem_append_right _ (List.mem_append_right _ (List.mem_append_right _ (List.mem_append_right _ (h)))))))))) (List.mem_of_getElem? e))
/-- all that is given of the start, in a row -/
abbrev NLW : List Cond := flatC (Cond.and given_1 narrow_1)
section StartRules
variable {s : State} {args : Array Value} {A : Nat → Prop}
theorem ar_prim {ty : FieldType} (h : (Cond.arrayClass ty).before args s = true) (hr : ∀ c, s.vm.findClass ("[" ++ ty.toString) = some c → va_RA s c ty) : ∃ cA, ArrOfT s cA ty ∧ va_RA s cA ty := by
  obtain ⟨c, k, comp, h1, h2, h3⟩ := Cond.arrayClass_spec h
  exact ⟨c, fun n z => ⟨fun k h => (by cases h), k, h2, comp, h3⟩, hr c h1⟩
theorem ar_obj {N : String} (h : (Cond.arrayOver (.object N)).before args s = true) : ∃ cA, ArrOfT s cA (.object N) ∧ va_RA s cA (.object N) := by
  obtain ⟨comp, c, k, h1, -, h2, h3, h4⟩ := Cond.arrayOver_spec h
  exact ⟨c, fun n z => ⟨fun k h => (by cases h), k, h2, comp, h3⟩, k, comp, h2, h3, h1, h4⟩
theorem st_row {Cn n d : String} {ty : FieldType} {N : Nat} {f : Nat → Value} (hl : (Cond.laysStatic Cn n d).before args s = true) (hini : (Cond.initialized Cn).before args s = true) (hN : N < 2 ^ 31) (harr : (Cond.arrayOf (.static Cn n d) ty).before args s = true) (hlen : (Cond.eq (.length (.static Cn n d)) (.int (Int32.ofNat N))).before args s = true)
    (hel : ∀ j : Nat, j < N → (Term.elem (.static Cn n d) (.int (Int32.ofNat j))).eval args s none [] s = some (f j)) (hA : ∀ a : Nat, a < s.heap.size → ¬ A a) : ∃ t, va_Z Cn n d (.ref t) A s s.heap ∧ va_T ty t N f A s s.heap := by
  obtain ⟨t, h1, h2⟩ := va_Tof hN harr (va_eqt hlen) hel hA
  exact ⟨t, va_Zref hl hini h1 hA, h2⟩
theorem st_word {nm : String} {o f m : Int32} (h1 : (Cond.exactly (.static "LotInspector$Word" nm "LLotInspector$Word;") "LotInspector$Word").before args s = true) (h2 : (Cond.eq (.field (.static "LotInspector$Word" nm "LLotInspector$Word;") "java/lang/Enum" "ordinal" "I") (.int o)).before args s = true) (h3 : (Cond.eq (.field (.static "LotInspector$Word" nm "LLotInspector$Word;") "LotInspector$Word" "fewest" "I") (.int f)).before args s = true) (h4 : (Cond.eq (.field (.static "LotInspector$Word" nm "LLotInspector$Word;") "LotInspector$Word" "most" "I") (.int m)).before args s = true) (hA : ∀ a : Nat, a < s.heap.size → ¬ A a) :
    ∃ a : Nat, (Term.static "LotInspector$Word" nm "LLotInspector$Word;").eval args s none [] s = some (.ref a) ∧ va_O "LotInspector$Word" a A s s.heap ∧ va_OF "java/lang/Enum" "ordinal" "I" (.int o) a A s s.heap ∧ va_OF "LotInspector$Word" "fewest" "I" (.int f) a A s s.heap ∧ va_OF "LotInspector$Word" "most" "I" (.int m) a A s s.heap := by
  obtain ⟨a, c, cell, k, q1, q2, q3, q4, q5, q6, -⟩ := Cond.exactly_spec (args := args) (first := s) (o := none) (s := s) (idx := []) (t := .static "LotInspector$Word" nm "LLotInspector$Word;") (cls := "LotInspector$Word") h1
  exact ⟨a, q1, va_Oof h1 q1 hA, vk_OFof q1 (va_eqt h2) hA, vk_OFof q1 (va_eqt h3) hA, vk_OFof q1 (va_eqt h4) hA⟩
/-- one text, its bytes -/
def StP (A : Nat → Prop) (args : Array Value) (s : State) (own : String) (ix len : Nat) (byt : List Int32) (q : Nat × Nat) : Prop := (Term.string own ix).eval args s none [] s = some (.ref q.1) ∧ va_O "java/lang/String" q.1 A s s.heap ∧ va_OF "java/lang/String" "coder" "B" (.int 0) q.1 A s s.heap ∧ va_OF "java/lang/String" "value" "[B" (.ref q.2) q.1 A s s.heap ∧ va_T .byte q.2 len (fun j => .int (byt.getD j 0)) A s s.heap
theorem st_text {own : String} {ix len : Nat} {byt : List Int32} (hN : len < 2 ^ 31) (h1 : (Cond.exactly (.string own ix) "java/lang/String").before args s = true) (h2 : (Cond.eq (.field (.string own ix) "java/lang/String" "coder" "B") (.int 0)).before args s = true) (h3 : (Cond.arrayOf (.field (.string own ix) "java/lang/String" "value" "[B") .byte).before args s = true) (h4 : (Cond.eq (.length (.field (.string own ix) "java/lang/String" "value" "[B")) (.int (Int32.ofNat len))).before args s = true)
    (h5 : ∀ j : Nat, j < len → (Cond.eq (.elem (.field (.string own ix) "java/lang/String" "value" "[B") (.int (Int32.ofNat j))) (.int (byt.getD j 0))).before args s = true) (hA : ∀ a : Nat, a < s.heap.size → ¬ A a) : ∃ q : Nat × Nat, StP A args s own ix len byt q := by
  have z : ∀ {i : Nat}, i < 1 → i = 0 := fun h => by omega
  obtain ⟨adK, adV, ⟨h, -⟩, he⟩ := vk_Sof (args := args) (s := s) (N := 1) (tm := fun _ => .string own ix) (len := [len]) (byt := [byt]) (A := A) (fun i hi => by rw [z hi]; exact hN) (fun _ _ => h1) (fun _ _ => h2) (fun _ _ => h3) (fun i hi => by rw [z hi]; exact h4) (fun i hi j hj => by rw [z hi] at hj ⊢; exact h5 j hj) (fun i j hi hj hij => absurd ((z hi).trans (z hj).symm) hij) hA
  obtain ⟨a1, a2, a3, a4⟩ := h 0 (by decide)
  exact ⟨(adK 0, adV 0), he 0 (by decide), a1, a2, a3, a4⟩
theorem st_big (hts : ∀ w ∈ lw_tbl, w.before args s = true) : ∀ w ∈ BIG, w.before args s = true := fun w h => hts w (List.mem_filter.mp h).1
set_option maxRecDepth 4000 in
theorem st_class (hts : ∀ w ∈ lw_tbl, w.before args s = true) : ∀ c : Nat, ∃ d : ClassId × (Nat → Nat), ∀ q : vw_C, vwCl[c]? = some q → u_Kn s q.1 q.2.1 q.2.2 d.1 d.2 := fun c => match c with
  | 0 => by
    obtain ⟨cC, iS, h⟩ := u_known (C := RJ0) (T := TJ0) (N := 4) (n := 4) (st_big hts) (uws_in (C := RJ0) (T := TJ0) (N := 4) (fun k hk => match k, hk with
      | 0, _ => (sg3 51 rfl rfl)
      | 1, _ => (sg3 53 rfl rfl)
      | 2, _ => (sg7 58 rfl rfl)
      | 3, _ => (sg7 60 rfl rfl)
      | k + 4, h => absurd h (by omega))) (hts _ (st3 50 rfl))
    exact ⟨(cC, iS), fun q hq => by have e : (RJ0, TJ0, 4) = q := Option.some.inj hq; subst e; exact h⟩
  | 1 => by
    obtain ⟨cC, iS, h⟩ := u_known (C := RJ4) (T := TJ4) (N := 4) (n := 4) (st_big hts) ck_1.2.2.1 (hts _ (st1 199 rfl))
    exact ⟨(cC, iS), fun q hq => by have e : (RJ4, TJ4, 4) = q := Option.some.inj hq; subst e; exact h⟩
  | 2 => by
    obtain ⟨cC, iS, h⟩ := u_known (C := RJx00060) (T := TJx00060) (N := 6) (n := 6) (st_big hts) (uws_in (C := RJx00060) (T := TJx00060) (N := 6) (fun k hk => match k, hk with
      | 0, _ => (sg3 18 rfl rfl)
      | 1, _ => (sg3 20 rfl rfl)
      | 2, _ => (sg3 22 rfl rfl)
      | 3, _ => (sg3 24 rfl rfl)
      | 4, _ => (sg3 26 rfl rfl)
      | 5, _ => (sg3 28 rfl rfl)
      | k + 6, h => absurd h (by omega))) (hts _ (st2 216 rfl))
    exact ⟨(cC, iS), fun q hq => by have e : (RJx00060, TJx00060, 6) = q := Option.some.inj hq; subst e; exact h⟩
  | 3 => by
    obtain ⟨cC, iS, h⟩ := u_known (C := RJx7c733) (T := TJx7c733) (N := 6) (n := 6) (st_big hts) (uws_in (C := RJx7c733) (T := TJx7c733) (N := 6) (fun k hk => match k, hk with
      | 0, _ => (sg7 64 rfl rfl)
      | 1, _ => (sg7 65 rfl rfl)
      | 2, _ => (sg7 66 rfl rfl)
      | 3, _ => (sg7 67 rfl rfl)
      | 4, _ => (sg7 68 rfl rfl)
      | 5, _ => (sg7 69 rfl rfl)
      | k + 6, h => absurd h (by omega))) (hts _ (st6 113 rfl))
    exact ⟨(cC, iS), fun q hq => by have e : (RJx7c733, TJx7c733, 6) = q := Option.some.inj hq; subst e; exact h⟩
  | 4 => by
    obtain ⟨cC, iS, h⟩ := u_known (C := RX2) (T := TX2) (N := 1) (n := 1) (st_big hts) ck_4.2.2.1 (hts _ (st2 12 rfl))
    exact ⟨(cC, iS), fun q hq => by have e : (RX2, TX2, 1) = q := Option.some.inj hq; subst e; exact h⟩
  | 5 => by
    obtain ⟨cC, iS, h⟩ := u_known (C := RX3) (T := TX3) (N := 7) (n := 7) (st_big hts) ck_5.2.2.1 (hts _ (st1 159 rfl))
    exact ⟨(cC, iS), fun q hq => by have e : (RX3, TX3, 7) = q := Option.some.inj hq; subst e; exact h⟩
  | 6 => by
    obtain ⟨cC, iS, h⟩ := u_known (C := RX4) (T := TX4) (N := 6) (n := 6) (st_big hts) ck_6.2.2.1 (hts _ (st2 24 rfl))
    exact ⟨(cC, iS), fun q hq => by have e : (RX4, TX4, 6) = q := Option.some.inj hq; subst e; exact h⟩
  | 7 => by
    obtain ⟨cC, iS, h⟩ := u_known (C := RX5) (T := TX5) (N := 17) (n := 17) (st_big hts) ck_7.2.2.1 (hts _ (st2 114 rfl))
    exact ⟨(cC, iS), fun q hq => by have e : (RX5, TX5, 17) = q := Option.some.inj hq; subst e; exact h⟩
  | 8 => by
    obtain ⟨cC, iS, h⟩ := u_known (C := RX6) (T := TX6) (N := 3) (n := 3) (st_big hts) ck_8.2.2.1 (hts _ (st1 59 rfl))
    exact ⟨(cC, iS), fun q hq => by have e : (RX6, TX6, 3) = q := Option.some.inj hq; subst e; exact h⟩
  | 9 => by
    obtain ⟨cC, iS, h⟩ := u_known (C := RX7) (T := TX7) (N := 9) (n := 9) (st_big hts) ck_9.2.2.1 (hts _ (st1 48 rfl))
    exact ⟨(cC, iS), fun q hq => by have e : (RX7, TX7, 9) = q := Option.some.inj hq; subst e; exact h⟩
  | 10 => by
    obtain ⟨cC, iS, h⟩ := u_known (C := RX8) (T := TX8) (N := 9) (n := 9) (st_big hts) ck_10.2.2.1 (hts _ (st1 79 rfl))
    exact ⟨(cC, iS), fun q hq => by have e : (RX8, TX8, 9) = q := Option.some.inj hq; subst e; exact h⟩
  | 11 => by
    obtain ⟨cC, iS, h⟩ := u_known (C := RX9) (T := TX9) (N := 2) (n := 2) (st_big hts) ck_11.2.2.1 (hts _ (st1 237 rfl))
    exact ⟨(cC, iS), fun q hq => by have e : (RX9, TX9, 2) = q := Option.some.inj hq; subst e; exact h⟩
  | 12 => by
    obtain ⟨cC, iS, h⟩ := u_known (C := RX10) (T := TX10) (N := 1) (n := 1) (st_big hts) ck_12.2.2.1 (hts _ (st1 193 rfl))
    exact ⟨(cC, iS), fun q hq => by have e : (RX10, TX10, 1) = q := Option.some.inj hq; subst e; exact h⟩
  | 13 => by
    obtain ⟨cC, iS, h⟩ := u_known (C := RX12) (T := TX12) (N := 13) (n := 13) (st_big hts) ck_13.2.2.1 (hts _ (st1 40 rfl))
    exact ⟨(cC, iS), fun q hq => by have e : (RX12, TX12, 13) = q := Option.some.inj hq; subst e; exact h⟩
  | 14 => by
    obtain ⟨cC, iS, h⟩ := u_known (C := RX13) (T := TX13) (N := 20) (n := 20) (st_big hts) ck_14.2.2.1 (hts _ (st7 181 rfl))
    exact ⟨(cC, iS), fun q hq => by have e : (RX13, TX13, 20) = q := Option.some.inj hq; subst e; exact h⟩
  | n + 15 => ⟨(0, fun _ => 0), fun q hq => by
    rw [List.getElem?_eq_none (show vwCl.length ≤ n + 15 from Nat.le_add_left 15 n)] at hq
    cases hq⟩
set_option maxRecDepth 4000 in
theorem st_arr (hts : ∀ w ∈ lw_tbl, w.before args s = true) : ∃ gC : Nat → ClassId, ∀ (k : Nat) (q : ClassId × FieldType), ([(gC 101, .int), (gC 102, .long), (gC 103, .double), (gC 104, .byte), (gC 105, .char), (gC 106, .boolean), (gC 111, .object "LotInspector$Drawer"), (gC 112, .object "LotInspector$Lot"), (gC 113, .object "LotInspector$Machine"), (gC 114, .object "LotInspector$Office"), (gC 115, .object "LotInspector$Product")] : List (ClassId × FieldType))[k]? = some q → ArrOfT s q.1 q.2 ∧ va_RA s q.1 q.2 := by
  obtain ⟨c101, h101⟩ := ar_prim (ty := .int) (hts _ (st1 78 rfl)) (fun c h => h)
  obtain ⟨c102, h102⟩ := ar_prim (ty := .long) (hts _ (st10 55 rfl)) (fun c h => h)
  obtain ⟨c103, h103⟩ := ar_prim (ty := .double) (hts _ (st2 21 rfl)) (fun c h => h)
  obtain ⟨c104, h104⟩ := ar_prim (ty := .byte) (hts _ (st1 230 rfl)) (fun c h => h)
  obtain ⟨c105, h105⟩ := ar_prim (ty := .char) (hts _ (st1 191 rfl)) (fun c h => h)
  obtain ⟨c106, h106⟩ := ar_prim (ty := .boolean) (hts _ (st2 10 rfl)) (fun c h => h)
  obtain ⟨c111, h111⟩ := ar_obj (N := "LotInspector$Drawer") (hts _ (st1 157 rfl))
  obtain ⟨c112, h112⟩ := ar_obj (N := "LotInspector$Lot") (hts _ (st1 58 rfl))
  obtain ⟨c113, h113⟩ := ar_obj (N := "LotInspector$Machine") (hts _ (st1 54 rfl))
  obtain ⟨c114, h114⟩ := ar_obj (N := "LotInspector$Office") (hts _ (st1 155 rfl))
  obtain ⟨c115, h115⟩ := ar_obj (N := "LotInspector$Product") (hts _ (st1 56 rfl))
  refine ⟨fun t => if t = 101 then c101 else if t = 102 then c102 else if t = 103 then c103 else if t = 104 then c104 else if t = 105 then c105 else if t = 106 then c106 else if t = 111 then c111 else if t = 112 then c112 else if t = 113 then c113 else if t = 114 then c114 else if t = 115 then c115 else 0, fun k q hq => ?_⟩
  exact match k, hq with
    | 0, hq => by
      have e : (c101, .int) = q := Option.some.inj hq
      subst e
      exact h101
    | 1, hq => by
      have e : (c102, .long) = q := Option.some.inj hq
      subst e
      exact h102
    | 2, hq => by
      have e : (c103, .double) = q := Option.some.inj hq
      subst e
      exact h103
    | 3, hq => by
      have e : (c104, .byte) = q := Option.some.inj hq
      subst e
      exact h104
    | 4, hq => by
      have e : (c105, .char) = q := Option.some.inj hq
      subst e
      exact h105
    | 5, hq => by
      have e : (c106, .boolean) = q := Option.some.inj hq
      subst e
      exact h106
    | 6, hq => by
      have e : (c111, .object "LotInspector$Drawer") = q := Option.some.inj hq
      subst e
      exact h111
    | 7, hq => by
      have e : (c112, .object "LotInspector$Lot") = q := Option.some.inj hq
      subst e
      exact h112
    | 8, hq => by
      have e : (c113, .object "LotInspector$Machine") = q := Option.some.inj hq
      subst e
      exact h113
    | 9, hq => by
      have e : (c114, .object "LotInspector$Office") = q := Option.some.inj hq
      subst e
      exact h114
    | 10, hq => by
      have e : (c115, .object "LotInspector$Product") = q := Option.some.inj hq
      subst e
      exact h115
    | k + 11, hq => by
      rw [List.getElem?_eq_none (Nat.le_add_left 11 k)] at hq
      cases hq
set_option maxRecDepth 8000 in
theorem st_band (hts : ∀ w ∈ lw_tbl, w.before args s = true) (hs : ∀ w ∈ NLW, w.before args s = true) (hA : ∀ a : Nat, a < s.heap.size → ¬ A a) : ∃ t, va_Z "LotInspector$Product" "BAND_ENDS" "[I" (.ref t) A s s.heap ∧ va_T .int t 6 (fun j => .int (bandE j)) A s s.heap :=
  st_row (hts _ (st3 201 rfl)) (hts _ (st1 4 rfl)) (by decide) (hs _ (List.mem_of_getElem? (i := 8) (by decide +kernel))) (hs _ (List.mem_of_getElem? (i := 9) (by decide +kernel))) (fun j hj => va_eqt (hs _ (va_run (N := 6) (p := 10) (f := fun j => Cond.eq (.elem (.static "LotInspector$Product" "BAND_ENDS" "[I") (.int (Int32.ofNat j))) (.int (bandE j))) (by decide +kernel) j hj))) hA
set_option maxRecDepth 8000 in
theorem st_size (hts : ∀ w ∈ lw_tbl, w.before args s = true) (hs : ∀ w ∈ NLW, w.before args s = true) (hA : ∀ a : Nat, a < s.heap.size → ¬ A a) : ∃ t, va_Z "LotInspector$Product" "SIZES" "[I" (.ref t) A s s.heap ∧ va_T .int t 7 (fun j => .int (sizeE j)) A s s.heap :=
  st_row (hts _ (st3 206 rfl)) (hts _ (st1 4 rfl)) (by decide) (hs _ (List.mem_of_getElem? (i := 17) (by decide +kernel))) (hs _ (List.mem_of_getElem? (i := 18) (by decide +kernel))) (fun j hj => va_eqt (hs _ (va_run (N := 7) (p := 19) (f := fun j => Cond.eq (.elem (.static "LotInspector$Product" "SIZES" "[I") (.int (Int32.ofNat j))) (.int (sizeE j))) (by decide +kernel) j hj))) hA
set_option maxRecDepth 8000 in
theorem st_switch (hts : ∀ w ∈ lw_tbl, w.before args s = true) (hs : ∀ w ∈ NLW, w.before args s = true) (hA : ∀ a : Nat, a < s.heap.size → ¬ A a) : ∃ t, va_Z "LotInspector$1" "$SwitchMap$LotInspector$Word" "[I" (.ref t) A s s.heap ∧ va_T .int t 9 (fun j => .int (swMap j)) A s s.heap :=
  st_row (hts _ (st6 87 rfl)) (hts _ (st1 35 rfl)) (by decide) (hs _ (List.mem_of_getElem? (i := 45) (by decide +kernel))) (hs _ (List.mem_of_getElem? (i := 46) (by decide +kernel))) (fun j hj => va_eqt (hs _ (va_run (N := 9) (p := 47) (f := fun j => Cond.eq (.elem (.static "LotInspector$1" "$SwitchMap$LotInspector$Word" "[I") (.int (Int32.ofNat j))) (.int (swMap j))) (by decide +kernel) j hj))) hA
set_option maxRecDepth 8000 in
theorem st_tens (hts : ∀ w ∈ lw_tbl, w.before args s = true) (hs : ∀ w ∈ NLW, w.before args s = true) (hA : ∀ a : Nat, a < s.heap.size → ¬ A a) : ∃ t, va_Z "java/lang/Integer" "DigitTens" "[B" (.ref t) A s s.heap ∧ va_T .byte t 100 (fun j => .int (digT j)) A s s.heap :=
  st_row (hts _ (st6 231 rfl)) (hts _ (st1 26 rfl)) (by decide) (hs _ (List.mem_of_getElem? (i := 160) (by decide +kernel))) (hs _ (List.mem_of_getElem? (i := 161) (by decide +kernel))) (fun j hj => va_eqt (hs _ (va_run (N := 100) (p := 162) (f := fun j => Cond.eq (.elem (.static "java/lang/Integer" "DigitTens" "[B") (.int (Int32.ofNat j))) (.int (digT j))) (by decide +kernel) j hj))) hA
set_option maxRecDepth 8000 in
theorem st_ones (hts : ∀ w ∈ lw_tbl, w.before args s = true) (hs : ∀ w ∈ NLW, w.before args s = true) (hA : ∀ a : Nat, a < s.heap.size → ¬ A a) : ∃ t, va_Z "java/lang/Integer" "DigitOnes" "[B" (.ref t) A s s.heap ∧ va_T .byte t 100 (fun j => .int (digO j)) A s s.heap :=
  st_row (hts _ (st6 229 rfl)) (hts _ (st1 26 rfl)) (by decide) (hs _ (List.mem_of_getElem? (i := 57) (by decide +kernel))) (hs _ (List.mem_of_getElem? (i := 58) (by decide +kernel))) (fun j hj => va_eqt (hs _ (va_run (N := 100) (p := 59) (f := fun j => Cond.eq (.elem (.static "java/lang/Integer" "DigitOnes" "[B") (.int (Int32.ofNat j))) (.int (digO j))) (by decide +kernel) j hj))) hA
def nmW : List String := ["MACHINE", "PRODUCT", "RAW", "MAKE", "INSPECT", "SORT", "SHIP", "RELEASE", "SEED"]
set_option maxRecDepth 8000 in
theorem st_words (hs : ∀ w ∈ NLW, w.before args s = true) (hA : ∀ a : Nat, a < s.heap.size → ¬ A a) : ∃ ad : Nat → Nat, ∀ k, k < 9 → (Term.static "LotInspector$Word" (nmW.getD k "") "LLotInspector$Word;").eval args s none [] s = some (.ref (ad k)) ∧ va_O "LotInspector$Word" (ad k) A s s.heap ∧ va_OF "java/lang/Enum" "ordinal" "I" (.int (nI k)) (ad k) A s s.heap ∧ va_OF "LotInspector$Word" "fewest" "I" (.int (fewE k)) (ad k) A s s.heap ∧ va_OF "LotInspector$Word" "most" "I" (.int (mostE k)) (ad k) A s s.heap := by
  have h0 : ∀ k : Nat, ∃ a : Nat, k < 9 → (Term.static "LotInspector$Word" (nmW.getD k "") "LLotInspector$Word;").eval args s none [] s = some (.ref a) ∧ va_O "LotInspector$Word" a A s s.heap ∧ va_OF "java/lang/Enum" "ordinal" "I" (.int (nI k)) a A s s.heap ∧ va_OF "LotInspector$Word" "fewest" "I" (.int (fewE k)) a A s s.heap ∧ va_OF "LotInspector$Word" "most" "I" (.int (mostE k)) a A s s.heap := fun k => by
    by_cases hk : k < 9
    case neg => exact ⟨0, fun h => absurd h hk⟩
    obtain rfl | rfl | rfl | rfl | rfl | rfl | rfl | rfl | rfl : k = 0 ∨ k = 1 ∨ k = 2 ∨ k = 3 ∨ k = 4 ∨ k = 5 ∨ k = 6 ∨ k = 7 ∨ k = 8 := by omega
    · exact (st_word (nm := "MACHINE") (o := nI 0) (f := fewE 0) (m := mostE 0) (hs _ (List.mem_of_getElem? (i := 262) (by decide +kernel))) (hs _ (List.mem_of_getElem? (i := 263) (by decide +kernel))) (hs _ (List.mem_of_getElem? (i := 265) (by decide +kernel))) (hs _ (List.mem_of_getElem? (i := 266) (by decide +kernel))) hA).imp fun a h _ => h
    · exact (st_word (nm := "PRODUCT") (o := nI 1) (f := fewE 1) (m := mostE 1) (hs _ (List.mem_of_getElem? (i := 267) (by decide +kernel))) (hs _ (List.mem_of_getElem? (i := 268) (by decide +kernel))) (hs _ (List.mem_of_getElem? (i := 270) (by decide +kernel))) (hs _ (List.mem_of_getElem? (i := 271) (by decide +kernel))) hA).imp fun a h _ => h
    · exact (st_word (nm := "RAW") (o := nI 2) (f := fewE 2) (m := mostE 2) (hs _ (List.mem_of_getElem? (i := 273) (by decide +kernel))) (hs _ (List.mem_of_getElem? (i := 274) (by decide +kernel))) (hs _ (List.mem_of_getElem? (i := 276) (by decide +kernel))) (hs _ (List.mem_of_getElem? (i := 277) (by decide +kernel))) hA).imp fun a h _ => h
    · exact (st_word (nm := "MAKE") (o := nI 3) (f := fewE 3) (m := mostE 3) (hs _ (List.mem_of_getElem? (i := 280) (by decide +kernel))) (hs _ (List.mem_of_getElem? (i := 281) (by decide +kernel))) (hs _ (List.mem_of_getElem? (i := 283) (by decide +kernel))) (hs _ (List.mem_of_getElem? (i := 284) (by decide +kernel))) hA).imp fun a h _ => h
    · exact (st_word (nm := "INSPECT") (o := nI 4) (f := fewE 4) (m := mostE 4) (hs _ (List.mem_of_getElem? (i := 288) (by decide +kernel))) (hs _ (List.mem_of_getElem? (i := 289) (by decide +kernel))) (hs _ (List.mem_of_getElem? (i := 291) (by decide +kernel))) (hs _ (List.mem_of_getElem? (i := 292) (by decide +kernel))) hA).imp fun a h _ => h
    · exact (st_word (nm := "SORT") (o := nI 5) (f := fewE 5) (m := mostE 5) (hs _ (List.mem_of_getElem? (i := 297) (by decide +kernel))) (hs _ (List.mem_of_getElem? (i := 298) (by decide +kernel))) (hs _ (List.mem_of_getElem? (i := 300) (by decide +kernel))) (hs _ (List.mem_of_getElem? (i := 301) (by decide +kernel))) hA).imp fun a h _ => h
    · exact (st_word (nm := "SHIP") (o := nI 6) (f := fewE 6) (m := mostE 6) (hs _ (List.mem_of_getElem? (i := 307) (by decide +kernel))) (hs _ (List.mem_of_getElem? (i := 308) (by decide +kernel))) (hs _ (List.mem_of_getElem? (i := 310) (by decide +kernel))) (hs _ (List.mem_of_getElem? (i := 311) (by decide +kernel))) hA).imp fun a h _ => h
    · exact (st_word (nm := "RELEASE") (o := nI 7) (f := fewE 7) (m := mostE 7) (hs _ (List.mem_of_getElem? (i := 318) (by decide +kernel))) (hs _ (List.mem_of_getElem? (i := 319) (by decide +kernel))) (hs _ (List.mem_of_getElem? (i := 321) (by decide +kernel))) (hs _ (List.mem_of_getElem? (i := 322) (by decide +kernel))) hA).imp fun a h _ => h
    · exact (st_word (nm := "SEED") (o := nI 8) (f := fewE 8) (m := mostE 8) (hs _ (List.mem_of_getElem? (i := 330) (by decide +kernel))) (hs _ (List.mem_of_getElem? (i := 331) (by decide +kernel))) (hs _ (List.mem_of_getElem? (i := 333) (by decide +kernel))) (hs _ (List.mem_of_getElem? (i := 334) (by decide +kernel))) hA).imp fun a h _ => h
  obtain ⟨ad, h⟩ := Classical.axiomOfChoice h0
  exact ⟨ad, h⟩
set_option maxRecDepth 8000 in
theorem st_wrow (hts : ∀ w ∈ lw_tbl, w.before args s = true) (hs : ∀ w ∈ NLW, w.before args s = true) (hA : ∀ a : Nat, a < s.heap.size → ¬ A a) {ad : Nat → Nat} (he : ∀ k, k < 9 → (Term.static "LotInspector$Word" (nmW.getD k "") "LLotInspector$Word;").eval args s none [] s = some (.ref (ad k))) : ∃ t, va_Z "LotInspector$Commands" "WORDS" "[LLotInspector$Word;" (.ref t) A s s.heap ∧ va_T (.object "LotInspector$Word") t 9 (fun j => .ref (ad j)) A s s.heap :=
  st_row (hts _ (st6 12 rfl)) (hts _ (st1 5 rfl)) (by decide) (hs _ (List.mem_of_getElem? (i := 28) (by decide +kernel))) (hs _ (List.mem_of_getElem? (i := 29) (by decide +kernel))) (fun j hj => va_eqv (hs _ (va_run (N := 9) (p := 31) (f := fun j => Cond.eq (.elem (.static "LotInspector$Commands" "WORDS" "[LLotInspector$Word;") (.int (Int32.ofNat j))) (.static "LotInspector$Word" (nmW.getD j "") "LLotInspector$Word;")) (by decide +kernel) j hj)) (he j hj)) hA
def strT : List (String × Nat) := [("LotInspector$Word", 62), ("LotInspector$Word", 68), ("LotInspector$Word", 71), ("LotInspector$Word", 74), ("LotInspector$Word", 77), ("LotInspector$Word", 80), ("LotInspector$Word", 83), ("LotInspector$Word", 86), ("LotInspector$Word", 89), ("LotInspectorModel", 396), ("LotInspectorModel", 405), ("LotInspectorModel", 407), ("LotInspectorModel", 409), ("LotInspectorModel", 411), ("LotInspectorModel", 413), ("LotInspectorModel", 378), ("LotInspectorModel", 380), ("LotInspectorModel", 382), ("LotInspectorModel", 421), ("LotInspectorModel", 384), ("LotInspectorModel", 386), ("LotInspectorModel", 388), ("LotInspectorModel", 390)]
set_option maxRecDepth 8000 in
theorem st_t0 (hs : ∀ w ∈ NLW, w.before args s = true) (hA : ∀ a : Nat, a < s.heap.size → ¬ A a) : ∃ q : Nat × Nat, StP A args s "LotInspector$Word" 62 7 [109, 97, 99, 104, 105, 110, 101] q :=
  st_text (by decide) (hs _ (List.mem_of_getElem? (i := 1089) (by decide +kernel))) (hs _ (List.mem_of_getElem? (i := 1090) (by decide +kernel))) (hs _ (List.mem_of_getElem? (i := 1091) (by decide +kernel))) (hs _ (List.mem_of_getElem? (i := 1092) (by decide +kernel))) (fun j hj => hs _ (va_run (N := 7) (p := 1093) (f := fun j => Cond.eq (.elem (.field (.string "LotInspector$Word" 62) "java/lang/String" "value" "[B") (.int (Int32.ofNat j))) (.int (([109, 97, 99, 104, 105, 110, 101] : List Int32).getD j 0))) (by decide +kernel) j hj)) hA
set_option maxRecDepth 8000 in
theorem st_t1 (hs : ∀ w ∈ NLW, w.before args s = true) (hA : ∀ a : Nat, a < s.heap.size → ¬ A a) : ∃ q : Nat × Nat, StP A args s "LotInspector$Word" 68 7 [112, 114, 111, 100, 117, 99, 116] q :=
  st_text (by decide) (hs _ (List.mem_of_getElem? (i := 1101) (by decide +kernel))) (hs _ (List.mem_of_getElem? (i := 1102) (by decide +kernel))) (hs _ (List.mem_of_getElem? (i := 1103) (by decide +kernel))) (hs _ (List.mem_of_getElem? (i := 1104) (by decide +kernel))) (fun j hj => hs _ (va_run (N := 7) (p := 1105) (f := fun j => Cond.eq (.elem (.field (.string "LotInspector$Word" 68) "java/lang/String" "value" "[B") (.int (Int32.ofNat j))) (.int (([112, 114, 111, 100, 117, 99, 116] : List Int32).getD j 0))) (by decide +kernel) j hj)) hA
set_option maxRecDepth 8000 in
theorem st_t2 (hs : ∀ w ∈ NLW, w.before args s = true) (hA : ∀ a : Nat, a < s.heap.size → ¬ A a) : ∃ q : Nat × Nat, StP A args s "LotInspector$Word" 71 3 [114, 97, 119] q :=
  st_text (by decide) (hs _ (List.mem_of_getElem? (i := 1113) (by decide +kernel))) (hs _ (List.mem_of_getElem? (i := 1114) (by decide +kernel))) (hs _ (List.mem_of_getElem? (i := 1115) (by decide +kernel))) (hs _ (List.mem_of_getElem? (i := 1116) (by decide +kernel))) (fun j hj => hs _ (va_run (N := 3) (p := 1117) (f := fun j => Cond.eq (.elem (.field (.string "LotInspector$Word" 71) "java/lang/String" "value" "[B") (.int (Int32.ofNat j))) (.int (([114, 97, 119] : List Int32).getD j 0))) (by decide +kernel) j hj)) hA
set_option maxRecDepth 8000 in
theorem st_t3 (hs : ∀ w ∈ NLW, w.before args s = true) (hA : ∀ a : Nat, a < s.heap.size → ¬ A a) : ∃ q : Nat × Nat, StP A args s "LotInspector$Word" 74 4 [109, 97, 107, 101] q :=
  st_text (by decide) (hs _ (List.mem_of_getElem? (i := 1121) (by decide +kernel))) (hs _ (List.mem_of_getElem? (i := 1122) (by decide +kernel))) (hs _ (List.mem_of_getElem? (i := 1123) (by decide +kernel))) (hs _ (List.mem_of_getElem? (i := 1124) (by decide +kernel))) (fun j hj => hs _ (va_run (N := 4) (p := 1125) (f := fun j => Cond.eq (.elem (.field (.string "LotInspector$Word" 74) "java/lang/String" "value" "[B") (.int (Int32.ofNat j))) (.int (([109, 97, 107, 101] : List Int32).getD j 0))) (by decide +kernel) j hj)) hA
set_option maxRecDepth 8000 in
theorem st_t4 (hs : ∀ w ∈ NLW, w.before args s = true) (hA : ∀ a : Nat, a < s.heap.size → ¬ A a) : ∃ q : Nat × Nat, StP A args s "LotInspector$Word" 77 7 [105, 110, 115, 112, 101, 99, 116] q :=
  st_text (by decide) (hs _ (List.mem_of_getElem? (i := 1130) (by decide +kernel))) (hs _ (List.mem_of_getElem? (i := 1131) (by decide +kernel))) (hs _ (List.mem_of_getElem? (i := 1132) (by decide +kernel))) (hs _ (List.mem_of_getElem? (i := 1133) (by decide +kernel))) (fun j hj => hs _ (va_run (N := 7) (p := 1134) (f := fun j => Cond.eq (.elem (.field (.string "LotInspector$Word" 77) "java/lang/String" "value" "[B") (.int (Int32.ofNat j))) (.int (([105, 110, 115, 112, 101, 99, 116] : List Int32).getD j 0))) (by decide +kernel) j hj)) hA
set_option maxRecDepth 8000 in
theorem st_t5 (hs : ∀ w ∈ NLW, w.before args s = true) (hA : ∀ a : Nat, a < s.heap.size → ¬ A a) : ∃ q : Nat × Nat, StP A args s "LotInspector$Word" 80 4 [115, 111, 114, 116] q :=
  st_text (by decide) (hs _ (List.mem_of_getElem? (i := 1142) (by decide +kernel))) (hs _ (List.mem_of_getElem? (i := 1143) (by decide +kernel))) (hs _ (List.mem_of_getElem? (i := 1144) (by decide +kernel))) (hs _ (List.mem_of_getElem? (i := 1145) (by decide +kernel))) (fun j hj => hs _ (va_run (N := 4) (p := 1146) (f := fun j => Cond.eq (.elem (.field (.string "LotInspector$Word" 80) "java/lang/String" "value" "[B") (.int (Int32.ofNat j))) (.int (([115, 111, 114, 116] : List Int32).getD j 0))) (by decide +kernel) j hj)) hA
set_option maxRecDepth 8000 in
theorem st_t6 (hs : ∀ w ∈ NLW, w.before args s = true) (hA : ∀ a : Nat, a < s.heap.size → ¬ A a) : ∃ q : Nat × Nat, StP A args s "LotInspector$Word" 83 4 [115, 104, 105, 112] q :=
  st_text (by decide) (hs _ (List.mem_of_getElem? (i := 1151) (by decide +kernel))) (hs _ (List.mem_of_getElem? (i := 1152) (by decide +kernel))) (hs _ (List.mem_of_getElem? (i := 1153) (by decide +kernel))) (hs _ (List.mem_of_getElem? (i := 1154) (by decide +kernel))) (fun j hj => hs _ (va_run (N := 4) (p := 1155) (f := fun j => Cond.eq (.elem (.field (.string "LotInspector$Word" 83) "java/lang/String" "value" "[B") (.int (Int32.ofNat j))) (.int (([115, 104, 105, 112] : List Int32).getD j 0))) (by decide +kernel) j hj)) hA
set_option maxRecDepth 8000 in
theorem st_t7 (hs : ∀ w ∈ NLW, w.before args s = true) (hA : ∀ a : Nat, a < s.heap.size → ¬ A a) : ∃ q : Nat × Nat, StP A args s "LotInspector$Word" 86 7 [114, 101, 108, 101, 97, 115, 101] q :=
  st_text (by decide) (hs _ (List.mem_of_getElem? (i := 1160) (by decide +kernel))) (hs _ (List.mem_of_getElem? (i := 1161) (by decide +kernel))) (hs _ (List.mem_of_getElem? (i := 1162) (by decide +kernel))) (hs _ (List.mem_of_getElem? (i := 1163) (by decide +kernel))) (fun j hj => hs _ (va_run (N := 7) (p := 1164) (f := fun j => Cond.eq (.elem (.field (.string "LotInspector$Word" 86) "java/lang/String" "value" "[B") (.int (Int32.ofNat j))) (.int (([114, 101, 108, 101, 97, 115, 101] : List Int32).getD j 0))) (by decide +kernel) j hj)) hA
set_option maxRecDepth 8000 in
theorem st_t8 (hs : ∀ w ∈ NLW, w.before args s = true) (hA : ∀ a : Nat, a < s.heap.size → ¬ A a) : ∃ q : Nat × Nat, StP A args s "LotInspector$Word" 89 4 [115, 101, 101, 100] q :=
  st_text (by decide) (hs _ (List.mem_of_getElem? (i := 1172) (by decide +kernel))) (hs _ (List.mem_of_getElem? (i := 1173) (by decide +kernel))) (hs _ (List.mem_of_getElem? (i := 1174) (by decide +kernel))) (hs _ (List.mem_of_getElem? (i := 1175) (by decide +kernel))) (fun j hj => hs _ (va_run (N := 4) (p := 1176) (f := fun j => Cond.eq (.elem (.field (.string "LotInspector$Word" 89) "java/lang/String" "value" "[B") (.int (Int32.ofNat j))) (.int (([115, 101, 101, 100] : List Int32).getD j 0))) (by decide +kernel) j hj)) hA
set_option maxRecDepth 8000 in
theorem st_t9 (hs : ∀ w ∈ NLW, w.before args s = true) (hA : ∀ a : Nat, a < s.heap.size → ¬ A a) : ∃ q : Nat × Nat, StP A args s "LotInspectorModel" 396 4 [108, 111, 116, 32] q :=
  st_text (by decide) (hs _ (List.mem_of_getElem? (i := 919) (by decide +kernel))) (hs _ (List.mem_of_getElem? (i := 920) (by decide +kernel))) (hs _ (List.mem_of_getElem? (i := 921) (by decide +kernel))) (hs _ (List.mem_of_getElem? (i := 922) (by decide +kernel))) (fun j hj => hs _ (va_run (N := 4) (p := 923) (f := fun j => Cond.eq (.elem (.field (.string "LotInspectorModel" 396) "java/lang/String" "value" "[B") (.int (Int32.ofNat j))) (.int (([108, 111, 116, 32] : List Int32).getD j 0))) (by decide +kernel) j hj)) hA
set_option maxRecDepth 8000 in
theorem st_t10 (hs : ∀ w ∈ NLW, w.before args s = true) (hA : ∀ a : Nat, a < s.heap.size → ¬ A a) : ∃ q : Nat × Nat, StP A args s "LotInspectorModel" 405 10 [58, 32, 112, 114, 111, 100, 117, 99, 116, 32] q :=
  st_text (by decide) (hs _ (List.mem_of_getElem? (i := 928) (by decide +kernel))) (hs _ (List.mem_of_getElem? (i := 929) (by decide +kernel))) (hs _ (List.mem_of_getElem? (i := 930) (by decide +kernel))) (hs _ (List.mem_of_getElem? (i := 931) (by decide +kernel))) (fun j hj => hs _ (va_run (N := 10) (p := 932) (f := fun j => Cond.eq (.elem (.field (.string "LotInspectorModel" 405) "java/lang/String" "value" "[B") (.int (Int32.ofNat j))) (.int (([58, 32, 112, 114, 111, 100, 117, 99, 116, 32] : List Int32).getD j 0))) (by decide +kernel) j hj)) hA
set_option maxRecDepth 8000 in
theorem st_t11 (hs : ∀ w ∈ NLW, w.before args s = true) (hA : ∀ a : Nat, a < s.heap.size → ¬ A a) : ∃ q : Nat × Nat, StP A args s "LotInspectorModel" 407 2 [44, 32] q :=
  st_text (by decide) (hs _ (List.mem_of_getElem? (i := 943) (by decide +kernel))) (hs _ (List.mem_of_getElem? (i := 944) (by decide +kernel))) (hs _ (List.mem_of_getElem? (i := 945) (by decide +kernel))) (hs _ (List.mem_of_getElem? (i := 946) (by decide +kernel))) (fun j hj => hs _ (va_run (N := 2) (p := 947) (f := fun j => Cond.eq (.elem (.field (.string "LotInspectorModel" 407) "java/lang/String" "value" "[B") (.int (Int32.ofNat j))) (.int (([44, 32] : List Int32).getD j 0))) (by decide +kernel) j hj)) hA
set_option maxRecDepth 8000 in
theorem st_t12 (hs : ∀ w ∈ NLW, w.before args s = true) (hA : ∀ a : Nat, a < s.heap.size → ¬ A a) : ∃ q : Nat × Nat, StP A args s "LotInspectorModel" 409 4 [32, 111, 102, 32] q :=
  st_text (by decide) (hs _ (List.mem_of_getElem? (i := 950) (by decide +kernel))) (hs _ (List.mem_of_getElem? (i := 951) (by decide +kernel))) (hs _ (List.mem_of_getElem? (i := 952) (by decide +kernel))) (hs _ (List.mem_of_getElem? (i := 953) (by decide +kernel))) (fun j hj => hs _ (va_run (N := 4) (p := 954) (f := fun j => Cond.eq (.elem (.field (.string "LotInspectorModel" 409) "java/lang/String" "value" "[B") (.int (Int32.ofNat j))) (.int (([32, 111, 102, 32] : List Int32).getD j 0))) (by decide +kernel) j hj)) hA
set_option maxRecDepth 8000 in
theorem st_t13 (hs : ∀ w ∈ NLW, w.before args s = true) (hA : ∀ a : Nat, a < s.heap.size → ¬ A a) : ∃ q : Nat × Nat, StP A args s "LotInspectorModel" 411 7 [32, 104, 101, 114, 101, 44, 32] q :=
  st_text (by decide) (hs _ (List.mem_of_getElem? (i := 959) (by decide +kernel))) (hs _ (List.mem_of_getElem? (i := 960) (by decide +kernel))) (hs _ (List.mem_of_getElem? (i := 961) (by decide +kernel))) (hs _ (List.mem_of_getElem? (i := 962) (by decide +kernel))) (fun j hj => hs _ (va_run (N := 7) (p := 963) (f := fun j => Cond.eq (.elem (.field (.string "LotInspectorModel" 411) "java/lang/String" "value" "[B") (.int (Int32.ofNat j))) (.int (([32, 104, 101, 114, 101, 44, 32] : List Int32).getD j 0))) (by decide +kernel) j hj)) hA
set_option maxRecDepth 8000 in
theorem st_t14 (hs : ∀ w ∈ NLW, w.before args s = true) (hA : ∀ a : Nat, a < s.heap.size → ¬ A a) : ∃ q : Nat × Nat, StP A args s "LotInspectorModel" 413 13 [110, 111, 116, 32, 105, 110, 115, 112, 101, 99, 116, 101, 100] q :=
  st_text (by decide) (hs _ (List.mem_of_getElem? (i := 971) (by decide +kernel))) (hs _ (List.mem_of_getElem? (i := 972) (by decide +kernel))) (hs _ (List.mem_of_getElem? (i := 973) (by decide +kernel))) (hs _ (List.mem_of_getElem? (i := 974) (by decide +kernel))) (fun j hj => hs _ (va_run (N := 13) (p := 975) (f := fun j => Cond.eq (.elem (.field (.string "LotInspectorModel" 413) "java/lang/String" "value" "[B") (.int (Int32.ofNat j))) (.int (([110, 111, 116, 32, 105, 110, 115, 112, 101, 99, 116, 101, 100] : List Int32).getD j 0))) (by decide +kernel) j hj)) hA
set_option maxRecDepth 8000 in
theorem st_t15 (hs : ∀ w ∈ NLW, w.before args s = true) (hA : ∀ a : Nat, a < s.heap.size → ¬ A a) : ∃ q : Nat × Nat, StP A args s "LotInspectorModel" 378 6 [110, 111, 114, 109, 97, 108] q :=
  st_text (by decide) (hs _ (List.mem_of_getElem? (i := 989) (by decide +kernel))) (hs _ (List.mem_of_getElem? (i := 990) (by decide +kernel))) (hs _ (List.mem_of_getElem? (i := 991) (by decide +kernel))) (hs _ (List.mem_of_getElem? (i := 992) (by decide +kernel))) (fun j hj => hs _ (va_run (N := 6) (p := 993) (f := fun j => Cond.eq (.elem (.field (.string "LotInspectorModel" 378) "java/lang/String" "value" "[B") (.int (Int32.ofNat j))) (.int (([110, 111, 114, 109, 97, 108] : List Int32).getD j 0))) (by decide +kernel) j hj)) hA
set_option maxRecDepth 8000 in
theorem st_t16 (hs : ∀ w ∈ NLW, w.before args s = true) (hA : ∀ a : Nat, a < s.heap.size → ¬ A a) : ∃ q : Nat × Nat, StP A args s "LotInspectorModel" 380 9 [116, 105, 103, 104, 116, 101, 110, 101, 100] q :=
  st_text (by decide) (hs _ (List.mem_of_getElem? (i := 1000) (by decide +kernel))) (hs _ (List.mem_of_getElem? (i := 1001) (by decide +kernel))) (hs _ (List.mem_of_getElem? (i := 1002) (by decide +kernel))) (hs _ (List.mem_of_getElem? (i := 1003) (by decide +kernel))) (fun j hj => hs _ (va_run (N := 9) (p := 1004) (f := fun j => Cond.eq (.elem (.field (.string "LotInspectorModel" 380) "java/lang/String" "value" "[B") (.int (Int32.ofNat j))) (.int (([116, 105, 103, 104, 116, 101, 110, 101, 100] : List Int32).getD j 0))) (by decide +kernel) j hj)) hA
set_option maxRecDepth 8000 in
theorem st_t17 (hs : ∀ w ∈ NLW, w.before args s = true) (hA : ∀ a : Nat, a < s.heap.size → ¬ A a) : ∃ q : Nat × Nat, StP A args s "LotInspectorModel" 382 7 [114, 101, 100, 117, 99, 101, 100] q :=
  st_text (by decide) (hs _ (List.mem_of_getElem? (i := 1014) (by decide +kernel))) (hs _ (List.mem_of_getElem? (i := 1015) (by decide +kernel))) (hs _ (List.mem_of_getElem? (i := 1016) (by decide +kernel))) (hs _ (List.mem_of_getElem? (i := 1017) (by decide +kernel))) (fun j hj => hs _ (va_run (N := 7) (p := 1018) (f := fun j => Cond.eq (.elem (.field (.string "LotInspectorModel" 382) "java/lang/String" "value" "[B") (.int (Int32.ofNat j))) (.int (([114, 101, 100, 117, 99, 101, 100] : List Int32).getD j 0))) (by decide +kernel) j hj)) hA
set_option maxRecDepth 8000 in
theorem st_t18 (hs : ∀ w ∈ NLW, w.before args s = true) (hA : ∀ a : Nat, a < s.heap.size → ¬ A a) : ∃ q : Nat × Nat, StP A args s "LotInspectorModel" 421 8 [44, 32, 102, 111, 117, 110, 100, 32] q :=
  st_text (by decide) (hs _ (List.mem_of_getElem? (i := 1026) (by decide +kernel))) (hs _ (List.mem_of_getElem? (i := 1027) (by decide +kernel))) (hs _ (List.mem_of_getElem? (i := 1028) (by decide +kernel))) (hs _ (List.mem_of_getElem? (i := 1029) (by decide +kernel))) (fun j hj => hs _ (va_run (N := 8) (p := 1030) (f := fun j => Cond.eq (.elem (.field (.string "LotInspectorModel" 421) "java/lang/String" "value" "[B") (.int (Int32.ofNat j))) (.int (([44, 32, 102, 111, 117, 110, 100, 32] : List Int32).getD j 0))) (by decide +kernel) j hj)) hA
set_option maxRecDepth 8000 in
theorem st_t19 (hs : ∀ w ∈ NLW, w.before args s = true) (hA : ∀ a : Nat, a < s.heap.size → ¬ A a) : ∃ q : Nat × Nat, StP A args s "LotInspectorModel" 384 7 [119, 97, 105, 116, 105, 110, 103] q :=
  st_text (by decide) (hs _ (List.mem_of_getElem? (i := 1039) (by decide +kernel))) (hs _ (List.mem_of_getElem? (i := 1040) (by decide +kernel))) (hs _ (List.mem_of_getElem? (i := 1041) (by decide +kernel))) (hs _ (List.mem_of_getElem? (i := 1042) (by decide +kernel))) (fun j hj => hs _ (va_run (N := 7) (p := 1043) (f := fun j => Cond.eq (.elem (.field (.string "LotInspectorModel" 384) "java/lang/String" "value" "[B") (.int (Int32.ofNat j))) (.int (([119, 97, 105, 116, 105, 110, 103] : List Int32).getD j 0))) (by decide +kernel) j hj)) hA
set_option maxRecDepth 8000 in
theorem st_t20 (hs : ∀ w ∈ NLW, w.before args s = true) (hA : ∀ a : Nat, a < s.heap.size → ¬ A a) : ∃ q : Nat × Nat, StP A args s "LotInspectorModel" 386 8 [97, 99, 99, 101, 112, 116, 101, 100] q :=
  st_text (by decide) (hs _ (List.mem_of_getElem? (i := 1051) (by decide +kernel))) (hs _ (List.mem_of_getElem? (i := 1052) (by decide +kernel))) (hs _ (List.mem_of_getElem? (i := 1053) (by decide +kernel))) (hs _ (List.mem_of_getElem? (i := 1054) (by decide +kernel))) (fun j hj => hs _ (va_run (N := 8) (p := 1055) (f := fun j => Cond.eq (.elem (.field (.string "LotInspectorModel" 386) "java/lang/String" "value" "[B") (.int (Int32.ofNat j))) (.int (([97, 99, 99, 101, 112, 116, 101, 100] : List Int32).getD j 0))) (by decide +kernel) j hj)) hA
set_option maxRecDepth 8000 in
theorem st_t21 (hs : ∀ w ∈ NLW, w.before args s = true) (hA : ∀ a : Nat, a < s.heap.size → ¬ A a) : ∃ q : Nat × Nat, StP A args s "LotInspectorModel" 388 8 [114, 101, 106, 101, 99, 116, 101, 100] q :=
  st_text (by decide) (hs _ (List.mem_of_getElem? (i := 1064) (by decide +kernel))) (hs _ (List.mem_of_getElem? (i := 1065) (by decide +kernel))) (hs _ (List.mem_of_getElem? (i := 1066) (by decide +kernel))) (hs _ (List.mem_of_getElem? (i := 1067) (by decide +kernel))) (fun j hj => hs _ (va_run (N := 8) (p := 1068) (f := fun j => Cond.eq (.elem (.field (.string "LotInspectorModel" 388) "java/lang/String" "value" "[B") (.int (Int32.ofNat j))) (.int (([114, 101, 106, 101, 99, 116, 101, 100] : List Int32).getD j 0))) (by decide +kernel) j hj)) hA
set_option maxRecDepth 8000 in
theorem st_t22 (hs : ∀ w ∈ NLW, w.before args s = true) (hA : ∀ a : Nat, a < s.heap.size → ¬ A a) : ∃ q : Nat × Nat, StP A args s "LotInspectorModel" 390 7 [115, 104, 105, 112, 112, 101, 100] q :=
  st_text (by decide) (hs _ (List.mem_of_getElem? (i := 1077) (by decide +kernel))) (hs _ (List.mem_of_getElem? (i := 1078) (by decide +kernel))) (hs _ (List.mem_of_getElem? (i := 1079) (by decide +kernel))) (hs _ (List.mem_of_getElem? (i := 1080) (by decide +kernel))) (fun j hj => hs _ (va_run (N := 7) (p := 1081) (f := fun j => Cond.eq (.elem (.field (.string "LotInspectorModel" 390) "java/lang/String" "value" "[B") (.int (Int32.ofNat j))) (.int (([115, 104, 105, 112, 112, 101, 100] : List Int32).getD j 0))) (by decide +kernel) j hj)) hA
theorem st_texts (hs : ∀ w ∈ NLW, w.before args s = true) (hA : ∀ a : Nat, a < s.heap.size → ¬ A a) : ∃ ad : Nat → Nat × Nat, ∀ k, k < 23 → StP A args s (strT.getD k ("", 0)).1 (strT.getD k ("", 0)).2 (strL.getD k 0) (strB.getD k []) (ad k) := by
  have h0 : ∀ k : Nat, ∃ q : Nat × Nat, k < 23 → StP A args s (strT.getD k ("", 0)).1 (strT.getD k ("", 0)).2 (strL.getD k 0) (strB.getD k []) q := fun k => by
    by_cases hk : k < 23
    case neg => exact ⟨(0, 0), fun h => absurd h hk⟩
    obtain rfl | rfl | rfl | rfl | rfl | rfl | rfl | rfl | rfl | rfl | rfl | rfl | rfl | rfl | rfl | rfl | rfl | rfl | rfl | rfl | rfl | rfl | rfl : k = 0 ∨ k = 1 ∨ k = 2 ∨ k = 3 ∨ k = 4 ∨ k = 5 ∨ k = 6 ∨ k = 7 ∨ k = 8 ∨ k = 9 ∨ k = 10 ∨ k = 11 ∨ k = 12 ∨ k = 13 ∨ k = 14 ∨ k = 15 ∨ k = 16 ∨ k = 17 ∨ k = 18 ∨ k = 19 ∨ k = 20 ∨ k = 21 ∨ k = 22 := by omega
    · exact (st_t0 hs hA).imp fun q h _ => h
    · exact (st_t1 hs hA).imp fun q h _ => h
    · exact (st_t2 hs hA).imp fun q h _ => h
    · exact (st_t3 hs hA).imp fun q h _ => h
    · exact (st_t4 hs hA).imp fun q h _ => h
    · exact (st_t5 hs hA).imp fun q h _ => h
    · exact (st_t6 hs hA).imp fun q h _ => h
    · exact (st_t7 hs hA).imp fun q h _ => h
    · exact (st_t8 hs hA).imp fun q h _ => h
    · exact (st_t9 hs hA).imp fun q h _ => h
    · exact (st_t10 hs hA).imp fun q h _ => h
    · exact (st_t11 hs hA).imp fun q h _ => h
    · exact (st_t12 hs hA).imp fun q h _ => h
    · exact (st_t13 hs hA).imp fun q h _ => h
    · exact (st_t14 hs hA).imp fun q h _ => h
    · exact (st_t15 hs hA).imp fun q h _ => h
    · exact (st_t16 hs hA).imp fun q h _ => h
    · exact (st_t17 hs hA).imp fun q h _ => h
    · exact (st_t18 hs hA).imp fun q h _ => h
    · exact (st_t19 hs hA).imp fun q h _ => h
    · exact (st_t20 hs hA).imp fun q h _ => h
    · exact (st_t21 hs hA).imp fun q h _ => h
    · exact (st_t22 hs hA).imp fun q h _ => h
  obtain ⟨ad, h⟩ := Classical.axiomOfChoice h0
  exact ⟨ad, h⟩
theorem str_ne : ∀ i, i < 23 → ∀ j, j < 23 → strL.getD i 0 = strL.getD j 0 → (∀ k, k < strL.getD i 0 → (strB.getD i []).getD k 0 = (strB.getD j []).getD k 0) → i = j := by decide +kernel
theorem str_31 : ∀ i, i < 23 → strL.getD i 0 < 100 := by decide
/-- different texts are different objects: their bytes tell them apart -/
theorem st_inj {ad : Nat → Nat × Nat} (h : ∀ k, k < 23 → StP A args s (strT.getD k ("", 0)).1 (strT.getD k ("", 0)).2 (strL.getD k 0) (strB.getD k []) (ad k)) {i j : Nat} (hi : i < 23) (hj : j < 23) (e : (ad i).1 = (ad j).1) : i = j := by
  obtain ⟨-, -, -, ⟨cf, k, fi, f, cell, a1, a2, a3, a4, a5, -⟩, c1, b1, -, -, -, b5, b6, -⟩ := h i hi
  obtain ⟨-, -, -, ⟨cf', k', fi', f', cell', a1', a2', a3', a4', a5', -⟩, c1', b1', -, -, -, b5', b6', -⟩ := h j hj
  rw [e] at a3
  cases Option.some.inj (a3.symm.trans a3')
  have ef := Option.some.inj (a1.symm.trans a1')
  injection ef with _ ef
  injection ef with _ ef
  injection ef with _ ef
  rw [ef] at a5
  have ev := Option.some.inj (a5.symm.trans a5')
  injection ev with ev
  rw [ev] at b1
  cases Option.some.inj (b1.symm.trans b1')
  have hl : strL.getD i 0 = strL.getD j 0 := nI_inj (Nat.lt_of_lt_of_le (str_31 i hi) (by decide)) (Nat.lt_of_lt_of_le (str_31 j hj) (by decide)) (b5.symm.trans b5')
  refine str_ne i hi j hj hl (fun k hk => ?_)
  have e1 : Value.int _ = Value.int _ := Option.some.inj ((b6 k hk).symm.trans (b6' k (by rw [← hl]; exact hk)))
  injection e1 with e2
set_option maxRecDepth 8000 in
theorem st_refs (hts : ∀ w ∈ lw_tbl, w.before args s = true) (hs : ∀ w ∈ NLW, w.before args s = true) {ad : Nat → Nat × Nat} (h : ∀ k, k < 23 → StP A args s (strT.getD k ("", 0)).1 (strT.getD k ("", 0)).2 (strL.getD k 0) (strB.getD k []) (ad k)) : ∀ q ∈ strR, vk_R q.1 q.2.1 q.2.2.1 (ad q.2.2.2).1 s :=
  List.forall_mem_cons.mpr ⟨vk_R.of (hts _ (st7 97 rfl)) (va_eqv (hs _ (List.mem_of_getElem? (i := 927) (by decide +kernel))) (h 9 (by decide)).1), List.forall_mem_cons.mpr ⟨vk_R.of (hts _ (st7 100 rfl)) (va_eqv (hs _ (List.mem_of_getElem? (i := 942) (by decide +kernel))) (h 10 (by decide)).1), List.forall_mem_cons.mpr ⟨vk_R.of (hts _ (st7 101 rfl)) (va_eqv (hs _ (List.mem_of_getElem? (i := 949) (by decide +kernel))) (h 11 (by decide)).1), List.forall_mem_cons.mpr ⟨vk_R.of (hts _ (st7 103 rfl)) (va_eqv (hs _ (List.mem_of_getElem? (i := 958) (by decide +kernel))) (h 12 (by decide)).1), List.forall_mem_cons.mpr ⟨vk_R.of (hts _ (st7 104 rfl)) (va_eqv (hs _ (List.mem_of_getElem? (i := 970) (by decide +kernel))) (h 13 (by decide)).1), List.forall_mem_cons.mpr ⟨vk_R.of (hts _ (st7 105 rfl)) (va_eqv (hs _ (List.mem_of_getElem? (i := 988) (by decide +kernel))) (h 14 (by decide)).1), List.forall_mem_cons.mpr ⟨vk_R.of (hts _ (st7 109 rfl)) (va_eqv (hs _ (List.mem_of_getElem? (i := 999) (by decide +kernel))) (h 15 (by decide)).1), List.forall_mem_cons.mpr ⟨vk_R.of (hts _ (st7 110 rfl)) (va_eqv (hs _ (List.mem_of_getElem? (i := 1013) (by decide +kernel))) (h 16 (by decide)).1), List.forall_mem_cons.mpr ⟨vk_R.of (hts _ (st7 111 rfl)) (va_eqv (hs _ (List.mem_of_getElem? (i := 1025) (by decide +kernel))) (h 17 (by decide)).1), List.forall_mem_cons.mpr ⟨vk_R.of (hts _ (st7 125 rfl)) (va_eqv (hs _ (List.mem_of_getElem? (i := 1038) (by decide +kernel))) (h 18 (by decide)).1), List.forall_mem_cons.mpr ⟨vk_R.of (hts _ (st7 129 rfl)) (va_eqv (hs _ (List.mem_of_getElem? (i := 1050) (by decide +kernel))) (h 19 (by decide)).1), List.forall_mem_cons.mpr ⟨vk_R.of (hts _ (st7 130 rfl)) (va_eqv (hs _ (List.mem_of_getElem? (i := 1063) (by decide +kernel))) (h 20 (by decide)).1), List.forall_mem_cons.mpr ⟨vk_R.of (hts _ (st7 131 rfl)) (va_eqv (hs _ (List.mem_of_getElem? (i := 1076) (by decide +kernel))) (h 21 (by decide)).1), List.forall_mem_cons.mpr ⟨vk_R.of (hts _ (st7 132 rfl)) (va_eqv (hs _ (List.mem_of_getElem? (i := 1088) (by decide +kernel))) (h 22 (by decide)).1), List.forall_mem_cons.mpr ⟨vk_R.of (hts _ (st9 220 rfl)) (va_eqv (hs _ (List.mem_of_getElem? (i := 1100) (by decide +kernel))) (h 0 (by decide)).1), List.forall_mem_cons.mpr ⟨vk_R.of (hts _ (st9 221 rfl)) (va_eqv (hs _ (List.mem_of_getElem? (i := 1112) (by decide +kernel))) (h 1 (by decide)).1), List.forall_mem_cons.mpr ⟨vk_R.of (hts _ (st9 222 rfl)) (va_eqv (hs _ (List.mem_of_getElem? (i := 1120) (by decide +kernel))) (h 2 (by decide)).1), List.forall_mem_cons.mpr ⟨vk_R.of (hts _ (st9 223 rfl)) (va_eqv (hs _ (List.mem_of_getElem? (i := 1129) (by decide +kernel))) (h 3 (by decide)).1), List.forall_mem_cons.mpr ⟨vk_R.of (hts _ (st9 224 rfl)) (va_eqv (hs _ (List.mem_of_getElem? (i := 1141) (by decide +kernel))) (h 4 (by decide)).1), List.forall_mem_cons.mpr ⟨vk_R.of (hts _ (st9 225 rfl)) (va_eqv (hs _ (List.mem_of_getElem? (i := 1150) (by decide +kernel))) (h 5 (by decide)).1), List.forall_mem_cons.mpr ⟨vk_R.of (hts _ (st9 226 rfl)) (va_eqv (hs _ (List.mem_of_getElem? (i := 1159) (by decide +kernel))) (h 6 (by decide)).1), List.forall_mem_cons.mpr ⟨vk_R.of (hts _ (st9 227 rfl)) (va_eqv (hs _ (List.mem_of_getElem? (i := 1171) (by decide +kernel))) (h 7 (by decide)).1), List.forall_mem_cons.mpr ⟨vk_R.of (hts _ (st9 228 rfl)) (va_eqv (hs _ (List.mem_of_getElem? (i := 1180) (by decide +kernel))) (h 8 (by decide)).1), List.forall_mem_cons.mpr ⟨vk_R.of (hts _ (st10 18 rfl)) (h 9 (by decide)).1, List.forall_mem_cons.mpr ⟨vk_R.of (hts _ (st10 21 rfl)) (h 10 (by decide)).1, List.forall_mem_cons.mpr ⟨vk_R.of (hts _ (st10 22 rfl)) (h 11 (by decide)).1, List.forall_mem_cons.mpr ⟨vk_R.of (hts _ (st10 23 rfl)) (h 12 (by decide)).1, List.forall_mem_cons.mpr ⟨vk_R.of (hts _ (st10 24 rfl)) (h 13 (by decide)).1, List.forall_mem_cons.mpr ⟨vk_R.of (hts _ (st10 25 rfl)) (h 14 (by decide)).1, List.forall_mem_cons.mpr ⟨vk_R.of (hts _ (st10 29 rfl)) (h 15 (by decide)).1, List.forall_mem_cons.mpr ⟨vk_R.of (hts _ (st10 30 rfl)) (h 16 (by decide)).1, List.forall_mem_cons.mpr ⟨vk_R.of (hts _ (st10 31 rfl)) (h 17 (by decide)).1, List.forall_mem_cons.mpr ⟨vk_R.of (hts _ (st10 33 rfl)) (h 18 (by decide)).1, List.forall_mem_cons.mpr ⟨vk_R.of (hts _ (st10 37 rfl)) (h 19 (by decide)).1, List.forall_mem_cons.mpr ⟨vk_R.of (hts _ (st10 38 rfl)) (h 20 (by decide)).1, List.forall_mem_cons.mpr ⟨vk_R.of (hts _ (st10 39 rfl)) (h 21 (by decide)).1, List.forall_mem_cons.mpr ⟨vk_R.of (hts _ (st10 40 rfl)) (h 22 (by decide)).1, fun _ h => absurd h List.not_mem_nil⟩⟩⟩⟩⟩⟩⟩⟩⟩⟩⟩⟩⟩⟩⟩⟩⟩⟩⟩⟩⟩⟩⟩⟩⟩⟩⟩⟩⟩⟩⟩⟩⟩⟩⟩⟩⟩
set_option maxRecDepth 8000 in
theorem st_letters (hs : ∀ w ∈ NLW, w.before args s = true) (hA : ∀ a : Nat, a < s.heap.size → ¬ A a) {aw : Nat → Nat} (he : ∀ k, k < 9 → (Term.static "LotInspector$Word" (nmW.getD k "") "LLotInspector$Word;").eval args s none [] s = some (.ref (aw k))) {ad : Nat → Nat × Nat} (h : ∀ k, k < 23 → StP A args s (strT.getD k ("", 0)).1 (strT.getD k ("", 0)).2 (strL.getD k 0) (strB.getD k []) (ad k)) {k : Nat} (hk : k < 9) : va_OF "LotInspector$Word" "letters" "Ljava/lang/String;" (.ref (ad k).1) (aw k) A s s.heap := by
  obtain rfl | rfl | rfl | rfl | rfl | rfl | rfl | rfl | rfl : k = 0 ∨ k = 1 ∨ k = 2 ∨ k = 3 ∨ k = 4 ∨ k = 5 ∨ k = 6 ∨ k = 7 ∨ k = 8 := by omega
  · exact vk_OFof (he 0 (by decide)) (va_eqv (hs _ (List.mem_of_getElem? (i := 264) (by decide +kernel))) (h 0 (by decide)).1) hA
  · exact vk_OFof (he 1 (by decide)) (va_eqv (hs _ (List.mem_of_getElem? (i := 269) (by decide +kernel))) (h 1 (by decide)).1) hA
  · exact vk_OFof (he 2 (by decide)) (va_eqv (hs _ (List.mem_of_getElem? (i := 275) (by decide +kernel))) (h 2 (by decide)).1) hA
  · exact vk_OFof (he 3 (by decide)) (va_eqv (hs _ (List.mem_of_getElem? (i := 282) (by decide +kernel))) (h 3 (by decide)).1) hA
  · exact vk_OFof (he 4 (by decide)) (va_eqv (hs _ (List.mem_of_getElem? (i := 290) (by decide +kernel))) (h 4 (by decide)).1) hA
  · exact vk_OFof (he 5 (by decide)) (va_eqv (hs _ (List.mem_of_getElem? (i := 299) (by decide +kernel))) (h 5 (by decide)).1) hA
  · exact vk_OFof (he 6 (by decide)) (va_eqv (hs _ (List.mem_of_getElem? (i := 309) (by decide +kernel))) (h 6 (by decide)).1) hA
  · exact vk_OFof (he 7 (by decide)) (va_eqv (hs _ (List.mem_of_getElem? (i := 320) (by decide +kernel))) (h 7 (by decide)).1) hA
  · exact vk_OFof (he 8 (by decide)) (va_eqv (hs _ (List.mem_of_getElem? (i := 332) (by decide +kernel))) (h 8 (by decide)).1) hA
set_option maxRecDepth 8000 in
theorem st_nc (hs : ∀ w ∈ NLW, w.before args s = true) : ∀ q ∈ ncL, va_Nc q.1 q.2 s :=
  List.forall_mem_cons.mpr ⟨va_Nc.of (hs _ (List.mem_of_getElem? (i := 355) (by decide +kernel))), List.forall_mem_cons.mpr ⟨va_Nc.of (hs _ (List.mem_of_getElem? (i := 356) (by decide +kernel))), List.forall_mem_cons.mpr ⟨va_Nc.of (hs _ (List.mem_of_getElem? (i := 376) (by decide +kernel))), List.forall_mem_cons.mpr ⟨va_Nc.of (hs _ (List.mem_of_getElem? (i := 357) (by decide +kernel))), List.forall_mem_cons.mpr ⟨va_Nc.of (hs _ (List.mem_of_getElem? (i := 398) (by decide +kernel))), List.forall_mem_cons.mpr ⟨va_Nc.of (hs _ (List.mem_of_getElem? (i := 377) (by decide +kernel))), List.forall_mem_cons.mpr ⟨va_Nc.of (hs _ (List.mem_of_getElem? (i := 358) (by decide +kernel))), List.forall_mem_cons.mpr ⟨va_Nc.of (hs _ (List.mem_of_getElem? (i := 359) (by decide +kernel))), List.forall_mem_cons.mpr ⟨va_Nc.of (hs _ (List.mem_of_getElem? (i := 400) (by decide +kernel))), fun _ h => absurd h List.not_mem_nil⟩⟩⟩⟩⟩⟩⟩⟩⟩
theorem st_nest (hts : ∀ w ∈ lw_tbl, w.before args s = true) : ∀ w ∈ NST, nW w s := fun w hw => by
  obtain ⟨h1, h2⟩ := List.mem_filter.mp hw
  have h3 := nest_tab h2
  have h4 : va_Nw w s := va_Nw.of h3 (hts w h1)
  exact ⟨fun _ => h4, fun _ a => va_Nw.use h3 h4⟩
theorem st_over (hts : ∀ w ∈ lw_tbl, w.before args s = true) : ∀ C ∈ aoC, va_AO C s :=
  List.forall_mem_cons.mpr ⟨va_AO.of (hts _ (st1 157 rfl)), List.forall_mem_cons.mpr ⟨va_AO.of (hts _ (st1 58 rfl)), List.forall_mem_cons.mpr ⟨va_AO.of (hts _ (st1 54 rfl)), List.forall_mem_cons.mpr ⟨va_AO.of (hts _ (st1 155 rfl)), List.forall_mem_cons.mpr ⟨va_AO.of (hts _ (st1 56 rfl)), fun _ h => absurd h List.not_mem_nil⟩⟩⟩⟩⟩
set_option maxRecDepth 8000 in
theorem st_misc (hts : ∀ w ∈ lw_tbl, w.before args s = true) (hs : ∀ w ∈ NLW, w.before args s = true) (hA : ∀ a : Nat, a < s.heap.size → ¬ A a) : (vx_Zq Bundle.tN "UNASSIGNED_STACK" Bundle.steD A s s.heap ∧ vx_Zq Bundle.tN "SUPPRESSED_SENTINEL" Bundle.listD A s s.heap) ∧ va_Z "java/lang/String" "COMPACT_STRINGS" "Z" (.int 1) A s s.heap ∧ va_Zq "jdk/internal/util/Preconditions" "SIOOBE_FORMATTER" "Ljava/util/function/BiFunction;" A s s.heap :=
  ⟨⟨vx_Zqof (hts _ (st2 233 rfl)) (hts _ (st1 15 rfl)) (hs _ (List.mem_of_getElem? (i := 5) (by decide +kernel))) hA, vx_Zqof (hts _ (st2 235 rfl)) (hts _ (st1 15 rfl)) (hs _ (List.mem_of_getElem? (i := 6) (by decide +kernel))) hA⟩, va_Zof (hts _ (st1 208 rfl)) (hts _ (st1 9 rfl)) (va_eqt (hs _ (List.mem_of_getElem? (i := 4) (by decide +kernel)))) hA, va_Zqof (hts _ (st6 41 rfl)) (hts _ (st1 34 rfl)) (hs _ (List.mem_of_getElem? (i := 40) (by decide +kernel))) hA⟩
end StartRules
