/-! THE TYPED HEAP: by address: a type code, a length; int fields, reference fields; rows of ints, longs, doubles, references; the next address, the slots in use -/
abbrev Hp : Type := (Nat → Nat) × (Nat → Nat) × (Nat → Nat → Int32) × (Nat → Nat → Option Nat) × (Nat → Nat → Int32) × (Nat → Nat → Int64) × (Nat → Nat → UInt64) × (Nat → Nat → Option Nat) × Nat × Nat
def zT (S : Hp) : Nat → Nat := S.1
def zN (S : Hp) : Nat → Nat := S.2.1
def zI (S : Hp) : Nat → Nat → Int32 := S.2.2.1
def zP (S : Hp) : Nat → Nat → Option Nat := S.2.2.2.1
def zA (S : Hp) : Nat → Nat → Int32 := S.2.2.2.2.1
def zL (S : Hp) : Nat → Nat → Int64 := S.2.2.2.2.2.1
def zD (S : Hp) : Nat → Nat → UInt64 := S.2.2.2.2.2.2.1
def zQ (S : Hp) : Nat → Nat → Option Nat := S.2.2.2.2.2.2.2.1
def zX (S : Hp) : Nat := S.2.2.2.2.2.2.2.2.1
def zU (S : Hp) : Nat := S.2.2.2.2.2.2.2.2.2
def up1 {α : Type} (f : Nat → α) (i : Nat) (x : α) : Nat → α := fun a => if a = i then x else f a
def up2 {α : Type} (f : Nat → Nat → α) (i j : Nat) (x : α) : Nat → Nat → α := fun a b => if a = i ∧ b = j then x else f a b
def uI (S : Hp) (f a : Nat) (x : Int32) : Hp := (zT S, zN S, up2 (zI S) f a x, zP S, zA S, zL S, zD S, zQ S, zX S, zU S)
def uP (S : Hp) (f a : Nat) (x : Option Nat) : Hp := (zT S, zN S, zI S, up2 (zP S) f a x, zA S, zL S, zD S, zQ S, zX S, zU S)
def uA (S : Hp) (a i : Nat) (x : Int32) : Hp := (zT S, zN S, zI S, zP S, up2 (zA S) a i x, zL S, zD S, zQ S, zX S, zU S)
def uL (S : Hp) (a i : Nat) (x : Int64) : Hp := (zT S, zN S, zI S, zP S, zA S, up2 (zL S) a i x, zD S, zQ S, zX S, zU S)
def uD (S : Hp) (a i : Nat) (x : UInt64) : Hp := (zT S, zN S, zI S, zP S, zA S, zL S, up2 (zD S) a i x, zQ S, zX S, zU S)
def uQ (S : Hp) (a i : Nat) (x : Option Nat) : Hp := (zT S, zN S, zI S, zP S, zA S, zL S, zD S, up2 (zQ S) a i x, zX S, zU S)
/-- a whole row of ints anew -/
def uR (S : Hp) (a : Nat) (f : Nat → Int32) : Hp := (zT S, zN S, zI S, zP S, up1 (zA S) a f, zL S, zD S, zQ S, zX S, zU S)
/-- a new object of type t with n slots -/
def nO (S : Hp) (t n : Nat) : Hp := (up1 (zT S) (zX S) t, zN S, (fun f a => if a = zX S then 0 else zI S f a), (fun f a => if a = zX S then none else zP S f a), zA S, zL S, zD S, zQ S, zX S + 1, zU S + n)
/-- a new row of type t with n places -/
def nA (S : Hp) (t n : Nat) : Hp := (up1 (zT S) (zX S) t, up1 (zN S) (zX S) n, zI S, zP S, up1 (zA S) (zX S) (fun _ => 0), up1 (zL S) (zX S) (fun _ => 0), up1 (zD S) (zX S) (fun _ => 0), up1 (zQ S) (zX S) (fun _ => none), zX S + 1, zU S + n)
/-- other counters -/
def uX (S : Hp) (x u : Nat) : Hp := (zT S, zN S, zI S, zP S, zA S, zL S, zD S, zQ S, x, u)
/-- the fields that hold references: 32 times the class's number plus the place -/
def rfF (f : Nat) : Bool := [0, 32, 64, 65, 66, 67, 69, 96, 97, 98, 99, 101, 128, 160, 165, 166, 194, 195, 196, 197, 234, 235, 236, 237, 238, 239, 240, 288, 289, 290, 291, 292, 352, 384, 416, 417, 418, 421, 423, 424, 425, 426, 427, 428, 448, 449, 450, 452, 457, 458, 459, 460, 461, 464, 467].contains f
def nF (ci : Nat) : Nat := ((vwCl[ci]?).map (fun r => r.2.2)).getD 0
def fV (S : Hp) (ci a : Nat) : List Value := (List.range (nF ci)).map fun k => if rfF (32 * ci + k) = true then va_rf (zP S (32 * ci + k) a) else .int (zI S (32 * ci + k) a)
def aC (S : Hp) (t a : Nat) : vp_A := (zN S a, if 111 ≤ t then .inr (.inr (.inr (.inr (zQ S a)))) else if t = 102 then .inr (.inl (zL S a)) else if t = 103 then .inr (.inr (.inr (.inl (zD S a)))) else .inl (zA S a))
/-! what stays throughout: the launch, the classes' numbers and places, the array classes by type code, the base, the heap below it, the limits, the constants -/
abbrev GI : Type := Launch × va_G × (Nat → ClassId) × Nat × Heap × Nat × Nat × (Nat → Nat → Nat)
def gL (G : GI) : Launch := G.1
def gD (G : GI) : va_G := G.2.1
def gC (G : GI) : Nat → ClassId := G.2.2.1
def gB (G : GI) : Nat := G.2.2.2.1
def gH (G : GI) : Heap := G.2.2.2.2.1
def gN (G : GI) : Nat := G.2.2.2.2.2.1
def gM (G : GI) : Nat := G.2.2.2.2.2.2.1
def gK (G : GI) : Nat → Nat → Nat := G.2.2.2.2.2.2.2
def gA (G : GI) : Nat → Prop := fun q => gB G ≤ q
def gT (G : GI) : List (ClassId × FieldType) := [(gC G 101, .int), (gC G 102, .long), (gC G 103, .double), (gC G 104, .byte), (gC G 105, .char), (gC G 106, .boolean), (gC G 111, .object "LotInspector$Drawer"), (gC G 112, .object "LotInspector$Lot"), (gC G 113, .object "LotInspector$Machine"), (gC G 114, .object "LotInspector$Office"), (gC G 115, .object "LotInspector$Product")]
def zE (G : GI) (S : Hp) (a : Nat) : va_E := if zT S a ≤ 100 then .inr (zT S a - 1, fV S (zT S a - 1) a) else .inl (gC G (zT S a), aC S (zT S a) a)
def hsum (H : Heap) : Nat := (H.toList.map (fun c : Cell => c.slots.size)).sum
def WD (G : GI) (S : Hp) (H : Heap) : Prop := (∀ a, zT S a ≠ 0 → va_at (gD G) vwCl (a, zE G S a) H ∧ gB G ≤ a) ∧ H.size = zX S ∧ hsum H = zU S ∧ zX S ≤ gN G ∧ zU S ≤ gM G ∧ gB G ≤ zX S ∧ ∀ q, q < gB G → H[q]? = (gH G)[q]?
/-- the words of the tables that serve everywhere -/
def BIG : List Cond := lw_tbl.filter goodWord
theorem big_i {w : Cond} (i : Nat) (h : lw_tbl[i]? = some w) (hg : goodWord w = true) : w ∈ BIG := List.mem_filter.mpr ⟨List.mem_of_getElem? h, hg⟩
theorem big_good : GoodIn BIG BIG := fun w h => ⟨h, good_of_word (List.mem_filter.mp h).2⟩
/-- what is known of constants at the base (statics, texts): KF -/
def aoC : List String := ["LotInspector$Drawer", "LotInspector$Lot", "LotInspector$Machine", "LotInspector$Office", "LotInspector$Product"]
/-- the texts: nine words of commands, fourteen of reports; by their bytes -/
def strB : List (List Int32) := [[109, 97, 99, 104, 105, 110, 101], [112, 114, 111, 100, 117, 99, 116], [114, 97, 119], [109, 97, 107, 101], [105, 110, 115, 112, 101, 99, 116], [115, 111, 114, 116], [115, 104, 105, 112], [114, 101, 108, 101, 97, 115, 101], [115, 101, 101, 100], [108, 111, 116, 32], [58, 32, 112, 114, 111, 100, 117, 99, 116, 32], [44, 32], [32, 111, 102, 32], [32, 104, 101, 114, 101, 44, 32], [110, 111, 116, 32, 105, 110, 115, 112, 101, 99, 116, 101, 100], [110, 111, 114, 109, 97, 108], [116, 105, 103, 104, 116, 101, 110, 101, 100], [114, 101, 100, 117, 99, 101, 100], [44, 32, 102, 111, 117, 110, 100, 32], [119, 97, 105, 116, 105, 110, 103], [97, 99, 99, 101, 112, 116, 101, 100], [114, 101, 106, 101, 99, 116, 101, 100], [115, 104, 105, 112, 112, 101, 100]]
def strL : List Nat := strB.map List.length
/-- the entries that load them -/
def strR : List (String × Nat × String × Nat) := [("LotInspector$Report", 22, "lot ", 9), ("LotInspector$Report", 31, ": product ", 10), ("LotInspector$Report", 39, ", ", 11), ("LotInspector$Report", 45, " of ", 12), ("LotInspector$Report", 50, " here, ", 13), ("LotInspector$Report", 55, "not inspected", 14), ("LotInspector$Report", 84, "normal", 15), ("LotInspector$Report", 86, "tightened", 16), ("LotInspector$Report", 88, "reduced", 17), ("LotInspector$Report", 73, ", found ", 18), ("LotInspector$Report", 90, "waiting", 19), ("LotInspector$Report", 92, "accepted", 20), ("LotInspector$Report", 94, "rejected", 21), ("LotInspector$Report", 96, "shipped", 22), ("LotInspectorModel", 310, "machine", 0), ("LotInspectorModel", 312, "product", 1), ("LotInspectorModel", 314, "raw", 2), ("LotInspectorModel", 316, "make", 3), ("LotInspectorModel", 318, "inspect", 4), ("LotInspectorModel", 320, "sort", 5), ("LotInspectorModel", 322, "ship", 6), ("LotInspectorModel", 324, "release", 7), ("LotInspectorModel", 326, "seed", 8), ("LotInspectorModel", 396, "lot ", 9), ("LotInspectorModel", 405, ": product ", 10), ("LotInspectorModel", 407, ", ", 11), ("LotInspectorModel", 409, " of ", 12), ("LotInspectorModel", 411, " here, ", 13), ("LotInspectorModel", 413, "not inspected", 14), ("LotInspectorModel", 378, "normal", 15), ("LotInspectorModel", 380, "tightened", 16), ("LotInspectorModel", 382, "reduced", 17), ("LotInspectorModel", 421, ", found ", 18), ("LotInspectorModel", 384, "waiting", 19), ("LotInspectorModel", 386, "accepted", 20), ("LotInspectorModel", 388, "rejected", 21), ("LotInspectorModel", 390, "shipped", 22)]
def bandE (j : Nat) : Int32 := [8, 15, 25, 50, 90, 150].getD j 0
def sizeE (j : Nat) : Int32 := [2, 3, 5, 8, 13, 20, 32].getD j 0
def swMap (j : Nat) : Int32 := [1, 2, 3, 4, 5, 6, 7, 8, 9].getD j 0
def fewE (j : Nat) : Int32 := [3, 4, 3, 4, 1, 1, 1, 1, 1].getD j 0
def mostE (j : Nat) : Int32 := [3, 4, 3, 6, 1, 1, 1, 1, 1].getD j 0
def digT (j : Nat) : Int32 := nI (48 + j / 10)
def digO (j : Nat) : Int32 := nI (48 + j % 10)
/-! constants: family 0: static rows; 1: the words of commands; 2: texts; 3: their bytes -/
def KA (G : GI) (U : State) : Prop := va_Z "LotInspector$Product" "BAND_ENDS" "[I" (.ref (gK G 0 0)) (gA G) U (gH G) ∧ va_T .int (gK G 0 0) 6 (fun j => .int (bandE j)) (gA G) U (gH G) ∧
  va_Z "LotInspector$Product" "SIZES" "[I" (.ref (gK G 0 1)) (gA G) U (gH G) ∧ va_T .int (gK G 0 1) 7 (fun j => .int (sizeE j)) (gA G) U (gH G) ∧
  va_Z "LotInspector$1" "$SwitchMap$LotInspector$Word" "[I" (.ref (gK G 0 2)) (gA G) U (gH G) ∧ va_T .int (gK G 0 2) 9 (fun j => .int (swMap j)) (gA G) U (gH G) ∧
  va_Z "LotInspector$Commands" "WORDS" "[LLotInspector$Word;" (.ref (gK G 0 3)) (gA G) U (gH G) ∧ va_T (.object "LotInspector$Word") (gK G 0 3) 9 (fun j => .ref (gK G 1 j)) (gA G) U (gH G)
def KW (G : GI) (U : State) : Prop := ∀ k, k < 9 → va_O "LotInspector$Word" (gK G 1 k) (gA G) U (gH G) ∧ va_OF "java/lang/Enum" "ordinal" "I" (.int (nI k)) (gK G 1 k) (gA G) U (gH G) ∧ va_OF "LotInspector$Word" "letters" "Ljava/lang/String;" (.ref (gK G 2 k)) (gK G 1 k) (gA G) U (gH G) ∧ va_OF "LotInspector$Word" "fewest" "I" (.int (fewE k)) (gK G 1 k) (gA G) U (gH G) ∧ va_OF "LotInspector$Word" "most" "I" (.int (mostE k)) (gK G 1 k) (gA G) U (gH G)
def KS (G : GI) (U : State) : Prop := vk_S 23 strL strB (gK G 2) (gK G 3) (gA G) U (gH G) ∧ ∀ q ∈ strR, vk_R q.1 q.2.1 q.2.2.1 (gK G 2 q.2.2.2) U
def KJ (G : GI) (U : State) : Prop := va_Z "java/lang/String" "COMPACT_STRINGS" "Z" (.int 1) (gA G) U (gH G) ∧
  va_Z "java/lang/Integer" "DigitTens" "[B" (.ref (gK G 0 4)) (gA G) U (gH G) ∧ va_T .byte (gK G 0 4) 100 (fun j => .int (digT j)) (gA G) U (gH G) ∧
  va_Z "java/lang/Integer" "DigitOnes" "[B" (.ref (gK G 0 5)) (gA G) U (gH G) ∧ va_T .byte (gK G 0 5) 100 (fun j => .int (digO j)) (gA G) U (gH G) ∧
  va_Zq "jdk/internal/util/Preconditions" "SIOOBE_FORMATTER" "Ljava/util/function/BiFunction;" (gA G) U (gH G)
def KF (G : GI) (U : State) : Prop := (vx_Zq Bundle.tN "UNASSIGNED_STACK" Bundle.steD (gA G) U (gH G) ∧ vx_Zq Bundle.tN "SUPPRESSED_SENTINEL" Bundle.listD (gA G) U (gH G) ∧ ∀ C ∈ aoC, va_AO C U) ∧ KA G U ∧ KW G U ∧ KS G U ∧ KJ G U
def isNest : Cond → Bool
  | .methodLinkNest .. => true
  | .fieldLinkNest .. => true
  | .castable .. => true
  | .declares _ => true
  | .privateMethod _ => true
  | _ => false
def isCold : Cond → Bool
  | .castable .. => true
  | .declares _ => true
  | .privateMethod _ => true
  | _ => false
theorem cold_face {w : Cond} (h : isCold w = true) : w.faceAtom = true ∧ w.onTables = true := by
  cases w <;> first | (simp [isCold] at h; done) | exact ⟨rfl, rfl⟩
theorem nest_tab {w : Cond} (h : isNest w = true) : w.onTables = true := by
  cases w <;> first | (simp [isNest] at h; done) | rfl
def nW (w : Cond) (u : State) : Prop := (isCold w = false → va_Nw w u) ∧ (isCold w = true → ∀ args, w.before args u = true)
/-- what is thrown is none of what is caught before -/
def ncL : List (String × String) := [("java/lang/IllegalArgumentException", "java/lang/IndexOutOfBoundsException"), ("java/lang/IllegalStateException", "java/lang/IndexOutOfBoundsException"), ("java/lang/IllegalStateException", "java/lang/IllegalArgumentException"), ("java/util/NoSuchElementException", "java/lang/IndexOutOfBoundsException"), ("java/util/NoSuchElementException", "java/lang/IllegalStateException"), ("java/util/NoSuchElementException", "java/lang/IllegalArgumentException"), ("java/lang/ArithmeticException", "java/lang/IndexOutOfBoundsException"), ("java/lang/UnsupportedOperationException", "java/lang/IndexOutOfBoundsException"), ("java/lang/UnsupportedOperationException", "java/lang/IllegalStateException")]
def NST : List Cond := lw_tbl.filter isNest
theorem nst_i {w : Cond} (i : Nat) (h : lw_tbl[i]? = some w) (hg : isNest w = true) : w ∈ NST := List.mem_filter.mpr ⟨List.mem_of_getElem? h, hg⟩
/-- the script, which is only read, and lies below the base: its cell is an array of ints -/
def KX (G : GI) (U : State) : Prop := ∀ scr : Cell, (gH G)[gK G 5 0]? = some scr → U.isArrayOf scr .int
def KK (G : GI) (U : State) : Prop := va_K (gD G) vwCl (gT G) U ∧ KF G U ∧ (gH G).size = gB G ∧ (gL G).stackTraces = false ∧ (∀ w ∈ NST, nW w U) ∧ (∀ q ∈ ncL, va_Nc q.1 q.2 U) ∧ KX G U
theorem KF.warm {G : GI} {u U : State} (hW : u.WarmedH U.vm) (k : KF G u) : KF G U := by
  have h := hW.alike
  obtain ⟨⟨k1, k2, k3⟩, ⟨a1, a2, a3, a4, a5, a6, a7, a8⟩, kw, ⟨s1, s2⟩, j1, j2, j3, j4, j5, j6⟩ := k
  exact ⟨⟨vx_Zq.moved h k1, vx_Zq.moved h k2, fun C hC => va_AO.moved h (k3 C hC)⟩, ⟨va_Z.moved h a1, va_T.moved h a2, va_Z.moved h a3, va_T.moved h a4, va_Z.moved h a5, va_T.moved h a6, va_Z.moved h a7, va_T.moved h a8⟩,
    fun k hk => ⟨va_O.moved h (kw k hk).1, va_OF.moved h (kw k hk).2.1, va_OF.moved h (kw k hk).2.2.1, va_OF.moved h (kw k hk).2.2.2.1, va_OF.moved h (kw k hk).2.2.2.2⟩, ⟨vk_S.moved h s1, fun q hq => vk_R.warm hW (s2 q hq)⟩,
    va_Z.moved h j1, va_Z.moved h j2, va_T.moved h j3, va_Z.moved h j4, va_T.moved h j5, va_Zq.moved h j6⟩
theorem nst_warm {u U : State} (h : u.WarmedH U.vm) (k : ∀ w ∈ NST, nW w u) : ∀ w ∈ NST, nW w U := by
  intro w hw
  have h0 := k w hw
  have h2 := (List.mem_filter.mp hw).2
  refine ⟨fun hc => ?_, fun hc args => ?_⟩
  · have h1 := h0.1 hc
    cases w <;> first | exact va_Nw.warmM h h1 | exact va_Nw.warmF h h1 | (simp [isNest] at h2; done) | (simp [isCold] at hc; done)
  · obtain ⟨f1, f2⟩ := cold_face hc
    have e := Cond.faceAtom_setVm (args := args) h.alike w f1 (h0.2 hc args)
    rw [Cond.onTables_vm (A' := args) (U' := U) U.vm w f2] at e
    exact e
theorem KK.warm {G : GI} {u U : State} (h : u.WarmedH U.vm) (k : KK G u) : KK G U := ⟨va_K.moved h.alike k.1, KF.warm h k.2.1, k.2.2.1, k.2.2.2.1, nst_warm h k.2.2.2.2.1, fun q hq => va_Nc.moved h.alike (k.2.2.2.2.2.1 q hq), fun scr hs => State.isArrayOf_alike h.alike (k.2.2.2.2.2.2 scr hs)⟩
theorem KK.same {G : GI} {u U : State} (h : u.vm = U.vm) (k : KK G u) : KK G U := KK.warm (h ▸ State.WarmedH.refl u) k
theorem KK.nest {G : GI} {s : State} {args : Array Value} {w : Cond} (k : KK G s) (hw : w ∈ NST) : w.before args s = true := by
  have h0 := k.2.2.2.2.1 w hw
  have h2 := (List.mem_filter.mp hw).2
  cases hc : isCold w with
  | true => exact h0.2 hc args
  | false =>
    have h1 := h0.1 hc
    cases w <;> first | exact va_Nw.use rfl h1 | (simp [isNest] at h2; done) | (simp [isCold] at hc; done)
/-! a method: name, bytes, locals, answer's type, depth, handlers -/
abbrev MI : Type := MethodName × ByteArray × Nat × Option FieldType × Nat × List (Nat × Nat × Nat × Nat)
abbrev mY (M : MI) : MethodName := M.1
abbrev mB (M : MI) : ByteArray := M.2.1
abbrev mN (M : MI) : Nat := M.2.2.1
abbrev mR (M : MI) : Option FieldType := M.2.2.2.1
abbrev mD (M : MI) : Nat := M.2.2.2.2.1
abbrev mH (M : MI) : List (Nat × Nat × Nat × Nat) := M.2.2.2.2.2
abbrev OV : Type := Option Value ⊕ String
def QcO (G : GI) (Q : OV → Hp → Prop) : Array Value → State → Outcome → State → Prop := fun _ _ o t => ∃ v S', o = .returned v ∧ Q (.inl v) S' ∧ WD G S' t.heap
def XcO (G : GI) (Q : OV → Hp → Prop) : String → State → State → Prop := fun E _ t => ∃ S', Q (.inr E) S' ∧ WD G S' t.heap
/-- the machine as it stands in a method's body -/
def CX (M : MI) (G : GI) (p : Program) (R : Room) (s : State) (m : MethodId) (args : Array Value) (meth : Method) (c : Code) : Prop :=
  p.tables.exec = Jvm.exec ∧ c.code = mB M ∧ c.maxLocals = mN M ∧ meth.sig.returnType = mR M ∧ s.vm.findClass (mY M).cls = some m.cls ∧ (∀ w ∈ BIG, w.before args s = true) ∧ meth.locks = false ∧ ((mY M).name = "<init>" → meth.name = "<init>") ∧ KK G s ∧
  (s.heap.size + R.cells = gN G ∧ hsum s.heap + R.slots = gM G ∧ (∀ q, q < gB G → s.heap[q]? = (gH G)[q]?) ∧ gB G ≤ s.heap.size) ∧ mD M ≤ R.frames ∧ 40 * mD M ≤ R.locals ∧ c.exceptionTable.toList = tableOf (mH M)
def Wx (M : MI) (G : GI) (S : Hp) (pc : Nat) (lv : List (Nat × Value)) (st : List Value) (Q : OV → Hp → Prop) : Prop :=
  ∀ (p : Program) (e : Env) (R : Room) (s : State) (m : MethodId) (args : Array Value) (below : List Frame) (meth : Method) (c : Code), CX M G p R s m args meth c →
    ∀ (H : Heap) (locs : List Loc) (cells slots : Nat) (ls : Array Slot), WD G S H → s.heap.size + cells = zX S → hsum s.heap + slots = zU S → (∀ q ∈ locs, gB G ≤ q.base) → lv_has ls (mN M) lv →
      W p (gL G) e R s m args below meth c H locs cells slots (vx_MQ below (QcO G Q) (XcO G Q) args s R.cells R.slots (fun q => gB G ≤ q)) (F0 m pc ls st)
/-- a method's contract: from these arguments and this heap it comes to Q -/
def Cn (M : MI) (G : GI) (av : List Value) (S : Hp) (Q : OV → Hp → Prop) : Prop :=
  vx_Met (gL G) (mY M) (Cond.code (mY M) (mB M) (mN M) (mR M) :: BIG) { frames := mD M, cells := gN G - zX S, slots := gM G - zU S, locals := 40 * mD M } (va_Pc av (fun U => WD G S U.heap ∧ KK G U)) (QcO G Q) (XcO G Q) (gN G - zX S) (gM G - zU S) (fun q => gB G ≤ q)
section ZL
variable (S : Hp)
theorem zI_uI (f a : Nat) (x : Int32) (g b : Nat) : zI (uI S f a x) g b = if g = f ∧ b = a then x else zI S g b := rfl
theorem zP_uP (f a : Nat) (x : Option Nat) (g b : Nat) : zP (uP S f a x) g b = if g = f ∧ b = a then x else zP S g b := rfl
theorem zA_uA (a i : Nat) (x : Int32) (b j : Nat) : zA (uA S a i x) b j = if b = a ∧ j = i then x else zA S b j := rfl
theorem zL_uL (a i : Nat) (x : Int64) (b j : Nat) : zL (uL S a i x) b j = if b = a ∧ j = i then x else zL S b j := rfl
theorem zD_uD (a i : Nat) (x : UInt64) (b j : Nat) : zD (uD S a i x) b j = if b = a ∧ j = i then x else zD S b j := rfl
theorem zQ_uQ (a i : Nat) (x : Option Nat) (b j : Nat) : zQ (uQ S a i x) b j = if b = a ∧ j = i then x else zQ S b j := rfl
end ZL
/-! the world behind a store, behind a making -/
theorem hsum_eq {H H' : Heap} (hz : H'.size = H.size) (h : ∀ (q : Nat) (c' : Cell), H'[q]? = some c' → ∃ c : Cell, H[q]? = some c ∧ c'.slots.size = c.slots.size) : hsum H' = hsum H := by
  unfold hsum
  congr 1
  apply List.ext_getElem?
  intro i
  rw [List.getElem?_map, List.getElem?_map, Array.getElem?_toList, Array.getElem?_toList]
  cases h1 : H'[i]? with
  | none =>
    have : H[i]? = none := by
      rw [Array.getElem?_eq_none_iff] at h1 ⊢
      omega
    rw [this]
  | some c' =>
    obtain ⟨c, h2, h3⟩ := h i c' h1
    rw [h2]
    simp [h3]
theorem hsum_push {H H' : Heap} {c : Cell} (hz : H'.size = H.size + 1) (hn : H'[H.size]? = some c) (ho : ∀ q, q < H.size → H'[q]? = H[q]?) : hsum H' = hsum H + c.slots.size := by
  have e : H'.toList = H.toList ++ [c] := by
    apply List.ext_getElem?
    intro i
    rw [Array.getElem?_toList]
    rcases Nat.lt_trichotomy i H.size with h | h | h
    · rw [ho i h, List.getElem?_append_left (by simpa using h), Array.getElem?_toList]
    · subst h
      rw [hn, List.getElem?_append_right (by simp)]
      simp
    · rw [Array.getElem?_eq_none (by omega), List.getElem?_eq_none]
      simp; omega
  unfold hsum
  rw [e]
  simp
theorem zE_obj {G : GI} {S : Hp} {a ci : Nat} (h : zT S a = ci + 1) (hc : ci < 100) : zE G S a = .inr (ci, fV S ci a) := by
  unfold zE
  rw [h, if_pos (by omega)]
  rfl
theorem zE_row {G : GI} {S : Hp} {a t : Nat} (h : zT S a = t) (ht : 100 < t) : zE G S a = .inl (gC G t, aC S t a) := by
  unfold zE
  rw [h, if_neg (by omega)]
theorem WD.put {G : GI} {S S' : Hp} {H H' : Heap} {a : Nat} {c c' : Cell} (w : WD G S H) (ha : zT S a ≠ 0) (hT : zT S' = zT S) (hX : zX S' = zX S) (hU : zU S' = zU S) (hE : ∀ b, b ≠ a → zE G S' b = zE G S b)
    (hc : H[a]? = some c) (hc' : H'[a]? = some c') (hs : c'.slots.size = c.slots.size) (hz : H'.size = H.size) (ho : ∀ q, q ≠ a → H'[q]? = H[q]?) (hat : va_at (gD G) vwCl (a, zE G S' a) H') : WD G S' H' := by
  obtain ⟨w1, w2, w3, w4, w5, w6, w7⟩ := w
  refine ⟨fun b hb => ?_, by rw [hz, hX]; exact w2, ?_, by rw [hX]; exact w4, by rw [hU]; exact w5, by rw [hX]; exact w6, fun q hq => ?_⟩
  · rw [hT] at hb
    refine ⟨?_, (w1 b hb).2⟩
    by_cases e : b = a
    · subst e; exact hat
    · rw [hE b e]
      exact (w1 b hb).1.kept (ho b e)
  · rw [hU, ← w3]
    refine hsum_eq hz fun q c9 h9 => ?_
    by_cases e : q = a
    · subst e
      rw [hc'] at h9
      cases h9
      exact ⟨c, hc, hs⟩
    · rw [ho q e] at h9
      exact ⟨c9, h9, rfl⟩
  · have := (w1 a ha).2
    rw [ho q (by omega)]
    exact w7 q hq
theorem WD.mk {G : GI} {S S' : Hp} {H H' : Heap} {c : Cell} {t n : Nat} (w : WD G S H) (hT : zT S' = up1 (zT S) (zX S) t) (hX : zX S' = zX S + 1) (hU : zU S' = zU S + n) (hE : ∀ b, b ≠ zX S → zT S b ≠ 0 → zE G S' b = zE G S b)
    (hc : H'[H.size]? = some c) (hs : c.slots.size = n) (hz : H'.size = H.size + 1) (ho : ∀ q, q < H.size → H'[q]? = H[q]?) (hat : va_at (gD G) vwCl (zX S, zE G S' (zX S)) H') (hl : zX S + 1 ≤ gN G) (hm : zU S + n ≤ gM G) : WD G S' H' := by
  obtain ⟨w1, w2, w3, w4, w5, w6, w7⟩ := w
  refine ⟨fun b hb => ?_, by rw [hz, hX, w2], ?_, by rw [hX]; exact hl, by rw [hU]; exact hm, by rw [hX]; omega, fun q hq => ?_⟩
  · by_cases e : b = zX S
    · subst e; exact ⟨hat, w6⟩
    · have hb' : zT S b ≠ 0 := by
        rw [hT] at hb
        simpa [up1, e] using hb
      refine ⟨?_, (w1 b hb').2⟩
      rw [hE b e hb']
      exact (w1 b hb').1.kept (ho b (w1 b hb').1.lt)
  · rw [hU, ← w3, hsum_push hz hc ho, hs]
  · rw [ho q (by omega)]
    exact w7 q hq
/-- addresses from the next one on are free -/
theorem WD.fresh {G : GI} {S : Hp} {H : Heap} (w : WD G S H) {a : Nat} (h : zX S ≤ a) : zT S a = 0 := by
  by_cases e : zT S a = 0
  · exact e
  · have := (w.1 a e).1.lt
    have := w.2.1
    simp at *
    omega

section Rules
variable {M : MI} {G : GI} {S : Hp} {pc : Nat} {lv : List (Nat × Value)} {st : List Value} {Q : OV → Hp → Prop}
theorem r_iconst {n : Int} {v : Int32} (hd : decode (mB M) pc = .ok (.iconst n, 1)) (hv : Int32.ofInt n = v) (kk : Wx M G S (pc + 1) lv (.int v :: st) Q) : Wx M G S pc lv st Q := by
  intro p e R s m args below meth c C0 H locs cells slots ls hW hc hs hl hlv
  obtain ⟨hx, hb, hml, hr, hown, hts, hlk, hin0, hK, hbase, hfr, hlo, htb⟩ := id C0
  exact lv_iconst hx hb hd hv (kk p e R s m args below meth c C0 H locs cells slots ls hW hc hs hl hlv)
theorem r_bipush {n : Int} {v : Int32} (hd : decode (mB M) pc = .ok (.bipush n, 2)) (hv : (Int8.ofInt n).toInt32 = v) (kk : Wx M G S (pc + 2) lv (.int v :: st) Q) : Wx M G S pc lv st Q := by
  intro p e R s m args below meth c C0 H locs cells slots ls hW hc hs hl hlv
  obtain ⟨hx, hb, hml, hr, hown, hts, hlk, hin0, hK, hbase, hfr, hlo, htb⟩ := id C0
  exact lv_bipush hx hb hd hv (kk p e R s m args below meth c C0 H locs cells slots ls hW hc hs hl hlv)
theorem r_sipush {n : Int} {v : Int32} (hd : decode (mB M) pc = .ok (.sipush n, 3)) (hv : (Int16.ofInt n).toInt32 = v) (kk : Wx M G S (pc + 3) lv (.int v :: st) Q) : Wx M G S pc lv st Q := by
  intro p e R s m args below meth c C0 H locs cells slots ls hW hc hs hl hlv
  obtain ⟨hx, hb, hml, hr, hown, hts, hlk, hin0, hK, hbase, hfr, hlo, htb⟩ := id C0
  exact lv_sipush hx hb hd hv (kk p e R s m args below meth c C0 H locs cells slots ls hW hc hs hl hlv)
theorem r_lconst {n : Fin 2} {v : Int64} (hd : decode (mB M) pc = .ok (.lconst n, 1)) (hv : Int64.ofNat (n : Nat) = v) (kk : Wx M G S (pc + 1) lv (.long v :: st) Q) : Wx M G S pc lv st Q := by
  intro p e R s m args below meth c C0 H locs cells slots ls hW hc hs hl hlv
  obtain ⟨hx, hb, hml, hr, hown, hts, hlk, hin0, hK, hbase, hfr, hlo, htb⟩ := id C0
  exact lv_lconst hx hb hd hv (kk p e R s m args below meth c C0 H locs cells slots ls hW hc hs hl hlv)
theorem r_iload_n {k : Fin 4} {i : Nat} {x : Int32} (hd : decode (mB M) pc = .ok (.iload_n k, 1)) (hi : (k : Nat) = i) (j : Nat) (hj : lv[j]? = some (i, .int x)) (kk : Wx M G S (pc + 1) lv (.int x :: st) Q) : Wx M G S pc lv st Q := by
  intro p e R s m args below meth c C0 H locs cells slots ls hW hc hs hl hlv
  obtain ⟨hx, hb, hml, hr, hown, hts, hlk, hin0, hK, hbase, hfr, hlo, htb⟩ := id C0
  exact lv_iload_n hx hb hd hi (lv_at hlv j hj) (kk p e R s m args below meth c C0 H locs cells slots ls hW hc hs hl hlv)
theorem r_iload {i : Nat} {x : Int32} (hd : decode (mB M) pc = .ok (.iload i, 2)) (j : Nat) (hj : lv[j]? = some (i, .int x)) (kk : Wx M G S (pc + 2) lv (.int x :: st) Q) : Wx M G S pc lv st Q := by
  intro p e R s m args below meth c C0 H locs cells slots ls hW hc hs hl hlv
  obtain ⟨hx, hb, hml, hr, hown, hts, hlk, hin0, hK, hbase, hfr, hlo, htb⟩ := id C0
  exact lv_iload hx hb hd (lv_at hlv j hj) (kk p e R s m args below meth c C0 H locs cells slots ls hW hc hs hl hlv)
theorem r_istore_n {k : Fin 4} {i : Nat} {x : Int32} {lv' : List (Nat × Value)} (hd : decode (mB M) pc = .ok (.istore_n k, 1)) (hi : (k : Nat) = i) (hn : i < mN M) (hq : (i, Value.int x) :: lv.filter (fun q => !(q.1 == i) && !(q.1 + 1 == i && q.2.category == 2)) = lv') (kk : Wx M G S (pc + 1) lv' st Q) : Wx M G S pc lv (.int x :: st) Q := by
  intro p e R s m args below meth c C0 H locs cells slots ls hW hc hs hl hlv
  obtain ⟨hx, hb, hml, hr, hown, hts, hlk, hin0, hK, hbase, hfr, hlo, htb⟩ := id C0
  exact lv_istore_n hx hb hd hi hlv hn hq (fun ls' h' => (kk p e R s m args below meth c C0 H locs cells slots ls' hW hc hs hl h'))
theorem r_istore {i : Nat} {x : Int32} {lv' : List (Nat × Value)} (hd : decode (mB M) pc = .ok (.istore i, 2)) (hn : i < mN M) (hq : (i, Value.int x) :: lv.filter (fun q => !(q.1 == i) && !(q.1 + 1 == i && q.2.category == 2)) = lv') (kk : Wx M G S (pc + 2) lv' st Q) : Wx M G S pc lv (.int x :: st) Q := by
  intro p e R s m args below meth c C0 H locs cells slots ls hW hc hs hl hlv
  obtain ⟨hx, hb, hml, hr, hown, hts, hlk, hin0, hK, hbase, hfr, hlo, htb⟩ := id C0
  exact lv_istore hx hb hd hlv hn hq (fun ls' h' => (kk p e R s m args below meth c C0 H locs cells slots ls' hW hc hs hl h'))
theorem r_lload_n {k : Fin 4} {i : Nat} {x : Int64} (hd : decode (mB M) pc = .ok (.lload_n k, 1)) (hi : (k : Nat) = i) (j : Nat) (hj : lv[j]? = some (i, .long x)) (kk : Wx M G S (pc + 1) lv (.long x :: st) Q) : Wx M G S pc lv st Q := by
  intro p e R s m args below meth c C0 H locs cells slots ls hW hc hs hl hlv
  obtain ⟨hx, hb, hml, hr, hown, hts, hlk, hin0, hK, hbase, hfr, hlo, htb⟩ := id C0
  exact lv_lload_n hx hb hd hi (lv_at hlv j hj) (kk p e R s m args below meth c C0 H locs cells slots ls hW hc hs hl hlv)
theorem r_lload {i : Nat} {x : Int64} (hd : decode (mB M) pc = .ok (.lload i, 2)) (j : Nat) (hj : lv[j]? = some (i, .long x)) (kk : Wx M G S (pc + 2) lv (.long x :: st) Q) : Wx M G S pc lv st Q := by
  intro p e R s m args below meth c C0 H locs cells slots ls hW hc hs hl hlv
  obtain ⟨hx, hb, hml, hr, hown, hts, hlk, hin0, hK, hbase, hfr, hlo, htb⟩ := id C0
  exact lv_lload hx hb hd (lv_at hlv j hj) (kk p e R s m args below meth c C0 H locs cells slots ls hW hc hs hl hlv)
theorem r_lstore_n {k : Fin 4} {i : Nat} {x : Int64} {lv' : List (Nat × Value)} (hd : decode (mB M) pc = .ok (.lstore_n k, 1)) (hi : (k : Nat) = i) (hn : i + 1 < mN M) (hq : (i, Value.long x) :: lv.filter (fun q => !(q.1 == i) && (!(q.1 == i + 1) && !(q.1 + 1 == i && q.2.category == 2))) = lv') (kk : Wx M G S (pc + 1) lv' st Q) : Wx M G S pc lv (.long x :: st) Q := by
  intro p e R s m args below meth c C0 H locs cells slots ls hW hc hs hl hlv
  obtain ⟨hx, hb, hml, hr, hown, hts, hlk, hin0, hK, hbase, hfr, hlo, htb⟩ := id C0
  exact lv_lstore_n hx hb hd hi hlv hn hq (fun ls' h' => (kk p e R s m args below meth c C0 H locs cells slots ls' hW hc hs hl h'))
theorem r_lstore {i : Nat} {x : Int64} {lv' : List (Nat × Value)} (hd : decode (mB M) pc = .ok (.lstore i, 2)) (hn : i + 1 < mN M) (hq : (i, Value.long x) :: lv.filter (fun q => !(q.1 == i) && (!(q.1 == i + 1) && !(q.1 + 1 == i && q.2.category == 2))) = lv') (kk : Wx M G S (pc + 2) lv' st Q) : Wx M G S pc lv (.long x :: st) Q := by
  intro p e R s m args below meth c C0 H locs cells slots ls hW hc hs hl hlv
  obtain ⟨hx, hb, hml, hr, hown, hts, hlk, hin0, hK, hbase, hfr, hlo, htb⟩ := id C0
  exact lv_lstore hx hb hd hlv hn hq (fun ls' h' => (kk p e R s m args below meth c C0 H locs cells slots ls' hW hc hs hl h'))
theorem r_aload_n {k : Fin 4} {i : Nat} {x : Nat} (hd : decode (mB M) pc = .ok (.aload_n k, 1)) (hi : (k : Nat) = i) (j : Nat) (hj : lv[j]? = some (i, .ref x)) (kk : Wx M G S (pc + 1) lv (.ref x :: st) Q) : Wx M G S pc lv st Q := by
  intro p e R s m args below meth c C0 H locs cells slots ls hW hc hs hl hlv
  obtain ⟨hx, hb, hml, hr, hown, hts, hlk, hin0, hK, hbase, hfr, hlo, htb⟩ := id C0
  exact lv_aload_n hx hb hd hi (lv_at hlv j hj) (kk p e R s m args below meth c C0 H locs cells slots ls hW hc hs hl hlv)
theorem r_aload {i : Nat} {x : Nat} (hd : decode (mB M) pc = .ok (.aload i, 2)) (j : Nat) (hj : lv[j]? = some (i, .ref x)) (kk : Wx M G S (pc + 2) lv (.ref x :: st) Q) : Wx M G S pc lv st Q := by
  intro p e R s m args below meth c C0 H locs cells slots ls hW hc hs hl hlv
  obtain ⟨hx, hb, hml, hr, hown, hts, hlk, hin0, hK, hbase, hfr, hlo, htb⟩ := id C0
  exact lv_aload hx hb hd (lv_at hlv j hj) (kk p e R s m args below meth c C0 H locs cells slots ls hW hc hs hl hlv)
theorem r_astore_n {k : Fin 4} {i : Nat} {x : Nat} {lv' : List (Nat × Value)} (hd : decode (mB M) pc = .ok (.astore_n k, 1)) (hi : (k : Nat) = i) (hn : i < mN M) (hq : (i, Value.ref x) :: lv.filter (fun q => !(q.1 == i) && !(q.1 + 1 == i && q.2.category == 2)) = lv') (kk : Wx M G S (pc + 1) lv' st Q) : Wx M G S pc lv (.ref x :: st) Q := by
  intro p e R s m args below meth c C0 H locs cells slots ls hW hc hs hl hlv
  obtain ⟨hx, hb, hml, hr, hown, hts, hlk, hin0, hK, hbase, hfr, hlo, htb⟩ := id C0
  exact lv_astore_n hx hb hd hi hlv hn hq (fun ls' h' => (kk p e R s m args below meth c C0 H locs cells slots ls' hW hc hs hl h'))
theorem r_astore {i : Nat} {x : Nat} {lv' : List (Nat × Value)} (hd : decode (mB M) pc = .ok (.astore i, 2)) (hn : i < mN M) (hq : (i, Value.ref x) :: lv.filter (fun q => !(q.1 == i) && !(q.1 + 1 == i && q.2.category == 2)) = lv') (kk : Wx M G S (pc + 2) lv' st Q) : Wx M G S pc lv (.ref x :: st) Q := by
  intro p e R s m args below meth c C0 H locs cells slots ls hW hc hs hl hlv
  obtain ⟨hx, hb, hml, hr, hown, hts, hlk, hin0, hK, hbase, hfr, hlo, htb⟩ := id C0
  exact lv_astore hx hb hd hlv hn hq (fun ls' h' => (kk p e R s m args below meth c C0 H locs cells slots ls' hW hc hs hl h'))
theorem r_fload_n {k : Fin 4} {i : Nat} {x : UInt32} (hd : decode (mB M) pc = .ok (.fload_n k, 1)) (hi : (k : Nat) = i) (j : Nat) (hj : lv[j]? = some (i, .float x)) (kk : Wx M G S (pc + 1) lv (.float x :: st) Q) : Wx M G S pc lv st Q := by
  intro p e R s m args below meth c C0 H locs cells slots ls hW hc hs hl hlv
  obtain ⟨hx, hb, hml, hr, hown, hts, hlk, hin0, hK, hbase, hfr, hlo, htb⟩ := id C0
  exact lv_fload_n hx hb hd hi (lv_at hlv j hj) (kk p e R s m args below meth c C0 H locs cells slots ls hW hc hs hl hlv)
theorem r_fload {i : Nat} {x : UInt32} (hd : decode (mB M) pc = .ok (.fload i, 2)) (j : Nat) (hj : lv[j]? = some (i, .float x)) (kk : Wx M G S (pc + 2) lv (.float x :: st) Q) : Wx M G S pc lv st Q := by
  intro p e R s m args below meth c C0 H locs cells slots ls hW hc hs hl hlv
  obtain ⟨hx, hb, hml, hr, hown, hts, hlk, hin0, hK, hbase, hfr, hlo, htb⟩ := id C0
  exact lv_fload hx hb hd (lv_at hlv j hj) (kk p e R s m args below meth c C0 H locs cells slots ls hW hc hs hl hlv)
theorem r_fstore_n {k : Fin 4} {i : Nat} {x : UInt32} {lv' : List (Nat × Value)} (hd : decode (mB M) pc = .ok (.fstore_n k, 1)) (hi : (k : Nat) = i) (hn : i < mN M) (hq : (i, Value.float x) :: lv.filter (fun q => !(q.1 == i) && !(q.1 + 1 == i && q.2.category == 2)) = lv') (kk : Wx M G S (pc + 1) lv' st Q) : Wx M G S pc lv (.float x :: st) Q := by
  intro p e R s m args below meth c C0 H locs cells slots ls hW hc hs hl hlv
  obtain ⟨hx, hb, hml, hr, hown, hts, hlk, hin0, hK, hbase, hfr, hlo, htb⟩ := id C0
  exact lv_fstore_n hx hb hd hi hlv hn hq (fun ls' h' => (kk p e R s m args below meth c C0 H locs cells slots ls' hW hc hs hl h'))
theorem r_fstore {i : Nat} {x : UInt32} {lv' : List (Nat × Value)} (hd : decode (mB M) pc = .ok (.fstore i, 2)) (hn : i < mN M) (hq : (i, Value.float x) :: lv.filter (fun q => !(q.1 == i) && !(q.1 + 1 == i && q.2.category == 2)) = lv') (kk : Wx M G S (pc + 2) lv' st Q) : Wx M G S pc lv (.float x :: st) Q := by
  intro p e R s m args below meth c C0 H locs cells slots ls hW hc hs hl hlv
  obtain ⟨hx, hb, hml, hr, hown, hts, hlk, hin0, hK, hbase, hfr, hlo, htb⟩ := id C0
  exact lv_fstore hx hb hd hlv hn hq (fun ls' h' => (kk p e R s m args below meth c C0 H locs cells slots ls' hW hc hs hl h'))
theorem r_dload_n {k : Fin 4} {i : Nat} {x : UInt64} (hd : decode (mB M) pc = .ok (.dload_n k, 1)) (hi : (k : Nat) = i) (j : Nat) (hj : lv[j]? = some (i, .double x)) (kk : Wx M G S (pc + 1) lv (.double x :: st) Q) : Wx M G S pc lv st Q := by
  intro p e R s m args below meth c C0 H locs cells slots ls hW hc hs hl hlv
  obtain ⟨hx, hb, hml, hr, hown, hts, hlk, hin0, hK, hbase, hfr, hlo, htb⟩ := id C0
  exact lv_dload_n hx hb hd hi (lv_at hlv j hj) (kk p e R s m args below meth c C0 H locs cells slots ls hW hc hs hl hlv)
theorem r_dload {i : Nat} {x : UInt64} (hd : decode (mB M) pc = .ok (.dload i, 2)) (j : Nat) (hj : lv[j]? = some (i, .double x)) (kk : Wx M G S (pc + 2) lv (.double x :: st) Q) : Wx M G S pc lv st Q := by
  intro p e R s m args below meth c C0 H locs cells slots ls hW hc hs hl hlv
  obtain ⟨hx, hb, hml, hr, hown, hts, hlk, hin0, hK, hbase, hfr, hlo, htb⟩ := id C0
  exact lv_dload hx hb hd (lv_at hlv j hj) (kk p e R s m args below meth c C0 H locs cells slots ls hW hc hs hl hlv)
theorem r_dstore_n {k : Fin 4} {i : Nat} {x : UInt64} {lv' : List (Nat × Value)} (hd : decode (mB M) pc = .ok (.dstore_n k, 1)) (hi : (k : Nat) = i) (hn : i + 1 < mN M) (hq : (i, Value.double x) :: lv.filter (fun q => !(q.1 == i) && (!(q.1 == i + 1) && !(q.1 + 1 == i && q.2.category == 2))) = lv') (kk : Wx M G S (pc + 1) lv' st Q) : Wx M G S pc lv (.double x :: st) Q := by
  intro p e R s m args below meth c C0 H locs cells slots ls hW hc hs hl hlv
  obtain ⟨hx, hb, hml, hr, hown, hts, hlk, hin0, hK, hbase, hfr, hlo, htb⟩ := id C0
  exact lv_dstore_n hx hb hd hi hlv hn hq (fun ls' h' => (kk p e R s m args below meth c C0 H locs cells slots ls' hW hc hs hl h'))
theorem r_dstore {i : Nat} {x : UInt64} {lv' : List (Nat × Value)} (hd : decode (mB M) pc = .ok (.dstore i, 2)) (hn : i + 1 < mN M) (hq : (i, Value.double x) :: lv.filter (fun q => !(q.1 == i) && (!(q.1 == i + 1) && !(q.1 + 1 == i && q.2.category == 2))) = lv') (kk : Wx M G S (pc + 2) lv' st Q) : Wx M G S pc lv (.double x :: st) Q := by
  intro p e R s m args below meth c C0 H locs cells slots ls hW hc hs hl hlv
  obtain ⟨hx, hb, hml, hr, hown, hts, hlk, hin0, hK, hbase, hfr, hlo, htb⟩ := id C0
  exact lv_dstore hx hb hd hlv hn hq (fun ls' h' => (kk p e R s m args below meth c C0 H locs cells slots ls' hW hc hs hl h'))
theorem r_aload_nN {k : Fin 4} {i : Nat} (hd : decode (mB M) pc = .ok (.aload_n k, 1)) (hi : (k : Nat) = i) (j : Nat) (hj : lv[j]? = some (i, .null)) (kk : Wx M G S (pc + 1) lv (.null :: st) Q) : Wx M G S pc lv st Q := by
  intro p e R s m args below meth c C0 H locs cells slots ls hW hc hs hl hlv
  obtain ⟨hx, hb, hml, hr, hown, hts, hlk, hin0, hK, hbase, hfr, hlo, htb⟩ := id C0
  exact lv_aload_nN hx hb hd hi (lv_at hlv j hj) (kk p e R s m args below meth c C0 H locs cells slots ls hW hc hs hl hlv)
theorem r_aloadN {i : Nat} (hd : decode (mB M) pc = .ok (.aload i, 2)) (j : Nat) (hj : lv[j]? = some (i, .null)) (kk : Wx M G S (pc + 2) lv (.null :: st) Q) : Wx M G S pc lv st Q := by
  intro p e R s m args below meth c C0 H locs cells slots ls hW hc hs hl hlv
  obtain ⟨hx, hb, hml, hr, hown, hts, hlk, hin0, hK, hbase, hfr, hlo, htb⟩ := id C0
  exact lv_aloadN hx hb hd (lv_at hlv j hj) (kk p e R s m args below meth c C0 H locs cells slots ls hW hc hs hl hlv)
theorem r_astore_nN {k : Fin 4} {i : Nat} {lv' : List (Nat × Value)} (hd : decode (mB M) pc = .ok (.astore_n k, 1)) (hi : (k : Nat) = i) (hn : i < mN M) (hq : (i, Value.null) :: lv.filter (fun q => !(q.1 == i) && !(q.1 + 1 == i && q.2.category == 2)) = lv') (kk : Wx M G S (pc + 1) lv' st Q) : Wx M G S pc lv (.null :: st) Q := by
  intro p e R s m args below meth c C0 H locs cells slots ls hW hc hs hl hlv
  obtain ⟨hx, hb, hml, hr, hown, hts, hlk, hin0, hK, hbase, hfr, hlo, htb⟩ := id C0
  exact lv_astore_nN hx hb hd hi hlv hn hq (fun ls' h' => (kk p e R s m args below meth c C0 H locs cells slots ls' hW hc hs hl h'))
theorem r_astoreN {i : Nat} {lv' : List (Nat × Value)} (hd : decode (mB M) pc = .ok (.astore i, 2)) (hn : i < mN M) (hq : (i, Value.null) :: lv.filter (fun q => !(q.1 == i) && !(q.1 + 1 == i && q.2.category == 2)) = lv') (kk : Wx M G S (pc + 2) lv' st Q) : Wx M G S pc lv (.null :: st) Q := by
  intro p e R s m args below meth c C0 H locs cells slots ls hW hc hs hl hlv
  obtain ⟨hx, hb, hml, hr, hown, hts, hlk, hin0, hK, hbase, hfr, hlo, htb⟩ := id C0
  exact lv_astoreN hx hb hd hlv hn hq (fun ls' h' => (kk p e R s m args below meth c C0 H locs cells slots ls' hW hc hs hl h'))
theorem r_iinc {i : Nat} {n : Int} {x v : Int32} {lv' : List (Nat × Value)} (hd : decode (mB M) pc = .ok (.iinc i n, 3)) (j : Nat) (hj : lv[j]? = some (i, .int x)) (hv : x + Int32.ofInt n = v) (hn : i < mN M) (hq : (i, Value.int v) :: lv.filter (fun q => !(q.1 == i) && !(q.1 + 1 == i && q.2.category == 2)) = lv') (kk : Wx M G S (pc + 3) lv' st Q) : Wx M G S pc lv st Q := by
  intro p e R s m args below meth c C0 H locs cells slots ls hW hc hs hl hlv
  obtain ⟨hx, hb, hml, hr, hown, hts, hlk, hin0, hK, hbase, hfr, hlo, htb⟩ := id C0
  exact lv_iinc hx hb hd hlv hj hv hn hq (fun ls' h' => (kk p e R s m args below meth c C0 H locs cells slots ls' hW hc hs hl h'))
theorem r_iadd {x y : Int32} (hd : decode (mB M) pc = .ok (.iadd, 1))  (kk : Wx M G S (pc + 1) lv (.int (x + y) :: st) Q) : Wx M G S pc lv (.int y :: .int x :: st) Q := by
  intro p e R s m args below meth c C0 H locs cells slots ls hW hc hs hl hlv
  obtain ⟨hx, hb, hml, hr, hown, hts, hlk, hin0, hK, hbase, hfr, hlo, htb⟩ := id C0
  exact lv_iadd hx hb hd  (kk p e R s m args below meth c C0 H locs cells slots ls hW hc hs hl hlv)
theorem r_isub {x y : Int32} (hd : decode (mB M) pc = .ok (.isub, 1))  (kk : Wx M G S (pc + 1) lv (.int (x - y) :: st) Q) : Wx M G S pc lv (.int y :: .int x :: st) Q := by
  intro p e R s m args below meth c C0 H locs cells slots ls hW hc hs hl hlv
  obtain ⟨hx, hb, hml, hr, hown, hts, hlk, hin0, hK, hbase, hfr, hlo, htb⟩ := id C0
  exact lv_isub hx hb hd  (kk p e R s m args below meth c C0 H locs cells slots ls hW hc hs hl hlv)
theorem r_imul {x y : Int32} (hd : decode (mB M) pc = .ok (.imul, 1))  (kk : Wx M G S (pc + 1) lv (.int (x * y) :: st) Q) : Wx M G S pc lv (.int y :: .int x :: st) Q := by
  intro p e R s m args below meth c C0 H locs cells slots ls hW hc hs hl hlv
  obtain ⟨hx, hb, hml, hr, hown, hts, hlk, hin0, hK, hbase, hfr, hlo, htb⟩ := id C0
  exact lv_imul hx hb hd  (kk p e R s m args below meth c C0 H locs cells slots ls hW hc hs hl hlv)
theorem r_iand {x y : Int32} (hd : decode (mB M) pc = .ok (.iand, 1))  (kk : Wx M G S (pc + 1) lv (.int (x &&& y) :: st) Q) : Wx M G S pc lv (.int y :: .int x :: st) Q := by
  intro p e R s m args below meth c C0 H locs cells slots ls hW hc hs hl hlv
  obtain ⟨hx, hb, hml, hr, hown, hts, hlk, hin0, hK, hbase, hfr, hlo, htb⟩ := id C0
  exact lv_iand hx hb hd  (kk p e R s m args below meth c C0 H locs cells slots ls hW hc hs hl hlv)
theorem r_ior {x y : Int32} (hd : decode (mB M) pc = .ok (.ior, 1))  (kk : Wx M G S (pc + 1) lv (.int (x ||| y) :: st) Q) : Wx M G S pc lv (.int y :: .int x :: st) Q := by
  intro p e R s m args below meth c C0 H locs cells slots ls hW hc hs hl hlv
  obtain ⟨hx, hb, hml, hr, hown, hts, hlk, hin0, hK, hbase, hfr, hlo, htb⟩ := id C0
  exact lv_ior hx hb hd  (kk p e R s m args below meth c C0 H locs cells slots ls hW hc hs hl hlv)
theorem r_ixor {x y : Int32} (hd : decode (mB M) pc = .ok (.ixor, 1))  (kk : Wx M G S (pc + 1) lv (.int (x ^^^ y) :: st) Q) : Wx M G S pc lv (.int y :: .int x :: st) Q := by
  intro p e R s m args below meth c C0 H locs cells slots ls hW hc hs hl hlv
  obtain ⟨hx, hb, hml, hr, hown, hts, hlk, hin0, hK, hbase, hfr, hlo, htb⟩ := id C0
  exact lv_ixor hx hb hd  (kk p e R s m args below meth c C0 H locs cells slots ls hW hc hs hl hlv)
theorem r_ishl {x y : Int32} (hd : decode (mB M) pc = .ok (.ishl, 1))  (kk : Wx M G S (pc + 1) lv (.int (x <<< (y &&& 31)) :: st) Q) : Wx M G S pc lv (.int y :: .int x :: st) Q := by
  intro p e R s m args below meth c C0 H locs cells slots ls hW hc hs hl hlv
  obtain ⟨hx, hb, hml, hr, hown, hts, hlk, hin0, hK, hbase, hfr, hlo, htb⟩ := id C0
  exact lv_ishl hx hb hd  (kk p e R s m args below meth c C0 H locs cells slots ls hW hc hs hl hlv)
theorem r_ishr {x y : Int32} (hd : decode (mB M) pc = .ok (.ishr, 1))  (kk : Wx M G S (pc + 1) lv (.int (x >>> (y &&& 31)) :: st) Q) : Wx M G S pc lv (.int y :: .int x :: st) Q := by
  intro p e R s m args below meth c C0 H locs cells slots ls hW hc hs hl hlv
  obtain ⟨hx, hb, hml, hr, hown, hts, hlk, hin0, hK, hbase, hfr, hlo, htb⟩ := id C0
  exact lv_ishr hx hb hd  (kk p e R s m args below meth c C0 H locs cells slots ls hW hc hs hl hlv)
theorem r_idiv {x y : Int32} (hd : decode (mB M) pc = .ok (.idiv, 1)) (hne : ¬ y = 0) (kk : Wx M G S (pc + 1) lv (.int (x / y) :: st) Q) : Wx M G S pc lv (.int y :: .int x :: st) Q := by
  intro p e R s m args below meth c C0 H locs cells slots ls hW hc hs hl hlv
  obtain ⟨hx, hb, hml, hr, hown, hts, hlk, hin0, hK, hbase, hfr, hlo, htb⟩ := id C0
  exact lv_idiv hx hb hd hne (kk p e R s m args below meth c C0 H locs cells slots ls hW hc hs hl hlv)
theorem r_irem {x y : Int32} (hd : decode (mB M) pc = .ok (.irem, 1)) (hne : ¬ y = 0) (kk : Wx M G S (pc + 1) lv (.int (x - x / y * y) :: st) Q) : Wx M G S pc lv (.int y :: .int x :: st) Q := by
  intro p e R s m args below meth c C0 H locs cells slots ls hW hc hs hl hlv
  obtain ⟨hx, hb, hml, hr, hown, hts, hlk, hin0, hK, hbase, hfr, hlo, htb⟩ := id C0
  exact lv_irem hx hb hd hne (kk p e R s m args below meth c C0 H locs cells slots ls hW hc hs hl hlv)
theorem r_ineg {x : Int32} (hd : decode (mB M) pc = .ok (.ineg, 1)) (kk : Wx M G S (pc + 1) lv (.int (-x) :: st) Q) : Wx M G S pc lv (.int x :: st) Q := by
  intro p e R s m args below meth c C0 H locs cells slots ls hW hc hs hl hlv
  obtain ⟨hx, hb, hml, hr, hown, hts, hlk, hin0, hK, hbase, hfr, hlo, htb⟩ := id C0
  exact lv_ineg hx hb hd (kk p e R s m args below meth c C0 H locs cells slots ls hW hc hs hl hlv)
theorem r_ladd {x y : Int64} (hd : decode (mB M) pc = .ok (.ladd, 1))  (kk : Wx M G S (pc + 1) lv (.long (x + y) :: st) Q) : Wx M G S pc lv (.long y :: .long x :: st) Q := by
  intro p e R s m args below meth c C0 H locs cells slots ls hW hc hs hl hlv
  obtain ⟨hx, hb, hml, hr, hown, hts, hlk, hin0, hK, hbase, hfr, hlo, htb⟩ := id C0
  exact lv_ladd hx hb hd  (kk p e R s m args below meth c C0 H locs cells slots ls hW hc hs hl hlv)
theorem r_lsub {x y : Int64} (hd : decode (mB M) pc = .ok (.lsub, 1))  (kk : Wx M G S (pc + 1) lv (.long (x - y) :: st) Q) : Wx M G S pc lv (.long y :: .long x :: st) Q := by
  intro p e R s m args below meth c C0 H locs cells slots ls hW hc hs hl hlv
  obtain ⟨hx, hb, hml, hr, hown, hts, hlk, hin0, hK, hbase, hfr, hlo, htb⟩ := id C0
  exact lv_lsub hx hb hd  (kk p e R s m args below meth c C0 H locs cells slots ls hW hc hs hl hlv)
theorem r_lmul {x y : Int64} (hd : decode (mB M) pc = .ok (.lmul, 1))  (kk : Wx M G S (pc + 1) lv (.long (x * y) :: st) Q) : Wx M G S pc lv (.long y :: .long x :: st) Q := by
  intro p e R s m args below meth c C0 H locs cells slots ls hW hc hs hl hlv
  obtain ⟨hx, hb, hml, hr, hown, hts, hlk, hin0, hK, hbase, hfr, hlo, htb⟩ := id C0
  exact lv_lmul hx hb hd  (kk p e R s m args below meth c C0 H locs cells slots ls hW hc hs hl hlv)
theorem r_lrem {x y : Int64} (hd : decode (mB M) pc = .ok (.lrem, 1)) (hne : ¬ y = 0) (kk : Wx M G S (pc + 1) lv (.long (x - x / y * y) :: st) Q) : Wx M G S pc lv (.long y :: .long x :: st) Q := by
  intro p e R s m args below meth c C0 H locs cells slots ls hW hc hs hl hlv
  obtain ⟨hx, hb, hml, hr, hown, hts, hlk, hin0, hK, hbase, hfr, hlo, htb⟩ := id C0
  exact lv_lrem hx hb hd hne (kk p e R s m args below meth c C0 H locs cells slots ls hW hc hs hl hlv)
theorem r_fadd {x y : UInt32} (hd : decode (mB M) pc = .ok (.fadd, 1)) (hne : vf_n32 (FP.fadd x y)) (kk : Wx M G S (pc + 1) lv (.float (FP.fadd x y) :: st) Q) : Wx M G S pc lv (.float y :: .float x :: st) Q := by
  intro p e R s m args below meth c C0 H locs cells slots ls hW hc hs hl hlv
  obtain ⟨hx, hb, hml, hr, hown, hts, hlk, hin0, hK, hbase, hfr, hlo, htb⟩ := id C0
  exact lv_fadd hx hb hd hne (kk p e R s m args below meth c C0 H locs cells slots ls hW hc hs hl hlv)
theorem r_fsub {x y : UInt32} (hd : decode (mB M) pc = .ok (.fsub, 1)) (hne : vf_n32 (FP.fsub x y)) (kk : Wx M G S (pc + 1) lv (.float (FP.fsub x y) :: st) Q) : Wx M G S pc lv (.float y :: .float x :: st) Q := by
  intro p e R s m args below meth c C0 H locs cells slots ls hW hc hs hl hlv
  obtain ⟨hx, hb, hml, hr, hown, hts, hlk, hin0, hK, hbase, hfr, hlo, htb⟩ := id C0
  exact lv_fsub hx hb hd hne (kk p e R s m args below meth c C0 H locs cells slots ls hW hc hs hl hlv)
theorem r_fmul {x y : UInt32} (hd : decode (mB M) pc = .ok (.fmul, 1)) (hne : vf_n32 (FP.fmul x y)) (kk : Wx M G S (pc + 1) lv (.float (FP.fmul x y) :: st) Q) : Wx M G S pc lv (.float y :: .float x :: st) Q := by
  intro p e R s m args below meth c C0 H locs cells slots ls hW hc hs hl hlv
  obtain ⟨hx, hb, hml, hr, hown, hts, hlk, hin0, hK, hbase, hfr, hlo, htb⟩ := id C0
  exact lv_fmul hx hb hd hne (kk p e R s m args below meth c C0 H locs cells slots ls hW hc hs hl hlv)
theorem r_fdiv {x y : UInt32} (hd : decode (mB M) pc = .ok (.fdiv, 1)) (hne : vf_n32 (FP.fdiv x y)) (kk : Wx M G S (pc + 1) lv (.float (FP.fdiv x y) :: st) Q) : Wx M G S pc lv (.float y :: .float x :: st) Q := by
  intro p e R s m args below meth c C0 H locs cells slots ls hW hc hs hl hlv
  obtain ⟨hx, hb, hml, hr, hown, hts, hlk, hin0, hK, hbase, hfr, hlo, htb⟩ := id C0
  exact lv_fdiv hx hb hd hne (kk p e R s m args below meth c C0 H locs cells slots ls hW hc hs hl hlv)
theorem r_dadd {x y : UInt64} (hd : decode (mB M) pc = .ok (.dadd, 1)) (hne : vf_n64 (FP.dadd x y)) (kk : Wx M G S (pc + 1) lv (.double (FP.dadd x y) :: st) Q) : Wx M G S pc lv (.double y :: .double x :: st) Q := by
  intro p e R s m args below meth c C0 H locs cells slots ls hW hc hs hl hlv
  obtain ⟨hx, hb, hml, hr, hown, hts, hlk, hin0, hK, hbase, hfr, hlo, htb⟩ := id C0
  exact lv_dadd hx hb hd hne (kk p e R s m args below meth c C0 H locs cells slots ls hW hc hs hl hlv)
theorem r_dsub {x y : UInt64} (hd : decode (mB M) pc = .ok (.dsub, 1)) (hne : vf_n64 (FP.dsub x y)) (kk : Wx M G S (pc + 1) lv (.double (FP.dsub x y) :: st) Q) : Wx M G S pc lv (.double y :: .double x :: st) Q := by
  intro p e R s m args below meth c C0 H locs cells slots ls hW hc hs hl hlv
  obtain ⟨hx, hb, hml, hr, hown, hts, hlk, hin0, hK, hbase, hfr, hlo, htb⟩ := id C0
  exact lv_dsub hx hb hd hne (kk p e R s m args below meth c C0 H locs cells slots ls hW hc hs hl hlv)
theorem r_dmul {x y : UInt64} (hd : decode (mB M) pc = .ok (.dmul, 1)) (hne : vf_n64 (FP.dmul x y)) (kk : Wx M G S (pc + 1) lv (.double (FP.dmul x y) :: st) Q) : Wx M G S pc lv (.double y :: .double x :: st) Q := by
  intro p e R s m args below meth c C0 H locs cells slots ls hW hc hs hl hlv
  obtain ⟨hx, hb, hml, hr, hown, hts, hlk, hin0, hK, hbase, hfr, hlo, htb⟩ := id C0
  exact lv_dmul hx hb hd hne (kk p e R s m args below meth c C0 H locs cells slots ls hW hc hs hl hlv)
theorem r_ddiv {x y : UInt64} (hd : decode (mB M) pc = .ok (.ddiv, 1)) (hne : vf_n64 (FP.ddiv x y)) (kk : Wx M G S (pc + 1) lv (.double (FP.ddiv x y) :: st) Q) : Wx M G S pc lv (.double y :: .double x :: st) Q := by
  intro p e R s m args below meth c C0 H locs cells slots ls hW hc hs hl hlv
  obtain ⟨hx, hb, hml, hr, hown, hts, hlk, hin0, hK, hbase, hfr, hlo, htb⟩ := id C0
  exact lv_ddiv hx hb hd hne (kk p e R s m args below meth c C0 H locs cells slots ls hW hc hs hl hlv)
theorem r_iushr {x y : Int32} (hd : decode (mB M) pc = .ok (.iushr, 1)) (kk : Wx M G S (pc + 1) lv (.int ((x.toUInt32 >>> (y.toUInt32 &&& Int32.toUInt32 31)).toInt32) :: st) Q) : Wx M G S pc lv (.int y :: .int x :: st) Q := by
  intro p e R s m args below meth c C0 H locs cells slots ls hW hc hs hl hlv
  obtain ⟨hx, hb, hml, hr, hown, hts, hlk, hin0, hK, hbase, hfr, hlo, htb⟩ := id C0
  exact lv_iushr hx hb hd rfl (kk p e R s m args below meth c C0 H locs cells slots ls hW hc hs hl hlv)
theorem r_lshl {x : Int64} {y : Int32} (hd : decode (mB M) pc = .ok (.lshl, 1)) (kk : Wx M G S (pc + 1) lv (.long (x <<< (y.toInt64 &&& 63)) :: st) Q) : Wx M G S pc lv (.int y :: .long x :: st) Q := by
  intro p e R s m args below meth c C0 H locs cells slots ls hW hc hs hl hlv
  obtain ⟨hx, hb, hml, hr, hown, hts, hlk, hin0, hK, hbase, hfr, hlo, htb⟩ := id C0
  exact lv_lshl hx hb hd rfl (kk p e R s m args below meth c C0 H locs cells slots ls hW hc hs hl hlv)
theorem r_i2l {x : Int32} (hd : decode (mB M) pc = .ok (.i2l, 1)) (kk : Wx M G S (pc + 1) lv (.long (x.toInt64) :: st) Q) : Wx M G S pc lv (.int x :: st) Q := by
  intro p e R s m args below meth c C0 H locs cells slots ls hW hc hs hl hlv
  obtain ⟨hx, hb, hml, hr, hown, hts, hlk, hin0, hK, hbase, hfr, hlo, htb⟩ := id C0
  exact lv_i2l hx hb hd rfl (kk p e R s m args below meth c C0 H locs cells slots ls hW hc hs hl hlv)
theorem r_l2i {x : Int64} (hd : decode (mB M) pc = .ok (.l2i, 1)) (kk : Wx M G S (pc + 1) lv (.int (x.toInt32) :: st) Q) : Wx M G S pc lv (.long x :: st) Q := by
  intro p e R s m args below meth c C0 H locs cells slots ls hW hc hs hl hlv
  obtain ⟨hx, hb, hml, hr, hown, hts, hlk, hin0, hK, hbase, hfr, hlo, htb⟩ := id C0
  exact lv_l2i hx hb hd rfl (kk p e R s m args below meth c C0 H locs cells slots ls hW hc hs hl hlv)
theorem r_i2b {x : Int32} (hd : decode (mB M) pc = .ok (.i2b, 1)) (kk : Wx M G S (pc + 1) lv (.int (x.toInt8.toInt32) :: st) Q) : Wx M G S pc lv (.int x :: st) Q := by
  intro p e R s m args below meth c C0 H locs cells slots ls hW hc hs hl hlv
  obtain ⟨hx, hb, hml, hr, hown, hts, hlk, hin0, hK, hbase, hfr, hlo, htb⟩ := id C0
  exact lv_i2b hx hb hd rfl (kk p e R s m args below meth c C0 H locs cells slots ls hW hc hs hl hlv)
theorem r_i2c {x : Int32} (hd : decode (mB M) pc = .ok (.i2c, 1)) (kk : Wx M G S (pc + 1) lv (.int ((x.toUInt32 % 65536).toInt32) :: st) Q) : Wx M G S pc lv (.int x :: st) Q := by
  intro p e R s m args below meth c C0 H locs cells slots ls hW hc hs hl hlv
  obtain ⟨hx, hb, hml, hr, hown, hts, hlk, hin0, hK, hbase, hfr, hlo, htb⟩ := id C0
  exact lv_i2c hx hb hd rfl (kk p e R s m args below meth c C0 H locs cells slots ls hW hc hs hl hlv)
theorem r_fconst0 (hd : decode (mB M) pc = .ok (.fconst 0, 1)) (kk : Wx M G S (pc + 1) lv (.float FP.fconst0 :: st) Q) : Wx M G S pc lv st Q := by
  intro p e R s m args below meth c C0 H locs cells slots ls hW hc hs hl hlv
  obtain ⟨hx, hb, hml, hr, hown, hts, hlk, hin0, hK, hbase, hfr, hlo, htb⟩ := id C0
  exact lv_fconst0 hx hb hd (kk p e R s m args below meth c C0 H locs cells slots ls hW hc hs hl hlv)
theorem r_fconst1 (hd : decode (mB M) pc = .ok (.fconst 1, 1)) (kk : Wx M G S (pc + 1) lv (.float FP.fconst1 :: st) Q) : Wx M G S pc lv st Q := by
  intro p e R s m args below meth c C0 H locs cells slots ls hW hc hs hl hlv
  obtain ⟨hx, hb, hml, hr, hown, hts, hlk, hin0, hK, hbase, hfr, hlo, htb⟩ := id C0
  exact lv_fconst1 hx hb hd (kk p e R s m args below meth c C0 H locs cells slots ls hW hc hs hl hlv)
theorem r_dconst0 (hd : decode (mB M) pc = .ok (.dconst 0, 1)) (kk : Wx M G S (pc + 1) lv (.double FP.dconst0 :: st) Q) : Wx M G S pc lv st Q := by
  intro p e R s m args below meth c C0 H locs cells slots ls hW hc hs hl hlv
  obtain ⟨hx, hb, hml, hr, hown, hts, hlk, hin0, hK, hbase, hfr, hlo, htb⟩ := id C0
  exact lv_dconst0 hx hb hd (kk p e R s m args below meth c C0 H locs cells slots ls hW hc hs hl hlv)
theorem r_dconst1 (hd : decode (mB M) pc = .ok (.dconst 1, 1)) (kk : Wx M G S (pc + 1) lv (.double FP.dconst1 :: st) Q) : Wx M G S pc lv st Q := by
  intro p e R s m args below meth c C0 H locs cells slots ls hW hc hs hl hlv
  obtain ⟨hx, hb, hml, hr, hown, hts, hlk, hin0, hK, hbase, hfr, hlo, htb⟩ := id C0
  exact lv_dconst1 hx hb hd (kk p e R s m args below meth c C0 H locs cells slots ls hW hc hs hl hlv)
theorem r_i2d {x : Int32} (hd : decode (mB M) pc = .ok (.i2d, 1)) (kk : Wx M G S (pc + 1) lv (.double (FP.i2d x) :: st) Q) : Wx M G S pc lv (.int x :: st) Q := by
  intro p e R s m args below meth c C0 H locs cells slots ls hW hc hs hl hlv
  obtain ⟨hx, hb, hml, hr, hown, hts, hlk, hin0, hK, hbase, hfr, hlo, htb⟩ := id C0
  exact lv_i2d hx hb hd (kk p e R s m args below meth c C0 H locs cells slots ls hW hc hs hl hlv)
theorem r_i2f {x : Int32} (hd : decode (mB M) pc = .ok (.i2f, 1)) (kk : Wx M G S (pc + 1) lv (.float (FP.i2f x) :: st) Q) : Wx M G S pc lv (.int x :: st) Q := by
  intro p e R s m args below meth c C0 H locs cells slots ls hW hc hs hl hlv
  obtain ⟨hx, hb, hml, hr, hown, hts, hlk, hin0, hK, hbase, hfr, hlo, htb⟩ := id C0
  exact lv_i2f hx hb hd (kk p e R s m args below meth c C0 H locs cells slots ls hW hc hs hl hlv)
theorem r_d2l {x : UInt64} (hd : decode (mB M) pc = .ok (.d2l, 1)) (kk : Wx M G S (pc + 1) lv (.long (FP.d2l x) :: st) Q) : Wx M G S pc lv (.double x :: st) Q := by
  intro p e R s m args below meth c C0 H locs cells slots ls hW hc hs hl hlv
  obtain ⟨hx, hb, hml, hr, hown, hts, hlk, hin0, hK, hbase, hfr, hlo, htb⟩ := id C0
  exact lv_d2l hx hb hd (kk p e R s m args below meth c C0 H locs cells slots ls hW hc hs hl hlv)
theorem r_f2i {x : UInt32} (hd : decode (mB M) pc = .ok (.f2i, 1)) (kk : Wx M G S (pc + 1) lv (.int (FP.f2i x) :: st) Q) : Wx M G S pc lv (.float x :: st) Q := by
  intro p e R s m args below meth c C0 H locs cells slots ls hW hc hs hl hlv
  obtain ⟨hx, hb, hml, hr, hown, hts, hlk, hin0, hK, hbase, hfr, hlo, htb⟩ := id C0
  exact lv_f2i hx hb hd (kk p e R s m args below meth c C0 H locs cells slots ls hW hc hs hl hlv)
theorem r_dcmp {x y : UInt64} {op : CmpOp} (hd : decode (mB M) pc = .ok (.dcmp op, 1)) (kk : Wx M G S (pc + 1) lv (.int (Op.cmpValue (FP.dcmp x y) op) :: st) Q) : Wx M G S pc lv (.double y :: .double x :: st) Q := by
  intro p e R s m args below meth c C0 H locs cells slots ls hW hc hs hl hlv
  obtain ⟨hx, hb, hml, hr, hown, hts, hlk, hin0, hK, hbase, hfr, hlo, htb⟩ := id C0
  exact lv_dcmp hx hb hd (kk p e R s m args below meth c C0 H locs cells slots ls hW hc hs hl hlv)
theorem r_fcmp {x y : UInt32} {op : CmpOp} (hd : decode (mB M) pc = .ok (.fcmp op, 1)) (kk : Wx M G S (pc + 1) lv (.int (Op.cmpValue (FP.fcmp x y) op) :: st) Q) : Wx M G S pc lv (.float y :: .float x :: st) Q := by
  intro p e R s m args below meth c C0 H locs cells slots ls hW hc hs hl hlv
  obtain ⟨hx, hb, hml, hr, hown, hts, hlk, hin0, hK, hbase, hfr, hlo, htb⟩ := id C0
  exact lv_fcmp hx hb hd (kk p e R s m args below meth c C0 H locs cells slots ls hW hc hs hl hlv)
theorem r_lcmp {x y : Int64} (hd : decode (mB M) pc = .ok (.lcmp, 1)) (kk : Wx M G S (pc + 1) lv (.int (lg_cmp x y) :: st) Q) : Wx M G S pc lv (.long y :: .long x :: st) Q := by
  intro p e R s m args below meth c C0 H locs cells slots ls hW hc hs hl hlv
  obtain ⟨hx, hb, hml, hr, hown, hts, hlk, hin0, hK, hbase, hfr, hlo, htb⟩ := id C0
  exact W.lcmp hx hb hd (kk p e R s m args below meth c C0 H locs cells slots ls hW hc hs hl hlv)
theorem r_pop {v : Value} (hd : decode (mB M) pc = .ok (.pop, 1)) (hv : v.category = 1) (kk : Wx M G S (pc + 1) lv st Q) : Wx M G S pc lv (v :: st) Q := by
  intro p e R s m args below meth c C0 H locs cells slots ls hW hc hs hl hlv
  obtain ⟨hx, hb, hml, hr, hown, hts, hlk, hin0, hK, hbase, hfr, hlo, htb⟩ := id C0
  exact lv_pop hx hb hd hv (kk p e R s m args below meth c C0 H locs cells slots ls hW hc hs hl hlv)
theorem r_dup {v : Value} (hd : decode (mB M) pc = .ok (.dup, 1)) (hv : v.category = 1) (kk : Wx M G S (pc + 1) lv (v :: v :: st) Q) : Wx M G S pc lv (v :: st) Q := by
  intro p e R s m args below meth c C0 H locs cells slots ls hW hc hs hl hlv
  obtain ⟨hx, hb, hml, hr, hown, hts, hlk, hin0, hK, hbase, hfr, hlo, htb⟩ := id C0
  exact lv_dup hx hb hd hv (kk p e R s m args below meth c C0 H locs cells slots ls hW hc hs hl hlv)
theorem r_dup_x1 {v w : Value} (hd : decode (mB M) pc = .ok (.dup_x1, 1)) (hv : v.category = 1) (hw : w.category = 1) (kk : Wx M G S (pc + 1) lv (v :: w :: v :: st) Q) : Wx M G S pc lv (v :: w :: st) Q := by
  intro p e R s m args below meth c C0 H locs cells slots ls hW hc hs hl hlv
  obtain ⟨hx, hb, hml, hr, hown, hts, hlk, hin0, hK, hbase, hfr, hlo, htb⟩ := id C0
  exact lv_dup_x1 hx hb hd hv hw (kk p e R s m args below meth c C0 H locs cells slots ls hW hc hs hl hlv)
theorem r_dup2 {v w : Value} (hd : decode (mB M) pc = .ok (.dup2, 1)) (hv : v.category = 1) (hw : w.category = 1) (kk : Wx M G S (pc + 1) lv (v :: w :: v :: w :: st) Q) : Wx M G S pc lv (v :: w :: st) Q := by
  intro p e R s m args below meth c C0 H locs cells slots ls hW hc hs hl hlv
  obtain ⟨hx, hb, hml, hr, hown, hts, hlk, hin0, hK, hbase, hfr, hlo, htb⟩ := id C0
  exact lv_dup2_11 hx hb hd hv hw (kk p e R s m args below meth c C0 H locs cells slots ls hW hc hs hl hlv)
theorem r_null (hd : decode (mB M) pc = .ok (.aconst_null, 1)) (kk : Wx M G S (pc + 1) lv (.null :: st) Q) : Wx M G S pc lv st Q := by
  intro p e R s m args below meth c C0 H locs cells slots ls hW hc hs hl hlv
  obtain ⟨hx, hb, hml, hr, hown, hts, hlk, hin0, hK, hbase, hfr, hlo, htb⟩ := id C0
  exact lv_null hx hb hd (kk p e R s m args below meth c C0 H locs cells slots ls hW hc hs hl hlv)
theorem r_goto {off : Int} {tgt : Nat} (hd : decode (mB M) pc = .ok (.goto off, 3)) (ht : (pc : Int) + off = (tgt : Int)) (kk : Wx M G S tgt lv st Q) : Wx M G S pc lv st Q := by
  intro p e R s m args below meth c C0 H locs cells slots ls hW hc hs hl hlv
  obtain ⟨hx, hb, hml, hr, hown, hts, hlk, hin0, hK, hbase, hfr, hlo, htb⟩ := id C0
  exact lv_goto hx hb hd ht (kk p e R s m args below meth c C0 H locs cells slots ls hW hc hs hl hlv)
theorem r_if_eq {x : Int32} {off : Int} {tgt : Nat} (hd : decode (mB M) pc = .ok (.ifCond .eq off, 3)) (ht : (pc : Int) + off = (tgt : Int)) (kt : x = 0 → Wx M G S tgt lv st Q) (kf : ¬ x = 0 → Wx M G S (pc + 3) lv st Q) : Wx M G S pc lv (.int x :: st) Q := by
  intro p e R s m args below meth c C0 H locs cells slots ls hW hc hs hl hlv
  obtain ⟨hx, hb, hml, hr, hown, hts, hlk, hin0, hK, hbase, hfr, hlo, htb⟩ := id C0
  exact lv_if_eq hx hb hd ht (fun h => (kt h p e R s m args below meth c C0 H locs cells slots ls hW hc hs hl hlv)) (fun h => (kf h p e R s m args below meth c C0 H locs cells slots ls hW hc hs hl hlv))
theorem r_icmp_eq {x y : Int32} {off : Int} {tgt : Nat} (hd : decode (mB M) pc = .ok (.if_icmp .eq off, 3)) (ht : (pc : Int) + off = (tgt : Int)) (kt : x = y → Wx M G S tgt lv st Q) (kf : ¬ x = y → Wx M G S (pc + 3) lv st Q) : Wx M G S pc lv (.int y :: .int x :: st) Q := by
  intro p e R s m args below meth c C0 H locs cells slots ls hW hc hs hl hlv
  obtain ⟨hx, hb, hml, hr, hown, hts, hlk, hin0, hK, hbase, hfr, hlo, htb⟩ := id C0
  exact lv_icmp_eq hx hb hd ht (fun h => (kt h p e R s m args below meth c C0 H locs cells slots ls hW hc hs hl hlv)) (fun h => (kf h p e R s m args below meth c C0 H locs cells slots ls hW hc hs hl hlv))
theorem r_if_ne {x : Int32} {off : Int} {tgt : Nat} (hd : decode (mB M) pc = .ok (.ifCond .ne off, 3)) (ht : (pc : Int) + off = (tgt : Int)) (kt : ¬ x = 0 → Wx M G S tgt lv st Q) (kf : x = 0 → Wx M G S (pc + 3) lv st Q) : Wx M G S pc lv (.int x :: st) Q := by
  intro p e R s m args below meth c C0 H locs cells slots ls hW hc hs hl hlv
  obtain ⟨hx, hb, hml, hr, hown, hts, hlk, hin0, hK, hbase, hfr, hlo, htb⟩ := id C0
  exact lv_if_ne hx hb hd ht (fun h => (kt h p e R s m args below meth c C0 H locs cells slots ls hW hc hs hl hlv)) (fun h => (kf h p e R s m args below meth c C0 H locs cells slots ls hW hc hs hl hlv))
theorem r_icmp_ne {x y : Int32} {off : Int} {tgt : Nat} (hd : decode (mB M) pc = .ok (.if_icmp .ne off, 3)) (ht : (pc : Int) + off = (tgt : Int)) (kt : ¬ x = y → Wx M G S tgt lv st Q) (kf : x = y → Wx M G S (pc + 3) lv st Q) : Wx M G S pc lv (.int y :: .int x :: st) Q := by
  intro p e R s m args below meth c C0 H locs cells slots ls hW hc hs hl hlv
  obtain ⟨hx, hb, hml, hr, hown, hts, hlk, hin0, hK, hbase, hfr, hlo, htb⟩ := id C0
  exact lv_icmp_ne hx hb hd ht (fun h => (kt h p e R s m args below meth c C0 H locs cells slots ls hW hc hs hl hlv)) (fun h => (kf h p e R s m args below meth c C0 H locs cells slots ls hW hc hs hl hlv))
theorem r_if_lt {x : Int32} {off : Int} {tgt : Nat} (hd : decode (mB M) pc = .ok (.ifCond .lt off, 3)) (ht : (pc : Int) + off = (tgt : Int)) (kt : x < 0 → Wx M G S tgt lv st Q) (kf : ¬ x < 0 → Wx M G S (pc + 3) lv st Q) : Wx M G S pc lv (.int x :: st) Q := by
  intro p e R s m args below meth c C0 H locs cells slots ls hW hc hs hl hlv
  obtain ⟨hx, hb, hml, hr, hown, hts, hlk, hin0, hK, hbase, hfr, hlo, htb⟩ := id C0
  exact lv_if_lt hx hb hd ht (fun h => (kt h p e R s m args below meth c C0 H locs cells slots ls hW hc hs hl hlv)) (fun h => (kf h p e R s m args below meth c C0 H locs cells slots ls hW hc hs hl hlv))
theorem r_icmp_lt {x y : Int32} {off : Int} {tgt : Nat} (hd : decode (mB M) pc = .ok (.if_icmp .lt off, 3)) (ht : (pc : Int) + off = (tgt : Int)) (kt : x < y → Wx M G S tgt lv st Q) (kf : ¬ x < y → Wx M G S (pc + 3) lv st Q) : Wx M G S pc lv (.int y :: .int x :: st) Q := by
  intro p e R s m args below meth c C0 H locs cells slots ls hW hc hs hl hlv
  obtain ⟨hx, hb, hml, hr, hown, hts, hlk, hin0, hK, hbase, hfr, hlo, htb⟩ := id C0
  exact lv_icmp_lt hx hb hd ht (fun h => (kt h p e R s m args below meth c C0 H locs cells slots ls hW hc hs hl hlv)) (fun h => (kf h p e R s m args below meth c C0 H locs cells slots ls hW hc hs hl hlv))
theorem r_if_ge {x : Int32} {off : Int} {tgt : Nat} (hd : decode (mB M) pc = .ok (.ifCond .ge off, 3)) (ht : (pc : Int) + off = (tgt : Int)) (kt : 0 ≤ x → Wx M G S tgt lv st Q) (kf : ¬ 0 ≤ x → Wx M G S (pc + 3) lv st Q) : Wx M G S pc lv (.int x :: st) Q := by
  intro p e R s m args below meth c C0 H locs cells slots ls hW hc hs hl hlv
  obtain ⟨hx, hb, hml, hr, hown, hts, hlk, hin0, hK, hbase, hfr, hlo, htb⟩ := id C0
  exact lv_if_ge hx hb hd ht (fun h => (kt h p e R s m args below meth c C0 H locs cells slots ls hW hc hs hl hlv)) (fun h => (kf h p e R s m args below meth c C0 H locs cells slots ls hW hc hs hl hlv))
theorem r_icmp_ge {x y : Int32} {off : Int} {tgt : Nat} (hd : decode (mB M) pc = .ok (.if_icmp .ge off, 3)) (ht : (pc : Int) + off = (tgt : Int)) (kt : y ≤ x → Wx M G S tgt lv st Q) (kf : ¬ y ≤ x → Wx M G S (pc + 3) lv st Q) : Wx M G S pc lv (.int y :: .int x :: st) Q := by
  intro p e R s m args below meth c C0 H locs cells slots ls hW hc hs hl hlv
  obtain ⟨hx, hb, hml, hr, hown, hts, hlk, hin0, hK, hbase, hfr, hlo, htb⟩ := id C0
  exact lv_icmp_ge hx hb hd ht (fun h => (kt h p e R s m args below meth c C0 H locs cells slots ls hW hc hs hl hlv)) (fun h => (kf h p e R s m args below meth c C0 H locs cells slots ls hW hc hs hl hlv))
theorem r_if_gt {x : Int32} {off : Int} {tgt : Nat} (hd : decode (mB M) pc = .ok (.ifCond .gt off, 3)) (ht : (pc : Int) + off = (tgt : Int)) (kt : 0 < x → Wx M G S tgt lv st Q) (kf : ¬ 0 < x → Wx M G S (pc + 3) lv st Q) : Wx M G S pc lv (.int x :: st) Q := by
  intro p e R s m args below meth c C0 H locs cells slots ls hW hc hs hl hlv
  obtain ⟨hx, hb, hml, hr, hown, hts, hlk, hin0, hK, hbase, hfr, hlo, htb⟩ := id C0
  exact lv_if_gt hx hb hd ht (fun h => (kt h p e R s m args below meth c C0 H locs cells slots ls hW hc hs hl hlv)) (fun h => (kf h p e R s m args below meth c C0 H locs cells slots ls hW hc hs hl hlv))
theorem r_icmp_gt {x y : Int32} {off : Int} {tgt : Nat} (hd : decode (mB M) pc = .ok (.if_icmp .gt off, 3)) (ht : (pc : Int) + off = (tgt : Int)) (kt : y < x → Wx M G S tgt lv st Q) (kf : ¬ y < x → Wx M G S (pc + 3) lv st Q) : Wx M G S pc lv (.int y :: .int x :: st) Q := by
  intro p e R s m args below meth c C0 H locs cells slots ls hW hc hs hl hlv
  obtain ⟨hx, hb, hml, hr, hown, hts, hlk, hin0, hK, hbase, hfr, hlo, htb⟩ := id C0
  exact lv_icmp_gt hx hb hd ht (fun h => (kt h p e R s m args below meth c C0 H locs cells slots ls hW hc hs hl hlv)) (fun h => (kf h p e R s m args below meth c C0 H locs cells slots ls hW hc hs hl hlv))
theorem r_if_le {x : Int32} {off : Int} {tgt : Nat} (hd : decode (mB M) pc = .ok (.ifCond .le off, 3)) (ht : (pc : Int) + off = (tgt : Int)) (kt : x ≤ 0 → Wx M G S tgt lv st Q) (kf : ¬ x ≤ 0 → Wx M G S (pc + 3) lv st Q) : Wx M G S pc lv (.int x :: st) Q := by
  intro p e R s m args below meth c C0 H locs cells slots ls hW hc hs hl hlv
  obtain ⟨hx, hb, hml, hr, hown, hts, hlk, hin0, hK, hbase, hfr, hlo, htb⟩ := id C0
  exact lv_if_le hx hb hd ht (fun h => (kt h p e R s m args below meth c C0 H locs cells slots ls hW hc hs hl hlv)) (fun h => (kf h p e R s m args below meth c C0 H locs cells slots ls hW hc hs hl hlv))
theorem r_icmp_le {x y : Int32} {off : Int} {tgt : Nat} (hd : decode (mB M) pc = .ok (.if_icmp .le off, 3)) (ht : (pc : Int) + off = (tgt : Int)) (kt : x ≤ y → Wx M G S tgt lv st Q) (kf : ¬ x ≤ y → Wx M G S (pc + 3) lv st Q) : Wx M G S pc lv (.int y :: .int x :: st) Q := by
  intro p e R s m args below meth c C0 H locs cells slots ls hW hc hs hl hlv
  obtain ⟨hx, hb, hml, hr, hown, hts, hlk, hin0, hK, hbase, hfr, hlo, htb⟩ := id C0
  exact lv_icmp_le hx hb hd ht (fun h => (kt h p e R s m args below meth c C0 H locs cells slots ls hW hc hs hl hlv)) (fun h => (kf h p e R s m args below meth c C0 H locs cells slots ls hW hc hs hl hlv))
theorem r_ifnonnull {x : Nat} {off : Int} {tgt : Nat} (hd : decode (mB M) pc = .ok (.ifnonnull off, 3)) (ht : (pc : Int) + off = (tgt : Int)) (kk : Wx M G S tgt lv st Q) : Wx M G S pc lv (.ref x :: st) Q := by
  intro p e R s m args below meth c C0 H locs cells slots ls hW hc hs hl hlv
  obtain ⟨hx, hb, hml, hr, hown, hts, hlk, hin0, hK, hbase, hfr, hlo, htb⟩ := id C0
  exact lv_ifnonnull hx hb hd ht (kk p e R s m args below meth c C0 H locs cells slots ls hW hc hs hl hlv)
theorem r_ifnull {x : Nat} {off : Int} (hd : decode (mB M) pc = .ok (.ifnull off, 3)) (kk : Wx M G S (pc + 3) lv st Q) : Wx M G S pc lv (.ref x :: st) Q := by
  intro p e R s m args below meth c C0 H locs cells slots ls hW hc hs hl hlv
  obtain ⟨hx, hb, hml, hr, hown, hts, hlk, hin0, hK, hbase, hfr, hlo, htb⟩ := id C0
  exact lv_ifnull hx hb hd (kk p e R s m args below meth c C0 H locs cells slots ls hW hc hs hl hlv)
theorem r_ifnullN {off : Int} {tgt : Nat} (hd : decode (mB M) pc = .ok (.ifnull off, 3)) (ht : (pc : Int) + off = (tgt : Int)) (kk : Wx M G S tgt lv st Q) : Wx M G S pc lv (.null :: st) Q := by
  intro p e R s m args below meth c C0 H locs cells slots ls hW hc hs hl hlv
  obtain ⟨hx, hb, hml, hr, hown, hts, hlk, hin0, hK, hbase, hfr, hlo, htb⟩ := id C0
  exact lv_ifnullN hx hb hd ht (kk p e R s m args below meth c C0 H locs cells slots ls hW hc hs hl hlv)
theorem r_ifnonnullN {off : Int} (hd : decode (mB M) pc = .ok (.ifnonnull off, 3)) (kk : Wx M G S (pc + 3) lv st Q) : Wx M G S pc lv (.null :: st) Q := by
  intro p e R s m args below meth c C0 H locs cells slots ls hW hc hs hl hlv
  obtain ⟨hx, hb, hml, hr, hown, hts, hlk, hin0, hK, hbase, hfr, hlo, htb⟩ := id C0
  exact lv_ifnonnullN hx hb hd (kk p e R s m args below meth c C0 H locs cells slots ls hW hc hs hl hlv)
theorem r_tableIn {dflt lo hi : Int} {offs : Array Int} {len : Nat} {x : Int32} {off : Int} {tgt : Nat} (hd : decode (mB M) pc = .ok (.tableswitch dflt lo hi offs, len)) (h1 : ¬ x.toInt < lo) (h2 : ¬ hi < x.toInt) (ho : offs[(x.toInt - lo).toNat]? = some off) (ht : (pc : Int) + off = (tgt : Int)) (kk : Wx M G S tgt lv st Q) : Wx M G S pc lv (.int x :: st) Q := by
  intro p e R s m args below meth c C0 H locs cells slots ls hW hc hs hl hlv
  obtain ⟨hx, hb, hml, hr, hown, hts, hlk, hin0, hK, hbase, hfr, hlo, htb⟩ := id C0
  exact lv_tableIn hx hb hd h1 h2 ho ht (kk p e R s m args below meth c C0 H locs cells slots ls hW hc hs hl hlv)
theorem r_tableOut {dflt lo hi : Int} {offs : Array Int} {len : Nat} {x : Int32} {tgt : Nat} (hd : decode (mB M) pc = .ok (.tableswitch dflt lo hi offs, len)) (h : x.toInt < lo ∨ hi < x.toInt) (ht : (pc : Int) + dflt = (tgt : Int)) (kk : Wx M G S tgt lv st Q) : Wx M G S pc lv (.int x :: st) Q := by
  intro p e R s m args below meth c C0 H locs cells slots ls hW hc hs hl hlv
  obtain ⟨hx, hb, hml, hr, hown, hts, hlk, hin0, hK, hbase, hfr, hlo, htb⟩ := id C0
  exact lv_tableOut hx hb hd h ht (kk p e R s m args below meth c C0 H locs cells slots ls hW hc hs hl hlv)
theorem r_lookup {dflt : Int} {ps : Array (Int × Int)} {len : Nat} {x : Int32} {off : Int} {tgt : Nat} (hd : decode (mB M) pc = .ok (.lookupswitch dflt ps, len)) (hp : (ps.toList.zip (ps.toList.drop 1)).all (fun (a, next) => a.1 < next.1) = true) (ho : Op.lookupswitch.offset ps.toList dflt x.toInt = off) (ht : (pc : Int) + off = (tgt : Int)) (kk : Wx M G S tgt lv st Q) : Wx M G S pc lv (.int x :: st) Q := by
  intro p e R s m args below meth c C0 H locs cells slots ls hW hc hs hl hlv
  obtain ⟨hx, hb, hml, hr, hown, hts, hlk, hin0, hK, hbase, hfr, hlo, htb⟩ := id C0
  exact lv_lookup hx hb hd hp ho ht (kk p e R s m args below meth c C0 H locs cells slots ls hW hc hs hl hlv)
theorem r_ldc {i : Nat} {v : Int32} (hw : Cond.constant (mY M).cls i v ∈ BIG) (hd : decode (mB M) pc = .ok (.ldc i, 2)) (kk : Wx M G S (pc + 2) lv (.int v :: st) Q) : Wx M G S pc lv st Q := by
  intro p e R s m args below meth c C0 H locs cells slots ls hW hc hs hl hlv
  obtain ⟨hx, hb, hml, hr, hown, hts, hlk, hin0, hK, hbase, hfr, hlo, htb⟩ := id C0
  exact lv_ldc hx hb hown (hts _ hw) hd (kk p e R s m args below meth c C0 H locs cells slots ls hW hc hs hl hlv)
theorem r_ldcw {i : Nat} {v : Int32} (hw : Cond.constant (mY M).cls i v ∈ BIG) (hd : decode (mB M) pc = .ok (.ldc_w i, 3)) (kk : Wx M G S (pc + 3) lv (.int v :: st) Q) : Wx M G S pc lv st Q := by
  intro p e R s m args below meth c C0 H locs cells slots ls hW hc hs hl hlv
  obtain ⟨hx, hb, hml, hr, hown, hts, hlk, hin0, hK, hbase, hfr, hlo, htb⟩ := id C0
  exact lv_ldcw hx hb hown (hts _ hw) hd (kk p e R s m args below meth c C0 H locs cells slots ls hW hc hs hl hlv)
theorem r_ldcf {i : Nat} {v : UInt32} (hw : Cond.constantFloat (mY M).cls i v ∈ BIG) (hd : decode (mB M) pc = .ok (.ldc i, 2)) (kk : Wx M G S (pc + 2) lv (.float v :: st) Q) : Wx M G S pc lv st Q := by
  intro p e R s m args below meth c C0 H locs cells slots ls hW hc hs hl hlv
  obtain ⟨hx, hb, hml, hr, hown, hts, hlk, hin0, hK, hbase, hfr, hlo, htb⟩ := id C0
  exact lv_ldcf hx hb hown (hts _ hw) hd (kk p e R s m args below meth c C0 H locs cells slots ls hW hc hs hl hlv)
theorem r_ldc2 {i : Nat} {v : Int64} (hw : Cond.constantLong (mY M).cls i v ∈ BIG) (hd : decode (mB M) pc = .ok (.ldc2_w i, 3)) (kk : Wx M G S (pc + 3) lv (.long v :: st) Q) : Wx M G S pc lv st Q := by
  intro p e R s m args below meth c C0 H locs cells slots ls hW hc hs hl hlv
  obtain ⟨hx, hb, hml, hr, hown, hts, hlk, hin0, hK, hbase, hfr, hlo, htb⟩ := id C0
  exact lv_ldc2 hx hb hown (hts _ hw) hd (kk p e R s m args below meth c C0 H locs cells slots ls hW hc hs hl hlv)
theorem r_ldc2d {i : Nat} {v : UInt64} (hw : Cond.constantDouble (mY M).cls i v ∈ BIG) (hd : decode (mB M) pc = .ok (.ldc2_w i, 3)) (kk : Wx M G S (pc + 3) lv (.double v :: st) Q) : Wx M G S pc lv st Q := by
  intro p e R s m args below meth c C0 H locs cells slots ls hW hc hs hl hlv
  obtain ⟨hx, hb, hml, hr, hown, hts, hlk, hin0, hK, hbase, hfr, hlo, htb⟩ := id C0
  exact lv_ldc2d hx hb hown (hts _ hw) hd (kk p e R s m args below meth c C0 H locs cells slots ls hW hc hs hl hlv)
theorem Wx.sub {lv' : List (Nat × Value)} (places : List Nat) (h : places.filterMap (fun i => lv[i]?) = lv') (kk : Wx M G S pc lv' st Q) : Wx M G S pc lv st Q := by
  intro p e R s m args below meth c C0 H locs cells slots ls hW hc hs hl hlv
  refine kk p e R s m args below meth c C0 H locs cells slots ls hW hc hs hl ⟨hlv.1, hlv.2.1, fun q hq => hlv.2.2 q ?_⟩
  subst h
  obtain ⟨i, -, hi⟩ := List.mem_filterMap.mp hq
  exact List.mem_of_getElem? hi
theorem Wx.st' {S' : Hp} (h : S = S') (kk : Wx M G S' pc lv st Q) : Wx M G S pc lv st Q := h ▸ kk
theorem Wx.mono {Q' : OV → Hp → Prop} (h : ∀ o T, Q' o T → Q o T) (kk : Wx M G S pc lv st Q') : Wx M G S pc lv st Q := by
  intro p e R s m args below meth c C0 H locs cells slots ls hW hc hs hl hlv T hT X
  obtain ⟨t, a, o, b1, b2, b3⟩ := kk p e R s m args below meth c C0 H locs cells slots ls hW hc hs hl hlv T hT X
  refine ⟨t, a, o, b1, b2, ?_⟩
  rcases b3 with ⟨⟨v, S', e1, e2, e3⟩, b4⟩ | ⟨q, e1, E, ce, L, ⟨S', e2, e3⟩, e4⟩
  · exact Or.inl ⟨⟨v, S', e1, h _ _ e2, e3⟩, b4⟩
  · exact Or.inr ⟨q, e1, E, ce, L, ⟨S', h _ _ e2, e3⟩, e4⟩
theorem w_room {H : Heap} (hW : WD G S H) {s : State} {R : Room} {cells slots : Nat} (h1 : s.heap.size + cells = zX S) (h2 : hsum s.heap + slots = zU S) (hb : s.heap.size + R.cells = gN G ∧ hsum s.heap + R.slots = gM G ∧ (∀ q, q < gB G → s.heap[q]? = (gH G)[q]?) ∧ gB G ≤ s.heap.size) : cells ≤ R.cells ∧ slots ≤ R.slots := by
  have := hW.2.2.2.1
  have := hW.2.2.2.2.1
  exact ⟨by omega, by omega⟩
theorem r_iret {v : Int32} {ty : FieldType} (hd : decode (mB M) pc = .ok (.ireturn, 1)) (ht : mR M = some ty) (hn : narrow ty (.int v) = .int v) (hq : Q (.inl (some (.int v))) S) : Wx M G S pc lv [(.int v)] Q := by
  intro p e R s m args below meth c C0 H locs cells slots ls hW hc hs hl hlv
  obtain ⟨hx, hb, hml, hr, hown, hts, hlk, hin0, hK, hbase, hfr, hlo, htb⟩ := id C0
  obtain ⟨g1, g2⟩ := w_room hW hc hs hbase
  refine W.widen g1 g2 (vx_ret ?_)
  exact W.zret (v := v) hx hb (hr.trans ht) hn (fun t ht hW' => ⟨_, S, rfl, hq, by rw [ht]; exact hW⟩) hl hd hlk
theorem r_lret {v : Int64} (hd : decode (mB M) pc = .ok (.lreturn, 1)) (ht : mR M = some .long) (hq : Q (.inl (some (.long v))) S) : Wx M G S pc lv [(.long v)] Q := by
  intro p e R s m args below meth c C0 H locs cells slots ls hW hc hs hl hlv
  obtain ⟨hx, hb, hml, hr, hown, hts, hlk, hin0, hK, hbase, hfr, hlo, htb⟩ := id C0
  obtain ⟨g1, g2⟩ := w_room hW hc hs hbase
  refine W.widen g1 g2 (vx_ret ?_)
  exact W.lret (v := v) hx hb (hr.trans ht) (fun t ht hW' => ⟨_, S, rfl, hq, by rw [ht]; exact hW⟩) hl hd hlk
theorem r_dret {v : UInt64} (hd : decode (mB M) pc = .ok (.dreturn, 1)) (ht : mR M = some .double) (hq : Q (.inl (some (.double v))) S) : Wx M G S pc lv [(.double v)] Q := by
  intro p e R s m args below meth c C0 H locs cells slots ls hW hc hs hl hlv
  obtain ⟨hx, hb, hml, hr, hown, hts, hlk, hin0, hK, hbase, hfr, hlo, htb⟩ := id C0
  obtain ⟨g1, g2⟩ := w_room hW hc hs hbase
  refine W.widen g1 g2 (vx_ret ?_)
  exact W.dret (v := v) hx hb (hr.trans ht) (fun t ht hW' => ⟨_, S, rfl, hq, by rw [ht]; exact hW⟩) hl hd hlk
theorem r_aret {v : Option Nat} {ty : FieldType} (hd : decode (mB M) pc = .ok (.areturn, 1)) (ht : mR M = some ty) (hrt : (∃ n, ty = .object n) ∨ ∃ t, ty = .array t) (hq : Q (.inl (some (va_rf v))) S) : Wx M G S pc lv [(va_rf v)] Q := by
  intro p e R s m args below meth c C0 H locs cells slots ls hW hc hs hl hlv
  obtain ⟨hx, hb, hml, hr, hown, hts, hlk, hin0, hK, hbase, hfr, hlo, htb⟩ := id C0
  obtain ⟨g1, g2⟩ := w_room hW hc hs hbase
  refine W.widen g1 g2 (vx_ret ?_)
  exact W.aret (v := va_rf v) hx hb (hr.trans ht) hrt (by cases v <;> simp [va_rf]) (fun t ht hW' => ⟨_, S, rfl, hq, by rw [ht]; exact hW⟩) hl hd hlk
theorem r_vret  (hd : decode (mB M) pc = .ok (.return_, 1)) (ht : mR M = none) (hq : Q (.inl none) S) : Wx M G S pc lv [] Q := by
  intro p e R s m args below meth c C0 H locs cells slots ls hW hc hs hl hlv
  obtain ⟨hx, hb, hml, hr, hown, hts, hlk, hin0, hK, hbase, hfr, hlo, htb⟩ := id C0
  obtain ⟨g1, g2⟩ := w_room hW hc hs hbase
  refine W.widen g1 g2 (vx_ret ?_)
  exact W.vret hx hb (hr.trans ht) (fun t ht hW' => ⟨_, S, rfl, hq, by rw [ht]; exact hW⟩) hl hd hlk
end Rules
/-! classes and their fields -/
def isR : FieldType → Bool
  | .object _ => true
  | .array _ => true
  | _ => false
def cK (ci : Nat) (C : String) (T : u_T) (N : Nat) (ty : Nat → FieldType) : Prop := vwCl[ci]? = some (C, T, N) ∧ ci < 100 ∧ (∀ w ∈ u_ws C T N, w ∈ BIG) ∧ (∀ k, k < N → parseFieldDescriptor (T k).2.2.1 = some (ty k)) ∧ (∀ a, a < N → ∀ b, b < N → a ≠ b → (T a).2.1 ≠ (T b).2.1) ∧ ∀ k, k < N → rfF (32 * ci + k) = isR (ty k)
/-- field k of class ci is what the entry idx of the class own names -/
def fR (own : String) (idx ci k : Nat) : Prop := ∃ C T N ty, cK ci C T N ty ∧ k < N ∧ (Cond.fieldLink own idx (T k).1 (T k).2.1 (T k).2.2.1 ∈ BIG ∨ ∃ host, Cond.fieldLinkNest own idx (T k).1 (T k).2.1 (T k).2.2.1 host ∈ NST)
theorem nF_of {ci : Nat} {C : String} {T : u_T} {N : Nat} (h : vwCl[ci]? = some (C, T, N)) : nF ci = N := by simp [nF, h]
theorem fV_at {S : Hp} {ci a k N : Nat} (hN : nF ci = N) (hk : k < N) : (fV S ci a)[k]? = some (if rfF (32 * ci + k) = true then va_rf (zP S (32 * ci + k) a) else .int (zI S (32 * ci + k) a)) := by
  unfold fV
  rw [List.getElem?_map, List.getElem?_range (by omega)]
  rfl
theorem fV_len {S : Hp} {ci a N : Nat} (hN : nF ci = N) : (fV S ci a).length = N := by simp [fV, hN]
theorem fV_eq {S S' : Hp} {ci a : Nat} (hI : ∀ k, zI S' (32 * ci + k) a = zI S (32 * ci + k) a) (hP : ∀ k, zP S' (32 * ci + k) a = zP S (32 * ci + k) a) : fV S' ci a = fV S ci a := by
  unfold fV
  apply List.map_congr_left
  intro k _
  rw [hI, hP]
theorem zE_eq {G : GI} {S S' : Hp} {a : Nat} (hT : zT S' a = zT S a) (hI : ∀ f, zI S' f a = zI S f a) (hP : ∀ f, zP S' f a = zP S f a) (hN : zN S' a = zN S a) (hA : zA S' a = zA S a) (hL : zL S' a = zL S a) (hD : zD S' a = zD S a) (hQ : zQ S' a = zQ S a) : zE G S' a = zE G S a := by
  unfold zE aC
  rw [hT, hN, hA, hL, hD, hQ, fV_eq (fun k => hI _) (fun k => hP _)]
theorem fV_uI {S : Hp} {ci a k N : Nat} (hN : nF ci = N) (hk : k < N) (hN2 : N ≤ 32) (hr : rfF (32 * ci + k) = false) (x : Int32) : (fV S ci a).set k (.int x) = fV (uI S (32 * ci + k) a x) ci a := by
  apply List.ext_getElem?
  intro i
  rw [List.getElem?_set, fV_len hN]
  by_cases e : k = i
  · subst e
    rw [if_pos rfl, if_pos hk, fV_at hN hk, hr]
    simp [zI_uI]
  · rw [if_neg e]
    by_cases hi : i < N
    · rw [fV_at hN hi, fV_at hN hi, zI_uI, if_neg (show ¬ (32 * ci + i = 32 * ci + k ∧ a = a) from fun h => e (by omega))]
      rfl
    · rw [List.getElem?_eq_none (by rw [fV_len hN]; omega), List.getElem?_eq_none (by rw [fV_len hN]; omega)]
theorem fV_uP {S : Hp} {ci a k N : Nat} (hN : nF ci = N) (hk : k < N) (hN2 : N ≤ 32) (hr : rfF (32 * ci + k) = true) (x : Option Nat) : (fV S ci a).set k (va_rf x) = fV (uP S (32 * ci + k) a x) ci a := by
  apply List.ext_getElem?
  intro i
  rw [List.getElem?_set, fV_len hN]
  by_cases e : k = i
  · subst e
    rw [if_pos rfl, if_pos hk, fV_at hN hk, hr]
    simp [zP_uP]
  · rw [if_neg e]
    by_cases hi : i < N
    · rw [fV_at hN hi, fV_at hN hi, zP_uP, if_neg (show ¬ (32 * ci + i = 32 * ci + k ∧ a = a) from fun h => e (by omega))]
      rfl
    · rw [List.getElem?_eq_none (by rw [fV_len hN]; omega), List.getElem?_eq_none (by rw [fV_len hN]; omega)]
section HeapRules
variable {M : MI} {G : GI} {S : Hp} {pc : Nat} {lv : List (Nat × Value)} {st : List Value} {Q : OV → Hp → Prop}
theorem one_P {H : Heap} {a : Nat} (hW : WD G S H) (h : zT S a ≠ 0) : va_P (gD G) vwCl [(a, zE G S a)] H := fun k q hk => by
  match k, hk with
  | 0, hk => cases hk; exact (hW.1 a h).1
theorem r_getI {idx ci k a : Nat} (hd : decode (mB M) pc = .ok (.getfield idx, 3)) (hf : fR (mY M).cls idx ci k) (ht : zT S a = ci + 1) (hi : rfF (32 * ci + k) = false) (kk : Wx M G S (pc + 3) lv (.int (zI S (32 * ci + k) a) :: st) Q) : Wx M G S pc lv (.ref a :: st) Q := by
  intro p e R s m args below meth c C0 H locs cells slots ls hW hc hs hl hlv
  obtain ⟨hx, hb, hml, hr, hown, hts, hlk, hin0, hK, hbase, hfr, hlo, htb⟩ := id C0
  obtain ⟨Cn, T, N, ty, ⟨c1, c2, c3, c4, c5, c6⟩, hk, hw⟩ := hf
  have hP := one_P hW (a := a) (by omega)
  rw [zE_obj ht c2] at hP
  have hv : (fV S ci a)[k]? = some (.int (zI S (32 * ci + k) a)) := by rw [fV_at (nF_of c1) hk, hi]; rfl
  have k1 := kk p e R s m args below meth c C0 H locs cells slots ls hW hc hs hl hlv
  rcases hw with hw | ⟨host, hw⟩
  · exact va_get hx hb hts c3 hown hK.1 hP 0 rfl c1 k hk (hts _ hw) (fun _ h => h) hv hd k1
  · exact va_getN hx hb hts c3 hown hK.1 hP 0 rfl c1 k hk (hK.nest hw) (fun _ h => h) hv hd k1
theorem r_getP {idx ci k a : Nat} (hd : decode (mB M) pc = .ok (.getfield idx, 3)) (hf : fR (mY M).cls idx ci k) (ht : zT S a = ci + 1) (hi : rfF (32 * ci + k) = true) (kk : Wx M G S (pc + 3) lv (va_rf (zP S (32 * ci + k) a) :: st) Q) : Wx M G S pc lv (.ref a :: st) Q := by
  intro p e R s m args below meth c C0 H locs cells slots ls hW hc hs hl hlv
  obtain ⟨hx, hb, hml, hr, hown, hts, hlk, hin0, hK, hbase, hfr, hlo, htb⟩ := id C0
  obtain ⟨Cn, T, N, ty, ⟨c1, c2, c3, c4, c5, c6⟩, hk, hw⟩ := hf
  have hP := one_P hW (a := a) (by omega)
  rw [zE_obj ht c2] at hP
  have hv : (fV S ci a)[k]? = some (va_rf (zP S (32 * ci + k) a)) := by rw [fV_at (nF_of c1) hk, hi]; rfl
  have k1 := kk p e R s m args below meth c C0 H locs cells slots ls hW hc hs hl hlv
  rcases hw with hw | ⟨host, hw⟩
  · exact va_get hx hb hts c3 hown hK.1 hP 0 rfl c1 k hk (hts _ hw) (fun _ h => h) hv hd k1
  · exact va_getN hx hb hts c3 hown hK.1 hP 0 rfl c1 k hk (hK.nest hw) (fun _ h => h) hv hd k1
/-- a reference field that is known to hold something -/
theorem r_getR {idx ci k a b : Nat} (hd : decode (mB M) pc = .ok (.getfield idx, 3)) (hf : fR (mY M).cls idx ci k) (ht : zT S a = ci + 1) (hi : rfF (32 * ci + k) = true) (hb : zP S (32 * ci + k) a = some b) (kk : Wx M G S (pc + 3) lv (.ref b :: st) Q) : Wx M G S pc lv (.ref a :: st) Q :=
  r_getP hd hf ht hi (by rw [hb]; exact kk)
theorem locs_one {locs : List Loc} (hl : ∀ q ∈ locs, gB G ≤ q.base) {a i : Nat} (ha : gB G ≤ a) : ∀ q ∈ locs ++ [⟨a, i⟩], gB G ≤ q.base := by
  intro q hq
  rcases List.mem_append.mp hq with h | h
  · exact hl q h
  · rw [List.mem_singleton] at h
    subst h
    exact ha
theorem put_core {idx ci k a : Nat} {v : Value} {S' : Hp} (hd : decode (mB M) pc = .ok (.putfield idx, 3)) {Cn : String} {T : u_T} {N : Nat} {ty : Nat → FieldType} (hcK : cK ci Cn T N ty) (hk : k < N) (hw : Cond.fieldLink (mY M).cls idx (T k).1 (T k).2.1 (T k).2.2.1 ∈ BIG ∨ ∃ host, Cond.fieldLinkNest (mY M).cls idx (T k).1 (T k).2.1 (T k).2.2.1 host ∈ NST) (ht : zT S a = ci + 1)
    (hfin : (T k).2.2.2 = false ∨ ((T k).2.2.2 = true ∧ (mY M).name = "<init>" ∧ (T k).1 = (mY M).cls ∧ Cond.fieldLink (mY M).cls idx (T k).1 (T k).2.1 (T k).2.2.1 ∈ BIG)) (hn : narrow (ty k) v = v) (hfit : fits (ty k) v = true)
    (hT : zT S' = zT S) (hX : zX S' = zX S) (hU : zU S' = zU S) (hE : ∀ b, b ≠ a → zE G S' b = zE G S b) (hfs : (fV S ci a).set k v = fV S' ci a) (kk : Wx M G S' (pc + 3) lv st Q) : Wx M G S pc lv (v :: .ref a :: st) Q := by
  intro p e R s m args below meth c C0 H locs cells slots ls hW hc hs hl hlv
  obtain ⟨hx, hb, hml, hr, hown, hts, hlk, hin0, hK, hbase, hfr, hlo, htb⟩ := id C0
  obtain ⟨c1, c2, c3, c4, c5, c6⟩ := hcK
  have hza : zT S a ≠ 0 := by omega
  have hA := (hW.1 a hza).2
  have hP := one_P hW hza
  rw [zE_obj ht c2] at hP
  have hap := va_apart (own := (mY M).cls) hts c3 ty c4 c5 hK.1 c1
  obtain ⟨r, h1, cell, q1, q2, q3, q4⟩ := hP 0 _ rfl
  have hr9 : r = (Cn, T, N) := Option.some.inj (h1.symm.trans c1)
  subst hr9
  obtain ⟨hS, hfc, kC, hkC, hkind⟩ := hK.1.1 ci _ c1
  obtain ⟨cf, kf, fi, f, hi, hsl⟩ := hS k hk
  have hlay := hts _ (c3 _ (u_in_lay hk))
  unfold u_lay at hlay
  have hst := (u_facts hfc hkC (u_lays hts c3 hk) hi).1
  have done : ∀ H' : Heap, H'[a]? = some (cell.setSlot f.slot v) → H'.size = H.size → (∀ q, q ≠ a → H'[q]? = H[q]?) → W p (gL G) e R s m args below meth c H' (locs ++ [⟨a, f.slot⟩]) cells slots (vx_MQ below (QcO G Q) (XcO G Q) args s R.cells R.slots (fun q => gB G ≤ q)) (F0 m (pc + 3) ls st) := fun H' e1 e2 e3 => by
    refine kk p e R s m args below meth c C0 H' _ cells slots ls ?_ (by rw [hX]; exact hc) (by rw [hU]; exact hs) (locs_one hl hA) hlv
    refine hW.put hza hT hX hU hE q1 e1 (by simp [Cell.setSlot]) e2 e3 ?_
    rw [zE_obj (by rw [hT]; exact ht) c2, ← hfs]
    rw [hsl] at e1
    exact ⟨_, c1, t_OB.to (V := updV (vp_V (fV S ci a)) k v) ⟨_, e1, q2, q3, t_set q4 hap hk v⟩ (fun j _ => vp_updV_set (by rw [fV_len (nF_of c1)]; exact hk) v j)⟩
  rcases hfin with hfin | ⟨hfin, hin1, hdecl, hw1⟩
  · rw [if_neg (by rw [hfin]; decide)] at hlay
    have h6 := u_store hfc hkC hkind hlay hi (c4 k hk) hn hfit
    rcases hw with hw | ⟨host, hw⟩
    · exact W.putK hx hb (f := f) ⟨hown, hts _ hw, ⟨_, _, _, hi⟩, hst⟩ (by rw [q2]; exact h6) q1 q3 (by rw [hsl]; exact k2_hasslot (q4 k hk)) rfl rfl hd done
    · exact va_WputK hx hb (f := f) hown (hK.nest hw) hi hst (by rw [q2]; exact h6) q1 q3 (by rw [hsl]; exact k2_hasslot (q4 k hk)) rfl rfl hd done
  · rw [if_pos hfin] at hlay
    have hcf : m.cls = cf := by
      obtain ⟨_, _, c', _, _, _, -, -, hf', -, -, -, hown2, -⟩ := Cond.laysFinal_spec hlay
      have e1 : c' = cf := by have := hi.symm.trans hf'; simp at this; exact this.1.symm
      rw [hdecl] at hown2
      rw [← e1]; exact Option.some.inj (hown.symm.trans hown2)
    have h6 := u_fits hfc hkC hkind (Or.inr hlay) hi (c4 k hk) hn hfit
    exact W.putFinK hx hb hown (hts _ hw1) hi hst hcf (hin0 hin1) (by rw [q2]; exact h6) q1 q3 (by rw [hsl]; exact k2_hasslot (q4 k hk)) rfl rfl hd done

/-- field k of class ci may be written: not final, or in the class's own constructor -/
def fW (M : MI) (idx ci k : Nat) (ty0 : FieldType) : Prop := ∃ Cn T N ty, cK ci Cn T N ty ∧ N ≤ 32 ∧ k < N ∧ ty k = ty0 ∧ (Cond.fieldLink (mY M).cls idx (T k).1 (T k).2.1 (T k).2.2.1 ∈ BIG ∨ ∃ host, Cond.fieldLinkNest (mY M).cls idx (T k).1 (T k).2.1 (T k).2.2.1 host ∈ NST) ∧
  ((T k).2.2.2 = false ∨ ((T k).2.2.2 = true ∧ (mY M).name = "<init>" ∧ (T k).1 = (mY M).cls ∧ Cond.fieldLink (mY M).cls idx (T k).1 (T k).2.1 (T k).2.2.1 ∈ BIG))
theorem zE_uI {f a b : Nat} {x : Int32} (h : b ≠ a) : zE G (uI S f a x) b = zE G S b := zE_eq rfl (fun g => by rw [zI_uI, if_neg (by rintro ⟨-, e⟩; exact h e)]) (fun _ => rfl) rfl rfl rfl rfl rfl
theorem zE_uP {f a b : Nat} {x : Option Nat} (h : b ≠ a) : zE G (uP S f a x) b = zE G S b := zE_eq rfl (fun _ => rfl) (fun g => by rw [zP_uP, if_neg (by rintro ⟨-, e⟩; exact h e)]) rfl rfl rfl rfl rfl
theorem r_putI {idx ci k a : Nat} {x : Int32} {ty0 : FieldType} (hd : decode (mB M) pc = .ok (.putfield idx, 3)) (hf : fW M idx ci k ty0) (ht : zT S a = ci + 1) (hi : rfF (32 * ci + k) = false) (hn : narrow ty0 (.int x) = .int x) (hfit : fits ty0 (.int x) = true) (kk : Wx M G (uI S (32 * ci + k) a x) (pc + 3) lv st Q) : Wx M G S pc lv (.int x :: .ref a :: st) Q := by
  obtain ⟨Cn, T, N, ty, hcK, h32, hk, hty, hw, hfin⟩ := hf
  subst hty
  exact put_core (S' := uI S (32 * ci + k) a x) hd hcK hk hw ht hfin hn hfit rfl rfl rfl (fun b hb => zE_uI hb) (fV_uI (nF_of hcK.1) hk h32 hi x) kk
theorem r_putP {idx ci k a : Nat} {x : Option Nat} {ty0 : FieldType} (hd : decode (mB M) pc = .ok (.putfield idx, 3)) (hf : fW M idx ci k ty0) (ht : zT S a = ci + 1) (hi : rfF (32 * ci + k) = true) (hR : isR ty0 = true) (kk : Wx M G (uP S (32 * ci + k) a x) (pc + 3) lv st Q) : Wx M G S pc lv (va_rf x :: .ref a :: st) Q := by
  obtain ⟨Cn, T, N, ty, hcK, h32, hk, hty, hw, hfin⟩ := hf
  subst hty
  exact put_core (S' := uP S (32 * ci + k) a x) hd hcK hk hw ht hfin (by cases h9 : ty k <;> cases x <;> first | rfl | (rw [h9] at hR; exact absurd hR (by decide))) (by cases h9 : ty k <;> cases x <;> first | rfl | (rw [h9] at hR; exact absurd hR (by decide))) rfl rfl rfl (fun b hb => zE_uP hb) (fV_uP (nF_of hcK.1) hk h32 hi x) kk
/-! rows -/
theorem zE_int {a : Nat} (h : zT S a = 101) : zE G S a = .inl (gC G 101, zN S a, .inl (zA S a)) := by rw [zE_row h (by decide)]; rfl
theorem zE_byte {a : Nat} (h : zT S a = 104) : zE G S a = .inl (gC G 104, zN S a, .inl (zA S a)) := by rw [zE_row h (by decide)]; rfl
theorem zE_char {a : Nat} (h : zT S a = 105) : zE G S a = .inl (gC G 105, zN S a, .inl (zA S a)) := by rw [zE_row h (by decide)]; rfl
theorem zE_bool {a : Nat} (h : zT S a = 106) : zE G S a = .inl (gC G 106, zN S a, .inl (zA S a)) := by rw [zE_row h (by decide)]; rfl
theorem zE_long {a : Nat} (h : zT S a = 102) : zE G S a = .inl (gC G 102, zN S a, .inr (.inl (zL S a))) := by rw [zE_row h (by decide)]; rfl
theorem zE_dbl {a : Nat} (h : zT S a = 103) : zE G S a = .inl (gC G 103, zN S a, .inr (.inr (.inr (.inl (zD S a))))) := by rw [zE_row h (by decide)]; rfl
theorem zE_ref {a t : Nat} (h : zT S a = t) (h1 : 111 ≤ t) : zE G S a = .inl (gC G t, zN S a, .inr (.inr (.inr (.inr (zQ S a))))) := by
  rw [zE_row h (by omega)]
  unfold aC
  rw [if_pos h1]
theorem r_iald {a : Nat} {i : Int32} (hd : decode (mB M) pc = .ok (.iaload, 1)) (ht : zT S a = 101) (hi : vp_in i (zN S a)) (kk : Wx M G S (pc + 1) lv (.int (zA S a i.toNatClampNeg) :: st) Q) : Wx M G S pc lv (.int i :: .ref a :: st) Q := by
  intro p e R s m args below meth c C0 H locs cells slots ls hW hc hs hl hlv
  obtain ⟨hx, hb, hml, hr, hown, hts, hlk, hin0, hK, hbase, hfr, hlo, htb⟩ := id C0
  have hP := one_P hW (a := a) (by omega)
  rw [zE_int ht] at hP
  exact va_iald hx hb hK.1 hP 0 0 rfl rfl hi hd (kk p e R s m args below meth c C0 H locs cells slots ls hW hc hs hl hlv)
theorem r_bald {a : Nat} {i : Int32} (hd : decode (mB M) pc = .ok (.baload, 1)) (ht : zT S a = 104) (hi : vp_in i (zN S a)) (kk : Wx M G S (pc + 1) lv (.int (zA S a i.toNatClampNeg) :: st) Q) : Wx M G S pc lv (.int i :: .ref a :: st) Q := by
  intro p e R s m args below meth c C0 H locs cells slots ls hW hc hs hl hlv
  obtain ⟨hx, hb, hml, hr, hown, hts, hlk, hin0, hK, hbase, hfr, hlo, htb⟩ := id C0
  have hP := one_P hW (a := a) (by omega)
  rw [zE_byte ht] at hP
  exact va_bald hx hb hK.1 hP 0 3 rfl rfl hi hd (kk p e R s m args below meth c C0 H locs cells slots ls hW hc hs hl hlv)
theorem r_zald {a : Nat} {i : Int32} (hd : decode (mB M) pc = .ok (.baload, 1)) (ht : zT S a = 106) (hi : vp_in i (zN S a)) (kk : Wx M G S (pc + 1) lv (.int (zA S a i.toNatClampNeg) :: st) Q) : Wx M G S pc lv (.int i :: .ref a :: st) Q := by
  intro p e R s m args below meth c C0 H locs cells slots ls hW hc hs hl hlv
  obtain ⟨hx, hb, hml, hr, hown, hts, hlk, hin0, hK, hbase, hfr, hlo, htb⟩ := id C0
  have hP := one_P hW (a := a) (by omega)
  rw [zE_bool ht] at hP
  exact va_zald hx hb hK.1 hP 0 5 rfl rfl hi hd (kk p e R s m args below meth c C0 H locs cells slots ls hW hc hs hl hlv)
theorem r_cald {a : Nat} {i : Int32} (hd : decode (mB M) pc = .ok (.caload, 1)) (ht : zT S a = 105) (hi : vp_in i (zN S a)) (kk : Wx M G S (pc + 1) lv (.int (zA S a i.toNatClampNeg) :: st) Q) : Wx M G S pc lv (.int i :: .ref a :: st) Q := by
  intro p e R s m args below meth c C0 H locs cells slots ls hW hc hs hl hlv
  obtain ⟨hx, hb, hml, hr, hown, hts, hlk, hin0, hK, hbase, hfr, hlo, htb⟩ := id C0
  have hP := one_P hW (a := a) (by omega)
  rw [zE_char ht] at hP
  exact va_cald hx hb hK.1 hP 0 4 rfl rfl hi hd (kk p e R s m args below meth c C0 H locs cells slots ls hW hc hs hl hlv)
theorem r_lald {a : Nat} {i : Int32} (hd : decode (mB M) pc = .ok (.laload, 1)) (ht : zT S a = 102) (hi : vp_in i (zN S a)) (kk : Wx M G S (pc + 1) lv (.long (zL S a i.toNatClampNeg) :: st) Q) : Wx M G S pc lv (.int i :: .ref a :: st) Q := by
  intro p e R s m args below meth c C0 H locs cells slots ls hW hc hs hl hlv
  obtain ⟨hx, hb, hml, hr, hown, hts, hlk, hin0, hK, hbase, hfr, hlo, htb⟩ := id C0
  have hP := one_P hW (a := a) (by omega)
  rw [zE_long ht] at hP
  exact va_lald hx hb hK.1 hP 0 1 rfl rfl hi hd (kk p e R s m args below meth c C0 H locs cells slots ls hW hc hs hl hlv)
theorem r_dald {a : Nat} {i : Int32} (hd : decode (mB M) pc = .ok (.daload, 1)) (ht : zT S a = 103) (hi : vp_in i (zN S a)) (kk : Wx M G S (pc + 1) lv (.double (zD S a i.toNatClampNeg) :: st) Q) : Wx M G S pc lv (.int i :: .ref a :: st) Q := by
  intro p e R s m args below meth c C0 H locs cells slots ls hW hc hs hl hlv
  obtain ⟨hx, hb, hml, hr, hown, hts, hlk, hin0, hK, hbase, hfr, hlo, htb⟩ := id C0
  have hP := one_P hW (a := a) (by omega)
  rw [zE_dbl ht] at hP
  exact va_dald hx hb hK.1 hP 0 2 rfl rfl hi hd (kk p e R s m args below meth c C0 H locs cells slots ls hW hc hs hl hlv)
theorem r_aald {a t : Nat} {i : Int32} (hd : decode (mB M) pc = .ok (.aaload, 1)) (ht : zT S a = t) (h1 : 111 ≤ t) (h2 : t ≤ 115) (hi : vp_in i (zN S a)) (kk : Wx M G S (pc + 1) lv (va_rf (zQ S a i.toNatClampNeg) :: st) Q) : Wx M G S pc lv (.int i :: .ref a :: st) Q := by
  intro p e R s m args below meth c C0 H locs cells slots ls hW hc hs hl hlv
  obtain ⟨hx, hb, hml, hr, hown, hts, hlk, hin0, hK, hbase, hfr, hlo, htb⟩ := id C0
  have hP := one_P hW (a := a) (by omega)
  rw [zE_ref ht h1] at hP
  have k1 := (kk p e R s m args below meth c C0 H locs cells slots ls hW hc hs hl hlv)
  obtain rfl | rfl | rfl | rfl | rfl : t = 111 ∨ t = 112 ∨ t = 113 ∨ t = 114 ∨ t = 115 := by omega
  · exact va_aldq hx hb hK.1 hP 0 6 rfl rfl hi hd k1
  · exact va_aldq hx hb hK.1 hP 0 7 rfl rfl hi hd k1
  · exact va_aldq hx hb hK.1 hP 0 8 rfl rfl hi hd k1
  · exact va_aldq hx hb hK.1 hP 0 9 rfl rfl hi hd k1
  · exact va_aldq hx hb hK.1 hP 0 10 rfl rfl hi hd k1
theorem r_aaldR {a t b : Nat} {i : Int32} (hd : decode (mB M) pc = .ok (.aaload, 1)) (ht : zT S a = t) (h1 : 111 ≤ t) (h2 : t ≤ 115) (hi : vp_in i (zN S a)) (hb : zQ S a i.toNatClampNeg = some b) (kk : Wx M G S (pc + 1) lv (.ref b :: st) Q) : Wx M G S pc lv (.int i :: .ref a :: st) Q :=
  r_aald hd ht h1 h2 hi (by rw [hb]; exact kk)
theorem r_alen101 {a : Nat} (hd : decode (mB M) pc = .ok (.arraylength, 1)) (ht : zT S a = 101) (kk : Wx M G S (pc + 1) lv (.int (nI (zN S a)) :: st) Q) : Wx M G S pc lv (.ref a :: st) Q := by
  intro p e R s m args below meth c C0 H locs cells slots ls hW hc hs hl hlv
  obtain ⟨hx, hb, hml, hr, hown, hts, hlk, hin0, hK, hbase, hfr, hlo, htb⟩ := id C0
  have hP := one_P hW (a := a) (by omega)
  rw [zE_int ht] at hP
  exact va_alen hx hb hK.1 hP 0 0 rfl rfl rfl hd (kk p e R s m args below meth c C0 H locs cells slots ls hW hc hs hl hlv)
theorem r_alen102 {a : Nat} (hd : decode (mB M) pc = .ok (.arraylength, 1)) (ht : zT S a = 102) (kk : Wx M G S (pc + 1) lv (.int (nI (zN S a)) :: st) Q) : Wx M G S pc lv (.ref a :: st) Q := by
  intro p e R s m args below meth c C0 H locs cells slots ls hW hc hs hl hlv
  obtain ⟨hx, hb, hml, hr, hown, hts, hlk, hin0, hK, hbase, hfr, hlo, htb⟩ := id C0
  have hP := one_P hW (a := a) (by omega)
  rw [zE_long ht] at hP
  exact va_alen hx hb hK.1 hP 0 1 rfl rfl rfl hd (kk p e R s m args below meth c C0 H locs cells slots ls hW hc hs hl hlv)
theorem r_alen103 {a : Nat} (hd : decode (mB M) pc = .ok (.arraylength, 1)) (ht : zT S a = 103) (kk : Wx M G S (pc + 1) lv (.int (nI (zN S a)) :: st) Q) : Wx M G S pc lv (.ref a :: st) Q := by
  intro p e R s m args below meth c C0 H locs cells slots ls hW hc hs hl hlv
  obtain ⟨hx, hb, hml, hr, hown, hts, hlk, hin0, hK, hbase, hfr, hlo, htb⟩ := id C0
  have hP := one_P hW (a := a) (by omega)
  rw [zE_dbl ht] at hP
  exact va_alen hx hb hK.1 hP 0 2 rfl rfl rfl hd (kk p e R s m args below meth c C0 H locs cells slots ls hW hc hs hl hlv)
theorem r_alen104 {a : Nat} (hd : decode (mB M) pc = .ok (.arraylength, 1)) (ht : zT S a = 104) (kk : Wx M G S (pc + 1) lv (.int (nI (zN S a)) :: st) Q) : Wx M G S pc lv (.ref a :: st) Q := by
  intro p e R s m args below meth c C0 H locs cells slots ls hW hc hs hl hlv
  obtain ⟨hx, hb, hml, hr, hown, hts, hlk, hin0, hK, hbase, hfr, hlo, htb⟩ := id C0
  have hP := one_P hW (a := a) (by omega)
  rw [zE_byte ht] at hP
  exact va_alen hx hb hK.1 hP 0 3 rfl rfl rfl hd (kk p e R s m args below meth c C0 H locs cells slots ls hW hc hs hl hlv)
theorem r_alen105 {a : Nat} (hd : decode (mB M) pc = .ok (.arraylength, 1)) (ht : zT S a = 105) (kk : Wx M G S (pc + 1) lv (.int (nI (zN S a)) :: st) Q) : Wx M G S pc lv (.ref a :: st) Q := by
  intro p e R s m args below meth c C0 H locs cells slots ls hW hc hs hl hlv
  obtain ⟨hx, hb, hml, hr, hown, hts, hlk, hin0, hK, hbase, hfr, hlo, htb⟩ := id C0
  have hP := one_P hW (a := a) (by omega)
  rw [zE_char ht] at hP
  exact va_alen hx hb hK.1 hP 0 4 rfl rfl rfl hd (kk p e R s m args below meth c C0 H locs cells slots ls hW hc hs hl hlv)
theorem r_alen106 {a : Nat} (hd : decode (mB M) pc = .ok (.arraylength, 1)) (ht : zT S a = 106) (kk : Wx M G S (pc + 1) lv (.int (nI (zN S a)) :: st) Q) : Wx M G S pc lv (.ref a :: st) Q := by
  intro p e R s m args below meth c C0 H locs cells slots ls hW hc hs hl hlv
  obtain ⟨hx, hb, hml, hr, hown, hts, hlk, hin0, hK, hbase, hfr, hlo, htb⟩ := id C0
  have hP := one_P hW (a := a) (by omega)
  rw [zE_bool ht] at hP
  exact va_alen hx hb hK.1 hP 0 5 rfl rfl rfl hd (kk p e R s m args below meth c C0 H locs cells slots ls hW hc hs hl hlv)
theorem r_alenQ {a t : Nat} (hd : decode (mB M) pc = .ok (.arraylength, 1)) (ht : zT S a = t) (h1 : 111 ≤ t) (h2 : t ≤ 115) (kk : Wx M G S (pc + 1) lv (.int (nI (zN S a)) :: st) Q) : Wx M G S pc lv (.ref a :: st) Q := by
  intro p e R s m args below meth c C0 H locs cells slots ls hW hc hs hl hlv
  obtain ⟨hx, hb, hml, hr, hown, hts, hlk, hin0, hK, hbase, hfr, hlo, htb⟩ := id C0
  have hP := one_P hW (a := a) (by omega)
  rw [zE_ref ht h1] at hP
  have k1 := (kk p e R s m args below meth c C0 H locs cells slots ls hW hc hs hl hlv)
  obtain rfl | rfl | rfl | rfl | rfl : t = 111 ∨ t = 112 ∨ t = 113 ∨ t = 114 ∨ t = 115 := by omega
  · exact va_alen hx hb hK.1 hP 0 6 rfl rfl rfl hd k1
  · exact va_alen hx hb hK.1 hP 0 7 rfl rfl rfl hd k1
  · exact va_alen hx hb hK.1 hP 0 8 rfl rfl rfl hd k1
  · exact va_alen hx hb hK.1 hP 0 9 rfl rfl rfl hd k1
  · exact va_alen hx hb hK.1 hP 0 10 rfl rfl rfl hd k1
theorem zE_uA {a b i : Nat} {x : Int32} (h : b ≠ a) : zE G (uA S a i x) b = zE G S b := zE_eq rfl (fun _ => rfl) (fun _ => rfl) rfl (by funext j; show zA (uA S a i x) b j = zA S b j; rw [zA_uA, if_neg (by rintro ⟨e, -⟩; exact h e)]) rfl rfl rfl
theorem zE_uL {a b i : Nat} {x : Int64} (h : b ≠ a) : zE G (uL S a i x) b = zE G S b := zE_eq rfl (fun _ => rfl) (fun _ => rfl) rfl rfl (by funext j; show zL (uL S a i x) b j = zL S b j; rw [zL_uL, if_neg (by rintro ⟨e, -⟩; exact h e)]) rfl rfl
theorem zE_uD {a b i : Nat} {x : UInt64} (h : b ≠ a) : zE G (uD S a i x) b = zE G S b := zE_eq rfl (fun _ => rfl) (fun _ => rfl) rfl rfl rfl (by funext j; show zD (uD S a i x) b j = zD S b j; rw [zD_uD, if_neg (by rintro ⟨e, -⟩; exact h e)]) rfl
theorem zE_uQ {a b i : Nat} {x : Option Nat} (h : b ≠ a) : zE G (uQ S a i x) b = zE G S b := zE_eq rfl (fun _ => rfl) (fun _ => rfl) rfl rfl rfl rfl (by funext j; show zQ (uQ S a i x) b j = zQ S b j; rw [zQ_uQ, if_neg (by rintro ⟨e, -⟩; exact h e)])
theorem arrV_sz {cI : ClassId} {n : Nat} {f : Nat → Value} {j : Nat} {v : Value} : ((arrV cI n f).setSlot j v).slots.size = (arrV cI n f).slots.size := by simp [Cell.setSlot]
theorem r_iast {a : Nat} {i : Int32} {x : Int32} (hd : decode (mB M) pc = .ok (.iastore, 1)) (ht : zT S a = 101) (hi : vp_in i (zN S a)) (kk : Wx M G (uA S a i.toNatClampNeg x) (pc + 1) lv st Q) : Wx M G S pc lv (.int x :: .int i :: .ref a :: st) Q := by
  intro p e R s m args below meth c C0 H locs cells slots ls hW hc hs hl hlv
  obtain ⟨hx, hb, hml, hr, hown, hts, hlk, hin0, hK, hbase, hfr, hlo, htb⟩ := id C0
  have hza : zT S a ≠ 0 := by omega
  have hP := one_P hW hza
  rw [zE_int ht] at hP
  have hcell := hP 0 _ rfl
  refine W.iast hx hb hcell ((hK.1.2 0 _ rfl).1 (zN S a) _) (fun q => by cases q) (by show ¬ (i < 0 ∨ (arrV _ _ _).slots.size ≤ _); rw [arrV_size]; exact hi) rfl rfl hd fun H1 eq1 z oq => ?_
  refine kk p e R s m args below meth c C0 H1 _ cells slots ls ?_ hc hs (locs_one hl (hW.1 a hza).2) hlv
  refine hW.put (S' := uA S a i.toNatClampNeg x) hza rfl rfl rfl (fun b hb => zE_uA hb) hcell eq1 arrV_sz z oq ?_
  rw [zE_int (show zT (uA S a i.toNatClampNeg x) a = 101 from ht)]
  show H1[a]? = some (vp_cell _ _)
  rw [eq1]
  rw [vp_cell_i, vp_cell_i, arrV_store]
  congr 2
  funext q
  show updV _ _ _ q = Value.int (zA (uA S a i.toNatClampNeg x) a q)
  rw [zA_uA]
  by_cases hq : q = i.toNatClampNeg
  · subst hq
    simp [updV, vp_nar]
    try rfl
  · simp [updV, hq]
theorem r_bast {a : Nat} {i : Int32} {x : Int32} (hd : decode (mB M) pc = .ok (.bastore, 1)) (ht : zT S a = 104) (hi : vp_in i (zN S a)) (kk : Wx M G (uA S a i.toNatClampNeg (vp_nar .byte x)) (pc + 1) lv st Q) : Wx M G S pc lv (.int x :: .int i :: .ref a :: st) Q := by
  intro p e R s m args below meth c C0 H locs cells slots ls hW hc hs hl hlv
  obtain ⟨hx, hb, hml, hr, hown, hts, hlk, hin0, hK, hbase, hfr, hlo, htb⟩ := id C0
  have hza : zT S a ≠ 0 := by omega
  have hP := one_P hW hza
  rw [zE_byte ht] at hP
  have hcell := hP 0 _ rfl
  refine W.bast hx hb hcell ((hK.1.2 3 _ rfl).1 (zN S a) _) (fun q => by cases q) (by show ¬ (i < 0 ∨ (arrV _ _ _).slots.size ≤ _); rw [arrV_size]; exact hi) rfl rfl hd fun H1 eq1 z oq => ?_
  refine kk p e R s m args below meth c C0 H1 _ cells slots ls ?_ hc hs (locs_one hl (hW.1 a hza).2) hlv
  refine hW.put (S' := uA S a i.toNatClampNeg (vp_nar .byte x)) hza rfl rfl rfl (fun b hb => zE_uA hb) hcell eq1 arrV_sz z oq ?_
  rw [zE_byte (show zT (uA S a i.toNatClampNeg (vp_nar .byte x)) a = 104 from ht)]
  show H1[a]? = some (vp_cell _ _)
  rw [eq1]
  rw [vp_cell_i, vp_cell_i, arrV_store]
  congr 2
  funext q
  show updV _ _ _ q = Value.int (zA (uA S a i.toNatClampNeg (vp_nar .byte x)) a q)
  rw [zA_uA]
  by_cases hq : q = i.toNatClampNeg
  · subst hq
    simp [updV, vp_nar]
    try rfl
  · simp [updV, hq]
theorem r_zast {a : Nat} {i : Int32} {x : Int32} (hd : decode (mB M) pc = .ok (.bastore, 1)) (ht : zT S a = 106) (hi : vp_in i (zN S a)) (kk : Wx M G (uA S a i.toNatClampNeg (vp_nar .boolean x)) (pc + 1) lv st Q) : Wx M G S pc lv (.int x :: .int i :: .ref a :: st) Q := by
  intro p e R s m args below meth c C0 H locs cells slots ls hW hc hs hl hlv
  obtain ⟨hx, hb, hml, hr, hown, hts, hlk, hin0, hK, hbase, hfr, hlo, htb⟩ := id C0
  have hza : zT S a ≠ 0 := by omega
  have hP := one_P hW hza
  rw [zE_bool ht] at hP
  have hcell := hP 0 _ rfl
  refine W.zast hx hb hcell ((hK.1.2 5 _ rfl).1 (zN S a) _) (fun q => by cases q) (by show ¬ (i < 0 ∨ (arrV _ _ _).slots.size ≤ _); rw [arrV_size]; exact hi) rfl rfl hd fun H1 eq1 z oq => ?_
  refine kk p e R s m args below meth c C0 H1 _ cells slots ls ?_ hc hs (locs_one hl (hW.1 a hza).2) hlv
  refine hW.put (S' := uA S a i.toNatClampNeg (vp_nar .boolean x)) hza rfl rfl rfl (fun b hb => zE_uA hb) hcell eq1 arrV_sz z oq ?_
  rw [zE_bool (show zT (uA S a i.toNatClampNeg (vp_nar .boolean x)) a = 106 from ht)]
  show H1[a]? = some (vp_cell _ _)
  rw [eq1]
  rw [vp_cell_i, vp_cell_i, arrV_store]
  congr 2
  funext q
  show updV _ _ _ q = Value.int (zA (uA S a i.toNatClampNeg (vp_nar .boolean x)) a q)
  rw [zA_uA]
  by_cases hq : q = i.toNatClampNeg
  · subst hq
    simp [updV, vp_nar]
    try rfl
  · simp [updV, hq]
theorem r_cast {a : Nat} {i : Int32} {x : Int32} (hd : decode (mB M) pc = .ok (.castore, 1)) (ht : zT S a = 105) (hi : vp_in i (zN S a)) (kk : Wx M G (uA S a i.toNatClampNeg (vp_nar .char x)) (pc + 1) lv st Q) : Wx M G S pc lv (.int x :: .int i :: .ref a :: st) Q := by
  intro p e R s m args below meth c C0 H locs cells slots ls hW hc hs hl hlv
  obtain ⟨hx, hb, hml, hr, hown, hts, hlk, hin0, hK, hbase, hfr, hlo, htb⟩ := id C0
  have hza : zT S a ≠ 0 := by omega
  have hP := one_P hW hza
  rw [zE_char ht] at hP
  have hcell := hP 0 _ rfl
  refine W.cast hx hb hcell ((hK.1.2 4 _ rfl).1 (zN S a) _) (fun q => by cases q) (by show ¬ (i < 0 ∨ (arrV _ _ _).slots.size ≤ _); rw [arrV_size]; exact hi) rfl rfl hd fun H1 eq1 z oq => ?_
  refine kk p e R s m args below meth c C0 H1 _ cells slots ls ?_ hc hs (locs_one hl (hW.1 a hza).2) hlv
  refine hW.put (S' := uA S a i.toNatClampNeg (vp_nar .char x)) hza rfl rfl rfl (fun b hb => zE_uA hb) hcell eq1 arrV_sz z oq ?_
  rw [zE_char (show zT (uA S a i.toNatClampNeg (vp_nar .char x)) a = 105 from ht)]
  show H1[a]? = some (vp_cell _ _)
  rw [eq1]
  rw [vp_cell_i, vp_cell_i, arrV_store]
  congr 2
  funext q
  show updV _ _ _ q = Value.int (zA (uA S a i.toNatClampNeg (vp_nar .char x)) a q)
  rw [zA_uA]
  by_cases hq : q = i.toNatClampNeg
  · subst hq
    simp [updV, vp_nar]
    try rfl
  · simp [updV, hq]
theorem r_last {a : Nat} {i : Int32} {x : Int64} (hd : decode (mB M) pc = .ok (.lastore, 1)) (ht : zT S a = 102) (hi : vp_in i (zN S a)) (kk : Wx M G (uL S a i.toNatClampNeg x) (pc + 1) lv st Q) : Wx M G S pc lv (.long x :: .int i :: .ref a :: st) Q := by
  intro p e R s m args below meth c C0 H locs cells slots ls hW hc hs hl hlv
  obtain ⟨hx, hb, hml, hr, hown, hts, hlk, hin0, hK, hbase, hfr, hlo, htb⟩ := id C0
  have hza : zT S a ≠ 0 := by omega
  have hP := one_P hW hza
  rw [zE_long ht] at hP
  have hcell := hP 0 _ rfl
  refine W.last hx hb hcell ((hK.1.2 1 _ rfl).1 (zN S a) _) (fun q => by cases q) (by show ¬ (i < 0 ∨ (arrV _ _ _).slots.size ≤ _); rw [arrV_size]; exact hi) rfl rfl hd fun H1 eq1 z oq => ?_
  refine kk p e R s m args below meth c C0 H1 _ cells slots ls ?_ hc hs (locs_one hl (hW.1 a hza).2) hlv
  refine hW.put (S' := uL S a i.toNatClampNeg x) hza rfl rfl rfl (fun b hb => zE_uL hb) hcell eq1 arrV_sz z oq ?_
  rw [zE_long (show zT (uL S a i.toNatClampNeg x) a = 102 from ht)]
  show H1[a]? = some (vp_cell _ _)
  rw [eq1]
  rw [vp_cell_l, vp_cell_l, arrV_store]
  congr 2
  funext q
  show updV _ _ _ q = Value.long (zL (uL S a i.toNatClampNeg x) a q)
  rw [zL_uL]
  by_cases hq : q = i.toNatClampNeg
  · subst hq
    simp [updV, vp_nar]
    try rfl
  · simp [updV, hq]
theorem r_dast {a : Nat} {i : Int32} {x : UInt64} (hd : decode (mB M) pc = .ok (.dastore, 1)) (ht : zT S a = 103) (hi : vp_in i (zN S a)) (kk : Wx M G (uD S a i.toNatClampNeg x) (pc + 1) lv st Q) : Wx M G S pc lv (.double x :: .int i :: .ref a :: st) Q := by
  intro p e R s m args below meth c C0 H locs cells slots ls hW hc hs hl hlv
  obtain ⟨hx, hb, hml, hr, hown, hts, hlk, hin0, hK, hbase, hfr, hlo, htb⟩ := id C0
  have hza : zT S a ≠ 0 := by omega
  have hP := one_P hW hza
  rw [zE_dbl ht] at hP
  have hcell := hP 0 _ rfl
  refine W.dast hx hb hcell ((hK.1.2 2 _ rfl).1 (zN S a) _) (fun q => by cases q) (by show ¬ (i < 0 ∨ (arrV _ _ _).slots.size ≤ _); rw [arrV_size]; exact hi) rfl rfl hd fun H1 eq1 z oq => ?_
  refine kk p e R s m args below meth c C0 H1 _ cells slots ls ?_ hc hs (locs_one hl (hW.1 a hza).2) hlv
  refine hW.put (S' := uD S a i.toNatClampNeg x) hza rfl rfl rfl (fun b hb => zE_uD hb) hcell eq1 arrV_sz z oq ?_
  rw [zE_dbl (show zT (uD S a i.toNatClampNeg x) a = 103 from ht)]
  show H1[a]? = some (vp_cell _ _)
  rw [eq1]
  rw [vp_cell_d, vp_cell_d, arrV_store]
  congr 2
  funext q
  show updV _ _ _ q = Value.double (zD (uD S a i.toNatClampNeg x) a q)
  rw [zD_uD]
  by_cases hq : q = i.toNatClampNeg
  · subst hq
    simp [updV, vp_nar]
    try rfl
  · simp [updV, hq]
end HeapRules
