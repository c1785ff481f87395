/-! THE LAW's WRAPPERS -/
theorem dL_machine_0 : decode cL_machine 0 = .ok (.aload 4, 2) := by decide +kernel
theorem dL_machine_2 : decode cL_machine 2 = .ok (.iconst 0, 1) := by decide +kernel
theorem dL_machine_3 : decode cL_machine 3 = .ok (.aload_n 0, 1) := by decide +kernel
theorem dL_machine_4 : decode cL_machine 4 = .ok (.iload_n 1, 1) := by decide +kernel
theorem dL_machine_5 : decode cL_machine 5 = .ok (.iload_n 2, 1) := by decide +kernel
theorem dL_machine_6 : decode cL_machine 6 = .ok (.iload_n 3, 1) := by decide +kernel
theorem dL_machine_7 : decode cL_machine 7 = .ok (.invokevirtual 7, 3) := by decide +kernel
theorem dL_machine_10 : decode cL_machine 10 = .ok (.i2l, 1) := by decide +kernel
theorem dL_machine_11 : decode cL_machine 11 = .ok (.lastore, 1) := by decide +kernel
theorem dL_machine_12 : decode cL_machine 12 = .ok (.goto 11, 3) := by decide +kernel
theorem dL_machine_15 : decode cL_machine 15 = .ok (.astore 5, 2) := by decide +kernel
theorem dL_machine_17 : decode cL_machine 17 = .ok (.iconst 1, 1) := by decide +kernel
theorem dL_machine_18 : decode cL_machine 18 = .ok (.ireturn, 1) := by decide +kernel
theorem dL_machine_19 : decode cL_machine 19 = .ok (.astore 5, 2) := by decide +kernel
theorem dL_machine_21 : decode cL_machine 21 = .ok (.iconst 2, 1) := by decide +kernel
theorem dL_machine_22 : decode cL_machine 22 = .ok (.ireturn, 1) := by decide +kernel
theorem dL_machine_23 : decode cL_machine 23 = .ok (.iconst 0, 1) := by decide +kernel
theorem dL_machine_24 : decode cL_machine 24 = .ok (.ireturn, 1) := by decide +kernel
theorem l_machine {G : GI} {S : Hp} {x b : Nat} {y0 y1 y2 : Int32} {Q2 : OV → Hp → Prop} (hx : zT S x = 14) (hcn : Cn m_X12_machine G [.ref x, .int y0, .int y1, .int y2] S Q2) (hQ : ∀ o T, Q2 o T → (zT T b = 102 ∧ zN T b = 1) ∧ ((∃ v : Int32, o = .inl (some (.int v))) ∨ o = .inr "java/lang/IndexOutOfBoundsException" ∨ o = .inr "java/lang/IllegalArgumentException")) : CnH m_L_machine G [.ref x, .int y0, .int y1, .int y2, .ref b] S (fun r U => (∃ (v : Int32) (T : Hp), Q2 (.inl (some (.int v))) T ∧ r = .inl (some (.int (nI 0))) ∧ U = uL T b 0 (v.toInt64)) ∨ (Q2 (.inr "java/lang/IndexOutOfBoundsException") U ∧ r = .inl (some (.int (nI 1)))) ∨ (Q2 (.inr "java/lang/IllegalArgumentException") U ∧ r = .inl (some (.int (nI 2))))) := by
  refine CnH.of (by decide) (Nat.le_of_ble_eq_true rfl) (fun hN9 hM9 => ?_)
  show Wx _ G _ 0 [(0, .ref x), (1, .int y0), (2, .int y1), (3, .int y2), (4, .ref b)] [] _
  refine r_aload dL_machine_0 4 rfl ?_
  refine r_iconst (v := nI 0) dL_machine_2 (by decide) ?_
  refine r_aload_n dL_machine_3 rfl 0 rfl ?_
  refine r_iload_n dL_machine_4 rfl 1 rfl ?_
  refine r_iload_n dL_machine_5 rfl 2 rfl ?_
  refine r_iload_n dL_machine_6 rfl 3 rfl ?_
  refine r_callV (M2 := m_X12_machine) (As := [.int y0, .int y1, .int y2]) (rest := [.int (nI 0), .ref b]) dL_machine_7 cc_L_machine_7 rfl rfl rfl (Nat.le_of_ble_eq_true rfl) hx rfl rfl (by decide) hcn (fun v9 T hq => ?_) (fun E9 T hq => ?_)
  · obtain ⟨⟨hb1, hb2⟩, ho⟩ := hQ _ _ hq
    obtain ⟨v, rfl⟩ : ∃ v : Int32, v9 = some (.int v) := by
      rcases ho with ⟨v, ho⟩ | ho | ho
      · exact ⟨v, Sum.inl.inj ho⟩
      · cases ho
      · cases ho
    show Wx _ G T 10 [(0, .ref x), (1, .int y0), (2, .int y1), (3, .int y2), (4, .ref b)] [.int v, .int (nI 0), .ref b] _
    refine r_i2l dL_machine_10 ?_
    refine r_last dL_machine_11 hb1 (by rw [hb2]; exact vp_in_nI (by decide) (by decide)) ?_
    refine Wx.st' (S' := uL T b 0 (v.toInt64)) (by rw [nI_clamp (by decide)]) ?_
    refine r_goto (tgt := 23) dL_machine_12 (by decide) ?_
    refine r_iconst (v := nI 0) dL_machine_23 (by decide) ?_
    exact r_iret (ty := .int) dL_machine_24 rfl rfl (Or.inl ⟨v, T, hq, rfl, rfl⟩)
  · obtain ⟨-, ho⟩ := hQ _ _ hq
    rcases ho with ⟨v, ho⟩ | ho | ho
    · cases ho
    · cases ho
      refine r_catch [] [(0, 12, 19, 15)] rfl (fun z hz => absurd hz List.not_mem_nil) (by decide) (by decide) (sg2 215 rfl rfl) (fun q => ?_)
      refine r_astore dL_machine_15 (Nat.le_of_ble_eq_true rfl) rfl ?_
      refine r_iconst (v := nI 1) dL_machine_17 (by decide) ?_
      exact r_iret (ty := .int) dL_machine_18 rfl rfl (Or.inr (Or.inl ⟨hq, rfl⟩))
    · cases ho
      refine r_catch [(0, 12, 15, 13)] [] rfl (fun z hz => by
          rcases List.mem_cons.mp hz with rfl | hz
          · exact ⟨by decide, _, (sg2 215 rfl rfl), List.mem_of_getElem? (i := 0) rfl⟩
          exact absurd hz List.not_mem_nil) (by decide) (by decide) (sg3 55 rfl rfl) (fun q => ?_)
      refine r_astore dL_machine_19 (Nat.le_of_ble_eq_true rfl) rfl ?_
      refine r_iconst (v := nI 2) dL_machine_21 (by decide) ?_
      exact r_iret (ty := .int) dL_machine_22 rfl rfl (Or.inr (Or.inr (⟨hq, rfl⟩)))
theorem dL_worked_0 : decode cL_worked 0 = .ok (.aload_n 2, 1) := by decide +kernel
theorem dL_worked_1 : decode cL_worked 1 = .ok (.iconst 0, 1) := by decide +kernel
theorem dL_worked_2 : decode cL_worked 2 = .ok (.aload_n 0, 1) := by decide +kernel
theorem dL_worked_3 : decode cL_worked 3 = .ok (.iload_n 1, 1) := by decide +kernel
theorem dL_worked_4 : decode cL_worked 4 = .ok (.invokevirtual 17, 3) := by decide +kernel
theorem dL_worked_7 : decode cL_worked 7 = .ok (.i2l, 1) := by decide +kernel
theorem dL_worked_8 : decode cL_worked 8 = .ok (.lastore, 1) := by decide +kernel
theorem dL_worked_9 : decode cL_worked 9 = .ok (.goto 6, 3) := by decide +kernel
theorem dL_worked_12 : decode cL_worked 12 = .ok (.astore_n 3, 1) := by decide +kernel
theorem dL_worked_13 : decode cL_worked 13 = .ok (.iconst 1, 1) := by decide +kernel
theorem dL_worked_14 : decode cL_worked 14 = .ok (.ireturn, 1) := by decide +kernel
theorem dL_worked_15 : decode cL_worked 15 = .ok (.iconst 0, 1) := by decide +kernel
theorem dL_worked_16 : decode cL_worked 16 = .ok (.ireturn, 1) := by decide +kernel
theorem l_worked {G : GI} {S : Hp} {x b : Nat} {y0 : Int32} {Q2 : OV → Hp → Prop} (hx : zT S x = 14) (hcn : Cn m_X12_worked G [.ref x, .int y0] S Q2) (hQ : ∀ o T, Q2 o T → (zT T b = 102 ∧ zN T b = 1) ∧ ((∃ v : Int32, o = .inl (some (.int v))) ∨ o = .inr "java/lang/IndexOutOfBoundsException")) : CnH m_L_worked G [.ref x, .int y0, .ref b] S (fun r U => (∃ (v : Int32) (T : Hp), Q2 (.inl (some (.int v))) T ∧ r = .inl (some (.int (nI 0))) ∧ U = uL T b 0 (v.toInt64)) ∨ (Q2 (.inr "java/lang/IndexOutOfBoundsException") U ∧ r = .inl (some (.int (nI 1))))) := by
  refine CnH.of (by decide) (Nat.le_of_ble_eq_true rfl) (fun hN9 hM9 => ?_)
  show Wx _ G _ 0 [(0, .ref x), (1, .int y0), (2, .ref b)] [] _
  refine r_aload_n dL_worked_0 rfl 2 rfl ?_
  refine r_iconst (v := nI 0) dL_worked_1 (by decide) ?_
  refine r_aload_n dL_worked_2 rfl 0 rfl ?_
  refine r_iload_n dL_worked_3 rfl 1 rfl ?_
  refine r_callV (M2 := m_X12_worked) (As := [.int y0]) (rest := [.int (nI 0), .ref b]) dL_worked_4 cc_L_worked_17 rfl rfl rfl (Nat.le_of_ble_eq_true rfl) hx rfl rfl (by decide) hcn (fun v9 T hq => ?_) (fun E9 T hq => ?_)
  · obtain ⟨⟨hb1, hb2⟩, ho⟩ := hQ _ _ hq
    obtain ⟨v, rfl⟩ : ∃ v : Int32, v9 = some (.int v) := by
      rcases ho with ⟨v, ho⟩ | ho
      · exact ⟨v, Sum.inl.inj ho⟩
      · cases ho
    show Wx _ G T 7 [(0, .ref x), (1, .int y0), (2, .ref b)] [.int v, .int (nI 0), .ref b] _
    refine r_i2l dL_worked_7 ?_
    refine r_last dL_worked_8 hb1 (by rw [hb2]; exact vp_in_nI (by decide) (by decide)) ?_
    refine Wx.st' (S' := uL T b 0 (v.toInt64)) (by rw [nI_clamp (by decide)]) ?_
    refine r_goto (tgt := 15) dL_worked_9 (by decide) ?_
    refine r_iconst (v := nI 0) dL_worked_15 (by decide) ?_
    exact r_iret (ty := .int) dL_worked_16 rfl rfl (Or.inl ⟨v, T, hq, rfl, rfl⟩)
  · obtain ⟨-, ho⟩ := hQ _ _ hq
    rcases ho with ⟨v, ho⟩ | ho
    · cases ho
    · cases ho
      refine r_catch [] [] rfl (fun z hz => absurd hz List.not_mem_nil) (by decide) (by decide) (sg2 215 rfl rfl) (fun q => ?_)
      refine r_astore_n dL_worked_12 rfl (Nat.le_of_ble_eq_true rfl) rfl ?_
      refine r_iconst (v := nI 1) dL_worked_13 (by decide) ?_
      exact r_iret (ty := .int) dL_worked_14 rfl rfl (Or.inr (⟨hq, rfl⟩))
theorem dL_product_0 : decode cL_product 0 = .ok (.aload 5, 2) := by decide +kernel
theorem dL_product_2 : decode cL_product 2 = .ok (.iconst 0, 1) := by decide +kernel
theorem dL_product_3 : decode cL_product 3 = .ok (.aload_n 0, 1) := by decide +kernel
theorem dL_product_4 : decode cL_product 4 = .ok (.iload_n 1, 1) := by decide +kernel
theorem dL_product_5 : decode cL_product 5 = .ok (.iload_n 2, 1) := by decide +kernel
theorem dL_product_6 : decode cL_product 6 = .ok (.iload_n 3, 1) := by decide +kernel
theorem dL_product_7 : decode cL_product 7 = .ok (.iload 4, 2) := by decide +kernel
theorem dL_product_9 : decode cL_product 9 = .ok (.invokevirtual 21, 3) := by decide +kernel
theorem dL_product_12 : decode cL_product 12 = .ok (.i2l, 1) := by decide +kernel
theorem dL_product_13 : decode cL_product 13 = .ok (.lastore, 1) := by decide +kernel
theorem dL_product_14 : decode cL_product 14 = .ok (.goto 11, 3) := by decide +kernel
theorem dL_product_17 : decode cL_product 17 = .ok (.astore 6, 2) := by decide +kernel
theorem dL_product_19 : decode cL_product 19 = .ok (.iconst 1, 1) := by decide +kernel
theorem dL_product_20 : decode cL_product 20 = .ok (.ireturn, 1) := by decide +kernel
theorem dL_product_21 : decode cL_product 21 = .ok (.astore 6, 2) := by decide +kernel
theorem dL_product_23 : decode cL_product 23 = .ok (.iconst 2, 1) := by decide +kernel
theorem dL_product_24 : decode cL_product 24 = .ok (.ireturn, 1) := by decide +kernel
theorem dL_product_25 : decode cL_product 25 = .ok (.iconst 0, 1) := by decide +kernel
theorem dL_product_26 : decode cL_product 26 = .ok (.ireturn, 1) := by decide +kernel
theorem l_product {G : GI} {S : Hp} {x b : Nat} {y0 y1 y2 y3 : Int32} {Q2 : OV → Hp → Prop} (hx : zT S x = 14) (hcn : Cn m_X12_product G [.ref x, .int y0, .int y1, .int y2, .int y3] S Q2) (hQ : ∀ o T, Q2 o T → (zT T b = 102 ∧ zN T b = 1) ∧ ((∃ v : Int32, o = .inl (some (.int v))) ∨ o = .inr "java/lang/IndexOutOfBoundsException" ∨ o = .inr "java/lang/IllegalArgumentException")) : CnH m_L_product G [.ref x, .int y0, .int y1, .int y2, .int y3, .ref b] S (fun r U => (∃ (v : Int32) (T : Hp), Q2 (.inl (some (.int v))) T ∧ r = .inl (some (.int (nI 0))) ∧ U = uL T b 0 (v.toInt64)) ∨ (Q2 (.inr "java/lang/IndexOutOfBoundsException") U ∧ r = .inl (some (.int (nI 1)))) ∨ (Q2 (.inr "java/lang/IllegalArgumentException") U ∧ r = .inl (some (.int (nI 2))))) := by
  refine CnH.of (by decide) (Nat.le_of_ble_eq_true rfl) (fun hN9 hM9 => ?_)
  show Wx _ G _ 0 [(0, .ref x), (1, .int y0), (2, .int y1), (3, .int y2), (4, .int y3), (5, .ref b)] [] _
  refine r_aload dL_product_0 5 rfl ?_
  refine r_iconst (v := nI 0) dL_product_2 (by decide) ?_
  refine r_aload_n dL_product_3 rfl 0 rfl ?_
  refine r_iload_n dL_product_4 rfl 1 rfl ?_
  refine r_iload_n dL_product_5 rfl 2 rfl ?_
  refine r_iload_n dL_product_6 rfl 3 rfl ?_
  refine r_iload dL_product_7 4 rfl ?_
  refine r_callV (M2 := m_X12_product) (As := [.int y0, .int y1, .int y2, .int y3]) (rest := [.int (nI 0), .ref b]) dL_product_9 cc_L_product_21 rfl rfl rfl (Nat.le_of_ble_eq_true rfl) hx rfl rfl (by decide) hcn (fun v9 T hq => ?_) (fun E9 T hq => ?_)
  · obtain ⟨⟨hb1, hb2⟩, ho⟩ := hQ _ _ hq
    obtain ⟨v, rfl⟩ : ∃ v : Int32, v9 = some (.int v) := by
      rcases ho with ⟨v, ho⟩ | ho | ho
      · exact ⟨v, Sum.inl.inj ho⟩
      · cases ho
      · cases ho
    show Wx _ G T 12 [(0, .ref x), (1, .int y0), (2, .int y1), (3, .int y2), (4, .int y3), (5, .ref b)] [.int v, .int (nI 0), .ref b] _
    refine r_i2l dL_product_12 ?_
    refine r_last dL_product_13 hb1 (by rw [hb2]; exact vp_in_nI (by decide) (by decide)) ?_
    refine Wx.st' (S' := uL T b 0 (v.toInt64)) (by rw [nI_clamp (by decide)]) ?_
    refine r_goto (tgt := 25) dL_product_14 (by decide) ?_
    refine r_iconst (v := nI 0) dL_product_25 (by decide) ?_
    exact r_iret (ty := .int) dL_product_26 rfl rfl (Or.inl ⟨v, T, hq, rfl, rfl⟩)
  · obtain ⟨-, ho⟩ := hQ _ _ hq
    rcases ho with ⟨v, ho⟩ | ho | ho
    · cases ho
    · cases ho
      refine r_catch [] [(0, 14, 21, 15)] rfl (fun z hz => absurd hz List.not_mem_nil) (by decide) (by decide) (sg2 215 rfl rfl) (fun q => ?_)
      refine r_astore dL_product_17 (Nat.le_of_ble_eq_true rfl) rfl ?_
      refine r_iconst (v := nI 1) dL_product_19 (by decide) ?_
      exact r_iret (ty := .int) dL_product_20 rfl rfl (Or.inr (Or.inl ⟨hq, rfl⟩))
    · cases ho
      refine r_catch [(0, 14, 17, 13)] [] rfl (fun z hz => by
          rcases List.mem_cons.mp hz with rfl | hz
          · exact ⟨by decide, _, (sg2 215 rfl rfl), List.mem_of_getElem? (i := 0) rfl⟩
          exact absurd hz List.not_mem_nil) (by decide) (by decide) (sg3 55 rfl rfl) (fun q => ?_)
      refine r_astore dL_product_21 (Nat.le_of_ble_eq_true rfl) rfl ?_
      refine r_iconst (v := nI 2) dL_product_23 (by decide) ?_
      exact r_iret (ty := .int) dL_product_24 rfl rfl (Or.inr (Or.inr (⟨hq, rfl⟩)))
theorem dL_policy_0 : decode cL_policy 0 = .ok (.aload_n 3, 1) := by decide +kernel
theorem dL_policy_1 : decode cL_policy 1 = .ok (.iconst 0, 1) := by decide +kernel
theorem dL_policy_2 : decode cL_policy 2 = .ok (.aload_n 0, 1) := by decide +kernel
theorem dL_policy_3 : decode cL_policy 3 = .ok (.iload_n 1, 1) := by decide +kernel
theorem dL_policy_4 : decode cL_policy 4 = .ok (.iload_n 2, 1) := by decide +kernel
theorem dL_policy_5 : decode cL_policy 5 = .ok (.invokevirtual 25, 3) := by decide +kernel
theorem dL_policy_8 : decode cL_policy 8 = .ok (.i2l, 1) := by decide +kernel
theorem dL_policy_9 : decode cL_policy 9 = .ok (.lastore, 1) := by decide +kernel
theorem dL_policy_10 : decode cL_policy 10 = .ok (.goto 11, 3) := by decide +kernel
theorem dL_policy_13 : decode cL_policy 13 = .ok (.astore 4, 2) := by decide +kernel
theorem dL_policy_15 : decode cL_policy 15 = .ok (.iconst 1, 1) := by decide +kernel
theorem dL_policy_16 : decode cL_policy 16 = .ok (.ireturn, 1) := by decide +kernel
theorem dL_policy_17 : decode cL_policy 17 = .ok (.astore 4, 2) := by decide +kernel
theorem dL_policy_19 : decode cL_policy 19 = .ok (.iconst 2, 1) := by decide +kernel
theorem dL_policy_20 : decode cL_policy 20 = .ok (.ireturn, 1) := by decide +kernel
theorem dL_policy_21 : decode cL_policy 21 = .ok (.iconst 0, 1) := by decide +kernel
theorem dL_policy_22 : decode cL_policy 22 = .ok (.ireturn, 1) := by decide +kernel
theorem l_policy {G : GI} {S : Hp} {x b : Nat} {y0 y1 : Int32} {Q2 : OV → Hp → Prop} (hx : zT S x = 14) (hcn : Cn m_X12_policy G [.ref x, .int y0, .int y1] S Q2) (hQ : ∀ o T, Q2 o T → (zT T b = 102 ∧ zN T b = 1) ∧ ((∃ v : Int32, o = .inl (some (.int v))) ∨ o = .inr "java/lang/IndexOutOfBoundsException" ∨ o = .inr "java/lang/IllegalArgumentException")) : CnH m_L_policy G [.ref x, .int y0, .int y1, .ref b] S (fun r U => (∃ (v : Int32) (T : Hp), Q2 (.inl (some (.int v))) T ∧ r = .inl (some (.int (nI 0))) ∧ U = uL T b 0 (v.toInt64)) ∨ (Q2 (.inr "java/lang/IndexOutOfBoundsException") U ∧ r = .inl (some (.int (nI 1)))) ∨ (Q2 (.inr "java/lang/IllegalArgumentException") U ∧ r = .inl (some (.int (nI 2))))) := by
  refine CnH.of (by decide) (Nat.le_of_ble_eq_true rfl) (fun hN9 hM9 => ?_)
  show Wx _ G _ 0 [(0, .ref x), (1, .int y0), (2, .int y1), (3, .ref b)] [] _
  refine r_aload_n dL_policy_0 rfl 3 rfl ?_
  refine r_iconst (v := nI 0) dL_policy_1 (by decide) ?_
  refine r_aload_n dL_policy_2 rfl 0 rfl ?_
  refine r_iload_n dL_policy_3 rfl 1 rfl ?_
  refine r_iload_n dL_policy_4 rfl 2 rfl ?_
  refine r_callV (M2 := m_X12_policy) (As := [.int y0, .int y1]) (rest := [.int (nI 0), .ref b]) dL_policy_5 cc_L_policy_25 rfl rfl rfl (Nat.le_of_ble_eq_true rfl) hx rfl rfl (by decide) hcn (fun v9 T hq => ?_) (fun E9 T hq => ?_)
  · obtain ⟨⟨hb1, hb2⟩, ho⟩ := hQ _ _ hq
    obtain ⟨v, rfl⟩ : ∃ v : Int32, v9 = some (.int v) := by
      rcases ho with ⟨v, ho⟩ | ho | ho
      · exact ⟨v, Sum.inl.inj ho⟩
      · cases ho
      · cases ho
    show Wx _ G T 8 [(0, .ref x), (1, .int y0), (2, .int y1), (3, .ref b)] [.int v, .int (nI 0), .ref b] _
    refine r_i2l dL_policy_8 ?_
    refine r_last dL_policy_9 hb1 (by rw [hb2]; exact vp_in_nI (by decide) (by decide)) ?_
    refine Wx.st' (S' := uL T b 0 (v.toInt64)) (by rw [nI_clamp (by decide)]) ?_
    refine r_goto (tgt := 21) dL_policy_10 (by decide) ?_
    refine r_iconst (v := nI 0) dL_policy_21 (by decide) ?_
    exact r_iret (ty := .int) dL_policy_22 rfl rfl (Or.inl ⟨v, T, hq, rfl, rfl⟩)
  · obtain ⟨-, ho⟩ := hQ _ _ hq
    rcases ho with ⟨v, ho⟩ | ho | ho
    · cases ho
    · cases ho
      refine r_catch [] [(0, 10, 17, 15)] rfl (fun z hz => absurd hz List.not_mem_nil) (by decide) (by decide) (sg2 215 rfl rfl) (fun q => ?_)
      refine r_astore dL_policy_13 (Nat.le_of_ble_eq_true rfl) rfl ?_
      refine r_iconst (v := nI 1) dL_policy_15 (by decide) ?_
      exact r_iret (ty := .int) dL_policy_16 rfl rfl (Or.inr (Or.inl ⟨hq, rfl⟩))
    · cases ho
      refine r_catch [(0, 10, 13, 13)] [] rfl (fun z hz => by
          rcases List.mem_cons.mp hz with rfl | hz
          · exact ⟨by decide, _, (sg2 215 rfl rfl), List.mem_of_getElem? (i := 0) rfl⟩
          exact absurd hz List.not_mem_nil) (by decide) (by decide) (sg3 55 rfl rfl) (fun q => ?_)
      refine r_astore dL_policy_17 (Nat.le_of_ble_eq_true rfl) rfl ?_
      refine r_iconst (v := nI 2) dL_policy_19 (by decide) ?_
      exact r_iret (ty := .int) dL_policy_20 rfl rfl (Or.inr (Or.inr (⟨hq, rfl⟩)))
theorem dL_table_0 : decode cL_table 0 = .ok (.aload 5, 2) := by decide +kernel
theorem dL_table_2 : decode cL_table 2 = .ok (.iconst 0, 1) := by decide +kernel
theorem dL_table_3 : decode cL_table 3 = .ok (.aload_n 0, 1) := by decide +kernel
theorem dL_table_4 : decode cL_table 4 = .ok (.iload_n 1, 1) := by decide +kernel
theorem dL_table_5 : decode cL_table 5 = .ok (.iload_n 2, 1) := by decide +kernel
theorem dL_table_6 : decode cL_table 6 = .ok (.iload_n 3, 1) := by decide +kernel
theorem dL_table_7 : decode cL_table 7 = .ok (.iload 4, 2) := by decide +kernel
theorem dL_table_9 : decode cL_table 9 = .ok (.invokevirtual 29, 3) := by decide +kernel
theorem dL_table_12 : decode cL_table 12 = .ok (.i2l, 1) := by decide +kernel
theorem dL_table_13 : decode cL_table 13 = .ok (.lastore, 1) := by decide +kernel
theorem dL_table_14 : decode cL_table 14 = .ok (.goto 11, 3) := by decide +kernel
theorem dL_table_17 : decode cL_table 17 = .ok (.astore 6, 2) := by decide +kernel
theorem dL_table_19 : decode cL_table 19 = .ok (.iconst 1, 1) := by decide +kernel
theorem dL_table_20 : decode cL_table 20 = .ok (.ireturn, 1) := by decide +kernel
theorem dL_table_21 : decode cL_table 21 = .ok (.astore 6, 2) := by decide +kernel
theorem dL_table_23 : decode cL_table 23 = .ok (.iconst 2, 1) := by decide +kernel
theorem dL_table_24 : decode cL_table 24 = .ok (.ireturn, 1) := by decide +kernel
theorem dL_table_25 : decode cL_table 25 = .ok (.iconst 0, 1) := by decide +kernel
theorem dL_table_26 : decode cL_table 26 = .ok (.ireturn, 1) := by decide +kernel
theorem l_table {G : GI} {S : Hp} {x b : Nat} {y0 y1 y2 y3 : Int32} {Q2 : OV → Hp → Prop} (hx : zT S x = 14) (hcn : Cn m_X12_table G [.ref x, .int y0, .int y1, .int y2, .int y3] S Q2) (hQ : ∀ o T, Q2 o T → (zT T b = 102 ∧ zN T b = 1) ∧ ((∃ v : Int32, o = .inl (some (.int v))) ∨ o = .inr "java/lang/IndexOutOfBoundsException" ∨ o = .inr "java/lang/IllegalArgumentException")) : CnH m_L_table G [.ref x, .int y0, .int y1, .int y2, .int y3, .ref b] S (fun r U => (∃ (v : Int32) (T : Hp), Q2 (.inl (some (.int v))) T ∧ r = .inl (some (.int (nI 0))) ∧ U = uL T b 0 (v.toInt64)) ∨ (Q2 (.inr "java/lang/IndexOutOfBoundsException") U ∧ r = .inl (some (.int (nI 1)))) ∨ (Q2 (.inr "java/lang/IllegalArgumentException") U ∧ r = .inl (some (.int (nI 2))))) := by
  refine CnH.of (by decide) (Nat.le_of_ble_eq_true rfl) (fun hN9 hM9 => ?_)
  show Wx _ G _ 0 [(0, .ref x), (1, .int y0), (2, .int y1), (3, .int y2), (4, .int y3), (5, .ref b)] [] _
  refine r_aload dL_table_0 5 rfl ?_
  refine r_iconst (v := nI 0) dL_table_2 (by decide) ?_
  refine r_aload_n dL_table_3 rfl 0 rfl ?_
  refine r_iload_n dL_table_4 rfl 1 rfl ?_
  refine r_iload_n dL_table_5 rfl 2 rfl ?_
  refine r_iload_n dL_table_6 rfl 3 rfl ?_
  refine r_iload dL_table_7 4 rfl ?_
  refine r_callV (M2 := m_X12_table) (As := [.int y0, .int y1, .int y2, .int y3]) (rest := [.int (nI 0), .ref b]) dL_table_9 cc_L_table_29 rfl rfl rfl (Nat.le_of_ble_eq_true rfl) hx rfl rfl (by decide) hcn (fun v9 T hq => ?_) (fun E9 T hq => ?_)
  · obtain ⟨⟨hb1, hb2⟩, ho⟩ := hQ _ _ hq
    obtain ⟨v, rfl⟩ : ∃ v : Int32, v9 = some (.int v) := by
      rcases ho with ⟨v, ho⟩ | ho | ho
      · exact ⟨v, Sum.inl.inj ho⟩
      · cases ho
      · cases ho
    show Wx _ G T 12 [(0, .ref x), (1, .int y0), (2, .int y1), (3, .int y2), (4, .int y3), (5, .ref b)] [.int v, .int (nI 0), .ref b] _
    refine r_i2l dL_table_12 ?_
    refine r_last dL_table_13 hb1 (by rw [hb2]; exact vp_in_nI (by decide) (by decide)) ?_
    refine Wx.st' (S' := uL T b 0 (v.toInt64)) (by rw [nI_clamp (by decide)]) ?_
    refine r_goto (tgt := 25) dL_table_14 (by decide) ?_
    refine r_iconst (v := nI 0) dL_table_25 (by decide) ?_
    exact r_iret (ty := .int) dL_table_26 rfl rfl (Or.inl ⟨v, T, hq, rfl, rfl⟩)
  · obtain ⟨-, ho⟩ := hQ _ _ hq
    rcases ho with ⟨v, ho⟩ | ho | ho
    · cases ho
    · cases ho
      refine r_catch [] [(0, 14, 21, 15)] rfl (fun z hz => absurd hz List.not_mem_nil) (by decide) (by decide) (sg2 215 rfl rfl) (fun q => ?_)
      refine r_astore dL_table_17 (Nat.le_of_ble_eq_true rfl) rfl ?_
      refine r_iconst (v := nI 1) dL_table_19 (by decide) ?_
      exact r_iret (ty := .int) dL_table_20 rfl rfl (Or.inr (Or.inl ⟨hq, rfl⟩))
    · cases ho
      refine r_catch [(0, 14, 17, 13)] [] rfl (fun z hz => by
          rcases List.mem_cons.mp hz with rfl | hz
          · exact ⟨by decide, _, (sg2 215 rfl rfl), List.mem_of_getElem? (i := 0) rfl⟩
          exact absurd hz List.not_mem_nil) (by decide) (by decide) (sg3 55 rfl rfl) (fun q => ?_)
      refine r_astore dL_table_21 (Nat.le_of_ble_eq_true rfl) rfl ?_
      refine r_iconst (v := nI 2) dL_table_23 (by decide) ?_
      exact r_iret (ty := .int) dL_table_24 rfl rfl (Or.inr (Or.inr (⟨hq, rfl⟩)))
theorem dL_afterwards_0 : decode cL_afterwards 0 = .ok (.aload 4, 2) := by decide +kernel
theorem dL_afterwards_2 : decode cL_afterwards 2 = .ok (.iconst 0, 1) := by decide +kernel
theorem dL_afterwards_3 : decode cL_afterwards 3 = .ok (.aload_n 0, 1) := by decide +kernel
theorem dL_afterwards_4 : decode cL_afterwards 4 = .ok (.iload_n 1, 1) := by decide +kernel
theorem dL_afterwards_5 : decode cL_afterwards 5 = .ok (.iload_n 2, 1) := by decide +kernel
theorem dL_afterwards_6 : decode cL_afterwards 6 = .ok (.iload_n 3, 1) := by decide +kernel
theorem dL_afterwards_7 : decode cL_afterwards 7 = .ok (.invokevirtual 33, 3) := by decide +kernel
theorem dL_afterwards_10 : decode cL_afterwards 10 = .ok (.i2l, 1) := by decide +kernel
theorem dL_afterwards_11 : decode cL_afterwards 11 = .ok (.lastore, 1) := by decide +kernel
theorem dL_afterwards_12 : decode cL_afterwards 12 = .ok (.goto 15, 3) := by decide +kernel
theorem dL_afterwards_15 : decode cL_afterwards 15 = .ok (.astore 5, 2) := by decide +kernel
theorem dL_afterwards_17 : decode cL_afterwards 17 = .ok (.iconst 1, 1) := by decide +kernel
theorem dL_afterwards_18 : decode cL_afterwards 18 = .ok (.ireturn, 1) := by decide +kernel
theorem dL_afterwards_19 : decode cL_afterwards 19 = .ok (.astore 5, 2) := by decide +kernel
theorem dL_afterwards_21 : decode cL_afterwards 21 = .ok (.iconst 2, 1) := by decide +kernel
theorem dL_afterwards_22 : decode cL_afterwards 22 = .ok (.ireturn, 1) := by decide +kernel
theorem dL_afterwards_23 : decode cL_afterwards 23 = .ok (.astore 5, 2) := by decide +kernel
theorem dL_afterwards_25 : decode cL_afterwards 25 = .ok (.iconst 3, 1) := by decide +kernel
theorem dL_afterwards_26 : decode cL_afterwards 26 = .ok (.ireturn, 1) := by decide +kernel
theorem dL_afterwards_27 : decode cL_afterwards 27 = .ok (.iconst 0, 1) := by decide +kernel
theorem dL_afterwards_28 : decode cL_afterwards 28 = .ok (.ireturn, 1) := by decide +kernel
theorem l_afterwards {G : GI} {S : Hp} {x b : Nat} {y0 y1 y2 : Int32} {Q2 : OV → Hp → Prop} (hx : zT S x = 14) (hcn : Cn m_X12_afterwards G [.ref x, .int y0, .int y1, .int y2] S Q2) (hQ : ∀ o T, Q2 o T → (zT T b = 102 ∧ zN T b = 1) ∧ ((∃ v : Int32, o = .inl (some (.int v))) ∨ o = .inr "java/lang/IndexOutOfBoundsException" ∨ o = .inr "java/lang/IllegalArgumentException" ∨ o = .inr "java/lang/IllegalStateException")) : CnH m_L_afterwards G [.ref x, .int y0, .int y1, .int y2, .ref b] S (fun r U => (∃ (v : Int32) (T : Hp), Q2 (.inl (some (.int v))) T ∧ r = .inl (some (.int (nI 0))) ∧ U = uL T b 0 (v.toInt64)) ∨ (Q2 (.inr "java/lang/IndexOutOfBoundsException") U ∧ r = .inl (some (.int (nI 1)))) ∨ (Q2 (.inr "java/lang/IllegalArgumentException") U ∧ r = .inl (some (.int (nI 2)))) ∨ (Q2 (.inr "java/lang/IllegalStateException") U ∧ r = .inl (some (.int (nI 3))))) := by
  refine CnH.of (by decide) (Nat.le_of_ble_eq_true rfl) (fun hN9 hM9 => ?_)
  show Wx _ G _ 0 [(0, .ref x), (1, .int y0), (2, .int y1), (3, .int y2), (4, .ref b)] [] _
  refine r_aload dL_afterwards_0 4 rfl ?_
  refine r_iconst (v := nI 0) dL_afterwards_2 (by decide) ?_
  refine r_aload_n dL_afterwards_3 rfl 0 rfl ?_
  refine r_iload_n dL_afterwards_4 rfl 1 rfl ?_
  refine r_iload_n dL_afterwards_5 rfl 2 rfl ?_
  refine r_iload_n dL_afterwards_6 rfl 3 rfl ?_
  refine r_callV (M2 := m_X12_afterwards) (As := [.int y0, .int y1, .int y2]) (rest := [.int (nI 0), .ref b]) dL_afterwards_7 cc_L_afterwards_33 rfl rfl rfl (Nat.le_of_ble_eq_true rfl) hx rfl rfl (by decide) hcn (fun v9 T hq => ?_) (fun E9 T hq => ?_)
  · obtain ⟨⟨hb1, hb2⟩, ho⟩ := hQ _ _ hq
    obtain ⟨v, rfl⟩ : ∃ v : Int32, v9 = some (.int v) := by
      rcases ho with ⟨v, ho⟩ | ho | ho | ho
      · exact ⟨v, Sum.inl.inj ho⟩
      · cases ho
      · cases ho
      · cases ho
    show Wx _ G T 10 [(0, .ref x), (1, .int y0), (2, .int y1), (3, .int y2), (4, .ref b)] [.int v, .int (nI 0), .ref b] _
    refine r_i2l dL_afterwards_10 ?_
    refine r_last dL_afterwards_11 hb1 (by rw [hb2]; exact vp_in_nI (by decide) (by decide)) ?_
    refine Wx.st' (S' := uL T b 0 (v.toInt64)) (by rw [nI_clamp (by decide)]) ?_
    refine r_goto (tgt := 27) dL_afterwards_12 (by decide) ?_
    refine r_iconst (v := nI 0) dL_afterwards_27 (by decide) ?_
    exact r_iret (ty := .int) dL_afterwards_28 rfl rfl (Or.inl ⟨v, T, hq, rfl, rfl⟩)
  · obtain ⟨-, ho⟩ := hQ _ _ hq
    rcases ho with ⟨v, ho⟩ | ho | ho | ho
    · cases ho
    · cases ho
      refine r_catch [] [(0, 12, 19, 15), (0, 12, 23, 36)] rfl (fun z hz => absurd hz List.not_mem_nil) (by decide) (by decide) (sg2 215 rfl rfl) (fun q => ?_)
      refine r_astore dL_afterwards_15 (Nat.le_of_ble_eq_true rfl) rfl ?_
      refine r_iconst (v := nI 1) dL_afterwards_17 (by decide) ?_
      exact r_iret (ty := .int) dL_afterwards_18 rfl rfl (Or.inr (Or.inl ⟨hq, rfl⟩))
    · cases ho
      refine r_catch [(0, 12, 15, 13)] [(0, 12, 23, 36)] rfl (fun z hz => by
          rcases List.mem_cons.mp hz with rfl | hz
          · exact ⟨by decide, _, (sg2 215 rfl rfl), List.mem_of_getElem? (i := 0) rfl⟩
          exact absurd hz List.not_mem_nil) (by decide) (by decide) (sg3 55 rfl rfl) (fun q => ?_)
      refine r_astore dL_afterwards_19 (Nat.le_of_ble_eq_true rfl) rfl ?_
      refine r_iconst (v := nI 2) dL_afterwards_21 (by decide) ?_
      exact r_iret (ty := .int) dL_afterwards_22 rfl rfl (Or.inr (Or.inr (Or.inl ⟨hq, rfl⟩)))
    · cases ho
      refine r_catch [(0, 12, 15, 13), (0, 12, 19, 15)] [] rfl (fun z hz => by
          rcases List.mem_cons.mp hz with rfl | hz
          · exact ⟨by decide, _, (sg2 215 rfl rfl), List.mem_of_getElem? (i := 1) rfl⟩
          rcases List.mem_cons.mp hz with rfl | hz
          · exact ⟨by decide, _, (sg3 55 rfl rfl), List.mem_of_getElem? (i := 2) rfl⟩
          exact absurd hz List.not_mem_nil) (by decide) (by decide) (sg3 217 rfl rfl) (fun q => ?_)
      refine r_astore dL_afterwards_23 (Nat.le_of_ble_eq_true rfl) rfl ?_
      refine r_iconst (v := nI 3) dL_afterwards_25 (by decide) ?_
      exact r_iret (ty := .int) dL_afterwards_26 rfl rfl (Or.inr (Or.inr (Or.inr (⟨hq, rfl⟩))))
theorem dL_release_0 : decode cL_release 0 = .ok (.aload_n 2, 1) := by decide +kernel
theorem dL_release_1 : decode cL_release 1 = .ok (.iconst 0, 1) := by decide +kernel
theorem dL_release_2 : decode cL_release 2 = .ok (.aload_n 0, 1) := by decide +kernel
theorem dL_release_3 : decode cL_release 3 = .ok (.iload_n 1, 1) := by decide +kernel
theorem dL_release_4 : decode cL_release 4 = .ok (.invokevirtual 38, 3) := by decide +kernel
theorem dL_release_7 : decode cL_release 7 = .ok (.i2l, 1) := by decide +kernel
theorem dL_release_8 : decode cL_release 8 = .ok (.lastore, 1) := by decide +kernel
theorem dL_release_9 : decode cL_release 9 = .ok (.goto 9, 3) := by decide +kernel
theorem dL_release_12 : decode cL_release 12 = .ok (.astore_n 3, 1) := by decide +kernel
theorem dL_release_13 : decode cL_release 13 = .ok (.iconst 1, 1) := by decide +kernel
theorem dL_release_14 : decode cL_release 14 = .ok (.ireturn, 1) := by decide +kernel
theorem dL_release_15 : decode cL_release 15 = .ok (.astore_n 3, 1) := by decide +kernel
theorem dL_release_16 : decode cL_release 16 = .ok (.iconst 2, 1) := by decide +kernel
theorem dL_release_17 : decode cL_release 17 = .ok (.ireturn, 1) := by decide +kernel
theorem dL_release_18 : decode cL_release 18 = .ok (.iconst 0, 1) := by decide +kernel
theorem dL_release_19 : decode cL_release 19 = .ok (.ireturn, 1) := by decide +kernel
theorem l_release {G : GI} {S : Hp} {x b : Nat} {y0 : Int32} {Q2 : OV → Hp → Prop} (hx : zT S x = 14) (hcn : Cn m_X12_release G [.ref x, .int y0] S Q2) (hQ : ∀ o T, Q2 o T → (zT T b = 102 ∧ zN T b = 1) ∧ ((∃ v : Int32, o = .inl (some (.int v))) ∨ o = .inr "java/lang/IndexOutOfBoundsException" ∨ o = .inr "java/lang/IllegalStateException")) : CnH m_L_release G [.ref x, .int y0, .ref b] S (fun r U => (∃ (v : Int32) (T : Hp), Q2 (.inl (some (.int v))) T ∧ r = .inl (some (.int (nI 0))) ∧ U = uL T b 0 (v.toInt64)) ∨ (Q2 (.inr "java/lang/IndexOutOfBoundsException") U ∧ r = .inl (some (.int (nI 1)))) ∨ (Q2 (.inr "java/lang/IllegalStateException") U ∧ r = .inl (some (.int (nI 2))))) := by
  refine CnH.of (by decide) (Nat.le_of_ble_eq_true rfl) (fun hN9 hM9 => ?_)
  show Wx _ G _ 0 [(0, .ref x), (1, .int y0), (2, .ref b)] [] _
  refine r_aload_n dL_release_0 rfl 2 rfl ?_
  refine r_iconst (v := nI 0) dL_release_1 (by decide) ?_
  refine r_aload_n dL_release_2 rfl 0 rfl ?_
  refine r_iload_n dL_release_3 rfl 1 rfl ?_
  refine r_callV (M2 := m_X12_release) (As := [.int y0]) (rest := [.int (nI 0), .ref b]) dL_release_4 cc_L_release_38 rfl rfl rfl (Nat.le_of_ble_eq_true rfl) hx rfl rfl (by decide) hcn (fun v9 T hq => ?_) (fun E9 T hq => ?_)
  · obtain ⟨⟨hb1, hb2⟩, ho⟩ := hQ _ _ hq
    obtain ⟨v, rfl⟩ : ∃ v : Int32, v9 = some (.int v) := by
      rcases ho with ⟨v, ho⟩ | ho | ho
      · exact ⟨v, Sum.inl.inj ho⟩
      · cases ho
      · cases ho
    show Wx _ G T 7 [(0, .ref x), (1, .int y0), (2, .ref b)] [.int v, .int (nI 0), .ref b] _
    refine r_i2l dL_release_7 ?_
    refine r_last dL_release_8 hb1 (by rw [hb2]; exact vp_in_nI (by decide) (by decide)) ?_
    refine Wx.st' (S' := uL T b 0 (v.toInt64)) (by rw [nI_clamp (by decide)]) ?_
    refine r_goto (tgt := 18) dL_release_9 (by decide) ?_
    refine r_iconst (v := nI 0) dL_release_18 (by decide) ?_
    exact r_iret (ty := .int) dL_release_19 rfl rfl (Or.inl ⟨v, T, hq, rfl, rfl⟩)
  · obtain ⟨-, ho⟩ := hQ _ _ hq
    rcases ho with ⟨v, ho⟩ | ho | ho
    · cases ho
    · cases ho
      refine r_catch [] [(0, 9, 15, 36)] rfl (fun z hz => absurd hz List.not_mem_nil) (by decide) (by decide) (sg2 215 rfl rfl) (fun q => ?_)
      refine r_astore_n dL_release_12 rfl (Nat.le_of_ble_eq_true rfl) rfl ?_
      refine r_iconst (v := nI 1) dL_release_13 (by decide) ?_
      exact r_iret (ty := .int) dL_release_14 rfl rfl (Or.inr (Or.inl ⟨hq, rfl⟩))
    · cases ho
      refine r_catch [(0, 9, 12, 13)] [] rfl (fun z hz => by
          rcases List.mem_cons.mp hz with rfl | hz
          · exact ⟨by decide, _, (sg2 215 rfl rfl), List.mem_of_getElem? (i := 1) rfl⟩
          exact absurd hz List.not_mem_nil) (by decide) (by decide) (sg3 217 rfl rfl) (fun q => ?_)
      refine r_astore_n dL_release_15 rfl (Nat.le_of_ble_eq_true rfl) rfl ?_
      refine r_iconst (v := nI 2) dL_release_16 (by decide) ?_
      exact r_iret (ty := .int) dL_release_17 rfl rfl (Or.inr (Or.inr (⟨hq, rfl⟩)))
theorem dL_seed_0 : decode cL_seed 0 = .ok (.aload_n 2, 1) := by decide +kernel
theorem dL_seed_1 : decode cL_seed 1 = .ok (.iconst 0, 1) := by decide +kernel
theorem dL_seed_2 : decode cL_seed 2 = .ok (.aload_n 0, 1) := by decide +kernel
theorem dL_seed_3 : decode cL_seed 3 = .ok (.iload_n 1, 1) := by decide +kernel
theorem dL_seed_4 : decode cL_seed 4 = .ok (.invokevirtual 41, 3) := by decide +kernel
theorem dL_seed_7 : decode cL_seed 7 = .ok (.i2l, 1) := by decide +kernel
theorem dL_seed_8 : decode cL_seed 8 = .ok (.lastore, 1) := by decide +kernel
theorem dL_seed_9 : decode cL_seed 9 = .ok (.goto 6, 3) := by decide +kernel
theorem dL_seed_12 : decode cL_seed 12 = .ok (.astore_n 3, 1) := by decide +kernel
theorem dL_seed_13 : decode cL_seed 13 = .ok (.iconst 1, 1) := by decide +kernel
theorem dL_seed_14 : decode cL_seed 14 = .ok (.ireturn, 1) := by decide +kernel
theorem dL_seed_15 : decode cL_seed 15 = .ok (.iconst 0, 1) := by decide +kernel
theorem dL_seed_16 : decode cL_seed 16 = .ok (.ireturn, 1) := by decide +kernel
theorem l_seed {G : GI} {S : Hp} {x b : Nat} {y0 : Int32} {Q2 : OV → Hp → Prop} (hx : zT S x = 14) (hcn : Cn m_X12_seed G [.ref x, .int y0] S Q2) (hQ : ∀ o T, Q2 o T → (zT T b = 102 ∧ zN T b = 1) ∧ ((∃ v : Int32, o = .inl (some (.int v))) ∨ o = .inr "java/lang/IllegalArgumentException")) : CnH m_L_seed G [.ref x, .int y0, .ref b] S (fun r U => (∃ (v : Int32) (T : Hp), Q2 (.inl (some (.int v))) T ∧ r = .inl (some (.int (nI 0))) ∧ U = uL T b 0 (v.toInt64)) ∨ (Q2 (.inr "java/lang/IllegalArgumentException") U ∧ r = .inl (some (.int (nI 1))))) := by
  refine CnH.of (by decide) (Nat.le_of_ble_eq_true rfl) (fun hN9 hM9 => ?_)
  show Wx _ G _ 0 [(0, .ref x), (1, .int y0), (2, .ref b)] [] _
  refine r_aload_n dL_seed_0 rfl 2 rfl ?_
  refine r_iconst (v := nI 0) dL_seed_1 (by decide) ?_
  refine r_aload_n dL_seed_2 rfl 0 rfl ?_
  refine r_iload_n dL_seed_3 rfl 1 rfl ?_
  refine r_callV (M2 := m_X12_seed) (As := [.int y0]) (rest := [.int (nI 0), .ref b]) dL_seed_4 cc_L_seed_41 rfl rfl rfl (Nat.le_of_ble_eq_true rfl) hx rfl rfl (by decide) hcn (fun v9 T hq => ?_) (fun E9 T hq => ?_)
  · obtain ⟨⟨hb1, hb2⟩, ho⟩ := hQ _ _ hq
    obtain ⟨v, rfl⟩ : ∃ v : Int32, v9 = some (.int v) := by
      rcases ho with ⟨v, ho⟩ | ho
      · exact ⟨v, Sum.inl.inj ho⟩
      · cases ho
    show Wx _ G T 7 [(0, .ref x), (1, .int y0), (2, .ref b)] [.int v, .int (nI 0), .ref b] _
    refine r_i2l dL_seed_7 ?_
    refine r_last dL_seed_8 hb1 (by rw [hb2]; exact vp_in_nI (by decide) (by decide)) ?_
    refine Wx.st' (S' := uL T b 0 (v.toInt64)) (by rw [nI_clamp (by decide)]) ?_
    refine r_goto (tgt := 15) dL_seed_9 (by decide) ?_
    refine r_iconst (v := nI 0) dL_seed_15 (by decide) ?_
    exact r_iret (ty := .int) dL_seed_16 rfl rfl (Or.inl ⟨v, T, hq, rfl, rfl⟩)
  · obtain ⟨-, ho⟩ := hQ _ _ hq
    rcases ho with ⟨v, ho⟩ | ho
    · cases ho
    · cases ho
      refine r_catch [] [] rfl (fun z hz => absurd hz List.not_mem_nil) (by decide) (by decide) (sg3 55 rfl rfl) (fun q => ?_)
      refine r_astore_n dL_seed_12 rfl (Nat.le_of_ble_eq_true rfl) rfl ?_
      refine r_iconst (v := nI 1) dL_seed_13 (by decide) ?_
      exact r_iret (ty := .int) dL_seed_14 rfl rfl (Or.inr (⟨hq, rfl⟩))
theorem dL_raw_0 : decode cL_raw 0 = .ok (.aload 4, 2) := by decide +kernel
theorem dL_raw_2 : decode cL_raw 2 = .ok (.iconst 0, 1) := by decide +kernel
theorem dL_raw_3 : decode cL_raw 3 = .ok (.aload_n 0, 1) := by decide +kernel
theorem dL_raw_4 : decode cL_raw 4 = .ok (.iload_n 1, 1) := by decide +kernel
theorem dL_raw_5 : decode cL_raw 5 = .ok (.iload_n 2, 1) := by decide +kernel
theorem dL_raw_6 : decode cL_raw 6 = .ok (.iload_n 3, 1) := by decide +kernel
theorem dL_raw_7 : decode cL_raw 7 = .ok (.invokevirtual 44, 3) := by decide +kernel
theorem dL_raw_10 : decode cL_raw 10 = .ok (.i2l, 1) := by decide +kernel
theorem dL_raw_11 : decode cL_raw 11 = .ok (.lastore, 1) := by decide +kernel
theorem dL_raw_12 : decode cL_raw 12 = .ok (.goto 15, 3) := by decide +kernel
theorem dL_raw_15 : decode cL_raw 15 = .ok (.astore 5, 2) := by decide +kernel
theorem dL_raw_17 : decode cL_raw 17 = .ok (.iconst 1, 1) := by decide +kernel
theorem dL_raw_18 : decode cL_raw 18 = .ok (.ireturn, 1) := by decide +kernel
theorem dL_raw_19 : decode cL_raw 19 = .ok (.astore 5, 2) := by decide +kernel
theorem dL_raw_21 : decode cL_raw 21 = .ok (.iconst 2, 1) := by decide +kernel
theorem dL_raw_22 : decode cL_raw 22 = .ok (.ireturn, 1) := by decide +kernel
theorem dL_raw_23 : decode cL_raw 23 = .ok (.astore 5, 2) := by decide +kernel
theorem dL_raw_25 : decode cL_raw 25 = .ok (.iconst 3, 1) := by decide +kernel
theorem dL_raw_26 : decode cL_raw 26 = .ok (.ireturn, 1) := by decide +kernel
theorem dL_raw_27 : decode cL_raw 27 = .ok (.iconst 0, 1) := by decide +kernel
theorem dL_raw_28 : decode cL_raw 28 = .ok (.ireturn, 1) := by decide +kernel
theorem l_raw {G : GI} {S : Hp} {x b : Nat} {y0 y1 y2 : Int32} {Q2 : OV → Hp → Prop} (hx : zT S x = 14) (hcn : Cn m_X12_raw G [.ref x, .int y0, .int y1, .int y2] S Q2) (hQ : ∀ o T, Q2 o T → (zT T b = 102 ∧ zN T b = 1) ∧ ((∃ v : Int32, o = .inl (some (.int v))) ∨ o = .inr "java/lang/IndexOutOfBoundsException" ∨ o = .inr "java/lang/IllegalArgumentException" ∨ o = .inr "java/lang/IllegalStateException")) : CnH m_L_raw G [.ref x, .int y0, .int y1, .int y2, .ref b] S (fun r U => (∃ (v : Int32) (T : Hp), Q2 (.inl (some (.int v))) T ∧ r = .inl (some (.int (nI 0))) ∧ U = uL T b 0 (v.toInt64)) ∨ (Q2 (.inr "java/lang/IndexOutOfBoundsException") U ∧ r = .inl (some (.int (nI 1)))) ∨ (Q2 (.inr "java/lang/IllegalArgumentException") U ∧ r = .inl (some (.int (nI 2)))) ∨ (Q2 (.inr "java/lang/IllegalStateException") U ∧ r = .inl (some (.int (nI 3))))) := by
  refine CnH.of (by decide) (Nat.le_of_ble_eq_true rfl) (fun hN9 hM9 => ?_)
  show Wx _ G _ 0 [(0, .ref x), (1, .int y0), (2, .int y1), (3, .int y2), (4, .ref b)] [] _
  refine r_aload dL_raw_0 4 rfl ?_
  refine r_iconst (v := nI 0) dL_raw_2 (by decide) ?_
  refine r_aload_n dL_raw_3 rfl 0 rfl ?_
  refine r_iload_n dL_raw_4 rfl 1 rfl ?_
  refine r_iload_n dL_raw_5 rfl 2 rfl ?_
  refine r_iload_n dL_raw_6 rfl 3 rfl ?_
  refine r_callV (M2 := m_X12_raw) (As := [.int y0, .int y1, .int y2]) (rest := [.int (nI 0), .ref b]) dL_raw_7 cc_L_raw_44 rfl rfl rfl (Nat.le_of_ble_eq_true rfl) hx rfl rfl (by decide) hcn (fun v9 T hq => ?_) (fun E9 T hq => ?_)
  · obtain ⟨⟨hb1, hb2⟩, ho⟩ := hQ _ _ hq
    obtain ⟨v, rfl⟩ : ∃ v : Int32, v9 = some (.int v) := by
      rcases ho with ⟨v, ho⟩ | ho | ho | ho
      · exact ⟨v, Sum.inl.inj ho⟩
      · cases ho
      · cases ho
      · cases ho
    show Wx _ G T 10 [(0, .ref x), (1, .int y0), (2, .int y1), (3, .int y2), (4, .ref b)] [.int v, .int (nI 0), .ref b] _
    refine r_i2l dL_raw_10 ?_
    refine r_last dL_raw_11 hb1 (by rw [hb2]; exact vp_in_nI (by decide) (by decide)) ?_
    refine Wx.st' (S' := uL T b 0 (v.toInt64)) (by rw [nI_clamp (by decide)]) ?_
    refine r_goto (tgt := 27) dL_raw_12 (by decide) ?_
    refine r_iconst (v := nI 0) dL_raw_27 (by decide) ?_
    exact r_iret (ty := .int) dL_raw_28 rfl rfl (Or.inl ⟨v, T, hq, rfl, rfl⟩)
  · obtain ⟨-, ho⟩ := hQ _ _ hq
    rcases ho with ⟨v, ho⟩ | ho | ho | ho
    · cases ho
    · cases ho
      refine r_catch [] [(0, 12, 19, 15), (0, 12, 23, 36)] rfl (fun z hz => absurd hz List.not_mem_nil) (by decide) (by decide) (sg2 215 rfl rfl) (fun q => ?_)
      refine r_astore dL_raw_15 (Nat.le_of_ble_eq_true rfl) rfl ?_
      refine r_iconst (v := nI 1) dL_raw_17 (by decide) ?_
      exact r_iret (ty := .int) dL_raw_18 rfl rfl (Or.inr (Or.inl ⟨hq, rfl⟩))
    · cases ho
      refine r_catch [(0, 12, 15, 13)] [(0, 12, 23, 36)] rfl (fun z hz => by
          rcases List.mem_cons.mp hz with rfl | hz
          · exact ⟨by decide, _, (sg2 215 rfl rfl), List.mem_of_getElem? (i := 0) rfl⟩
          exact absurd hz List.not_mem_nil) (by decide) (by decide) (sg3 55 rfl rfl) (fun q => ?_)
      refine r_astore dL_raw_19 (Nat.le_of_ble_eq_true rfl) rfl ?_
      refine r_iconst (v := nI 2) dL_raw_21 (by decide) ?_
      exact r_iret (ty := .int) dL_raw_22 rfl rfl (Or.inr (Or.inr (Or.inl ⟨hq, rfl⟩)))
    · cases ho
      refine r_catch [(0, 12, 15, 13), (0, 12, 19, 15)] [] rfl (fun z hz => by
          rcases List.mem_cons.mp hz with rfl | hz
          · exact ⟨by decide, _, (sg2 215 rfl rfl), List.mem_of_getElem? (i := 1) rfl⟩
          rcases List.mem_cons.mp hz with rfl | hz
          · exact ⟨by decide, _, (sg3 55 rfl rfl), List.mem_of_getElem? (i := 2) rfl⟩
          exact absurd hz List.not_mem_nil) (by decide) (by decide) (sg3 217 rfl rfl) (fun q => ?_)
      refine r_astore dL_raw_23 (Nat.le_of_ble_eq_true rfl) rfl ?_
      refine r_iconst (v := nI 3) dL_raw_25 (by decide) ?_
      exact r_iret (ty := .int) dL_raw_26 rfl rfl (Or.inr (Or.inr (Or.inr (⟨hq, rfl⟩))))
theorem dL_make_0 : decode cL_make 0 = .ok (.aload 7, 2) := by decide +kernel
theorem dL_make_2 : decode cL_make 2 = .ok (.iconst 0, 1) := by decide +kernel
theorem dL_make_3 : decode cL_make 3 = .ok (.aload_n 0, 1) := by decide +kernel
theorem dL_make_4 : decode cL_make 4 = .ok (.iload_n 1, 1) := by decide +kernel
theorem dL_make_5 : decode cL_make 5 = .ok (.iload_n 2, 1) := by decide +kernel
theorem dL_make_6 : decode cL_make 6 = .ok (.iload_n 3, 1) := by decide +kernel
theorem dL_make_7 : decode cL_make 7 = .ok (.iload 4, 2) := by decide +kernel
theorem dL_make_9 : decode cL_make 9 = .ok (.iload 5, 2) := by decide +kernel
theorem dL_make_11 : decode cL_make 11 = .ok (.iload 6, 2) := by decide +kernel
theorem dL_make_13 : decode cL_make 13 = .ok (.invokevirtual 47, 3) := by decide +kernel
theorem dL_make_16 : decode cL_make 16 = .ok (.i2l, 1) := by decide +kernel
theorem dL_make_17 : decode cL_make 17 = .ok (.lastore, 1) := by decide +kernel
theorem dL_make_18 : decode cL_make 18 = .ok (.goto 15, 3) := by decide +kernel
theorem dL_make_21 : decode cL_make 21 = .ok (.astore 8, 2) := by decide +kernel
theorem dL_make_23 : decode cL_make 23 = .ok (.iconst 1, 1) := by decide +kernel
theorem dL_make_24 : decode cL_make 24 = .ok (.ireturn, 1) := by decide +kernel
theorem dL_make_25 : decode cL_make 25 = .ok (.astore 8, 2) := by decide +kernel
theorem dL_make_27 : decode cL_make 27 = .ok (.iconst 2, 1) := by decide +kernel
theorem dL_make_28 : decode cL_make 28 = .ok (.ireturn, 1) := by decide +kernel
theorem dL_make_29 : decode cL_make 29 = .ok (.astore 8, 2) := by decide +kernel
theorem dL_make_31 : decode cL_make 31 = .ok (.iconst 3, 1) := by decide +kernel
theorem dL_make_32 : decode cL_make 32 = .ok (.ireturn, 1) := by decide +kernel
theorem dL_make_33 : decode cL_make 33 = .ok (.iconst 0, 1) := by decide +kernel
theorem dL_make_34 : decode cL_make 34 = .ok (.ireturn, 1) := by decide +kernel
theorem l_make {G : GI} {S : Hp} {x b : Nat} {y0 y1 y2 y3 y4 y5 : Int32} {Q2 : OV → Hp → Prop} (hx : zT S x = 14) (hcn : Cn m_X12_make G [.ref x, .int y0, .int y1, .int y2, .int y3, .int y4, .int y5] S Q2) (hQ : ∀ o T, Q2 o T → (zT T b = 102 ∧ zN T b = 1) ∧ ((∃ v : Int32, o = .inl (some (.int v))) ∨ o = .inr "java/lang/IndexOutOfBoundsException" ∨ o = .inr "java/lang/IllegalArgumentException" ∨ o = .inr "java/lang/IllegalStateException")) : CnH m_L_make G [.ref x, .int y0, .int y1, .int y2, .int y3, .int y4, .int y5, .ref b] S (fun r U => (∃ (v : Int32) (T : Hp), Q2 (.inl (some (.int v))) T ∧ r = .inl (some (.int (nI 0))) ∧ U = uL T b 0 (v.toInt64)) ∨ (Q2 (.inr "java/lang/IndexOutOfBoundsException") U ∧ r = .inl (some (.int (nI 1)))) ∨ (Q2 (.inr "java/lang/IllegalArgumentException") U ∧ r = .inl (some (.int (nI 2)))) ∨ (Q2 (.inr "java/lang/IllegalStateException") U ∧ r = .inl (some (.int (nI 3))))) := by
  refine CnH.of (by decide) (Nat.le_of_ble_eq_true rfl) (fun hN9 hM9 => ?_)
  show Wx _ G _ 0 [(0, .ref x), (1, .int y0), (2, .int y1), (3, .int y2), (4, .int y3), (5, .int y4), (6, .int y5), (7, .ref b)] [] _
  refine r_aload dL_make_0 7 rfl ?_
  refine r_iconst (v := nI 0) dL_make_2 (by decide) ?_
  refine r_aload_n dL_make_3 rfl 0 rfl ?_
  refine r_iload_n dL_make_4 rfl 1 rfl ?_
  refine r_iload_n dL_make_5 rfl 2 rfl ?_
  refine r_iload_n dL_make_6 rfl 3 rfl ?_
  refine r_iload dL_make_7 4 rfl ?_
  refine r_iload dL_make_9 5 rfl ?_
  refine r_iload dL_make_11 6 rfl ?_
  refine r_callV (M2 := m_X12_make) (As := [.int y0, .int y1, .int y2, .int y3, .int y4, .int y5]) (rest := [.int (nI 0), .ref b]) dL_make_13 cc_L_make_47 rfl rfl rfl (Nat.le_of_ble_eq_true rfl) hx rfl rfl (by decide) hcn (fun v9 T hq => ?_) (fun E9 T hq => ?_)
  · obtain ⟨⟨hb1, hb2⟩, ho⟩ := hQ _ _ hq
    obtain ⟨v, rfl⟩ : ∃ v : Int32, v9 = some (.int v) := by
      rcases ho with ⟨v, ho⟩ | ho | ho | ho
      · exact ⟨v, Sum.inl.inj ho⟩
      · cases ho
      · cases ho
      · cases ho
    show Wx _ G T 16 [(0, .ref x), (1, .int y0), (2, .int y1), (3, .int y2), (4, .int y3), (5, .int y4), (6, .int y5), (7, .ref b)] [.int v, .int (nI 0), .ref b] _
    refine r_i2l dL_make_16 ?_
    refine r_last dL_make_17 hb1 (by rw [hb2]; exact vp_in_nI (by decide) (by decide)) ?_
    refine Wx.st' (S' := uL T b 0 (v.toInt64)) (by rw [nI_clamp (by decide)]) ?_
    refine r_goto (tgt := 33) dL_make_18 (by decide) ?_
    refine r_iconst (v := nI 0) dL_make_33 (by decide) ?_
    exact r_iret (ty := .int) dL_make_34 rfl rfl (Or.inl ⟨v, T, hq, rfl, rfl⟩)
  · obtain ⟨-, ho⟩ := hQ _ _ hq
    rcases ho with ⟨v, ho⟩ | ho | ho | ho
    · cases ho
    · cases ho
      refine r_catch [] [(0, 18, 25, 15), (0, 18, 29, 36)] rfl (fun z hz => absurd hz List.not_mem_nil) (by decide) (by decide) (sg2 215 rfl rfl) (fun q => ?_)
      refine r_astore dL_make_21 (Nat.le_of_ble_eq_true rfl) rfl ?_
      refine r_iconst (v := nI 1) dL_make_23 (by decide) ?_
      exact r_iret (ty := .int) dL_make_24 rfl rfl (Or.inr (Or.inl ⟨hq, rfl⟩))
    · cases ho
      refine r_catch [(0, 18, 21, 13)] [(0, 18, 29, 36)] rfl (fun z hz => by
          rcases List.mem_cons.mp hz with rfl | hz
          · exact ⟨by decide, _, (sg2 215 rfl rfl), List.mem_of_getElem? (i := 0) rfl⟩
          exact absurd hz List.not_mem_nil) (by decide) (by decide) (sg3 55 rfl rfl) (fun q => ?_)
      refine r_astore dL_make_25 (Nat.le_of_ble_eq_true rfl) rfl ?_
      refine r_iconst (v := nI 2) dL_make_27 (by decide) ?_
      exact r_iret (ty := .int) dL_make_28 rfl rfl (Or.inr (Or.inr (Or.inl ⟨hq, rfl⟩)))
    · cases ho
      refine r_catch [(0, 18, 21, 13), (0, 18, 25, 15)] [] rfl (fun z hz => by
          rcases List.mem_cons.mp hz with rfl | hz
          · exact ⟨by decide, _, (sg2 215 rfl rfl), List.mem_of_getElem? (i := 1) rfl⟩
          rcases List.mem_cons.mp hz with rfl | hz
          · exact ⟨by decide, _, (sg3 55 rfl rfl), List.mem_of_getElem? (i := 2) rfl⟩
          exact absurd hz List.not_mem_nil) (by decide) (by decide) (sg3 217 rfl rfl) (fun q => ?_)
      refine r_astore dL_make_29 (Nat.le_of_ble_eq_true rfl) rfl ?_
      refine r_iconst (v := nI 3) dL_make_31 (by decide) ?_
      exact r_iret (ty := .int) dL_make_32 rfl rfl (Or.inr (Or.inr (Or.inr (⟨hq, rfl⟩))))
theorem dL_inspect_0 : decode cL_inspect 0 = .ok (.aload_n 2, 1) := by decide +kernel
theorem dL_inspect_1 : decode cL_inspect 1 = .ok (.iconst 0, 1) := by decide +kernel
theorem dL_inspect_2 : decode cL_inspect 2 = .ok (.aload_n 0, 1) := by decide +kernel
theorem dL_inspect_3 : decode cL_inspect 3 = .ok (.iload_n 1, 1) := by decide +kernel
theorem dL_inspect_4 : decode cL_inspect 4 = .ok (.invokevirtual 51, 3) := by decide +kernel
theorem dL_inspect_7 : decode cL_inspect 7 = .ok (.i2l, 1) := by decide +kernel
theorem dL_inspect_8 : decode cL_inspect 8 = .ok (.lastore, 1) := by decide +kernel
theorem dL_inspect_9 : decode cL_inspect 9 = .ok (.goto 9, 3) := by decide +kernel
theorem dL_inspect_12 : decode cL_inspect 12 = .ok (.astore_n 3, 1) := by decide +kernel
theorem dL_inspect_13 : decode cL_inspect 13 = .ok (.iconst 1, 1) := by decide +kernel
theorem dL_inspect_14 : decode cL_inspect 14 = .ok (.ireturn, 1) := by decide +kernel
theorem dL_inspect_15 : decode cL_inspect 15 = .ok (.astore_n 3, 1) := by decide +kernel
theorem dL_inspect_16 : decode cL_inspect 16 = .ok (.iconst 2, 1) := by decide +kernel
theorem dL_inspect_17 : decode cL_inspect 17 = .ok (.ireturn, 1) := by decide +kernel
theorem dL_inspect_18 : decode cL_inspect 18 = .ok (.iconst 0, 1) := by decide +kernel
theorem dL_inspect_19 : decode cL_inspect 19 = .ok (.ireturn, 1) := by decide +kernel
theorem l_inspect {G : GI} {S : Hp} {x b : Nat} {y0 : Int32} {Q2 : OV → Hp → Prop} (hx : zT S x = 14) (hcn : Cn m_X12_inspect G [.ref x, .int y0] S Q2) (hQ : ∀ o T, Q2 o T → (zT T b = 102 ∧ zN T b = 1) ∧ ((∃ v : Int32, o = .inl (some (.int v))) ∨ o = .inr "java/lang/IndexOutOfBoundsException" ∨ o = .inr "java/lang/IllegalStateException")) : CnH m_L_inspect G [.ref x, .int y0, .ref b] S (fun r U => (∃ (v : Int32) (T : Hp), Q2 (.inl (some (.int v))) T ∧ r = .inl (some (.int (nI 0))) ∧ U = uL T b 0 (v.toInt64)) ∨ (Q2 (.inr "java/lang/IndexOutOfBoundsException") U ∧ r = .inl (some (.int (nI 1)))) ∨ (Q2 (.inr "java/lang/IllegalStateException") U ∧ r = .inl (some (.int (nI 2))))) := by
  refine CnH.of (by decide) (Nat.le_of_ble_eq_true rfl) (fun hN9 hM9 => ?_)
  show Wx _ G _ 0 [(0, .ref x), (1, .int y0), (2, .ref b)] [] _
  refine r_aload_n dL_inspect_0 rfl 2 rfl ?_
  refine r_iconst (v := nI 0) dL_inspect_1 (by decide) ?_
  refine r_aload_n dL_inspect_2 rfl 0 rfl ?_
  refine r_iload_n dL_inspect_3 rfl 1 rfl ?_
  refine r_callV (M2 := m_X12_inspect) (As := [.int y0]) (rest := [.int (nI 0), .ref b]) dL_inspect_4 cc_L_inspect_51 rfl rfl rfl (Nat.le_of_ble_eq_true rfl) hx rfl rfl (by decide) hcn (fun v9 T hq => ?_) (fun E9 T hq => ?_)
  · obtain ⟨⟨hb1, hb2⟩, ho⟩ := hQ _ _ hq
    obtain ⟨v, rfl⟩ : ∃ v : Int32, v9 = some (.int v) := by
      rcases ho with ⟨v, ho⟩ | ho | ho
      · exact ⟨v, Sum.inl.inj ho⟩
      · cases ho
      · cases ho
    show Wx _ G T 7 [(0, .ref x), (1, .int y0), (2, .ref b)] [.int v, .int (nI 0), .ref b] _
    refine r_i2l dL_inspect_7 ?_
    refine r_last dL_inspect_8 hb1 (by rw [hb2]; exact vp_in_nI (by decide) (by decide)) ?_
    refine Wx.st' (S' := uL T b 0 (v.toInt64)) (by rw [nI_clamp (by decide)]) ?_
    refine r_goto (tgt := 18) dL_inspect_9 (by decide) ?_
    refine r_iconst (v := nI 0) dL_inspect_18 (by decide) ?_
    exact r_iret (ty := .int) dL_inspect_19 rfl rfl (Or.inl ⟨v, T, hq, rfl, rfl⟩)
  · obtain ⟨-, ho⟩ := hQ _ _ hq
    rcases ho with ⟨v, ho⟩ | ho | ho
    · cases ho
    · cases ho
      refine r_catch [] [(0, 9, 15, 36)] rfl (fun z hz => absurd hz List.not_mem_nil) (by decide) (by decide) (sg2 215 rfl rfl) (fun q => ?_)
      refine r_astore_n dL_inspect_12 rfl (Nat.le_of_ble_eq_true rfl) rfl ?_
      refine r_iconst (v := nI 1) dL_inspect_13 (by decide) ?_
      exact r_iret (ty := .int) dL_inspect_14 rfl rfl (Or.inr (Or.inl ⟨hq, rfl⟩))
    · cases ho
      refine r_catch [(0, 9, 12, 13)] [] rfl (fun z hz => by
          rcases List.mem_cons.mp hz with rfl | hz
          · exact ⟨by decide, _, (sg2 215 rfl rfl), List.mem_of_getElem? (i := 1) rfl⟩
          exact absurd hz List.not_mem_nil) (by decide) (by decide) (sg3 217 rfl rfl) (fun q => ?_)
      refine r_astore_n dL_inspect_15 rfl (Nat.le_of_ble_eq_true rfl) rfl ?_
      refine r_iconst (v := nI 2) dL_inspect_16 (by decide) ?_
      exact r_iret (ty := .int) dL_inspect_17 rfl rfl (Or.inr (Or.inr (⟨hq, rfl⟩)))
theorem dL_sort_0 : decode cL_sort 0 = .ok (.aload_n 2, 1) := by decide +kernel
theorem dL_sort_1 : decode cL_sort 1 = .ok (.iconst 0, 1) := by decide +kernel
theorem dL_sort_2 : decode cL_sort 2 = .ok (.aload_n 0, 1) := by decide +kernel
theorem dL_sort_3 : decode cL_sort 3 = .ok (.iload_n 1, 1) := by decide +kernel
theorem dL_sort_4 : decode cL_sort 4 = .ok (.invokevirtual 54, 3) := by decide +kernel
theorem dL_sort_7 : decode cL_sort 7 = .ok (.i2l, 1) := by decide +kernel
theorem dL_sort_8 : decode cL_sort 8 = .ok (.lastore, 1) := by decide +kernel
theorem dL_sort_9 : decode cL_sort 9 = .ok (.goto 9, 3) := by decide +kernel
theorem dL_sort_12 : decode cL_sort 12 = .ok (.astore_n 3, 1) := by decide +kernel
theorem dL_sort_13 : decode cL_sort 13 = .ok (.iconst 1, 1) := by decide +kernel
theorem dL_sort_14 : decode cL_sort 14 = .ok (.ireturn, 1) := by decide +kernel
theorem dL_sort_15 : decode cL_sort 15 = .ok (.astore_n 3, 1) := by decide +kernel
theorem dL_sort_16 : decode cL_sort 16 = .ok (.iconst 2, 1) := by decide +kernel
theorem dL_sort_17 : decode cL_sort 17 = .ok (.ireturn, 1) := by decide +kernel
theorem dL_sort_18 : decode cL_sort 18 = .ok (.iconst 0, 1) := by decide +kernel
theorem dL_sort_19 : decode cL_sort 19 = .ok (.ireturn, 1) := by decide +kernel
theorem l_sort {G : GI} {S : Hp} {x b : Nat} {y0 : Int32} {Q2 : OV → Hp → Prop} (hx : zT S x = 14) (hcn : Cn m_X12_sort G [.ref x, .int y0] S Q2) (hQ : ∀ o T, Q2 o T → (zT T b = 102 ∧ zN T b = 1) ∧ ((∃ v : Int32, o = .inl (some (.int v))) ∨ o = .inr "java/lang/IndexOutOfBoundsException" ∨ o = .inr "java/lang/IllegalStateException")) : CnH m_L_sort G [.ref x, .int y0, .ref b] S (fun r U => (∃ (v : Int32) (T : Hp), Q2 (.inl (some (.int v))) T ∧ r = .inl (some (.int (nI 0))) ∧ U = uL T b 0 (v.toInt64)) ∨ (Q2 (.inr "java/lang/IndexOutOfBoundsException") U ∧ r = .inl (some (.int (nI 1)))) ∨ (Q2 (.inr "java/lang/IllegalStateException") U ∧ r = .inl (some (.int (nI 2))))) := by
  refine CnH.of (by decide) (Nat.le_of_ble_eq_true rfl) (fun hN9 hM9 => ?_)
  show Wx _ G _ 0 [(0, .ref x), (1, .int y0), (2, .ref b)] [] _
  refine r_aload_n dL_sort_0 rfl 2 rfl ?_
  refine r_iconst (v := nI 0) dL_sort_1 (by decide) ?_
  refine r_aload_n dL_sort_2 rfl 0 rfl ?_
  refine r_iload_n dL_sort_3 rfl 1 rfl ?_
  refine r_callV (M2 := m_X12_sort) (As := [.int y0]) (rest := [.int (nI 0), .ref b]) dL_sort_4 cc_L_sort_54 rfl rfl rfl (Nat.le_of_ble_eq_true rfl) hx rfl rfl (by decide) hcn (fun v9 T hq => ?_) (fun E9 T hq => ?_)
  · obtain ⟨⟨hb1, hb2⟩, ho⟩ := hQ _ _ hq
    obtain ⟨v, rfl⟩ : ∃ v : Int32, v9 = some (.int v) := by
      rcases ho with ⟨v, ho⟩ | ho | ho
      · exact ⟨v, Sum.inl.inj ho⟩
      · cases ho
      · cases ho
    show Wx _ G T 7 [(0, .ref x), (1, .int y0), (2, .ref b)] [.int v, .int (nI 0), .ref b] _
    refine r_i2l dL_sort_7 ?_
    refine r_last dL_sort_8 hb1 (by rw [hb2]; exact vp_in_nI (by decide) (by decide)) ?_
    refine Wx.st' (S' := uL T b 0 (v.toInt64)) (by rw [nI_clamp (by decide)]) ?_
    refine r_goto (tgt := 18) dL_sort_9 (by decide) ?_
    refine r_iconst (v := nI 0) dL_sort_18 (by decide) ?_
    exact r_iret (ty := .int) dL_sort_19 rfl rfl (Or.inl ⟨v, T, hq, rfl, rfl⟩)
  · obtain ⟨-, ho⟩ := hQ _ _ hq
    rcases ho with ⟨v, ho⟩ | ho | ho
    · cases ho
    · cases ho
      refine r_catch [] [(0, 9, 15, 36)] rfl (fun z hz => absurd hz List.not_mem_nil) (by decide) (by decide) (sg2 215 rfl rfl) (fun q => ?_)
      refine r_astore_n dL_sort_12 rfl (Nat.le_of_ble_eq_true rfl) rfl ?_
      refine r_iconst (v := nI 1) dL_sort_13 (by decide) ?_
      exact r_iret (ty := .int) dL_sort_14 rfl rfl (Or.inr (Or.inl ⟨hq, rfl⟩))
    · cases ho
      refine r_catch [(0, 9, 12, 13)] [] rfl (fun z hz => by
          rcases List.mem_cons.mp hz with rfl | hz
          · exact ⟨by decide, _, (sg2 215 rfl rfl), List.mem_of_getElem? (i := 1) rfl⟩
          exact absurd hz List.not_mem_nil) (by decide) (by decide) (sg3 217 rfl rfl) (fun q => ?_)
      refine r_astore_n dL_sort_15 rfl (Nat.le_of_ble_eq_true rfl) rfl ?_
      refine r_iconst (v := nI 2) dL_sort_16 (by decide) ?_
      exact r_iret (ty := .int) dL_sort_17 rfl rfl (Or.inr (Or.inr (⟨hq, rfl⟩)))
theorem dL_ship_0 : decode cL_ship 0 = .ok (.aload_n 2, 1) := by decide +kernel
theorem dL_ship_1 : decode cL_ship 1 = .ok (.iconst 0, 1) := by decide +kernel
theorem dL_ship_2 : decode cL_ship 2 = .ok (.aload_n 0, 1) := by decide +kernel
theorem dL_ship_3 : decode cL_ship 3 = .ok (.iload_n 1, 1) := by decide +kernel
theorem dL_ship_4 : decode cL_ship 4 = .ok (.invokevirtual 57, 3) := by decide +kernel
theorem dL_ship_7 : decode cL_ship 7 = .ok (.i2l, 1) := by decide +kernel
theorem dL_ship_8 : decode cL_ship 8 = .ok (.lastore, 1) := by decide +kernel
theorem dL_ship_9 : decode cL_ship 9 = .ok (.goto 9, 3) := by decide +kernel
theorem dL_ship_12 : decode cL_ship 12 = .ok (.astore_n 3, 1) := by decide +kernel
theorem dL_ship_13 : decode cL_ship 13 = .ok (.iconst 1, 1) := by decide +kernel
theorem dL_ship_14 : decode cL_ship 14 = .ok (.ireturn, 1) := by decide +kernel
theorem dL_ship_15 : decode cL_ship 15 = .ok (.astore_n 3, 1) := by decide +kernel
theorem dL_ship_16 : decode cL_ship 16 = .ok (.iconst 2, 1) := by decide +kernel
theorem dL_ship_17 : decode cL_ship 17 = .ok (.ireturn, 1) := by decide +kernel
theorem dL_ship_18 : decode cL_ship 18 = .ok (.iconst 0, 1) := by decide +kernel
theorem dL_ship_19 : decode cL_ship 19 = .ok (.ireturn, 1) := by decide +kernel
theorem l_ship {G : GI} {S : Hp} {x b : Nat} {y0 : Int32} {Q2 : OV → Hp → Prop} (hx : zT S x = 14) (hcn : Cn m_X12_ship G [.ref x, .int y0] S Q2) (hQ : ∀ o T, Q2 o T → (zT T b = 102 ∧ zN T b = 1) ∧ ((∃ v : Int32, o = .inl (some (.int v))) ∨ o = .inr "java/lang/IndexOutOfBoundsException" ∨ o = .inr "java/lang/IllegalStateException")) : CnH m_L_ship G [.ref x, .int y0, .ref b] S (fun r U => (∃ (v : Int32) (T : Hp), Q2 (.inl (some (.int v))) T ∧ r = .inl (some (.int (nI 0))) ∧ U = uL T b 0 (v.toInt64)) ∨ (Q2 (.inr "java/lang/IndexOutOfBoundsException") U ∧ r = .inl (some (.int (nI 1)))) ∨ (Q2 (.inr "java/lang/IllegalStateException") U ∧ r = .inl (some (.int (nI 2))))) := by
  refine CnH.of (by decide) (Nat.le_of_ble_eq_true rfl) (fun hN9 hM9 => ?_)
  show Wx _ G _ 0 [(0, .ref x), (1, .int y0), (2, .ref b)] [] _
  refine r_aload_n dL_ship_0 rfl 2 rfl ?_
  refine r_iconst (v := nI 0) dL_ship_1 (by decide) ?_
  refine r_aload_n dL_ship_2 rfl 0 rfl ?_
  refine r_iload_n dL_ship_3 rfl 1 rfl ?_
  refine r_callV (M2 := m_X12_ship) (As := [.int y0]) (rest := [.int (nI 0), .ref b]) dL_ship_4 cc_L_ship_57 rfl rfl rfl (Nat.le_of_ble_eq_true rfl) hx rfl rfl (by decide) hcn (fun v9 T hq => ?_) (fun E9 T hq => ?_)
  · obtain ⟨⟨hb1, hb2⟩, ho⟩ := hQ _ _ hq
    obtain ⟨v, rfl⟩ : ∃ v : Int32, v9 = some (.int v) := by
      rcases ho with ⟨v, ho⟩ | ho | ho
      · exact ⟨v, Sum.inl.inj ho⟩
      · cases ho
      · cases ho
    show Wx _ G T 7 [(0, .ref x), (1, .int y0), (2, .ref b)] [.int v, .int (nI 0), .ref b] _
    refine r_i2l dL_ship_7 ?_
    refine r_last dL_ship_8 hb1 (by rw [hb2]; exact vp_in_nI (by decide) (by decide)) ?_
    refine Wx.st' (S' := uL T b 0 (v.toInt64)) (by rw [nI_clamp (by decide)]) ?_
    refine r_goto (tgt := 18) dL_ship_9 (by decide) ?_
    refine r_iconst (v := nI 0) dL_ship_18 (by decide) ?_
    exact r_iret (ty := .int) dL_ship_19 rfl rfl (Or.inl ⟨v, T, hq, rfl, rfl⟩)
  · obtain ⟨-, ho⟩ := hQ _ _ hq
    rcases ho with ⟨v, ho⟩ | ho | ho
    · cases ho
    · cases ho
      refine r_catch [] [(0, 9, 15, 36)] rfl (fun z hz => absurd hz List.not_mem_nil) (by decide) (by decide) (sg2 215 rfl rfl) (fun q => ?_)
      refine r_astore_n dL_ship_12 rfl (Nat.le_of_ble_eq_true rfl) rfl ?_
      refine r_iconst (v := nI 1) dL_ship_13 (by decide) ?_
      exact r_iret (ty := .int) dL_ship_14 rfl rfl (Or.inr (Or.inl ⟨hq, rfl⟩))
    · cases ho
      refine r_catch [(0, 9, 12, 13)] [] rfl (fun z hz => by
          rcases List.mem_cons.mp hz with rfl | hz
          · exact ⟨by decide, _, (sg2 215 rfl rfl), List.mem_of_getElem? (i := 1) rfl⟩
          exact absurd hz List.not_mem_nil) (by decide) (by decide) (sg3 217 rfl rfl) (fun q => ?_)
      refine r_astore_n dL_ship_15 rfl (Nat.le_of_ble_eq_true rfl) rfl ?_
      refine r_iconst (v := nI 2) dL_ship_16 (by decide) ?_
      exact r_iret (ty := .int) dL_ship_17 rfl rfl (Or.inr (Or.inr (⟨hq, rfl⟩)))
theorem dL_complain_0 : decode cL_complain 0 = .ok (.aload_n 3, 1) := by decide +kernel
theorem dL_complain_1 : decode cL_complain 1 = .ok (.iconst 0, 1) := by decide +kernel
theorem dL_complain_2 : decode cL_complain 2 = .ok (.aload_n 0, 1) := by decide +kernel
theorem dL_complain_3 : decode cL_complain 3 = .ok (.iload_n 1, 1) := by decide +kernel
theorem dL_complain_4 : decode cL_complain 4 = .ok (.iload_n 2, 1) := by decide +kernel
theorem dL_complain_5 : decode cL_complain 5 = .ok (.invokevirtual 60, 3) := by decide +kernel
theorem dL_complain_8 : decode cL_complain 8 = .ok (.i2l, 1) := by decide +kernel
theorem dL_complain_9 : decode cL_complain 9 = .ok (.lastore, 1) := by decide +kernel
theorem dL_complain_10 : decode cL_complain 10 = .ok (.goto 15, 3) := by decide +kernel
theorem dL_complain_13 : decode cL_complain 13 = .ok (.astore 4, 2) := by decide +kernel
theorem dL_complain_15 : decode cL_complain 15 = .ok (.iconst 1, 1) := by decide +kernel
theorem dL_complain_16 : decode cL_complain 16 = .ok (.ireturn, 1) := by decide +kernel
theorem dL_complain_17 : decode cL_complain 17 = .ok (.astore 4, 2) := by decide +kernel
theorem dL_complain_19 : decode cL_complain 19 = .ok (.iconst 2, 1) := by decide +kernel
theorem dL_complain_20 : decode cL_complain 20 = .ok (.ireturn, 1) := by decide +kernel
theorem dL_complain_21 : decode cL_complain 21 = .ok (.astore 4, 2) := by decide +kernel
theorem dL_complain_23 : decode cL_complain 23 = .ok (.iconst 3, 1) := by decide +kernel
theorem dL_complain_24 : decode cL_complain 24 = .ok (.ireturn, 1) := by decide +kernel
theorem dL_complain_25 : decode cL_complain 25 = .ok (.iconst 0, 1) := by decide +kernel
theorem dL_complain_26 : decode cL_complain 26 = .ok (.ireturn, 1) := by decide +kernel
theorem l_complain {G : GI} {S : Hp} {x b : Nat} {y0 y1 : Int32} {Q2 : OV → Hp → Prop} (hx : zT S x = 14) (hcn : Cn m_X12_complain G [.ref x, .int y0, .int y1] S Q2) (hQ : ∀ o T, Q2 o T → (zT T b = 102 ∧ zN T b = 1) ∧ ((∃ v : Int32, o = .inl (some (.int v))) ∨ o = .inr "java/lang/IndexOutOfBoundsException" ∨ o = .inr "java/lang/IllegalStateException" ∨ o = .inr "java/util/NoSuchElementException")) : CnH m_L_complain G [.ref x, .int y0, .int y1, .ref b] S (fun r U => (∃ (v : Int32) (T : Hp), Q2 (.inl (some (.int v))) T ∧ r = .inl (some (.int (nI 0))) ∧ U = uL T b 0 (v.toInt64)) ∨ (Q2 (.inr "java/lang/IndexOutOfBoundsException") U ∧ r = .inl (some (.int (nI 1)))) ∨ (Q2 (.inr "java/lang/IllegalStateException") U ∧ r = .inl (some (.int (nI 2)))) ∨ (Q2 (.inr "java/util/NoSuchElementException") U ∧ r = .inl (some (.int (nI 3))))) := by
  refine CnH.of (by decide) (Nat.le_of_ble_eq_true rfl) (fun hN9 hM9 => ?_)
  show Wx _ G _ 0 [(0, .ref x), (1, .int y0), (2, .int y1), (3, .ref b)] [] _
  refine r_aload_n dL_complain_0 rfl 3 rfl ?_
  refine r_iconst (v := nI 0) dL_complain_1 (by decide) ?_
  refine r_aload_n dL_complain_2 rfl 0 rfl ?_
  refine r_iload_n dL_complain_3 rfl 1 rfl ?_
  refine r_iload_n dL_complain_4 rfl 2 rfl ?_
  refine r_callV (M2 := m_X12_complain) (As := [.int y0, .int y1]) (rest := [.int (nI 0), .ref b]) dL_complain_5 cc_L_complain_60 rfl rfl rfl (Nat.le_of_ble_eq_true rfl) hx rfl rfl (by decide) hcn (fun v9 T hq => ?_) (fun E9 T hq => ?_)
  · obtain ⟨⟨hb1, hb2⟩, ho⟩ := hQ _ _ hq
    obtain ⟨v, rfl⟩ : ∃ v : Int32, v9 = some (.int v) := by
      rcases ho with ⟨v, ho⟩ | ho | ho | ho
      · exact ⟨v, Sum.inl.inj ho⟩
      · cases ho
      · cases ho
      · cases ho
    show Wx _ G T 8 [(0, .ref x), (1, .int y0), (2, .int y1), (3, .ref b)] [.int v, .int (nI 0), .ref b] _
    refine r_i2l dL_complain_8 ?_
    refine r_last dL_complain_9 hb1 (by rw [hb2]; exact vp_in_nI (by decide) (by decide)) ?_
    refine Wx.st' (S' := uL T b 0 (v.toInt64)) (by rw [nI_clamp (by decide)]) ?_
    refine r_goto (tgt := 25) dL_complain_10 (by decide) ?_
    refine r_iconst (v := nI 0) dL_complain_25 (by decide) ?_
    exact r_iret (ty := .int) dL_complain_26 rfl rfl (Or.inl ⟨v, T, hq, rfl, rfl⟩)
  · obtain ⟨-, ho⟩ := hQ _ _ hq
    rcases ho with ⟨v, ho⟩ | ho | ho | ho
    · cases ho
    · cases ho
      refine r_catch [] [(0, 10, 17, 36), (0, 10, 21, 63)] rfl (fun z hz => absurd hz List.not_mem_nil) (by decide) (by decide) (sg2 215 rfl rfl) (fun q => ?_)
      refine r_astore dL_complain_13 (Nat.le_of_ble_eq_true rfl) rfl ?_
      refine r_iconst (v := nI 1) dL_complain_15 (by decide) ?_
      exact r_iret (ty := .int) dL_complain_16 rfl rfl (Or.inr (Or.inl ⟨hq, rfl⟩))
    · cases ho
      refine r_catch [(0, 10, 13, 13)] [(0, 10, 21, 63)] rfl (fun z hz => by
          rcases List.mem_cons.mp hz with rfl | hz
          · exact ⟨by decide, _, (sg2 215 rfl rfl), List.mem_of_getElem? (i := 1) rfl⟩
          exact absurd hz List.not_mem_nil) (by decide) (by decide) (sg3 217 rfl rfl) (fun q => ?_)
      refine r_astore dL_complain_17 (Nat.le_of_ble_eq_true rfl) rfl ?_
      refine r_iconst (v := nI 2) dL_complain_19 (by decide) ?_
      exact r_iret (ty := .int) dL_complain_20 rfl rfl (Or.inr (Or.inr (Or.inl ⟨hq, rfl⟩)))
    · cases ho
      refine r_catch [(0, 10, 13, 13), (0, 10, 17, 36)] [] rfl (fun z hz => by
          rcases List.mem_cons.mp hz with rfl | hz
          · exact ⟨by decide, _, (sg2 215 rfl rfl), List.mem_of_getElem? (i := 3) rfl⟩
          rcases List.mem_cons.mp hz with rfl | hz
          · exact ⟨by decide, _, (sg3 217 rfl rfl), List.mem_of_getElem? (i := 4) rfl⟩
          exact absurd hz List.not_mem_nil) (by decide) (by decide) (sg4 176 rfl rfl) (fun q => ?_)
      refine r_astore dL_complain_21 (Nat.le_of_ble_eq_true rfl) rfl ?_
      refine r_iconst (v := nI 3) dL_complain_23 (by decide) ?_
      exact r_iret (ty := .int) dL_complain_24 rfl rfl (Or.inr (Or.inr (Or.inr (⟨hq, rfl⟩))))
theorem dL_lot_0 : decode cL_lot 0 = .ok (.aload_n 3, 1) := by decide +kernel
theorem dL_lot_1 : decode cL_lot 1 = .ok (.iconst 0, 1) := by decide +kernel
theorem dL_lot_2 : decode cL_lot 2 = .ok (.aload_n 0, 1) := by decide +kernel
theorem dL_lot_3 : decode cL_lot 3 = .ok (.iload_n 1, 1) := by decide +kernel
theorem dL_lot_4 : decode cL_lot 4 = .ok (.iload_n 2, 1) := by decide +kernel
theorem dL_lot_5 : decode cL_lot 5 = .ok (.invokevirtual 65, 3) := by decide +kernel
theorem dL_lot_8 : decode cL_lot 8 = .ok (.i2l, 1) := by decide +kernel
theorem dL_lot_9 : decode cL_lot 9 = .ok (.lastore, 1) := by decide +kernel
theorem dL_lot_10 : decode cL_lot 10 = .ok (.goto 11, 3) := by decide +kernel
theorem dL_lot_13 : decode cL_lot 13 = .ok (.astore 4, 2) := by decide +kernel
theorem dL_lot_15 : decode cL_lot 15 = .ok (.iconst 1, 1) := by decide +kernel
theorem dL_lot_16 : decode cL_lot 16 = .ok (.ireturn, 1) := by decide +kernel
theorem dL_lot_17 : decode cL_lot 17 = .ok (.astore 4, 2) := by decide +kernel
theorem dL_lot_19 : decode cL_lot 19 = .ok (.iconst 2, 1) := by decide +kernel
theorem dL_lot_20 : decode cL_lot 20 = .ok (.ireturn, 1) := by decide +kernel
theorem dL_lot_21 : decode cL_lot 21 = .ok (.iconst 0, 1) := by decide +kernel
theorem dL_lot_22 : decode cL_lot 22 = .ok (.ireturn, 1) := by decide +kernel
theorem l_lot {G : GI} {S : Hp} {x b : Nat} {y0 y1 : Int32} {Q2 : OV → Hp → Prop} (hx : zT S x = 14) (hcn : Cn m_X12_lot G [.ref x, .int y0, .int y1] S Q2) (hQ : ∀ o T, Q2 o T → (zT T b = 102 ∧ zN T b = 1) ∧ ((∃ v : Int32, o = .inl (some (.int v))) ∨ o = .inr "java/lang/IndexOutOfBoundsException" ∨ o = .inr "java/lang/IllegalArgumentException")) : CnH m_L_lot G [.ref x, .int y0, .int y1, .ref b] S (fun r U => (∃ (v : Int32) (T : Hp), Q2 (.inl (some (.int v))) T ∧ r = .inl (some (.int (nI 0))) ∧ U = uL T b 0 (v.toInt64)) ∨ (Q2 (.inr "java/lang/IndexOutOfBoundsException") U ∧ r = .inl (some (.int (nI 1)))) ∨ (Q2 (.inr "java/lang/IllegalArgumentException") U ∧ r = .inl (some (.int (nI 2))))) := by
  refine CnH.of (by decide) (Nat.le_of_ble_eq_true rfl) (fun hN9 hM9 => ?_)
  show Wx _ G _ 0 [(0, .ref x), (1, .int y0), (2, .int y1), (3, .ref b)] [] _
  refine r_aload_n dL_lot_0 rfl 3 rfl ?_
  refine r_iconst (v := nI 0) dL_lot_1 (by decide) ?_
  refine r_aload_n dL_lot_2 rfl 0 rfl ?_
  refine r_iload_n dL_lot_3 rfl 1 rfl ?_
  refine r_iload_n dL_lot_4 rfl 2 rfl ?_
  refine r_callV (M2 := m_X12_lot) (As := [.int y0, .int y1]) (rest := [.int (nI 0), .ref b]) dL_lot_5 cc_L_lot_65 rfl rfl rfl (Nat.le_of_ble_eq_true rfl) hx rfl rfl (by decide) hcn (fun v9 T hq => ?_) (fun E9 T hq => ?_)
  · obtain ⟨⟨hb1, hb2⟩, ho⟩ := hQ _ _ hq
    obtain ⟨v, rfl⟩ : ∃ v : Int32, v9 = some (.int v) := by
      rcases ho with ⟨v, ho⟩ | ho | ho
      · exact ⟨v, Sum.inl.inj ho⟩
      · cases ho
      · cases ho
    show Wx _ G T 8 [(0, .ref x), (1, .int y0), (2, .int y1), (3, .ref b)] [.int v, .int (nI 0), .ref b] _
    refine r_i2l dL_lot_8 ?_
    refine r_last dL_lot_9 hb1 (by rw [hb2]; exact vp_in_nI (by decide) (by decide)) ?_
    refine Wx.st' (S' := uL T b 0 (v.toInt64)) (by rw [nI_clamp (by decide)]) ?_
    refine r_goto (tgt := 21) dL_lot_10 (by decide) ?_
    refine r_iconst (v := nI 0) dL_lot_21 (by decide) ?_
    exact r_iret (ty := .int) dL_lot_22 rfl rfl (Or.inl ⟨v, T, hq, rfl, rfl⟩)
  · obtain ⟨-, ho⟩ := hQ _ _ hq
    rcases ho with ⟨v, ho⟩ | ho | ho
    · cases ho
    · cases ho
      refine r_catch [] [(0, 10, 17, 15)] rfl (fun z hz => absurd hz List.not_mem_nil) (by decide) (by decide) (sg2 215 rfl rfl) (fun q => ?_)
      refine r_astore dL_lot_13 (Nat.le_of_ble_eq_true rfl) rfl ?_
      refine r_iconst (v := nI 1) dL_lot_15 (by decide) ?_
      exact r_iret (ty := .int) dL_lot_16 rfl rfl (Or.inr (Or.inl ⟨hq, rfl⟩))
    · cases ho
      refine r_catch [(0, 10, 13, 13)] [] rfl (fun z hz => by
          rcases List.mem_cons.mp hz with rfl | hz
          · exact ⟨by decide, _, (sg2 215 rfl rfl), List.mem_of_getElem? (i := 0) rfl⟩
          exact absurd hz List.not_mem_nil) (by decide) (by decide) (sg3 55 rfl rfl) (fun q => ?_)
      refine r_astore dL_lot_17 (Nat.le_of_ble_eq_true rfl) rfl ?_
      refine r_iconst (v := nI 2) dL_lot_19 (by decide) ?_
      exact r_iret (ty := .int) dL_lot_20 rfl rfl (Or.inr (Or.inr (⟨hq, rfl⟩)))
theorem dL_units_0 : decode cL_units 0 = .ok (.aload_n 3, 1) := by decide +kernel
theorem dL_units_1 : decode cL_units 1 = .ok (.iconst 0, 1) := by decide +kernel
theorem dL_units_2 : decode cL_units 2 = .ok (.aload_n 0, 1) := by decide +kernel
theorem dL_units_3 : decode cL_units 3 = .ok (.iload_n 1, 1) := by decide +kernel
theorem dL_units_4 : decode cL_units 4 = .ok (.iload_n 2, 1) := by decide +kernel
theorem dL_units_5 : decode cL_units 5 = .ok (.invokevirtual 68, 3) := by decide +kernel
theorem dL_units_8 : decode cL_units 8 = .ok (.i2l, 1) := by decide +kernel
theorem dL_units_9 : decode cL_units 9 = .ok (.lastore, 1) := by decide +kernel
theorem dL_units_10 : decode cL_units 10 = .ok (.goto 11, 3) := by decide +kernel
theorem dL_units_13 : decode cL_units 13 = .ok (.astore 4, 2) := by decide +kernel
theorem dL_units_15 : decode cL_units 15 = .ok (.iconst 1, 1) := by decide +kernel
theorem dL_units_16 : decode cL_units 16 = .ok (.ireturn, 1) := by decide +kernel
theorem dL_units_17 : decode cL_units 17 = .ok (.astore 4, 2) := by decide +kernel
theorem dL_units_19 : decode cL_units 19 = .ok (.iconst 2, 1) := by decide +kernel
theorem dL_units_20 : decode cL_units 20 = .ok (.ireturn, 1) := by decide +kernel
theorem dL_units_21 : decode cL_units 21 = .ok (.iconst 0, 1) := by decide +kernel
theorem dL_units_22 : decode cL_units 22 = .ok (.ireturn, 1) := by decide +kernel
theorem l_units {G : GI} {S : Hp} {x b : Nat} {y0 y1 : Int32} {Q2 : OV → Hp → Prop} (hx : zT S x = 14) (hcn : Cn m_X12_units G [.ref x, .int y0, .int y1] S Q2) (hQ : ∀ o T, Q2 o T → (zT T b = 102 ∧ zN T b = 1) ∧ ((∃ v : Int32, o = .inl (some (.int v))) ∨ o = .inr "java/lang/IndexOutOfBoundsException" ∨ o = .inr "java/lang/IllegalArgumentException")) : CnH m_L_units G [.ref x, .int y0, .int y1, .ref b] S (fun r U => (∃ (v : Int32) (T : Hp), Q2 (.inl (some (.int v))) T ∧ r = .inl (some (.int (nI 0))) ∧ U = uL T b 0 (v.toInt64)) ∨ (Q2 (.inr "java/lang/IndexOutOfBoundsException") U ∧ r = .inl (some (.int (nI 1)))) ∨ (Q2 (.inr "java/lang/IllegalArgumentException") U ∧ r = .inl (some (.int (nI 2))))) := by
  refine CnH.of (by decide) (Nat.le_of_ble_eq_true rfl) (fun hN9 hM9 => ?_)
  show Wx _ G _ 0 [(0, .ref x), (1, .int y0), (2, .int y1), (3, .ref b)] [] _
  refine r_aload_n dL_units_0 rfl 3 rfl ?_
  refine r_iconst (v := nI 0) dL_units_1 (by decide) ?_
  refine r_aload_n dL_units_2 rfl 0 rfl ?_
  refine r_iload_n dL_units_3 rfl 1 rfl ?_
  refine r_iload_n dL_units_4 rfl 2 rfl ?_
  refine r_callV (M2 := m_X12_units) (As := [.int y0, .int y1]) (rest := [.int (nI 0), .ref b]) dL_units_5 cc_L_units_68 rfl rfl rfl (Nat.le_of_ble_eq_true rfl) hx rfl rfl (by decide) hcn (fun v9 T hq => ?_) (fun E9 T hq => ?_)
  · obtain ⟨⟨hb1, hb2⟩, ho⟩ := hQ _ _ hq
    obtain ⟨v, rfl⟩ : ∃ v : Int32, v9 = some (.int v) := by
      rcases ho with ⟨v, ho⟩ | ho | ho
      · exact ⟨v, Sum.inl.inj ho⟩
      · cases ho
      · cases ho
    show Wx _ G T 8 [(0, .ref x), (1, .int y0), (2, .int y1), (3, .ref b)] [.int v, .int (nI 0), .ref b] _
    refine r_i2l dL_units_8 ?_
    refine r_last dL_units_9 hb1 (by rw [hb2]; exact vp_in_nI (by decide) (by decide)) ?_
    refine Wx.st' (S' := uL T b 0 (v.toInt64)) (by rw [nI_clamp (by decide)]) ?_
    refine r_goto (tgt := 21) dL_units_10 (by decide) ?_
    refine r_iconst (v := nI 0) dL_units_21 (by decide) ?_
    exact r_iret (ty := .int) dL_units_22 rfl rfl (Or.inl ⟨v, T, hq, rfl, rfl⟩)
  · obtain ⟨-, ho⟩ := hQ _ _ hq
    rcases ho with ⟨v, ho⟩ | ho | ho
    · cases ho
    · cases ho
      refine r_catch [] [(0, 10, 17, 15)] rfl (fun z hz => absurd hz List.not_mem_nil) (by decide) (by decide) (sg2 215 rfl rfl) (fun q => ?_)
      refine r_astore dL_units_13 (Nat.le_of_ble_eq_true rfl) rfl ?_
      refine r_iconst (v := nI 1) dL_units_15 (by decide) ?_
      exact r_iret (ty := .int) dL_units_16 rfl rfl (Or.inr (Or.inl ⟨hq, rfl⟩))
    · cases ho
      refine r_catch [(0, 10, 13, 13)] [] rfl (fun z hz => by
          rcases List.mem_cons.mp hz with rfl | hz
          · exact ⟨by decide, _, (sg2 215 rfl rfl), List.mem_of_getElem? (i := 0) rfl⟩
          exact absurd hz List.not_mem_nil) (by decide) (by decide) (sg3 55 rfl rfl) (fun q => ?_)
      refine r_astore dL_units_17 (Nat.le_of_ble_eq_true rfl) rfl ?_
      refine r_iconst (v := nI 2) dL_units_19 (by decide) ?_
      exact r_iret (ty := .int) dL_units_20 rfl rfl (Or.inr (Or.inr (⟨hq, rfl⟩)))
theorem dL_unit_0 : decode cL_unit 0 = .ok (.aload 4, 2) := by decide +kernel
theorem dL_unit_2 : decode cL_unit 2 = .ok (.iconst 0, 1) := by decide +kernel
theorem dL_unit_3 : decode cL_unit 3 = .ok (.aload_n 0, 1) := by decide +kernel
theorem dL_unit_4 : decode cL_unit 4 = .ok (.iload_n 1, 1) := by decide +kernel
theorem dL_unit_5 : decode cL_unit 5 = .ok (.iload_n 2, 1) := by decide +kernel
theorem dL_unit_6 : decode cL_unit 6 = .ok (.iload_n 3, 1) := by decide +kernel
theorem dL_unit_7 : decode cL_unit 7 = .ok (.invokevirtual 71, 3) := by decide +kernel
theorem dL_unit_10 : decode cL_unit 10 = .ok (.i2l, 1) := by decide +kernel
theorem dL_unit_11 : decode cL_unit 11 = .ok (.lastore, 1) := by decide +kernel
theorem dL_unit_12 : decode cL_unit 12 = .ok (.goto 11, 3) := by decide +kernel
theorem dL_unit_15 : decode cL_unit 15 = .ok (.astore 5, 2) := by decide +kernel
theorem dL_unit_17 : decode cL_unit 17 = .ok (.iconst 1, 1) := by decide +kernel
theorem dL_unit_18 : decode cL_unit 18 = .ok (.ireturn, 1) := by decide +kernel
theorem dL_unit_19 : decode cL_unit 19 = .ok (.astore 5, 2) := by decide +kernel
theorem dL_unit_21 : decode cL_unit 21 = .ok (.iconst 2, 1) := by decide +kernel
theorem dL_unit_22 : decode cL_unit 22 = .ok (.ireturn, 1) := by decide +kernel
theorem dL_unit_23 : decode cL_unit 23 = .ok (.iconst 0, 1) := by decide +kernel
theorem dL_unit_24 : decode cL_unit 24 = .ok (.ireturn, 1) := by decide +kernel
theorem l_unit {G : GI} {S : Hp} {x b : Nat} {y0 y1 y2 : Int32} {Q2 : OV → Hp → Prop} (hx : zT S x = 14) (hcn : Cn m_X12_unit G [.ref x, .int y0, .int y1, .int y2] S Q2) (hQ : ∀ o T, Q2 o T → (zT T b = 102 ∧ zN T b = 1) ∧ ((∃ v : Int32, o = .inl (some (.int v))) ∨ o = .inr "java/lang/IndexOutOfBoundsException" ∨ o = .inr "java/lang/IllegalArgumentException")) : CnH m_L_unit G [.ref x, .int y0, .int y1, .int y2, .ref b] S (fun r U => (∃ (v : Int32) (T : Hp), Q2 (.inl (some (.int v))) T ∧ r = .inl (some (.int (nI 0))) ∧ U = uL T b 0 (v.toInt64)) ∨ (Q2 (.inr "java/lang/IndexOutOfBoundsException") U ∧ r = .inl (some (.int (nI 1)))) ∨ (Q2 (.inr "java/lang/IllegalArgumentException") U ∧ r = .inl (some (.int (nI 2))))) := by
  refine CnH.of (by decide) (Nat.le_of_ble_eq_true rfl) (fun hN9 hM9 => ?_)
  show Wx _ G _ 0 [(0, .ref x), (1, .int y0), (2, .int y1), (3, .int y2), (4, .ref b)] [] _
  refine r_aload dL_unit_0 4 rfl ?_
  refine r_iconst (v := nI 0) dL_unit_2 (by decide) ?_
  refine r_aload_n dL_unit_3 rfl 0 rfl ?_
  refine r_iload_n dL_unit_4 rfl 1 rfl ?_
  refine r_iload_n dL_unit_5 rfl 2 rfl ?_
  refine r_iload_n dL_unit_6 rfl 3 rfl ?_
  refine r_callV (M2 := m_X12_unit) (As := [.int y0, .int y1, .int y2]) (rest := [.int (nI 0), .ref b]) dL_unit_7 cc_L_unit_71 rfl rfl rfl (Nat.le_of_ble_eq_true rfl) hx rfl rfl (by decide) hcn (fun v9 T hq => ?_) (fun E9 T hq => ?_)
  · obtain ⟨⟨hb1, hb2⟩, ho⟩ := hQ _ _ hq
    obtain ⟨v, rfl⟩ : ∃ v : Int32, v9 = some (.int v) := by
      rcases ho with ⟨v, ho⟩ | ho | ho
      · exact ⟨v, Sum.inl.inj ho⟩
      · cases ho
      · cases ho
    show Wx _ G T 10 [(0, .ref x), (1, .int y0), (2, .int y1), (3, .int y2), (4, .ref b)] [.int v, .int (nI 0), .ref b] _
    refine r_i2l dL_unit_10 ?_
    refine r_last dL_unit_11 hb1 (by rw [hb2]; exact vp_in_nI (by decide) (by decide)) ?_
    refine Wx.st' (S' := uL T b 0 (v.toInt64)) (by rw [nI_clamp (by decide)]) ?_
    refine r_goto (tgt := 23) dL_unit_12 (by decide) ?_
    refine r_iconst (v := nI 0) dL_unit_23 (by decide) ?_
    exact r_iret (ty := .int) dL_unit_24 rfl rfl (Or.inl ⟨v, T, hq, rfl, rfl⟩)
  · obtain ⟨-, ho⟩ := hQ _ _ hq
    rcases ho with ⟨v, ho⟩ | ho | ho
    · cases ho
    · cases ho
      refine r_catch [] [(0, 12, 19, 15)] rfl (fun z hz => absurd hz List.not_mem_nil) (by decide) (by decide) (sg2 215 rfl rfl) (fun q => ?_)
      refine r_astore dL_unit_15 (Nat.le_of_ble_eq_true rfl) rfl ?_
      refine r_iconst (v := nI 1) dL_unit_17 (by decide) ?_
      exact r_iret (ty := .int) dL_unit_18 rfl rfl (Or.inr (Or.inl ⟨hq, rfl⟩))
    · cases ho
      refine r_catch [(0, 12, 15, 13)] [] rfl (fun z hz => by
          rcases List.mem_cons.mp hz with rfl | hz
          · exact ⟨by decide, _, (sg2 215 rfl rfl), List.mem_of_getElem? (i := 0) rfl⟩
          exact absurd hz List.not_mem_nil) (by decide) (by decide) (sg3 55 rfl rfl) (fun q => ?_)
      refine r_astore dL_unit_19 (Nat.le_of_ble_eq_true rfl) rfl ?_
      refine r_iconst (v := nI 2) dL_unit_21 (by decide) ?_
      exact r_iret (ty := .int) dL_unit_22 rfl rfl (Or.inr (Or.inr (⟨hq, rfl⟩)))
theorem dL_chance_0 : decode cL_chance 0 = .ok (.aload_n 3, 1) := by decide +kernel
theorem dL_chance_1 : decode cL_chance 1 = .ok (.iconst 0, 1) := by decide +kernel
theorem dL_chance_2 : decode cL_chance 2 = .ok (.aload_n 0, 1) := by decide +kernel
theorem dL_chance_3 : decode cL_chance 3 = .ok (.iload_n 1, 1) := by decide +kernel
theorem dL_chance_4 : decode cL_chance 4 = .ok (.iload_n 2, 1) := by decide +kernel
theorem dL_chance_5 : decode cL_chance 5 = .ok (.invokevirtual 74, 3) := by decide +kernel
theorem dL_chance_8 : decode cL_chance 8 = .ok (.lastore, 1) := by decide +kernel
theorem dL_chance_9 : decode cL_chance 9 = .ok (.goto 15, 3) := by decide +kernel
theorem dL_chance_12 : decode cL_chance 12 = .ok (.astore 4, 2) := by decide +kernel
theorem dL_chance_14 : decode cL_chance 14 = .ok (.iconst 1, 1) := by decide +kernel
theorem dL_chance_15 : decode cL_chance 15 = .ok (.ireturn, 1) := by decide +kernel
theorem dL_chance_16 : decode cL_chance 16 = .ok (.astore 4, 2) := by decide +kernel
theorem dL_chance_18 : decode cL_chance 18 = .ok (.iconst 2, 1) := by decide +kernel
theorem dL_chance_19 : decode cL_chance 19 = .ok (.ireturn, 1) := by decide +kernel
theorem dL_chance_20 : decode cL_chance 20 = .ok (.astore 4, 2) := by decide +kernel
theorem dL_chance_22 : decode cL_chance 22 = .ok (.iconst 3, 1) := by decide +kernel
theorem dL_chance_23 : decode cL_chance 23 = .ok (.ireturn, 1) := by decide +kernel
theorem dL_chance_24 : decode cL_chance 24 = .ok (.iconst 0, 1) := by decide +kernel
theorem dL_chance_25 : decode cL_chance 25 = .ok (.ireturn, 1) := by decide +kernel
theorem l_chance {G : GI} {S : Hp} {x b : Nat} {y0 y1 : Int32} {Q2 : OV → Hp → Prop} (hx : zT S x = 14) (hcn : Cn m_X12_chance G [.ref x, .int y0, .int y1] S Q2) (hQ : ∀ o T, Q2 o T → (zT T b = 102 ∧ zN T b = 1) ∧ ((∃ v : Int64, o = .inl (some (.long v))) ∨ o = .inr "java/lang/IndexOutOfBoundsException" ∨ o = .inr "java/lang/IllegalArgumentException" ∨ o = .inr "java/lang/IllegalStateException")) : CnH m_L_chance G [.ref x, .int y0, .int y1, .ref b] S (fun r U => (∃ (v : Int64) (T : Hp), Q2 (.inl (some (.long v))) T ∧ r = .inl (some (.int (nI 0))) ∧ U = uL T b 0 (v)) ∨ (Q2 (.inr "java/lang/IndexOutOfBoundsException") U ∧ r = .inl (some (.int (nI 1)))) ∨ (Q2 (.inr "java/lang/IllegalArgumentException") U ∧ r = .inl (some (.int (nI 2)))) ∨ (Q2 (.inr "java/lang/IllegalStateException") U ∧ r = .inl (some (.int (nI 3))))) := by
  refine CnH.of (by decide) (Nat.le_of_ble_eq_true rfl) (fun hN9 hM9 => ?_)
  show Wx _ G _ 0 [(0, .ref x), (1, .int y0), (2, .int y1), (3, .ref b)] [] _
  refine r_aload_n dL_chance_0 rfl 3 rfl ?_
  refine r_iconst (v := nI 0) dL_chance_1 (by decide) ?_
  refine r_aload_n dL_chance_2 rfl 0 rfl ?_
  refine r_iload_n dL_chance_3 rfl 1 rfl ?_
  refine r_iload_n dL_chance_4 rfl 2 rfl ?_
  refine r_callV (M2 := m_X12_chance) (As := [.int y0, .int y1]) (rest := [.int (nI 0), .ref b]) dL_chance_5 cc_L_chance_74 rfl rfl rfl (Nat.le_of_ble_eq_true rfl) hx rfl rfl (by decide) hcn (fun v9 T hq => ?_) (fun E9 T hq => ?_)
  · obtain ⟨⟨hb1, hb2⟩, ho⟩ := hQ _ _ hq
    obtain ⟨v, rfl⟩ : ∃ v : Int64, v9 = some (.long v) := by
      rcases ho with ⟨v, ho⟩ | ho | ho | ho
      · exact ⟨v, Sum.inl.inj ho⟩
      · cases ho
      · cases ho
      · cases ho
    show Wx _ G T 8 [(0, .ref x), (1, .int y0), (2, .int y1), (3, .ref b)] [.long v, .int (nI 0), .ref b] _
    refine r_last dL_chance_8 hb1 (by rw [hb2]; exact vp_in_nI (by decide) (by decide)) ?_
    refine Wx.st' (S' := uL T b 0 (v)) (by rw [nI_clamp (by decide)]) ?_
    refine r_goto (tgt := 24) dL_chance_9 (by decide) ?_
    refine r_iconst (v := nI 0) dL_chance_24 (by decide) ?_
    exact r_iret (ty := .int) dL_chance_25 rfl rfl (Or.inl ⟨v, T, hq, rfl, rfl⟩)
  · obtain ⟨-, ho⟩ := hQ _ _ hq
    rcases ho with ⟨v, ho⟩ | ho | ho | ho
    · cases ho
    · cases ho
      refine r_catch [] [(0, 9, 16, 15), (0, 9, 20, 36)] rfl (fun z hz => absurd hz List.not_mem_nil) (by decide) (by decide) (sg2 215 rfl rfl) (fun q => ?_)
      refine r_astore dL_chance_12 (Nat.le_of_ble_eq_true rfl) rfl ?_
      refine r_iconst (v := nI 1) dL_chance_14 (by decide) ?_
      exact r_iret (ty := .int) dL_chance_15 rfl rfl (Or.inr (Or.inl ⟨hq, rfl⟩))
    · cases ho
      refine r_catch [(0, 9, 12, 13)] [(0, 9, 20, 36)] rfl (fun z hz => by
          rcases List.mem_cons.mp hz with rfl | hz
          · exact ⟨by decide, _, (sg2 215 rfl rfl), List.mem_of_getElem? (i := 0) rfl⟩
          exact absurd hz List.not_mem_nil) (by decide) (by decide) (sg3 55 rfl rfl) (fun q => ?_)
      refine r_astore dL_chance_16 (Nat.le_of_ble_eq_true rfl) rfl ?_
      refine r_iconst (v := nI 2) dL_chance_18 (by decide) ?_
      exact r_iret (ty := .int) dL_chance_19 rfl rfl (Or.inr (Or.inr (Or.inl ⟨hq, rfl⟩)))
    · cases ho
      refine r_catch [(0, 9, 12, 13), (0, 9, 16, 15)] [] rfl (fun z hz => by
          rcases List.mem_cons.mp hz with rfl | hz
          · exact ⟨by decide, _, (sg2 215 rfl rfl), List.mem_of_getElem? (i := 1) rfl⟩
          rcases List.mem_cons.mp hz with rfl | hz
          · exact ⟨by decide, _, (sg3 55 rfl rfl), List.mem_of_getElem? (i := 2) rfl⟩
          exact absurd hz List.not_mem_nil) (by decide) (by decide) (sg3 217 rfl rfl) (fun q => ?_)
      refine r_astore dL_chance_20 (Nat.le_of_ble_eq_true rfl) rfl ?_
      refine r_iconst (v := nI 3) dL_chance_22 (by decide) ?_
      exact r_iret (ty := .int) dL_chance_23 rfl rfl (Or.inr (Or.inr (Or.inr (⟨hq, rfl⟩))))
theorem dL_madeOf_0 : decode cL_madeOf 0 = .ok (.aload 4, 2) := by decide +kernel
theorem dL_madeOf_2 : decode cL_madeOf 2 = .ok (.iconst 0, 1) := by decide +kernel
theorem dL_madeOf_3 : decode cL_madeOf 3 = .ok (.aload_n 0, 1) := by decide +kernel
theorem dL_madeOf_4 : decode cL_madeOf 4 = .ok (.iload_n 1, 1) := by decide +kernel
theorem dL_madeOf_5 : decode cL_madeOf 5 = .ok (.iload_n 2, 1) := by decide +kernel
theorem dL_madeOf_6 : decode cL_madeOf 6 = .ok (.iload_n 3, 1) := by decide +kernel
theorem dL_madeOf_7 : decode cL_madeOf 7 = .ok (.invokevirtual 78, 3) := by decide +kernel
theorem dL_madeOf_10 : decode cL_madeOf 10 = .ok (.i2l, 1) := by decide +kernel
theorem dL_madeOf_11 : decode cL_madeOf 11 = .ok (.lastore, 1) := by decide +kernel
theorem dL_madeOf_12 : decode cL_madeOf 12 = .ok (.goto 11, 3) := by decide +kernel
theorem dL_madeOf_15 : decode cL_madeOf 15 = .ok (.astore 5, 2) := by decide +kernel
theorem dL_madeOf_17 : decode cL_madeOf 17 = .ok (.iconst 1, 1) := by decide +kernel
theorem dL_madeOf_18 : decode cL_madeOf 18 = .ok (.ireturn, 1) := by decide +kernel
theorem dL_madeOf_19 : decode cL_madeOf 19 = .ok (.astore 5, 2) := by decide +kernel
theorem dL_madeOf_21 : decode cL_madeOf 21 = .ok (.iconst 2, 1) := by decide +kernel
theorem dL_madeOf_22 : decode cL_madeOf 22 = .ok (.ireturn, 1) := by decide +kernel
theorem dL_madeOf_23 : decode cL_madeOf 23 = .ok (.iconst 0, 1) := by decide +kernel
theorem dL_madeOf_24 : decode cL_madeOf 24 = .ok (.ireturn, 1) := by decide +kernel
theorem l_madeOf {G : GI} {S : Hp} {x b : Nat} {y0 y1 y2 : Int32} {Q2 : OV → Hp → Prop} (hx : zT S x = 14) (hcn : Cn m_X12_madeOf G [.ref x, .int y0, .int y1, .int y2] S Q2) (hQ : ∀ o T, Q2 o T → (zT T b = 102 ∧ zN T b = 1) ∧ ((∃ v : Int32, o = .inl (some (.int v))) ∨ o = .inr "java/lang/IndexOutOfBoundsException" ∨ o = .inr "java/util/NoSuchElementException")) : CnH m_L_madeOf G [.ref x, .int y0, .int y1, .int y2, .ref b] S (fun r U => (∃ (v : Int32) (T : Hp), Q2 (.inl (some (.int v))) T ∧ r = .inl (some (.int (nI 0))) ∧ U = uL T b 0 (v.toInt64)) ∨ (Q2 (.inr "java/lang/IndexOutOfBoundsException") U ∧ r = .inl (some (.int (nI 1)))) ∨ (Q2 (.inr "java/util/NoSuchElementException") U ∧ r = .inl (some (.int (nI 2))))) := by
  refine CnH.of (by decide) (Nat.le_of_ble_eq_true rfl) (fun hN9 hM9 => ?_)
  show Wx _ G _ 0 [(0, .ref x), (1, .int y0), (2, .int y1), (3, .int y2), (4, .ref b)] [] _
  refine r_aload dL_madeOf_0 4 rfl ?_
  refine r_iconst (v := nI 0) dL_madeOf_2 (by decide) ?_
  refine r_aload_n dL_madeOf_3 rfl 0 rfl ?_
  refine r_iload_n dL_madeOf_4 rfl 1 rfl ?_
  refine r_iload_n dL_madeOf_5 rfl 2 rfl ?_
  refine r_iload_n dL_madeOf_6 rfl 3 rfl ?_
  refine r_callV (M2 := m_X12_madeOf) (As := [.int y0, .int y1, .int y2]) (rest := [.int (nI 0), .ref b]) dL_madeOf_7 cc_L_madeOf_78 rfl rfl rfl (Nat.le_of_ble_eq_true rfl) hx rfl rfl (by decide) hcn (fun v9 T hq => ?_) (fun E9 T hq => ?_)
  · obtain ⟨⟨hb1, hb2⟩, ho⟩ := hQ _ _ hq
    obtain ⟨v, rfl⟩ : ∃ v : Int32, v9 = some (.int v) := by
      rcases ho with ⟨v, ho⟩ | ho | ho
      · exact ⟨v, Sum.inl.inj ho⟩
      · cases ho
      · cases ho
    show Wx _ G T 10 [(0, .ref x), (1, .int y0), (2, .int y1), (3, .int y2), (4, .ref b)] [.int v, .int (nI 0), .ref b] _
    refine r_i2l dL_madeOf_10 ?_
    refine r_last dL_madeOf_11 hb1 (by rw [hb2]; exact vp_in_nI (by decide) (by decide)) ?_
    refine Wx.st' (S' := uL T b 0 (v.toInt64)) (by rw [nI_clamp (by decide)]) ?_
    refine r_goto (tgt := 23) dL_madeOf_12 (by decide) ?_
    refine r_iconst (v := nI 0) dL_madeOf_23 (by decide) ?_
    exact r_iret (ty := .int) dL_madeOf_24 rfl rfl (Or.inl ⟨v, T, hq, rfl, rfl⟩)
  · obtain ⟨-, ho⟩ := hQ _ _ hq
    rcases ho with ⟨v, ho⟩ | ho | ho
    · cases ho
    · cases ho
      refine r_catch [] [(0, 12, 19, 63)] rfl (fun z hz => absurd hz List.not_mem_nil) (by decide) (by decide) (sg2 215 rfl rfl) (fun q => ?_)
      refine r_astore dL_madeOf_15 (Nat.le_of_ble_eq_true rfl) rfl ?_
      refine r_iconst (v := nI 1) dL_madeOf_17 (by decide) ?_
      exact r_iret (ty := .int) dL_madeOf_18 rfl rfl (Or.inr (Or.inl ⟨hq, rfl⟩))
    · cases ho
      refine r_catch [(0, 12, 15, 13)] [] rfl (fun z hz => by
          rcases List.mem_cons.mp hz with rfl | hz
          · exact ⟨by decide, _, (sg2 215 rfl rfl), List.mem_of_getElem? (i := 3) rfl⟩
          exact absurd hz List.not_mem_nil) (by decide) (by decide) (sg4 176 rfl rfl) (fun q => ?_)
      refine r_astore dL_madeOf_19 (Nat.le_of_ble_eq_true rfl) rfl ?_
      refine r_iconst (v := nI 2) dL_madeOf_21 (by decide) ?_
      exact r_iret (ty := .int) dL_madeOf_22 rfl rfl (Or.inr (Or.inr (⟨hq, rfl⟩)))
theorem dL_whereabouts_0 : decode cL_whereabouts 0 = .ok (.aload_n 3, 1) := by decide +kernel
theorem dL_whereabouts_1 : decode cL_whereabouts 1 = .ok (.iconst 0, 1) := by decide +kernel
theorem dL_whereabouts_2 : decode cL_whereabouts 2 = .ok (.aload_n 0, 1) := by decide +kernel
theorem dL_whereabouts_3 : decode cL_whereabouts 3 = .ok (.iload_n 1, 1) := by decide +kernel
theorem dL_whereabouts_4 : decode cL_whereabouts 4 = .ok (.iload_n 2, 1) := by decide +kernel
theorem dL_whereabouts_5 : decode cL_whereabouts 5 = .ok (.invokevirtual 81, 3) := by decide +kernel
theorem dL_whereabouts_8 : decode cL_whereabouts 8 = .ok (.i2l, 1) := by decide +kernel
theorem dL_whereabouts_9 : decode cL_whereabouts 9 = .ok (.lastore, 1) := by decide +kernel
theorem dL_whereabouts_10 : decode cL_whereabouts 10 = .ok (.goto 7, 3) := by decide +kernel
theorem dL_whereabouts_13 : decode cL_whereabouts 13 = .ok (.astore 4, 2) := by decide +kernel
theorem dL_whereabouts_15 : decode cL_whereabouts 15 = .ok (.iconst 1, 1) := by decide +kernel
theorem dL_whereabouts_16 : decode cL_whereabouts 16 = .ok (.ireturn, 1) := by decide +kernel
theorem dL_whereabouts_17 : decode cL_whereabouts 17 = .ok (.iconst 0, 1) := by decide +kernel
theorem dL_whereabouts_18 : decode cL_whereabouts 18 = .ok (.ireturn, 1) := by decide +kernel
theorem l_whereabouts {G : GI} {S : Hp} {x b : Nat} {y0 y1 : Int32} {Q2 : OV → Hp → Prop} (hx : zT S x = 14) (hcn : Cn m_X12_whereabouts G [.ref x, .int y0, .int y1] S Q2) (hQ : ∀ o T, Q2 o T → (zT T b = 102 ∧ zN T b = 1) ∧ ((∃ v : Int32, o = .inl (some (.int v))) ∨ o = .inr "java/lang/IndexOutOfBoundsException")) : CnH m_L_whereabouts G [.ref x, .int y0, .int y1, .ref b] S (fun r U => (∃ (v : Int32) (T : Hp), Q2 (.inl (some (.int v))) T ∧ r = .inl (some (.int (nI 0))) ∧ U = uL T b 0 (v.toInt64)) ∨ (Q2 (.inr "java/lang/IndexOutOfBoundsException") U ∧ r = .inl (some (.int (nI 1))))) := by
  refine CnH.of (by decide) (Nat.le_of_ble_eq_true rfl) (fun hN9 hM9 => ?_)
  show Wx _ G _ 0 [(0, .ref x), (1, .int y0), (2, .int y1), (3, .ref b)] [] _
  refine r_aload_n dL_whereabouts_0 rfl 3 rfl ?_
  refine r_iconst (v := nI 0) dL_whereabouts_1 (by decide) ?_
  refine r_aload_n dL_whereabouts_2 rfl 0 rfl ?_
  refine r_iload_n dL_whereabouts_3 rfl 1 rfl ?_
  refine r_iload_n dL_whereabouts_4 rfl 2 rfl ?_
  refine r_callV (M2 := m_X12_whereabouts) (As := [.int y0, .int y1]) (rest := [.int (nI 0), .ref b]) dL_whereabouts_5 cc_L_whereabouts_81 rfl rfl rfl (Nat.le_of_ble_eq_true rfl) hx rfl rfl (by decide) hcn (fun v9 T hq => ?_) (fun E9 T hq => ?_)
  · obtain ⟨⟨hb1, hb2⟩, ho⟩ := hQ _ _ hq
    obtain ⟨v, rfl⟩ : ∃ v : Int32, v9 = some (.int v) := by
      rcases ho with ⟨v, ho⟩ | ho
      · exact ⟨v, Sum.inl.inj ho⟩
      · cases ho
    show Wx _ G T 8 [(0, .ref x), (1, .int y0), (2, .int y1), (3, .ref b)] [.int v, .int (nI 0), .ref b] _
    refine r_i2l dL_whereabouts_8 ?_
    refine r_last dL_whereabouts_9 hb1 (by rw [hb2]; exact vp_in_nI (by decide) (by decide)) ?_
    refine Wx.st' (S' := uL T b 0 (v.toInt64)) (by rw [nI_clamp (by decide)]) ?_
    refine r_goto (tgt := 17) dL_whereabouts_10 (by decide) ?_
    refine r_iconst (v := nI 0) dL_whereabouts_17 (by decide) ?_
    exact r_iret (ty := .int) dL_whereabouts_18 rfl rfl (Or.inl ⟨v, T, hq, rfl, rfl⟩)
  · obtain ⟨-, ho⟩ := hQ _ _ hq
    rcases ho with ⟨v, ho⟩ | ho
    · cases ho
    · cases ho
      refine r_catch [] [] rfl (fun z hz => absurd hz List.not_mem_nil) (by decide) (by decide) (sg2 215 rfl rfl) (fun q => ?_)
      refine r_astore dL_whereabouts_13 (Nat.le_of_ble_eq_true rfl) rfl ?_
      refine r_iconst (v := nI 1) dL_whereabouts_15 (by decide) ?_
      exact r_iret (ty := .int) dL_whereabouts_16 rfl rfl (Or.inr (⟨hq, rfl⟩))
theorem dL_trace_0 : decode cL_trace 0 = .ok (.aload 5, 2) := by decide +kernel
theorem dL_trace_2 : decode cL_trace 2 = .ok (.iconst 0, 1) := by decide +kernel
theorem dL_trace_3 : decode cL_trace 3 = .ok (.aload_n 0, 1) := by decide +kernel
theorem dL_trace_4 : decode cL_trace 4 = .ok (.iload_n 1, 1) := by decide +kernel
theorem dL_trace_5 : decode cL_trace 5 = .ok (.iload_n 2, 1) := by decide +kernel
theorem dL_trace_6 : decode cL_trace 6 = .ok (.iload_n 3, 1) := by decide +kernel
theorem dL_trace_7 : decode cL_trace 7 = .ok (.iload 4, 2) := by decide +kernel
theorem dL_trace_9 : decode cL_trace 9 = .ok (.invokevirtual 84, 3) := by decide +kernel
theorem dL_trace_12 : decode cL_trace 12 = .ok (.i2l, 1) := by decide +kernel
theorem dL_trace_13 : decode cL_trace 13 = .ok (.lastore, 1) := by decide +kernel
theorem dL_trace_14 : decode cL_trace 14 = .ok (.goto 15, 3) := by decide +kernel
theorem dL_trace_17 : decode cL_trace 17 = .ok (.astore 6, 2) := by decide +kernel
theorem dL_trace_19 : decode cL_trace 19 = .ok (.iconst 1, 1) := by decide +kernel
theorem dL_trace_20 : decode cL_trace 20 = .ok (.ireturn, 1) := by decide +kernel
theorem dL_trace_21 : decode cL_trace 21 = .ok (.astore 6, 2) := by decide +kernel
theorem dL_trace_23 : decode cL_trace 23 = .ok (.iconst 2, 1) := by decide +kernel
theorem dL_trace_24 : decode cL_trace 24 = .ok (.ireturn, 1) := by decide +kernel
theorem dL_trace_25 : decode cL_trace 25 = .ok (.astore 6, 2) := by decide +kernel
theorem dL_trace_27 : decode cL_trace 27 = .ok (.iconst 3, 1) := by decide +kernel
theorem dL_trace_28 : decode cL_trace 28 = .ok (.ireturn, 1) := by decide +kernel
theorem dL_trace_29 : decode cL_trace 29 = .ok (.iconst 0, 1) := by decide +kernel
theorem dL_trace_30 : decode cL_trace 30 = .ok (.ireturn, 1) := by decide +kernel
theorem l_trace {G : GI} {S : Hp} {x b : Nat} {y0 y1 y2 y3 : Int32} {Q2 : OV → Hp → Prop} (hx : zT S x = 14) (hcn : Cn m_X12_trace G [.ref x, .int y0, .int y1, .int y2, .int y3] S Q2) (hQ : ∀ o T, Q2 o T → (zT T b = 102 ∧ zN T b = 1) ∧ ((∃ v : Int32, o = .inl (some (.int v))) ∨ o = .inr "java/lang/IndexOutOfBoundsException" ∨ o = .inr "java/lang/IllegalArgumentException" ∨ o = .inr "java/util/NoSuchElementException")) : CnH m_L_trace G [.ref x, .int y0, .int y1, .int y2, .int y3, .ref b] S (fun r U => (∃ (v : Int32) (T : Hp), Q2 (.inl (some (.int v))) T ∧ r = .inl (some (.int (nI 0))) ∧ U = uL T b 0 (v.toInt64)) ∨ (Q2 (.inr "java/lang/IndexOutOfBoundsException") U ∧ r = .inl (some (.int (nI 1)))) ∨ (Q2 (.inr "java/lang/IllegalArgumentException") U ∧ r = .inl (some (.int (nI 2)))) ∨ (Q2 (.inr "java/util/NoSuchElementException") U ∧ r = .inl (some (.int (nI 3))))) := by
  refine CnH.of (by decide) (Nat.le_of_ble_eq_true rfl) (fun hN9 hM9 => ?_)
  show Wx _ G _ 0 [(0, .ref x), (1, .int y0), (2, .int y1), (3, .int y2), (4, .int y3), (5, .ref b)] [] _
  refine r_aload dL_trace_0 5 rfl ?_
  refine r_iconst (v := nI 0) dL_trace_2 (by decide) ?_
  refine r_aload_n dL_trace_3 rfl 0 rfl ?_
  refine r_iload_n dL_trace_4 rfl 1 rfl ?_
  refine r_iload_n dL_trace_5 rfl 2 rfl ?_
  refine r_iload_n dL_trace_6 rfl 3 rfl ?_
  refine r_iload dL_trace_7 4 rfl ?_
  refine r_callV (M2 := m_X12_trace) (As := [.int y0, .int y1, .int y2, .int y3]) (rest := [.int (nI 0), .ref b]) dL_trace_9 cc_L_trace_84 rfl rfl rfl (Nat.le_of_ble_eq_true rfl) hx rfl rfl (by decide) hcn (fun v9 T hq => ?_) (fun E9 T hq => ?_)
  · obtain ⟨⟨hb1, hb2⟩, ho⟩ := hQ _ _ hq
    obtain ⟨v, rfl⟩ : ∃ v : Int32, v9 = some (.int v) := by
      rcases ho with ⟨v, ho⟩ | ho | ho | ho
      · exact ⟨v, Sum.inl.inj ho⟩
      · cases ho
      · cases ho
      · cases ho
    show Wx _ G T 12 [(0, .ref x), (1, .int y0), (2, .int y1), (3, .int y2), (4, .int y3), (5, .ref b)] [.int v, .int (nI 0), .ref b] _
    refine r_i2l dL_trace_12 ?_
    refine r_last dL_trace_13 hb1 (by rw [hb2]; exact vp_in_nI (by decide) (by decide)) ?_
    refine Wx.st' (S' := uL T b 0 (v.toInt64)) (by rw [nI_clamp (by decide)]) ?_
    refine r_goto (tgt := 29) dL_trace_14 (by decide) ?_
    refine r_iconst (v := nI 0) dL_trace_29 (by decide) ?_
    exact r_iret (ty := .int) dL_trace_30 rfl rfl (Or.inl ⟨v, T, hq, rfl, rfl⟩)
  · obtain ⟨-, ho⟩ := hQ _ _ hq
    rcases ho with ⟨v, ho⟩ | ho | ho | ho
    · cases ho
    · cases ho
      refine r_catch [] [(0, 14, 21, 15), (0, 14, 25, 63)] rfl (fun z hz => absurd hz List.not_mem_nil) (by decide) (by decide) (sg2 215 rfl rfl) (fun q => ?_)
      refine r_astore dL_trace_17 (Nat.le_of_ble_eq_true rfl) rfl ?_
      refine r_iconst (v := nI 1) dL_trace_19 (by decide) ?_
      exact r_iret (ty := .int) dL_trace_20 rfl rfl (Or.inr (Or.inl ⟨hq, rfl⟩))
    · cases ho
      refine r_catch [(0, 14, 17, 13)] [(0, 14, 25, 63)] rfl (fun z hz => by
          rcases List.mem_cons.mp hz with rfl | hz
          · exact ⟨by decide, _, (sg2 215 rfl rfl), List.mem_of_getElem? (i := 0) rfl⟩
          exact absurd hz List.not_mem_nil) (by decide) (by decide) (sg3 55 rfl rfl) (fun q => ?_)
      refine r_astore dL_trace_21 (Nat.le_of_ble_eq_true rfl) rfl ?_
      refine r_iconst (v := nI 2) dL_trace_23 (by decide) ?_
      exact r_iret (ty := .int) dL_trace_24 rfl rfl (Or.inr (Or.inr (Or.inl ⟨hq, rfl⟩)))
    · cases ho
      refine r_catch [(0, 14, 17, 13), (0, 14, 21, 15)] [] rfl (fun z hz => by
          rcases List.mem_cons.mp hz with rfl | hz
          · exact ⟨by decide, _, (sg2 215 rfl rfl), List.mem_of_getElem? (i := 3) rfl⟩
          rcases List.mem_cons.mp hz with rfl | hz
          · exact ⟨by decide, _, (sg3 55 rfl rfl), List.mem_of_getElem? (i := 5) rfl⟩
          exact absurd hz List.not_mem_nil) (by decide) (by decide) (sg4 176 rfl rfl) (fun q => ?_)
      refine r_astore dL_trace_25 (Nat.le_of_ble_eq_true rfl) rfl ?_
      refine r_iconst (v := nI 3) dL_trace_27 (by decide) ?_
      exact r_iret (ty := .int) dL_trace_28 rfl rfl (Or.inr (Or.inr (Or.inr (⟨hq, rfl⟩))))
theorem dL_recall_0 : decode cL_recall 0 = .ok (.aload_n 2, 1) := by decide +kernel
theorem dL_recall_1 : decode cL_recall 1 = .ok (.iconst 0, 1) := by decide +kernel
theorem dL_recall_2 : decode cL_recall 2 = .ok (.aload_n 0, 1) := by decide +kernel
theorem dL_recall_3 : decode cL_recall 3 = .ok (.iload_n 1, 1) := by decide +kernel
theorem dL_recall_4 : decode cL_recall 4 = .ok (.invokevirtual 87, 3) := by decide +kernel
theorem dL_recall_7 : decode cL_recall 7 = .ok (.i2l, 1) := by decide +kernel
theorem dL_recall_8 : decode cL_recall 8 = .ok (.lastore, 1) := by decide +kernel
theorem dL_recall_9 : decode cL_recall 9 = .ok (.goto 6, 3) := by decide +kernel
theorem dL_recall_12 : decode cL_recall 12 = .ok (.astore_n 3, 1) := by decide +kernel
theorem dL_recall_13 : decode cL_recall 13 = .ok (.iconst 1, 1) := by decide +kernel
theorem dL_recall_14 : decode cL_recall 14 = .ok (.ireturn, 1) := by decide +kernel
theorem dL_recall_15 : decode cL_recall 15 = .ok (.iconst 0, 1) := by decide +kernel
theorem dL_recall_16 : decode cL_recall 16 = .ok (.ireturn, 1) := by decide +kernel
theorem l_recall {G : GI} {S : Hp} {x b : Nat} {y0 : Int32} {Q2 : OV → Hp → Prop} (hx : zT S x = 14) (hcn : Cn m_X12_recall G [.ref x, .int y0] S Q2) (hQ : ∀ o T, Q2 o T → (zT T b = 102 ∧ zN T b = 1) ∧ ((∃ v : Int32, o = .inl (some (.int v))) ∨ o = .inr "java/lang/IndexOutOfBoundsException")) : CnH m_L_recall G [.ref x, .int y0, .ref b] S (fun r U => (∃ (v : Int32) (T : Hp), Q2 (.inl (some (.int v))) T ∧ r = .inl (some (.int (nI 0))) ∧ U = uL T b 0 (v.toInt64)) ∨ (Q2 (.inr "java/lang/IndexOutOfBoundsException") U ∧ r = .inl (some (.int (nI 1))))) := by
  refine CnH.of (by decide) (Nat.le_of_ble_eq_true rfl) (fun hN9 hM9 => ?_)
  show Wx _ G _ 0 [(0, .ref x), (1, .int y0), (2, .ref b)] [] _
  refine r_aload_n dL_recall_0 rfl 2 rfl ?_
  refine r_iconst (v := nI 0) dL_recall_1 (by decide) ?_
  refine r_aload_n dL_recall_2 rfl 0 rfl ?_
  refine r_iload_n dL_recall_3 rfl 1 rfl ?_
  refine r_callV (M2 := m_X12_recall) (As := [.int y0]) (rest := [.int (nI 0), .ref b]) dL_recall_4 cc_L_recall_87 rfl rfl rfl (Nat.le_of_ble_eq_true rfl) hx rfl rfl (by decide) hcn (fun v9 T hq => ?_) (fun E9 T hq => ?_)
  · obtain ⟨⟨hb1, hb2⟩, ho⟩ := hQ _ _ hq
    obtain ⟨v, rfl⟩ : ∃ v : Int32, v9 = some (.int v) := by
      rcases ho with ⟨v, ho⟩ | ho
      · exact ⟨v, Sum.inl.inj ho⟩
      · cases ho
    show Wx _ G T 7 [(0, .ref x), (1, .int y0), (2, .ref b)] [.int v, .int (nI 0), .ref b] _
    refine r_i2l dL_recall_7 ?_
    refine r_last dL_recall_8 hb1 (by rw [hb2]; exact vp_in_nI (by decide) (by decide)) ?_
    refine Wx.st' (S' := uL T b 0 (v.toInt64)) (by rw [nI_clamp (by decide)]) ?_
    refine r_goto (tgt := 15) dL_recall_9 (by decide) ?_
    refine r_iconst (v := nI 0) dL_recall_15 (by decide) ?_
    exact r_iret (ty := .int) dL_recall_16 rfl rfl (Or.inl ⟨v, T, hq, rfl, rfl⟩)
  · obtain ⟨-, ho⟩ := hQ _ _ hq
    rcases ho with ⟨v, ho⟩ | ho
    · cases ho
    · cases ho
      refine r_catch [] [] rfl (fun z hz => absurd hz List.not_mem_nil) (by decide) (by decide) (sg2 215 rfl rfl) (fun q => ?_)
      refine r_astore_n dL_recall_12 rfl (Nat.le_of_ble_eq_true rfl) rfl ?_
      refine r_iconst (v := nI 1) dL_recall_13 (by decide) ?_
      exact r_iret (ty := .int) dL_recall_14 rfl rfl (Or.inr (⟨hq, rfl⟩))
theorem dL_recalled_0 : decode cL_recalled 0 = .ok (.aload_n 3, 1) := by decide +kernel
theorem dL_recalled_1 : decode cL_recalled 1 = .ok (.iconst 0, 1) := by decide +kernel
theorem dL_recalled_2 : decode cL_recalled 2 = .ok (.aload_n 0, 1) := by decide +kernel
theorem dL_recalled_3 : decode cL_recalled 3 = .ok (.iload_n 1, 1) := by decide +kernel
theorem dL_recalled_4 : decode cL_recalled 4 = .ok (.iload_n 2, 1) := by decide +kernel
theorem dL_recalled_5 : decode cL_recalled 5 = .ok (.invokevirtual 90, 3) := by decide +kernel
theorem dL_recalled_8 : decode cL_recalled 8 = .ok (.i2l, 1) := by decide +kernel
theorem dL_recalled_9 : decode cL_recalled 9 = .ok (.lastore, 1) := by decide +kernel
theorem dL_recalled_10 : decode cL_recalled 10 = .ok (.goto 11, 3) := by decide +kernel
theorem dL_recalled_13 : decode cL_recalled 13 = .ok (.astore 4, 2) := by decide +kernel
theorem dL_recalled_15 : decode cL_recalled 15 = .ok (.iconst 1, 1) := by decide +kernel
theorem dL_recalled_16 : decode cL_recalled 16 = .ok (.ireturn, 1) := by decide +kernel
theorem dL_recalled_17 : decode cL_recalled 17 = .ok (.astore 4, 2) := by decide +kernel
theorem dL_recalled_19 : decode cL_recalled 19 = .ok (.iconst 2, 1) := by decide +kernel
theorem dL_recalled_20 : decode cL_recalled 20 = .ok (.ireturn, 1) := by decide +kernel
theorem dL_recalled_21 : decode cL_recalled 21 = .ok (.iconst 0, 1) := by decide +kernel
theorem dL_recalled_22 : decode cL_recalled 22 = .ok (.ireturn, 1) := by decide +kernel
theorem l_recalled {G : GI} {S : Hp} {x b : Nat} {y0 y1 : Int32} {Q2 : OV → Hp → Prop} (hx : zT S x = 14) (hcn : Cn m_X12_recalled G [.ref x, .int y0, .int y1] S Q2) (hQ : ∀ o T, Q2 o T → (zT T b = 102 ∧ zN T b = 1) ∧ ((∃ v : Int32, o = .inl (some (.int v))) ∨ o = .inr "java/lang/IndexOutOfBoundsException" ∨ o = .inr "java/lang/IllegalArgumentException")) : CnH m_L_recalled G [.ref x, .int y0, .int y1, .ref b] S (fun r U => (∃ (v : Int32) (T : Hp), Q2 (.inl (some (.int v))) T ∧ r = .inl (some (.int (nI 0))) ∧ U = uL T b 0 (v.toInt64)) ∨ (Q2 (.inr "java/lang/IndexOutOfBoundsException") U ∧ r = .inl (some (.int (nI 1)))) ∨ (Q2 (.inr "java/lang/IllegalArgumentException") U ∧ r = .inl (some (.int (nI 2))))) := by
  refine CnH.of (by decide) (Nat.le_of_ble_eq_true rfl) (fun hN9 hM9 => ?_)
  show Wx _ G _ 0 [(0, .ref x), (1, .int y0), (2, .int y1), (3, .ref b)] [] _
  refine r_aload_n dL_recalled_0 rfl 3 rfl ?_
  refine r_iconst (v := nI 0) dL_recalled_1 (by decide) ?_
  refine r_aload_n dL_recalled_2 rfl 0 rfl ?_
  refine r_iload_n dL_recalled_3 rfl 1 rfl ?_
  refine r_iload_n dL_recalled_4 rfl 2 rfl ?_
  refine r_callV (M2 := m_X12_recalled) (As := [.int y0, .int y1]) (rest := [.int (nI 0), .ref b]) dL_recalled_5 cc_L_recalled_90 rfl rfl rfl (Nat.le_of_ble_eq_true rfl) hx rfl rfl (by decide) hcn (fun v9 T hq => ?_) (fun E9 T hq => ?_)
  · obtain ⟨⟨hb1, hb2⟩, ho⟩ := hQ _ _ hq
    obtain ⟨v, rfl⟩ : ∃ v : Int32, v9 = some (.int v) := by
      rcases ho with ⟨v, ho⟩ | ho | ho
      · exact ⟨v, Sum.inl.inj ho⟩
      · cases ho
      · cases ho
    show Wx _ G T 8 [(0, .ref x), (1, .int y0), (2, .int y1), (3, .ref b)] [.int v, .int (nI 0), .ref b] _
    refine r_i2l dL_recalled_8 ?_
    refine r_last dL_recalled_9 hb1 (by rw [hb2]; exact vp_in_nI (by decide) (by decide)) ?_
    refine Wx.st' (S' := uL T b 0 (v.toInt64)) (by rw [nI_clamp (by decide)]) ?_
    refine r_goto (tgt := 21) dL_recalled_10 (by decide) ?_
    refine r_iconst (v := nI 0) dL_recalled_21 (by decide) ?_
    exact r_iret (ty := .int) dL_recalled_22 rfl rfl (Or.inl ⟨v, T, hq, rfl, rfl⟩)
  · obtain ⟨-, ho⟩ := hQ _ _ hq
    rcases ho with ⟨v, ho⟩ | ho | ho
    · cases ho
    · cases ho
      refine r_catch [] [(0, 10, 17, 15)] rfl (fun z hz => absurd hz List.not_mem_nil) (by decide) (by decide) (sg2 215 rfl rfl) (fun q => ?_)
      refine r_astore dL_recalled_13 (Nat.le_of_ble_eq_true rfl) rfl ?_
      refine r_iconst (v := nI 1) dL_recalled_15 (by decide) ?_
      exact r_iret (ty := .int) dL_recalled_16 rfl rfl (Or.inr (Or.inl ⟨hq, rfl⟩))
    · cases ho
      refine r_catch [(0, 10, 13, 13)] [] rfl (fun z hz => by
          rcases List.mem_cons.mp hz with rfl | hz
          · exact ⟨by decide, _, (sg2 215 rfl rfl), List.mem_of_getElem? (i := 0) rfl⟩
          exact absurd hz List.not_mem_nil) (by decide) (by decide) (sg3 55 rfl rfl) (fun q => ?_)
      refine r_astore dL_recalled_17 (Nat.le_of_ble_eq_true rfl) rfl ?_
      refine r_iconst (v := nI 2) dL_recalled_19 (by decide) ?_
      exact r_iret (ty := .int) dL_recalled_20 rfl rfl (Or.inr (Or.inr (⟨hq, rfl⟩)))
theorem dL_blame_0 : decode cL_blame 0 = .ok (.aload_n 3, 1) := by decide +kernel
theorem dL_blame_1 : decode cL_blame 1 = .ok (.iconst 0, 1) := by decide +kernel
theorem dL_blame_2 : decode cL_blame 2 = .ok (.aload_n 0, 1) := by decide +kernel
theorem dL_blame_3 : decode cL_blame 3 = .ok (.iload_n 1, 1) := by decide +kernel
theorem dL_blame_4 : decode cL_blame 4 = .ok (.iload_n 2, 1) := by decide +kernel
theorem dL_blame_5 : decode cL_blame 5 = .ok (.invokevirtual 93, 3) := by decide +kernel
theorem dL_blame_8 : decode cL_blame 8 = .ok (.i2l, 1) := by decide +kernel
theorem dL_blame_9 : decode cL_blame 9 = .ok (.lastore, 1) := by decide +kernel
theorem dL_blame_10 : decode cL_blame 10 = .ok (.goto 7, 3) := by decide +kernel
theorem dL_blame_13 : decode cL_blame 13 = .ok (.astore 4, 2) := by decide +kernel
theorem dL_blame_15 : decode cL_blame 15 = .ok (.iconst 1, 1) := by decide +kernel
theorem dL_blame_16 : decode cL_blame 16 = .ok (.ireturn, 1) := by decide +kernel
theorem dL_blame_17 : decode cL_blame 17 = .ok (.iconst 0, 1) := by decide +kernel
theorem dL_blame_18 : decode cL_blame 18 = .ok (.ireturn, 1) := by decide +kernel
theorem l_blame {G : GI} {S : Hp} {x b : Nat} {y0 y1 : Int32} {Q2 : OV → Hp → Prop} (hx : zT S x = 14) (hcn : Cn m_X12_blame G [.ref x, .int y0, .int y1] S Q2) (hQ : ∀ o T, Q2 o T → (zT T b = 102 ∧ zN T b = 1) ∧ ((∃ v : Int32, o = .inl (some (.int v))) ∨ o = .inr "java/lang/IllegalArgumentException")) : CnH m_L_blame G [.ref x, .int y0, .int y1, .ref b] S (fun r U => (∃ (v : Int32) (T : Hp), Q2 (.inl (some (.int v))) T ∧ r = .inl (some (.int (nI 0))) ∧ U = uL T b 0 (v.toInt64)) ∨ (Q2 (.inr "java/lang/IllegalArgumentException") U ∧ r = .inl (some (.int (nI 1))))) := by
  refine CnH.of (by decide) (Nat.le_of_ble_eq_true rfl) (fun hN9 hM9 => ?_)
  show Wx _ G _ 0 [(0, .ref x), (1, .int y0), (2, .int y1), (3, .ref b)] [] _
  refine r_aload_n dL_blame_0 rfl 3 rfl ?_
  refine r_iconst (v := nI 0) dL_blame_1 (by decide) ?_
  refine r_aload_n dL_blame_2 rfl 0 rfl ?_
  refine r_iload_n dL_blame_3 rfl 1 rfl ?_
  refine r_iload_n dL_blame_4 rfl 2 rfl ?_
  refine r_callV (M2 := m_X12_blame) (As := [.int y0, .int y1]) (rest := [.int (nI 0), .ref b]) dL_blame_5 cc_L_blame_93 rfl rfl rfl (Nat.le_of_ble_eq_true rfl) hx rfl rfl (by decide) hcn (fun v9 T hq => ?_) (fun E9 T hq => ?_)
  · obtain ⟨⟨hb1, hb2⟩, ho⟩ := hQ _ _ hq
    obtain ⟨v, rfl⟩ : ∃ v : Int32, v9 = some (.int v) := by
      rcases ho with ⟨v, ho⟩ | ho
      · exact ⟨v, Sum.inl.inj ho⟩
      · cases ho
    show Wx _ G T 8 [(0, .ref x), (1, .int y0), (2, .int y1), (3, .ref b)] [.int v, .int (nI 0), .ref b] _
    refine r_i2l dL_blame_8 ?_
    refine r_last dL_blame_9 hb1 (by rw [hb2]; exact vp_in_nI (by decide) (by decide)) ?_
    refine Wx.st' (S' := uL T b 0 (v.toInt64)) (by rw [nI_clamp (by decide)]) ?_
    refine r_goto (tgt := 17) dL_blame_10 (by decide) ?_
    refine r_iconst (v := nI 0) dL_blame_17 (by decide) ?_
    exact r_iret (ty := .int) dL_blame_18 rfl rfl (Or.inl ⟨v, T, hq, rfl, rfl⟩)
  · obtain ⟨-, ho⟩ := hQ _ _ hq
    rcases ho with ⟨v, ho⟩ | ho
    · cases ho
    · cases ho
      refine r_catch [] [] rfl (fun z hz => absurd hz List.not_mem_nil) (by decide) (by decide) (sg3 55 rfl rfl) (fun q => ?_)
      refine r_astore dL_blame_13 (Nat.le_of_ble_eq_true rfl) rfl ?_
      refine r_iconst (v := nI 1) dL_blame_15 (by decide) ?_
      exact r_iret (ty := .int) dL_blame_16 rfl rfl (Or.inr (⟨hq, rfl⟩))
theorem dL_worst_0 : decode cL_worst 0 = .ok (.aload_n 2, 1) := by decide +kernel
theorem dL_worst_1 : decode cL_worst 1 = .ok (.iconst 0, 1) := by decide +kernel
theorem dL_worst_2 : decode cL_worst 2 = .ok (.aload_n 0, 1) := by decide +kernel
theorem dL_worst_3 : decode cL_worst 3 = .ok (.iload_n 1, 1) := by decide +kernel
theorem dL_worst_4 : decode cL_worst 4 = .ok (.invokevirtual 96, 3) := by decide +kernel
theorem dL_worst_7 : decode cL_worst 7 = .ok (.i2l, 1) := by decide +kernel
theorem dL_worst_8 : decode cL_worst 8 = .ok (.lastore, 1) := by decide +kernel
theorem dL_worst_9 : decode cL_worst 9 = .ok (.goto 6, 3) := by decide +kernel
theorem dL_worst_12 : decode cL_worst 12 = .ok (.astore_n 3, 1) := by decide +kernel
theorem dL_worst_13 : decode cL_worst 13 = .ok (.iconst 1, 1) := by decide +kernel
theorem dL_worst_14 : decode cL_worst 14 = .ok (.ireturn, 1) := by decide +kernel
theorem dL_worst_15 : decode cL_worst 15 = .ok (.iconst 0, 1) := by decide +kernel
theorem dL_worst_16 : decode cL_worst 16 = .ok (.ireturn, 1) := by decide +kernel
theorem l_worst {G : GI} {S : Hp} {x b : Nat} {y0 : Int32} {Q2 : OV → Hp → Prop} (hx : zT S x = 14) (hcn : Cn m_X12_worst G [.ref x, .int y0] S Q2) (hQ : ∀ o T, Q2 o T → (zT T b = 102 ∧ zN T b = 1) ∧ ((∃ v : Int32, o = .inl (some (.int v))) ∨ o = .inr "java/util/NoSuchElementException")) : CnH m_L_worst G [.ref x, .int y0, .ref b] S (fun r U => (∃ (v : Int32) (T : Hp), Q2 (.inl (some (.int v))) T ∧ r = .inl (some (.int (nI 0))) ∧ U = uL T b 0 (v.toInt64)) ∨ (Q2 (.inr "java/util/NoSuchElementException") U ∧ r = .inl (some (.int (nI 1))))) := by
  refine CnH.of (by decide) (Nat.le_of_ble_eq_true rfl) (fun hN9 hM9 => ?_)
  show Wx _ G _ 0 [(0, .ref x), (1, .int y0), (2, .ref b)] [] _
  refine r_aload_n dL_worst_0 rfl 2 rfl ?_
  refine r_iconst (v := nI 0) dL_worst_1 (by decide) ?_
  refine r_aload_n dL_worst_2 rfl 0 rfl ?_
  refine r_iload_n dL_worst_3 rfl 1 rfl ?_
  refine r_callV (M2 := m_X12_worst) (As := [.int y0]) (rest := [.int (nI 0), .ref b]) dL_worst_4 cc_L_worst_96 rfl rfl rfl (Nat.le_of_ble_eq_true rfl) hx rfl rfl (by decide) hcn (fun v9 T hq => ?_) (fun E9 T hq => ?_)
  · obtain ⟨⟨hb1, hb2⟩, ho⟩ := hQ _ _ hq
    obtain ⟨v, rfl⟩ : ∃ v : Int32, v9 = some (.int v) := by
      rcases ho with ⟨v, ho⟩ | ho
      · exact ⟨v, Sum.inl.inj ho⟩
      · cases ho
    show Wx _ G T 7 [(0, .ref x), (1, .int y0), (2, .ref b)] [.int v, .int (nI 0), .ref b] _
    refine r_i2l dL_worst_7 ?_
    refine r_last dL_worst_8 hb1 (by rw [hb2]; exact vp_in_nI (by decide) (by decide)) ?_
    refine Wx.st' (S' := uL T b 0 (v.toInt64)) (by rw [nI_clamp (by decide)]) ?_
    refine r_goto (tgt := 15) dL_worst_9 (by decide) ?_
    refine r_iconst (v := nI 0) dL_worst_15 (by decide) ?_
    exact r_iret (ty := .int) dL_worst_16 rfl rfl (Or.inl ⟨v, T, hq, rfl, rfl⟩)
  · obtain ⟨-, ho⟩ := hQ _ _ hq
    rcases ho with ⟨v, ho⟩ | ho
    · cases ho
    · cases ho
      refine r_catch [] [] rfl (fun z hz => absurd hz List.not_mem_nil) (by decide) (by decide) (sg4 176 rfl rfl) (fun q => ?_)
      refine r_astore_n dL_worst_12 rfl (Nat.le_of_ble_eq_true rfl) rfl ?_
      refine r_iconst (v := nI 1) dL_worst_13 (by decide) ?_
      exact r_iret (ty := .int) dL_worst_14 rfl rfl (Or.inr (⟨hq, rfl⟩))
theorem dL_outgoing_0 : decode cL_outgoing 0 = .ok (.aload_n 2, 1) := by decide +kernel
theorem dL_outgoing_1 : decode cL_outgoing 1 = .ok (.iconst 0, 1) := by decide +kernel
theorem dL_outgoing_2 : decode cL_outgoing 2 = .ok (.aload_n 0, 1) := by decide +kernel
theorem dL_outgoing_3 : decode cL_outgoing 3 = .ok (.iload_n 1, 1) := by decide +kernel
theorem dL_outgoing_4 : decode cL_outgoing 4 = .ok (.invokevirtual 99, 3) := by decide +kernel
theorem dL_outgoing_7 : decode cL_outgoing 7 = .ok (.i2l, 1) := by decide +kernel
theorem dL_outgoing_8 : decode cL_outgoing 8 = .ok (.lastore, 1) := by decide +kernel
theorem dL_outgoing_9 : decode cL_outgoing 9 = .ok (.goto 9, 3) := by decide +kernel
theorem dL_outgoing_12 : decode cL_outgoing 12 = .ok (.astore_n 3, 1) := by decide +kernel
theorem dL_outgoing_13 : decode cL_outgoing 13 = .ok (.iconst 1, 1) := by decide +kernel
theorem dL_outgoing_14 : decode cL_outgoing 14 = .ok (.ireturn, 1) := by decide +kernel
theorem dL_outgoing_15 : decode cL_outgoing 15 = .ok (.astore_n 3, 1) := by decide +kernel
theorem dL_outgoing_16 : decode cL_outgoing 16 = .ok (.iconst 2, 1) := by decide +kernel
theorem dL_outgoing_17 : decode cL_outgoing 17 = .ok (.ireturn, 1) := by decide +kernel
theorem dL_outgoing_18 : decode cL_outgoing 18 = .ok (.iconst 0, 1) := by decide +kernel
theorem dL_outgoing_19 : decode cL_outgoing 19 = .ok (.ireturn, 1) := by decide +kernel
theorem l_outgoing {G : GI} {S : Hp} {x b : Nat} {y0 : Int32} {Q2 : OV → Hp → Prop} (hx : zT S x = 14) (hcn : Cn m_X12_outgoing G [.ref x, .int y0] S Q2) (hQ : ∀ o T, Q2 o T → (zT T b = 102 ∧ zN T b = 1) ∧ ((∃ v : Int32, o = .inl (some (.int v))) ∨ o = .inr "java/lang/IndexOutOfBoundsException" ∨ o = .inr "java/lang/ArithmeticException")) : CnH m_L_outgoing G [.ref x, .int y0, .ref b] S (fun r U => (∃ (v : Int32) (T : Hp), Q2 (.inl (some (.int v))) T ∧ r = .inl (some (.int (nI 0))) ∧ U = uL T b 0 (v.toInt64)) ∨ (Q2 (.inr "java/lang/IndexOutOfBoundsException") U ∧ r = .inl (some (.int (nI 1)))) ∨ (Q2 (.inr "java/lang/ArithmeticException") U ∧ r = .inl (some (.int (nI 2))))) := by
  refine CnH.of (by decide) (Nat.le_of_ble_eq_true rfl) (fun hN9 hM9 => ?_)
  show Wx _ G _ 0 [(0, .ref x), (1, .int y0), (2, .ref b)] [] _
  refine r_aload_n dL_outgoing_0 rfl 2 rfl ?_
  refine r_iconst (v := nI 0) dL_outgoing_1 (by decide) ?_
  refine r_aload_n dL_outgoing_2 rfl 0 rfl ?_
  refine r_iload_n dL_outgoing_3 rfl 1 rfl ?_
  refine r_callV (M2 := m_X12_outgoing) (As := [.int y0]) (rest := [.int (nI 0), .ref b]) dL_outgoing_4 cc_L_outgoing_99 rfl rfl rfl (Nat.le_of_ble_eq_true rfl) hx rfl rfl (by decide) hcn (fun v9 T hq => ?_) (fun E9 T hq => ?_)
  · obtain ⟨⟨hb1, hb2⟩, ho⟩ := hQ _ _ hq
    obtain ⟨v, rfl⟩ : ∃ v : Int32, v9 = some (.int v) := by
      rcases ho with ⟨v, ho⟩ | ho | ho
      · exact ⟨v, Sum.inl.inj ho⟩
      · cases ho
      · cases ho
    show Wx _ G T 7 [(0, .ref x), (1, .int y0), (2, .ref b)] [.int v, .int (nI 0), .ref b] _
    refine r_i2l dL_outgoing_7 ?_
    refine r_last dL_outgoing_8 hb1 (by rw [hb2]; exact vp_in_nI (by decide) (by decide)) ?_
    refine Wx.st' (S' := uL T b 0 (v.toInt64)) (by rw [nI_clamp (by decide)]) ?_
    refine r_goto (tgt := 18) dL_outgoing_9 (by decide) ?_
    refine r_iconst (v := nI 0) dL_outgoing_18 (by decide) ?_
    exact r_iret (ty := .int) dL_outgoing_19 rfl rfl (Or.inl ⟨v, T, hq, rfl, rfl⟩)
  · obtain ⟨-, ho⟩ := hQ _ _ hq
    rcases ho with ⟨v, ho⟩ | ho | ho
    · cases ho
    · cases ho
      refine r_catch [] [(0, 9, 15, 102)] rfl (fun z hz => absurd hz List.not_mem_nil) (by decide) (by decide) (sg2 215 rfl rfl) (fun q => ?_)
      refine r_astore_n dL_outgoing_12 rfl (Nat.le_of_ble_eq_true rfl) rfl ?_
      refine r_iconst (v := nI 1) dL_outgoing_13 (by decide) ?_
      exact r_iret (ty := .int) dL_outgoing_14 rfl rfl (Or.inr (Or.inl ⟨hq, rfl⟩))
    · cases ho
      refine r_catch [(0, 9, 12, 13)] [] rfl (fun z hz => by
          rcases List.mem_cons.mp hz with rfl | hz
          · exact ⟨by decide, _, (sg2 215 rfl rfl), List.mem_of_getElem? (i := 6) rfl⟩
          exact absurd hz List.not_mem_nil) (by decide) (by decide) (sg5 106 rfl rfl) (fun q => ?_)
      refine r_astore_n dL_outgoing_15 rfl (Nat.le_of_ble_eq_true rfl) rfl ?_
      refine r_iconst (v := nI 2) dL_outgoing_16 (by decide) ?_
      exact r_iret (ty := .int) dL_outgoing_17 rfl rfl (Or.inr (Or.inr (⟨hq, rfl⟩)))
theorem dL_foundShare_0 : decode cL_foundShare 0 = .ok (.aload_n 2, 1) := by decide +kernel
theorem dL_foundShare_1 : decode cL_foundShare 1 = .ok (.iconst 0, 1) := by decide +kernel
theorem dL_foundShare_2 : decode cL_foundShare 2 = .ok (.aload_n 0, 1) := by decide +kernel
theorem dL_foundShare_3 : decode cL_foundShare 3 = .ok (.iload_n 1, 1) := by decide +kernel
theorem dL_foundShare_4 : decode cL_foundShare 4 = .ok (.invokevirtual 104, 3) := by decide +kernel
theorem dL_foundShare_7 : decode cL_foundShare 7 = .ok (.lastore, 1) := by decide +kernel
theorem dL_foundShare_8 : decode cL_foundShare 8 = .ok (.goto 9, 3) := by decide +kernel
theorem dL_foundShare_11 : decode cL_foundShare 11 = .ok (.astore_n 3, 1) := by decide +kernel
theorem dL_foundShare_12 : decode cL_foundShare 12 = .ok (.iconst 1, 1) := by decide +kernel
theorem dL_foundShare_13 : decode cL_foundShare 13 = .ok (.ireturn, 1) := by decide +kernel
theorem dL_foundShare_14 : decode cL_foundShare 14 = .ok (.astore_n 3, 1) := by decide +kernel
theorem dL_foundShare_15 : decode cL_foundShare 15 = .ok (.iconst 2, 1) := by decide +kernel
theorem dL_foundShare_16 : decode cL_foundShare 16 = .ok (.ireturn, 1) := by decide +kernel
theorem dL_foundShare_17 : decode cL_foundShare 17 = .ok (.iconst 0, 1) := by decide +kernel
theorem dL_foundShare_18 : decode cL_foundShare 18 = .ok (.ireturn, 1) := by decide +kernel
theorem l_foundShare {G : GI} {S : Hp} {x b : Nat} {y0 : Int32} {Q2 : OV → Hp → Prop} (hx : zT S x = 14) (hcn : Cn m_X12_foundShare G [.ref x, .int y0] S Q2) (hQ : ∀ o T, Q2 o T → (zT T b = 102 ∧ zN T b = 1) ∧ ((∃ v : Int64, o = .inl (some (.long v))) ∨ o = .inr "java/lang/IndexOutOfBoundsException" ∨ o = .inr "java/lang/ArithmeticException")) : CnH m_L_foundShare G [.ref x, .int y0, .ref b] S (fun r U => (∃ (v : Int64) (T : Hp), Q2 (.inl (some (.long v))) T ∧ r = .inl (some (.int (nI 0))) ∧ U = uL T b 0 (v)) ∨ (Q2 (.inr "java/lang/IndexOutOfBoundsException") U ∧ r = .inl (some (.int (nI 1)))) ∨ (Q2 (.inr "java/lang/ArithmeticException") U ∧ r = .inl (some (.int (nI 2))))) := by
  refine CnH.of (by decide) (Nat.le_of_ble_eq_true rfl) (fun hN9 hM9 => ?_)
  show Wx _ G _ 0 [(0, .ref x), (1, .int y0), (2, .ref b)] [] _
  refine r_aload_n dL_foundShare_0 rfl 2 rfl ?_
  refine r_iconst (v := nI 0) dL_foundShare_1 (by decide) ?_
  refine r_aload_n dL_foundShare_2 rfl 0 rfl ?_
  refine r_iload_n dL_foundShare_3 rfl 1 rfl ?_
  refine r_callV (M2 := m_X12_foundShare) (As := [.int y0]) (rest := [.int (nI 0), .ref b]) dL_foundShare_4 cc_L_foundShare_104 rfl rfl rfl (Nat.le_of_ble_eq_true rfl) hx rfl rfl (by decide) hcn (fun v9 T hq => ?_) (fun E9 T hq => ?_)
  · obtain ⟨⟨hb1, hb2⟩, ho⟩ := hQ _ _ hq
    obtain ⟨v, rfl⟩ : ∃ v : Int64, v9 = some (.long v) := by
      rcases ho with ⟨v, ho⟩ | ho | ho
      · exact ⟨v, Sum.inl.inj ho⟩
      · cases ho
      · cases ho
    show Wx _ G T 7 [(0, .ref x), (1, .int y0), (2, .ref b)] [.long v, .int (nI 0), .ref b] _
    refine r_last dL_foundShare_7 hb1 (by rw [hb2]; exact vp_in_nI (by decide) (by decide)) ?_
    refine Wx.st' (S' := uL T b 0 (v)) (by rw [nI_clamp (by decide)]) ?_
    refine r_goto (tgt := 17) dL_foundShare_8 (by decide) ?_
    refine r_iconst (v := nI 0) dL_foundShare_17 (by decide) ?_
    exact r_iret (ty := .int) dL_foundShare_18 rfl rfl (Or.inl ⟨v, T, hq, rfl, rfl⟩)
  · obtain ⟨-, ho⟩ := hQ _ _ hq
    rcases ho with ⟨v, ho⟩ | ho | ho
    · cases ho
    · cases ho
      refine r_catch [] [(0, 8, 14, 102)] rfl (fun z hz => absurd hz List.not_mem_nil) (by decide) (by decide) (sg2 215 rfl rfl) (fun q => ?_)
      refine r_astore_n dL_foundShare_11 rfl (Nat.le_of_ble_eq_true rfl) rfl ?_
      refine r_iconst (v := nI 1) dL_foundShare_12 (by decide) ?_
      exact r_iret (ty := .int) dL_foundShare_13 rfl rfl (Or.inr (Or.inl ⟨hq, rfl⟩))
    · cases ho
      refine r_catch [(0, 8, 11, 13)] [] rfl (fun z hz => by
          rcases List.mem_cons.mp hz with rfl | hz
          · exact ⟨by decide, _, (sg2 215 rfl rfl), List.mem_of_getElem? (i := 6) rfl⟩
          exact absurd hz List.not_mem_nil) (by decide) (by decide) (sg5 106 rfl rfl) (fun q => ?_)
      refine r_astore_n dL_foundShare_14 rfl (Nat.le_of_ble_eq_true rfl) rfl ?_
      refine r_iconst (v := nI 2) dL_foundShare_15 (by decide) ?_
      exact r_iret (ty := .int) dL_foundShare_16 rfl rfl (Or.inr (Or.inr (⟨hq, rfl⟩)))
theorem dL_open_0 : decode cL_open 0 = .ok (.aload_n 3, 1) := by decide +kernel
theorem dL_open_1 : decode cL_open 1 = .ok (.iconst 0, 1) := by decide +kernel
theorem dL_open_2 : decode cL_open 2 = .ok (.aload_n 0, 1) := by decide +kernel
theorem dL_open_3 : decode cL_open 3 = .ok (.iload_n 1, 1) := by decide +kernel
theorem dL_open_4 : decode cL_open 4 = .ok (.iload_n 2, 1) := by decide +kernel
theorem dL_open_5 : decode cL_open 5 = .ok (.invokevirtual 108, 3) := by decide +kernel
theorem dL_open_8 : decode cL_open 8 = .ok (.i2l, 1) := by decide +kernel
theorem dL_open_9 : decode cL_open 9 = .ok (.lastore, 1) := by decide +kernel
theorem dL_open_10 : decode cL_open 10 = .ok (.goto 11, 3) := by decide +kernel
theorem dL_open_13 : decode cL_open 13 = .ok (.astore 4, 2) := by decide +kernel
theorem dL_open_15 : decode cL_open 15 = .ok (.iconst 1, 1) := by decide +kernel
theorem dL_open_16 : decode cL_open 16 = .ok (.ireturn, 1) := by decide +kernel
theorem dL_open_17 : decode cL_open 17 = .ok (.astore 4, 2) := by decide +kernel
theorem dL_open_19 : decode cL_open 19 = .ok (.iconst 2, 1) := by decide +kernel
theorem dL_open_20 : decode cL_open 20 = .ok (.ireturn, 1) := by decide +kernel
theorem dL_open_21 : decode cL_open 21 = .ok (.iconst 0, 1) := by decide +kernel
theorem dL_open_22 : decode cL_open 22 = .ok (.ireturn, 1) := by decide +kernel
theorem l_open {G : GI} {S : Hp} {x b : Nat} {y0 y1 : Int32} {Q2 : OV → Hp → Prop} (hx : zT S x = 14) (hcn : Cn m_X12_open G [.ref x, .int y0, .int y1] S Q2) (hQ : ∀ o T, Q2 o T → (zT T b = 102 ∧ zN T b = 1) ∧ ((∃ v : Int32, o = .inl (some (.int v))) ∨ o = .inr "java/lang/IndexOutOfBoundsException" ∨ o = .inr "java/lang/IllegalArgumentException")) : CnH m_L_open G [.ref x, .int y0, .int y1, .ref b] S (fun r U => (∃ (v : Int32) (T : Hp), Q2 (.inl (some (.int v))) T ∧ r = .inl (some (.int (nI 0))) ∧ U = uL T b 0 (v.toInt64)) ∨ (Q2 (.inr "java/lang/IndexOutOfBoundsException") U ∧ r = .inl (some (.int (nI 1)))) ∨ (Q2 (.inr "java/lang/IllegalArgumentException") U ∧ r = .inl (some (.int (nI 2))))) := by
  refine CnH.of (by decide) (Nat.le_of_ble_eq_true rfl) (fun hN9 hM9 => ?_)
  show Wx _ G _ 0 [(0, .ref x), (1, .int y0), (2, .int y1), (3, .ref b)] [] _
  refine r_aload_n dL_open_0 rfl 3 rfl ?_
  refine r_iconst (v := nI 0) dL_open_1 (by decide) ?_
  refine r_aload_n dL_open_2 rfl 0 rfl ?_
  refine r_iload_n dL_open_3 rfl 1 rfl ?_
  refine r_iload_n dL_open_4 rfl 2 rfl ?_
  refine r_callV (M2 := m_X12_open) (As := [.int y0, .int y1]) (rest := [.int (nI 0), .ref b]) dL_open_5 cc_L_open_108 rfl rfl rfl (Nat.le_of_ble_eq_true rfl) hx rfl rfl (by decide) hcn (fun v9 T hq => ?_) (fun E9 T hq => ?_)
  · obtain ⟨⟨hb1, hb2⟩, ho⟩ := hQ _ _ hq
    obtain ⟨v, rfl⟩ : ∃ v : Int32, v9 = some (.int v) := by
      rcases ho with ⟨v, ho⟩ | ho | ho
      · exact ⟨v, Sum.inl.inj ho⟩
      · cases ho
      · cases ho
    show Wx _ G T 8 [(0, .ref x), (1, .int y0), (2, .int y1), (3, .ref b)] [.int v, .int (nI 0), .ref b] _
    refine r_i2l dL_open_8 ?_
    refine r_last dL_open_9 hb1 (by rw [hb2]; exact vp_in_nI (by decide) (by decide)) ?_
    refine Wx.st' (S' := uL T b 0 (v.toInt64)) (by rw [nI_clamp (by decide)]) ?_
    refine r_goto (tgt := 21) dL_open_10 (by decide) ?_
    refine r_iconst (v := nI 0) dL_open_21 (by decide) ?_
    exact r_iret (ty := .int) dL_open_22 rfl rfl (Or.inl ⟨v, T, hq, rfl, rfl⟩)
  · obtain ⟨-, ho⟩ := hQ _ _ hq
    rcases ho with ⟨v, ho⟩ | ho | ho
    · cases ho
    · cases ho
      refine r_catch [] [(0, 10, 17, 15)] rfl (fun z hz => absurd hz List.not_mem_nil) (by decide) (by decide) (sg2 215 rfl rfl) (fun q => ?_)
      refine r_astore dL_open_13 (Nat.le_of_ble_eq_true rfl) rfl ?_
      refine r_iconst (v := nI 1) dL_open_15 (by decide) ?_
      exact r_iret (ty := .int) dL_open_16 rfl rfl (Or.inr (Or.inl ⟨hq, rfl⟩))
    · cases ho
      refine r_catch [(0, 10, 13, 13)] [] rfl (fun z hz => by
          rcases List.mem_cons.mp hz with rfl | hz
          · exact ⟨by decide, _, (sg2 215 rfl rfl), List.mem_of_getElem? (i := 0) rfl⟩
          exact absurd hz List.not_mem_nil) (by decide) (by decide) (sg3 55 rfl rfl) (fun q => ?_)
      refine r_astore dL_open_17 (Nat.le_of_ble_eq_true rfl) rfl ?_
      refine r_iconst (v := nI 2) dL_open_19 (by decide) ?_
      exact r_iret (ty := .int) dL_open_20 rfl rfl (Or.inr (Or.inr (⟨hq, rfl⟩)))
theorem dL_keep_0 : decode cL_keep 0 = .ok (.aload 4, 2) := by decide +kernel
theorem dL_keep_2 : decode cL_keep 2 = .ok (.iconst 0, 1) := by decide +kernel
theorem dL_keep_3 : decode cL_keep 3 = .ok (.aload_n 0, 1) := by decide +kernel
theorem dL_keep_4 : decode cL_keep 4 = .ok (.iload_n 1, 1) := by decide +kernel
theorem dL_keep_5 : decode cL_keep 5 = .ok (.iload_n 2, 1) := by decide +kernel
theorem dL_keep_6 : decode cL_keep 6 = .ok (.iload_n 3, 1) := by decide +kernel
theorem dL_keep_7 : decode cL_keep 7 = .ok (.invokevirtual 111, 3) := by decide +kernel
theorem dL_keep_10 : decode cL_keep 10 = .ok (.i2l, 1) := by decide +kernel
theorem dL_keep_11 : decode cL_keep 11 = .ok (.lastore, 1) := by decide +kernel
theorem dL_keep_12 : decode cL_keep 12 = .ok (.goto 15, 3) := by decide +kernel
theorem dL_keep_15 : decode cL_keep 15 = .ok (.astore 5, 2) := by decide +kernel
theorem dL_keep_17 : decode cL_keep 17 = .ok (.iconst 1, 1) := by decide +kernel
theorem dL_keep_18 : decode cL_keep 18 = .ok (.ireturn, 1) := by decide +kernel
theorem dL_keep_19 : decode cL_keep 19 = .ok (.astore 5, 2) := by decide +kernel
theorem dL_keep_21 : decode cL_keep 21 = .ok (.iconst 2, 1) := by decide +kernel
theorem dL_keep_22 : decode cL_keep 22 = .ok (.ireturn, 1) := by decide +kernel
theorem dL_keep_23 : decode cL_keep 23 = .ok (.astore 5, 2) := by decide +kernel
theorem dL_keep_25 : decode cL_keep 25 = .ok (.iconst 3, 1) := by decide +kernel
theorem dL_keep_26 : decode cL_keep 26 = .ok (.ireturn, 1) := by decide +kernel
theorem dL_keep_27 : decode cL_keep 27 = .ok (.iconst 0, 1) := by decide +kernel
theorem dL_keep_28 : decode cL_keep 28 = .ok (.ireturn, 1) := by decide +kernel
theorem l_keep {G : GI} {S : Hp} {x b : Nat} {y0 y1 y2 : Int32} {Q2 : OV → Hp → Prop} (hx : zT S x = 14) (hcn : Cn m_X12_keep G [.ref x, .int y0, .int y1, .int y2] S Q2) (hQ : ∀ o T, Q2 o T → (zT T b = 102 ∧ zN T b = 1) ∧ ((∃ v : Int32, o = .inl (some (.int v))) ∨ o = .inr "java/lang/IndexOutOfBoundsException" ∨ o = .inr "java/lang/IllegalStateException" ∨ o = .inr "java/lang/UnsupportedOperationException")) : CnH m_L_keep G [.ref x, .int y0, .int y1, .int y2, .ref b] S (fun r U => (∃ (v : Int32) (T : Hp), Q2 (.inl (some (.int v))) T ∧ r = .inl (some (.int (nI 0))) ∧ U = uL T b 0 (v.toInt64)) ∨ (Q2 (.inr "java/lang/IndexOutOfBoundsException") U ∧ r = .inl (some (.int (nI 1)))) ∨ (Q2 (.inr "java/lang/IllegalStateException") U ∧ r = .inl (some (.int (nI 2)))) ∨ (Q2 (.inr "java/lang/UnsupportedOperationException") U ∧ r = .inl (some (.int (nI 3))))) := by
  refine CnH.of (by decide) (Nat.le_of_ble_eq_true rfl) (fun hN9 hM9 => ?_)
  show Wx _ G _ 0 [(0, .ref x), (1, .int y0), (2, .int y1), (3, .int y2), (4, .ref b)] [] _
  refine r_aload dL_keep_0 4 rfl ?_
  refine r_iconst (v := nI 0) dL_keep_2 (by decide) ?_
  refine r_aload_n dL_keep_3 rfl 0 rfl ?_
  refine r_iload_n dL_keep_4 rfl 1 rfl ?_
  refine r_iload_n dL_keep_5 rfl 2 rfl ?_
  refine r_iload_n dL_keep_6 rfl 3 rfl ?_
  refine r_callV (M2 := m_X12_keep) (As := [.int y0, .int y1, .int y2]) (rest := [.int (nI 0), .ref b]) dL_keep_7 cc_L_keep_111 rfl rfl rfl (Nat.le_of_ble_eq_true rfl) hx rfl rfl (by decide) hcn (fun v9 T hq => ?_) (fun E9 T hq => ?_)
  · obtain ⟨⟨hb1, hb2⟩, ho⟩ := hQ _ _ hq
    obtain ⟨v, rfl⟩ : ∃ v : Int32, v9 = some (.int v) := by
      rcases ho with ⟨v, ho⟩ | ho | ho | ho
      · exact ⟨v, Sum.inl.inj ho⟩
      · cases ho
      · cases ho
      · cases ho
    show Wx _ G T 10 [(0, .ref x), (1, .int y0), (2, .int y1), (3, .int y2), (4, .ref b)] [.int v, .int (nI 0), .ref b] _
    refine r_i2l dL_keep_10 ?_
    refine r_last dL_keep_11 hb1 (by rw [hb2]; exact vp_in_nI (by decide) (by decide)) ?_
    refine Wx.st' (S' := uL T b 0 (v.toInt64)) (by rw [nI_clamp (by decide)]) ?_
    refine r_goto (tgt := 27) dL_keep_12 (by decide) ?_
    refine r_iconst (v := nI 0) dL_keep_27 (by decide) ?_
    exact r_iret (ty := .int) dL_keep_28 rfl rfl (Or.inl ⟨v, T, hq, rfl, rfl⟩)
  · obtain ⟨-, ho⟩ := hQ _ _ hq
    rcases ho with ⟨v, ho⟩ | ho | ho | ho
    · cases ho
    · cases ho
      refine r_catch [] [(0, 12, 19, 36), (0, 12, 23, 114)] rfl (fun z hz => absurd hz List.not_mem_nil) (by decide) (by decide) (sg2 215 rfl rfl) (fun q => ?_)
      refine r_astore dL_keep_15 (Nat.le_of_ble_eq_true rfl) rfl ?_
      refine r_iconst (v := nI 1) dL_keep_17 (by decide) ?_
      exact r_iret (ty := .int) dL_keep_18 rfl rfl (Or.inr (Or.inl ⟨hq, rfl⟩))
    · cases ho
      refine r_catch [(0, 12, 15, 13)] [(0, 12, 23, 114)] rfl (fun z hz => by
          rcases List.mem_cons.mp hz with rfl | hz
          · exact ⟨by decide, _, (sg2 215 rfl rfl), List.mem_of_getElem? (i := 1) rfl⟩
          exact absurd hz List.not_mem_nil) (by decide) (by decide) (sg3 217 rfl rfl) (fun q => ?_)
      refine r_astore dL_keep_19 (Nat.le_of_ble_eq_true rfl) rfl ?_
      refine r_iconst (v := nI 2) dL_keep_21 (by decide) ?_
      exact r_iret (ty := .int) dL_keep_22 rfl rfl (Or.inr (Or.inr (Or.inl ⟨hq, rfl⟩)))
    · cases ho
      refine r_catch [(0, 12, 15, 13), (0, 12, 19, 36)] [] rfl (fun z hz => by
          rcases List.mem_cons.mp hz with rfl | hz
          · exact ⟨by decide, _, (sg2 215 rfl rfl), List.mem_of_getElem? (i := 7) rfl⟩
          rcases List.mem_cons.mp hz with rfl | hz
          · exact ⟨by decide, _, (sg3 217 rfl rfl), List.mem_of_getElem? (i := 8) rfl⟩
          exact absurd hz List.not_mem_nil) (by decide) (by decide) (sg5 163 rfl rfl) (fun q => ?_)
      refine r_astore dL_keep_23 (Nat.le_of_ble_eq_true rfl) rfl ?_
      refine r_iconst (v := nI 3) dL_keep_25 (by decide) ?_
      exact r_iret (ty := .int) dL_keep_26 rfl rfl (Or.inr (Or.inr (Or.inr (⟨hq, rfl⟩))))
theorem dL_specimen_0 : decode cL_specimen 0 = .ok (.aload 4, 2) := by decide +kernel
theorem dL_specimen_2 : decode cL_specimen 2 = .ok (.iconst 0, 1) := by decide +kernel
theorem dL_specimen_3 : decode cL_specimen 3 = .ok (.aload_n 0, 1) := by decide +kernel
theorem dL_specimen_4 : decode cL_specimen 4 = .ok (.iload_n 1, 1) := by decide +kernel
theorem dL_specimen_5 : decode cL_specimen 5 = .ok (.iload_n 2, 1) := by decide +kernel
theorem dL_specimen_6 : decode cL_specimen 6 = .ok (.iload_n 3, 1) := by decide +kernel
theorem dL_specimen_7 : decode cL_specimen 7 = .ok (.invokevirtual 116, 3) := by decide +kernel
theorem dL_specimen_10 : decode cL_specimen 10 = .ok (.i2l, 1) := by decide +kernel
theorem dL_specimen_11 : decode cL_specimen 11 = .ok (.lastore, 1) := by decide +kernel
theorem dL_specimen_12 : decode cL_specimen 12 = .ok (.goto 11, 3) := by decide +kernel
theorem dL_specimen_15 : decode cL_specimen 15 = .ok (.astore 5, 2) := by decide +kernel
theorem dL_specimen_17 : decode cL_specimen 17 = .ok (.iconst 1, 1) := by decide +kernel
theorem dL_specimen_18 : decode cL_specimen 18 = .ok (.ireturn, 1) := by decide +kernel
theorem dL_specimen_19 : decode cL_specimen 19 = .ok (.astore 5, 2) := by decide +kernel
theorem dL_specimen_21 : decode cL_specimen 21 = .ok (.iconst 2, 1) := by decide +kernel
theorem dL_specimen_22 : decode cL_specimen 22 = .ok (.ireturn, 1) := by decide +kernel
theorem dL_specimen_23 : decode cL_specimen 23 = .ok (.iconst 0, 1) := by decide +kernel
theorem dL_specimen_24 : decode cL_specimen 24 = .ok (.ireturn, 1) := by decide +kernel
theorem l_specimen {G : GI} {S : Hp} {x b : Nat} {y0 y1 y2 : Int32} {Q2 : OV → Hp → Prop} (hx : zT S x = 14) (hcn : Cn m_X12_specimen G [.ref x, .int y0, .int y1, .int y2] S Q2) (hQ : ∀ o T, Q2 o T → (zT T b = 102 ∧ zN T b = 1) ∧ ((∃ v : Int32, o = .inl (some (.int v))) ∨ o = .inr "java/lang/IndexOutOfBoundsException" ∨ o = .inr "java/lang/IllegalArgumentException")) : CnH m_L_specimen G [.ref x, .int y0, .int y1, .int y2, .ref b] S (fun r U => (∃ (v : Int32) (T : Hp), Q2 (.inl (some (.int v))) T ∧ r = .inl (some (.int (nI 0))) ∧ U = uL T b 0 (v.toInt64)) ∨ (Q2 (.inr "java/lang/IndexOutOfBoundsException") U ∧ r = .inl (some (.int (nI 1)))) ∨ (Q2 (.inr "java/lang/IllegalArgumentException") U ∧ r = .inl (some (.int (nI 2))))) := by
  refine CnH.of (by decide) (Nat.le_of_ble_eq_true rfl) (fun hN9 hM9 => ?_)
  show Wx _ G _ 0 [(0, .ref x), (1, .int y0), (2, .int y1), (3, .int y2), (4, .ref b)] [] _
  refine r_aload dL_specimen_0 4 rfl ?_
  refine r_iconst (v := nI 0) dL_specimen_2 (by decide) ?_
  refine r_aload_n dL_specimen_3 rfl 0 rfl ?_
  refine r_iload_n dL_specimen_4 rfl 1 rfl ?_
  refine r_iload_n dL_specimen_5 rfl 2 rfl ?_
  refine r_iload_n dL_specimen_6 rfl 3 rfl ?_
  refine r_callV (M2 := m_X12_specimen) (As := [.int y0, .int y1, .int y2]) (rest := [.int (nI 0), .ref b]) dL_specimen_7 cc_L_specimen_116 rfl rfl rfl (Nat.le_of_ble_eq_true rfl) hx rfl rfl (by decide) hcn (fun v9 T hq => ?_) (fun E9 T hq => ?_)
  · obtain ⟨⟨hb1, hb2⟩, ho⟩ := hQ _ _ hq
    obtain ⟨v, rfl⟩ : ∃ v : Int32, v9 = some (.int v) := by
      rcases ho with ⟨v, ho⟩ | ho | ho
      · exact ⟨v, Sum.inl.inj ho⟩
      · cases ho
      · cases ho
    show Wx _ G T 10 [(0, .ref x), (1, .int y0), (2, .int y1), (3, .int y2), (4, .ref b)] [.int v, .int (nI 0), .ref b] _
    refine r_i2l dL_specimen_10 ?_
    refine r_last dL_specimen_11 hb1 (by rw [hb2]; exact vp_in_nI (by decide) (by decide)) ?_
    refine Wx.st' (S' := uL T b 0 (v.toInt64)) (by rw [nI_clamp (by decide)]) ?_
    refine r_goto (tgt := 23) dL_specimen_12 (by decide) ?_
    refine r_iconst (v := nI 0) dL_specimen_23 (by decide) ?_
    exact r_iret (ty := .int) dL_specimen_24 rfl rfl (Or.inl ⟨v, T, hq, rfl, rfl⟩)
  · obtain ⟨-, ho⟩ := hQ _ _ hq
    rcases ho with ⟨v, ho⟩ | ho | ho
    · cases ho
    · cases ho
      refine r_catch [] [(0, 12, 19, 15)] rfl (fun z hz => absurd hz List.not_mem_nil) (by decide) (by decide) (sg2 215 rfl rfl) (fun q => ?_)
      refine r_astore dL_specimen_15 (Nat.le_of_ble_eq_true rfl) rfl ?_
      refine r_iconst (v := nI 1) dL_specimen_17 (by decide) ?_
      exact r_iret (ty := .int) dL_specimen_18 rfl rfl (Or.inr (Or.inl ⟨hq, rfl⟩))
    · cases ho
      refine r_catch [(0, 12, 15, 13)] [] rfl (fun z hz => by
          rcases List.mem_cons.mp hz with rfl | hz
          · exact ⟨by decide, _, (sg2 215 rfl rfl), List.mem_of_getElem? (i := 0) rfl⟩
          exact absurd hz List.not_mem_nil) (by decide) (by decide) (sg3 55 rfl rfl) (fun q => ?_)
      refine r_astore dL_specimen_19 (Nat.le_of_ble_eq_true rfl) rfl ?_
      refine r_iconst (v := nI 2) dL_specimen_21 (by decide) ?_
      exact r_iret (ty := .int) dL_specimen_22 rfl rfl (Or.inr (Or.inr (⟨hq, rfl⟩)))
theorem dL_append_0 : decode cL_append 0 = .ok (.aload_n 2, 1) := by decide +kernel
theorem dL_append_1 : decode cL_append 1 = .ok (.iconst 0, 1) := by decide +kernel
theorem dL_append_2 : decode cL_append 2 = .ok (.aload_n 0, 1) := by decide +kernel
theorem dL_append_3 : decode cL_append 3 = .ok (.iload_n 1, 1) := by decide +kernel
theorem dL_append_4 : decode cL_append 4 = .ok (.invokevirtual 119, 3) := by decide +kernel
theorem dL_append_7 : decode cL_append 7 = .ok (.i2l, 1) := by decide +kernel
theorem dL_append_8 : decode cL_append 8 = .ok (.lastore, 1) := by decide +kernel
theorem dL_append_9 : decode cL_append 9 = .ok (.goto 9, 3) := by decide +kernel
theorem dL_append_12 : decode cL_append 12 = .ok (.astore_n 3, 1) := by decide +kernel
theorem dL_append_13 : decode cL_append 13 = .ok (.iconst 1, 1) := by decide +kernel
theorem dL_append_14 : decode cL_append 14 = .ok (.ireturn, 1) := by decide +kernel
theorem dL_append_15 : decode cL_append 15 = .ok (.astore_n 3, 1) := by decide +kernel
theorem dL_append_16 : decode cL_append 16 = .ok (.iconst 2, 1) := by decide +kernel
theorem dL_append_17 : decode cL_append 17 = .ok (.ireturn, 1) := by decide +kernel
theorem dL_append_18 : decode cL_append 18 = .ok (.iconst 0, 1) := by decide +kernel
theorem dL_append_19 : decode cL_append 19 = .ok (.ireturn, 1) := by decide +kernel
theorem l_append {G : GI} {S : Hp} {x b : Nat} {y0 : Int32} {Q2 : OV → Hp → Prop} (hx : zT S x = 14) (hcn : Cn m_X12_append G [.ref x, .int y0] S Q2) (hQ : ∀ o T, Q2 o T → (zT T b = 102 ∧ zN T b = 1) ∧ ((∃ v : Int32, o = .inl (some (.int v))) ∨ o = .inr "java/lang/IllegalArgumentException" ∨ o = .inr "java/lang/IllegalStateException")) : CnH m_L_append G [.ref x, .int y0, .ref b] S (fun r U => (∃ (v : Int32) (T : Hp), Q2 (.inl (some (.int v))) T ∧ r = .inl (some (.int (nI 0))) ∧ U = uL T b 0 (v.toInt64)) ∨ (Q2 (.inr "java/lang/IllegalArgumentException") U ∧ r = .inl (some (.int (nI 1)))) ∨ (Q2 (.inr "java/lang/IllegalStateException") U ∧ r = .inl (some (.int (nI 2))))) := by
  refine CnH.of (by decide) (Nat.le_of_ble_eq_true rfl) (fun hN9 hM9 => ?_)
  show Wx _ G _ 0 [(0, .ref x), (1, .int y0), (2, .ref b)] [] _
  refine r_aload_n dL_append_0 rfl 2 rfl ?_
  refine r_iconst (v := nI 0) dL_append_1 (by decide) ?_
  refine r_aload_n dL_append_2 rfl 0 rfl ?_
  refine r_iload_n dL_append_3 rfl 1 rfl ?_
  refine r_callV (M2 := m_X12_append) (As := [.int y0]) (rest := [.int (nI 0), .ref b]) dL_append_4 cc_L_append_119 rfl rfl rfl (Nat.le_of_ble_eq_true rfl) hx rfl rfl (by decide) hcn (fun v9 T hq => ?_) (fun E9 T hq => ?_)
  · obtain ⟨⟨hb1, hb2⟩, ho⟩ := hQ _ _ hq
    obtain ⟨v, rfl⟩ : ∃ v : Int32, v9 = some (.int v) := by
      rcases ho with ⟨v, ho⟩ | ho | ho
      · exact ⟨v, Sum.inl.inj ho⟩
      · cases ho
      · cases ho
    show Wx _ G T 7 [(0, .ref x), (1, .int y0), (2, .ref b)] [.int v, .int (nI 0), .ref b] _
    refine r_i2l dL_append_7 ?_
    refine r_last dL_append_8 hb1 (by rw [hb2]; exact vp_in_nI (by decide) (by decide)) ?_
    refine Wx.st' (S' := uL T b 0 (v.toInt64)) (by rw [nI_clamp (by decide)]) ?_
    refine r_goto (tgt := 18) dL_append_9 (by decide) ?_
    refine r_iconst (v := nI 0) dL_append_18 (by decide) ?_
    exact r_iret (ty := .int) dL_append_19 rfl rfl (Or.inl ⟨v, T, hq, rfl, rfl⟩)
  · obtain ⟨-, ho⟩ := hQ _ _ hq
    rcases ho with ⟨v, ho⟩ | ho | ho
    · cases ho
    · cases ho
      refine r_catch [] [(0, 9, 15, 36)] rfl (fun z hz => absurd hz List.not_mem_nil) (by decide) (by decide) (sg3 55 rfl rfl) (fun q => ?_)
      refine r_astore_n dL_append_12 rfl (Nat.le_of_ble_eq_true rfl) rfl ?_
      refine r_iconst (v := nI 1) dL_append_13 (by decide) ?_
      exact r_iret (ty := .int) dL_append_14 rfl rfl (Or.inr (Or.inl ⟨hq, rfl⟩))
    · cases ho
      refine r_catch [(0, 9, 12, 15)] [] rfl (fun z hz => by
          rcases List.mem_cons.mp hz with rfl | hz
          · exact ⟨by decide, _, (sg3 55 rfl rfl), List.mem_of_getElem? (i := 2) rfl⟩
          exact absurd hz List.not_mem_nil) (by decide) (by decide) (sg3 217 rfl rfl) (fun q => ?_)
      refine r_astore_n dL_append_15 rfl (Nat.le_of_ble_eq_true rfl) rfl ?_
      refine r_iconst (v := nI 2) dL_append_16 (by decide) ?_
      exact r_iret (ty := .int) dL_append_17 rfl rfl (Or.inr (Or.inr (⟨hq, rfl⟩)))
theorem dL_run_0 : decode cL_run 0 = .ok (.aload_n 1, 1) := by decide +kernel
theorem dL_run_1 : decode cL_run 1 = .ok (.iconst 0, 1) := by decide +kernel
theorem dL_run_2 : decode cL_run 2 = .ok (.aload_n 0, 1) := by decide +kernel
theorem dL_run_3 : decode cL_run 3 = .ok (.invokevirtual 122, 3) := by decide +kernel
theorem dL_run_6 : decode cL_run 6 = .ok (.i2l, 1) := by decide +kernel
theorem dL_run_7 : decode cL_run 7 = .ok (.lastore, 1) := by decide +kernel
theorem dL_run_8 : decode cL_run 8 = .ok (.goto 9, 3) := by decide +kernel
theorem dL_run_11 : decode cL_run 11 = .ok (.astore_n 2, 1) := by decide +kernel
theorem dL_run_12 : decode cL_run 12 = .ok (.iconst 1, 1) := by decide +kernel
theorem dL_run_13 : decode cL_run 13 = .ok (.ireturn, 1) := by decide +kernel
theorem dL_run_14 : decode cL_run 14 = .ok (.astore_n 2, 1) := by decide +kernel
theorem dL_run_15 : decode cL_run 15 = .ok (.iconst 2, 1) := by decide +kernel
theorem dL_run_16 : decode cL_run 16 = .ok (.ireturn, 1) := by decide +kernel
theorem dL_run_17 : decode cL_run 17 = .ok (.iconst 0, 1) := by decide +kernel
theorem dL_run_18 : decode cL_run 18 = .ok (.ireturn, 1) := by decide +kernel
theorem l_run {G : GI} {S : Hp} {x b : Nat} {Q2 : OV → Hp → Prop} (hx : zT S x = 14) (hcn : Cn m_X12_run G [.ref x] S Q2) (hQ : ∀ o T, Q2 o T → (zT T b = 102 ∧ zN T b = 1) ∧ ((∃ v : Int32, o = .inl (some (.int v))) ∨ o = .inr "java/lang/IllegalArgumentException" ∨ o = .inr "java/lang/IllegalStateException")) : CnH m_L_run G [.ref x, .ref b] S (fun r U => (∃ (v : Int32) (T : Hp), Q2 (.inl (some (.int v))) T ∧ r = .inl (some (.int (nI 0))) ∧ U = uL T b 0 (v.toInt64)) ∨ (Q2 (.inr "java/lang/IllegalArgumentException") U ∧ r = .inl (some (.int (nI 1)))) ∨ (Q2 (.inr "java/lang/IllegalStateException") U ∧ r = .inl (some (.int (nI 2))))) := by
  refine CnH.of (by decide) (Nat.le_of_ble_eq_true rfl) (fun hN9 hM9 => ?_)
  show Wx _ G _ 0 [(0, .ref x), (1, .ref b)] [] _
  refine r_aload_n dL_run_0 rfl 1 rfl ?_
  refine r_iconst (v := nI 0) dL_run_1 (by decide) ?_
  refine r_aload_n dL_run_2 rfl 0 rfl ?_
  refine r_callV (M2 := m_X12_run) (As := []) (rest := [.int (nI 0), .ref b]) dL_run_3 cc_L_run_122 rfl rfl rfl (Nat.le_of_ble_eq_true rfl) hx rfl rfl (by decide) hcn (fun v9 T hq => ?_) (fun E9 T hq => ?_)
  · obtain ⟨⟨hb1, hb2⟩, ho⟩ := hQ _ _ hq
    obtain ⟨v, rfl⟩ : ∃ v : Int32, v9 = some (.int v) := by
      rcases ho with ⟨v, ho⟩ | ho | ho
      · exact ⟨v, Sum.inl.inj ho⟩
      · cases ho
      · cases ho
    show Wx _ G T 6 [(0, .ref x), (1, .ref b)] [.int v, .int (nI 0), .ref b] _
    refine r_i2l dL_run_6 ?_
    refine r_last dL_run_7 hb1 (by rw [hb2]; exact vp_in_nI (by decide) (by decide)) ?_
    refine Wx.st' (S' := uL T b 0 (v.toInt64)) (by rw [nI_clamp (by decide)]) ?_
    refine r_goto (tgt := 17) dL_run_8 (by decide) ?_
    refine r_iconst (v := nI 0) dL_run_17 (by decide) ?_
    exact r_iret (ty := .int) dL_run_18 rfl rfl (Or.inl ⟨v, T, hq, rfl, rfl⟩)
  · obtain ⟨-, ho⟩ := hQ _ _ hq
    rcases ho with ⟨v, ho⟩ | ho | ho
    · cases ho
    · cases ho
      refine r_catch [] [(0, 8, 14, 36)] rfl (fun z hz => absurd hz List.not_mem_nil) (by decide) (by decide) (sg3 55 rfl rfl) (fun q => ?_)
      refine r_astore_n dL_run_11 rfl (Nat.le_of_ble_eq_true rfl) rfl ?_
      refine r_iconst (v := nI 1) dL_run_12 (by decide) ?_
      exact r_iret (ty := .int) dL_run_13 rfl rfl (Or.inr (Or.inl ⟨hq, rfl⟩))
    · cases ho
      refine r_catch [(0, 8, 11, 15)] [] rfl (fun z hz => by
          rcases List.mem_cons.mp hz with rfl | hz
          · exact ⟨by decide, _, (sg3 55 rfl rfl), List.mem_of_getElem? (i := 2) rfl⟩
          exact absurd hz List.not_mem_nil) (by decide) (by decide) (sg3 217 rfl rfl) (fun q => ?_)
      refine r_astore_n dL_run_14 rfl (Nat.le_of_ble_eq_true rfl) rfl ?_
      refine r_iconst (v := nI 2) dL_run_15 (by decide) ?_
      exact r_iret (ty := .int) dL_run_16 rfl rfl (Or.inr (Or.inr (⟨hq, rfl⟩)))
theorem dL_report_0 : decode cL_report 0 = .ok (.aload_n 2, 1) := by decide +kernel
theorem dL_report_1 : decode cL_report 1 = .ok (.iconst 0, 1) := by decide +kernel
theorem dL_report_2 : decode cL_report 2 = .ok (.aload_n 0, 1) := by decide +kernel
theorem dL_report_3 : decode cL_report 3 = .ok (.iload_n 1, 1) := by decide +kernel
theorem dL_report_4 : decode cL_report 4 = .ok (.invokevirtual 126, 3) := by decide +kernel
theorem dL_report_7 : decode cL_report 7 = .ok (.i2l, 1) := by decide +kernel
theorem dL_report_8 : decode cL_report 8 = .ok (.lastore, 1) := by decide +kernel
theorem dL_report_9 : decode cL_report 9 = .ok (.goto 6, 3) := by decide +kernel
theorem dL_report_12 : decode cL_report 12 = .ok (.astore_n 3, 1) := by decide +kernel
theorem dL_report_13 : decode cL_report 13 = .ok (.iconst 1, 1) := by decide +kernel
theorem dL_report_14 : decode cL_report 14 = .ok (.ireturn, 1) := by decide +kernel
theorem dL_report_15 : decode cL_report 15 = .ok (.iconst 0, 1) := by decide +kernel
theorem dL_report_16 : decode cL_report 16 = .ok (.ireturn, 1) := by decide +kernel
theorem l_report {G : GI} {S : Hp} {x b : Nat} {y0 : Int32} {Q2 : OV → Hp → Prop} (hx : zT S x = 14) (hcn : Cn m_X12_report G [.ref x, .int y0] S Q2) (hQ : ∀ o T, Q2 o T → (zT T b = 102 ∧ zN T b = 1) ∧ ((∃ v : Int32, o = .inl (some (.int v))) ∨ o = .inr "java/lang/IndexOutOfBoundsException")) : CnH m_L_report G [.ref x, .int y0, .ref b] S (fun r U => (∃ (v : Int32) (T : Hp), Q2 (.inl (some (.int v))) T ∧ r = .inl (some (.int (nI 0))) ∧ U = uL T b 0 (v.toInt64)) ∨ (Q2 (.inr "java/lang/IndexOutOfBoundsException") U ∧ r = .inl (some (.int (nI 1))))) := by
  refine CnH.of (by decide) (Nat.le_of_ble_eq_true rfl) (fun hN9 hM9 => ?_)
  show Wx _ G _ 0 [(0, .ref x), (1, .int y0), (2, .ref b)] [] _
  refine r_aload_n dL_report_0 rfl 2 rfl ?_
  refine r_iconst (v := nI 0) dL_report_1 (by decide) ?_
  refine r_aload_n dL_report_2 rfl 0 rfl ?_
  refine r_iload_n dL_report_3 rfl 1 rfl ?_
  refine r_callV (M2 := m_X12_report) (As := [.int y0]) (rest := [.int (nI 0), .ref b]) dL_report_4 cc_L_report_126 rfl rfl rfl (Nat.le_of_ble_eq_true rfl) hx rfl rfl (by decide) hcn (fun v9 T hq => ?_) (fun E9 T hq => ?_)
  · obtain ⟨⟨hb1, hb2⟩, ho⟩ := hQ _ _ hq
    obtain ⟨v, rfl⟩ : ∃ v : Int32, v9 = some (.int v) := by
      rcases ho with ⟨v, ho⟩ | ho
      · exact ⟨v, Sum.inl.inj ho⟩
      · cases ho
    show Wx _ G T 7 [(0, .ref x), (1, .int y0), (2, .ref b)] [.int v, .int (nI 0), .ref b] _
    refine r_i2l dL_report_7 ?_
    refine r_last dL_report_8 hb1 (by rw [hb2]; exact vp_in_nI (by decide) (by decide)) ?_
    refine Wx.st' (S' := uL T b 0 (v.toInt64)) (by rw [nI_clamp (by decide)]) ?_
    refine r_goto (tgt := 15) dL_report_9 (by decide) ?_
    refine r_iconst (v := nI 0) dL_report_15 (by decide) ?_
    exact r_iret (ty := .int) dL_report_16 rfl rfl (Or.inl ⟨v, T, hq, rfl, rfl⟩)
  · obtain ⟨-, ho⟩ := hQ _ _ hq
    rcases ho with ⟨v, ho⟩ | ho
    · cases ho
    · cases ho
      refine r_catch [] [] rfl (fun z hz => absurd hz List.not_mem_nil) (by decide) (by decide) (sg2 215 rfl rfl) (fun q => ?_)
      refine r_astore_n dL_report_12 rfl (Nat.le_of_ble_eq_true rfl) rfl ?_
      refine r_iconst (v := nI 1) dL_report_13 (by decide) ?_
      exact r_iret (ty := .int) dL_report_14 rfl rfl (Or.inr (⟨hq, rfl⟩))
theorem dL_character_0 : decode cL_character 0 = .ok (.aload_n 2, 1) := by decide +kernel
theorem dL_character_1 : decode cL_character 1 = .ok (.iconst 0, 1) := by decide +kernel
theorem dL_character_2 : decode cL_character 2 = .ok (.aload_n 0, 1) := by decide +kernel
theorem dL_character_3 : decode cL_character 3 = .ok (.iload_n 1, 1) := by decide +kernel
theorem dL_character_4 : decode cL_character 4 = .ok (.invokevirtual 129, 3) := by decide +kernel
theorem dL_character_7 : decode cL_character 7 = .ok (.i2l, 1) := by decide +kernel
theorem dL_character_8 : decode cL_character 8 = .ok (.lastore, 1) := by decide +kernel
theorem dL_character_9 : decode cL_character 9 = .ok (.goto 6, 3) := by decide +kernel
theorem dL_character_12 : decode cL_character 12 = .ok (.astore_n 3, 1) := by decide +kernel
theorem dL_character_13 : decode cL_character 13 = .ok (.iconst 1, 1) := by decide +kernel
theorem dL_character_14 : decode cL_character 14 = .ok (.ireturn, 1) := by decide +kernel
theorem dL_character_15 : decode cL_character 15 = .ok (.iconst 0, 1) := by decide +kernel
theorem dL_character_16 : decode cL_character 16 = .ok (.ireturn, 1) := by decide +kernel
theorem l_character {G : GI} {S : Hp} {x b : Nat} {y0 : Int32} {Q2 : OV → Hp → Prop} (hx : zT S x = 14) (hcn : Cn m_X12_character G [.ref x, .int y0] S Q2) (hQ : ∀ o T, Q2 o T → (zT T b = 102 ∧ zN T b = 1) ∧ ((∃ v : Int32, o = .inl (some (.int v))) ∨ o = .inr "java/lang/IndexOutOfBoundsException")) : CnH m_L_character G [.ref x, .int y0, .ref b] S (fun r U => (∃ (v : Int32) (T : Hp), Q2 (.inl (some (.int v))) T ∧ r = .inl (some (.int (nI 0))) ∧ U = uL T b 0 (v.toInt64)) ∨ (Q2 (.inr "java/lang/IndexOutOfBoundsException") U ∧ r = .inl (some (.int (nI 1))))) := by
  refine CnH.of (by decide) (Nat.le_of_ble_eq_true rfl) (fun hN9 hM9 => ?_)
  show Wx _ G _ 0 [(0, .ref x), (1, .int y0), (2, .ref b)] [] _
  refine r_aload_n dL_character_0 rfl 2 rfl ?_
  refine r_iconst (v := nI 0) dL_character_1 (by decide) ?_
  refine r_aload_n dL_character_2 rfl 0 rfl ?_
  refine r_iload_n dL_character_3 rfl 1 rfl ?_
  refine r_callV (M2 := m_X12_character) (As := [.int y0]) (rest := [.int (nI 0), .ref b]) dL_character_4 cc_L_character_129 rfl rfl rfl (Nat.le_of_ble_eq_true rfl) hx rfl rfl (by decide) hcn (fun v9 T hq => ?_) (fun E9 T hq => ?_)
  · obtain ⟨⟨hb1, hb2⟩, ho⟩ := hQ _ _ hq
    obtain ⟨v, rfl⟩ : ∃ v : Int32, v9 = some (.int v) := by
      rcases ho with ⟨v, ho⟩ | ho
      · exact ⟨v, Sum.inl.inj ho⟩
      · cases ho
    show Wx _ G T 7 [(0, .ref x), (1, .int y0), (2, .ref b)] [.int v, .int (nI 0), .ref b] _
    refine r_i2l dL_character_7 ?_
    refine r_last dL_character_8 hb1 (by rw [hb2]; exact vp_in_nI (by decide) (by decide)) ?_
    refine Wx.st' (S' := uL T b 0 (v.toInt64)) (by rw [nI_clamp (by decide)]) ?_
    refine r_goto (tgt := 15) dL_character_9 (by decide) ?_
    refine r_iconst (v := nI 0) dL_character_15 (by decide) ?_
    exact r_iret (ty := .int) dL_character_16 rfl rfl (Or.inl ⟨v, T, hq, rfl, rfl⟩)
  · obtain ⟨-, ho⟩ := hQ _ _ hq
    rcases ho with ⟨v, ho⟩ | ho
    · cases ho
    · cases ho
      refine r_catch [] [] rfl (fun z hz => absurd hz List.not_mem_nil) (by decide) (by decide) (sg2 215 rfl rfl) (fun q => ?_)
      refine r_astore_n dL_character_12 rfl (Nat.le_of_ble_eq_true rfl) rfl ?_
      refine r_iconst (v := nI 1) dL_character_13 (by decide) ?_
      exact r_iret (ty := .int) dL_character_14 rfl rfl (Or.inr (⟨hq, rfl⟩))
theorem dL_undo_0 : decode cL_undo 0 = .ok (.aload_n 1, 1) := by decide +kernel
theorem dL_undo_1 : decode cL_undo 1 = .ok (.iconst 0, 1) := by decide +kernel
theorem dL_undo_2 : decode cL_undo 2 = .ok (.aload_n 0, 1) := by decide +kernel
theorem dL_undo_3 : decode cL_undo 3 = .ok (.invokevirtual 133, 3) := by decide +kernel
theorem dL_undo_6 : decode cL_undo 6 = .ok (.i2l, 1) := by decide +kernel
theorem dL_undo_7 : decode cL_undo 7 = .ok (.lastore, 1) := by decide +kernel
theorem dL_undo_8 : decode cL_undo 8 = .ok (.goto 6, 3) := by decide +kernel
theorem dL_undo_11 : decode cL_undo 11 = .ok (.astore_n 2, 1) := by decide +kernel
theorem dL_undo_12 : decode cL_undo 12 = .ok (.iconst 1, 1) := by decide +kernel
theorem dL_undo_13 : decode cL_undo 13 = .ok (.ireturn, 1) := by decide +kernel
theorem dL_undo_14 : decode cL_undo 14 = .ok (.iconst 0, 1) := by decide +kernel
theorem dL_undo_15 : decode cL_undo 15 = .ok (.ireturn, 1) := by decide +kernel
theorem l_undo {G : GI} {S : Hp} {x b : Nat} {Q2 : OV → Hp → Prop} (hx : zT S x = 14) (hcn : Cn m_X12_undo G [.ref x] S Q2) (hQ : ∀ o T, Q2 o T → (zT T b = 102 ∧ zN T b = 1) ∧ ((∃ v : Int32, o = .inl (some (.int v))) ∨ o = .inr "java/lang/IllegalStateException")) : CnH m_L_undo G [.ref x, .ref b] S (fun r U => (∃ (v : Int32) (T : Hp), Q2 (.inl (some (.int v))) T ∧ r = .inl (some (.int (nI 0))) ∧ U = uL T b 0 (v.toInt64)) ∨ (Q2 (.inr "java/lang/IllegalStateException") U ∧ r = .inl (some (.int (nI 1))))) := by
  refine CnH.of (by decide) (Nat.le_of_ble_eq_true rfl) (fun hN9 hM9 => ?_)
  show Wx _ G _ 0 [(0, .ref x), (1, .ref b)] [] _
  refine r_aload_n dL_undo_0 rfl 1 rfl ?_
  refine r_iconst (v := nI 0) dL_undo_1 (by decide) ?_
  refine r_aload_n dL_undo_2 rfl 0 rfl ?_
  refine r_callV (M2 := m_X12_undo) (As := []) (rest := [.int (nI 0), .ref b]) dL_undo_3 cc_L_undo_133 rfl rfl rfl (Nat.le_of_ble_eq_true rfl) hx rfl rfl (by decide) hcn (fun v9 T hq => ?_) (fun E9 T hq => ?_)
  · obtain ⟨⟨hb1, hb2⟩, ho⟩ := hQ _ _ hq
    obtain ⟨v, rfl⟩ : ∃ v : Int32, v9 = some (.int v) := by
      rcases ho with ⟨v, ho⟩ | ho
      · exact ⟨v, Sum.inl.inj ho⟩
      · cases ho
    show Wx _ G T 6 [(0, .ref x), (1, .ref b)] [.int v, .int (nI 0), .ref b] _
    refine r_i2l dL_undo_6 ?_
    refine r_last dL_undo_7 hb1 (by rw [hb2]; exact vp_in_nI (by decide) (by decide)) ?_
    refine Wx.st' (S' := uL T b 0 (v.toInt64)) (by rw [nI_clamp (by decide)]) ?_
    refine r_goto (tgt := 14) dL_undo_8 (by decide) ?_
    refine r_iconst (v := nI 0) dL_undo_14 (by decide) ?_
    exact r_iret (ty := .int) dL_undo_15 rfl rfl (Or.inl ⟨v, T, hq, rfl, rfl⟩)
  · obtain ⟨-, ho⟩ := hQ _ _ hq
    rcases ho with ⟨v, ho⟩ | ho
    · cases ho
    · cases ho
      refine r_catch [] [] rfl (fun z hz => absurd hz List.not_mem_nil) (by decide) (by decide) (sg3 217 rfl rfl) (fun q => ?_)
      refine r_astore_n dL_undo_11 rfl (Nat.le_of_ble_eq_true rfl) rfl ?_
      refine r_iconst (v := nI 1) dL_undo_12 (by decide) ?_
      exact r_iret (ty := .int) dL_undo_13 rfl rfl (Or.inr (⟨hq, rfl⟩))
theorem dL_restore_0 : decode cL_restore 0 = .ok (.aload_n 1, 1) := by decide +kernel
theorem dL_restore_1 : decode cL_restore 1 = .ok (.iconst 0, 1) := by decide +kernel
theorem dL_restore_2 : decode cL_restore 2 = .ok (.aload_n 0, 1) := by decide +kernel
theorem dL_restore_3 : decode cL_restore 3 = .ok (.invokevirtual 136, 3) := by decide +kernel
theorem dL_restore_6 : decode cL_restore 6 = .ok (.i2l, 1) := by decide +kernel
theorem dL_restore_7 : decode cL_restore 7 = .ok (.lastore, 1) := by decide +kernel
theorem dL_restore_8 : decode cL_restore 8 = .ok (.goto 6, 3) := by decide +kernel
theorem dL_restore_11 : decode cL_restore 11 = .ok (.astore_n 2, 1) := by decide +kernel
theorem dL_restore_12 : decode cL_restore 12 = .ok (.iconst 1, 1) := by decide +kernel
theorem dL_restore_13 : decode cL_restore 13 = .ok (.ireturn, 1) := by decide +kernel
theorem dL_restore_14 : decode cL_restore 14 = .ok (.iconst 0, 1) := by decide +kernel
theorem dL_restore_15 : decode cL_restore 15 = .ok (.ireturn, 1) := by decide +kernel
theorem l_restore {G : GI} {S : Hp} {x b : Nat} {Q2 : OV → Hp → Prop} (hx : zT S x = 14) (hcn : Cn m_X12_restore G [.ref x] S Q2) (hQ : ∀ o T, Q2 o T → (zT T b = 102 ∧ zN T b = 1) ∧ ((∃ v : Int32, o = .inl (some (.int v))) ∨ o = .inr "java/lang/IllegalStateException")) : CnH m_L_restore G [.ref x, .ref b] S (fun r U => (∃ (v : Int32) (T : Hp), Q2 (.inl (some (.int v))) T ∧ r = .inl (some (.int (nI 0))) ∧ U = uL T b 0 (v.toInt64)) ∨ (Q2 (.inr "java/lang/IllegalStateException") U ∧ r = .inl (some (.int (nI 1))))) := by
  refine CnH.of (by decide) (Nat.le_of_ble_eq_true rfl) (fun hN9 hM9 => ?_)
  show Wx _ G _ 0 [(0, .ref x), (1, .ref b)] [] _
  refine r_aload_n dL_restore_0 rfl 1 rfl ?_
  refine r_iconst (v := nI 0) dL_restore_1 (by decide) ?_
  refine r_aload_n dL_restore_2 rfl 0 rfl ?_
  refine r_callV (M2 := m_X12_restore) (As := []) (rest := [.int (nI 0), .ref b]) dL_restore_3 cc_L_restore_136 rfl rfl rfl (Nat.le_of_ble_eq_true rfl) hx rfl rfl (by decide) hcn (fun v9 T hq => ?_) (fun E9 T hq => ?_)
  · obtain ⟨⟨hb1, hb2⟩, ho⟩ := hQ _ _ hq
    obtain ⟨v, rfl⟩ : ∃ v : Int32, v9 = some (.int v) := by
      rcases ho with ⟨v, ho⟩ | ho
      · exact ⟨v, Sum.inl.inj ho⟩
      · cases ho
    show Wx _ G T 6 [(0, .ref x), (1, .ref b)] [.int v, .int (nI 0), .ref b] _
    refine r_i2l dL_restore_6 ?_
    refine r_last dL_restore_7 hb1 (by rw [hb2]; exact vp_in_nI (by decide) (by decide)) ?_
    refine Wx.st' (S' := uL T b 0 (v.toInt64)) (by rw [nI_clamp (by decide)]) ?_
    refine r_goto (tgt := 14) dL_restore_8 (by decide) ?_
    refine r_iconst (v := nI 0) dL_restore_14 (by decide) ?_
    exact r_iret (ty := .int) dL_restore_15 rfl rfl (Or.inl ⟨v, T, hq, rfl, rfl⟩)
  · obtain ⟨-, ho⟩ := hQ _ _ hq
    rcases ho with ⟨v, ho⟩ | ho
    · cases ho
    · cases ho
      refine r_catch [] [] rfl (fun z hz => absurd hz List.not_mem_nil) (by decide) (by decide) (sg3 217 rfl rfl) (fun q => ?_)
      refine r_astore_n dL_restore_11 rfl (Nat.le_of_ble_eq_true rfl) rfl ?_
      refine r_iconst (v := nI 1) dL_restore_12 (by decide) ?_
      exact r_iret (ty := .int) dL_restore_13 rfl rfl (Or.inr (⟨hq, rfl⟩))
theorem dL_count_0 : decode cL_count 0 = .ok (.aload_n 2, 1) := by decide +kernel
theorem dL_count_1 : decode cL_count 1 = .ok (.iconst 0, 1) := by decide +kernel
theorem dL_count_2 : decode cL_count 2 = .ok (.aload_n 0, 1) := by decide +kernel
theorem dL_count_3 : decode cL_count 3 = .ok (.iload_n 1, 1) := by decide +kernel
theorem dL_count_4 : decode cL_count 4 = .ok (.invokevirtual 139, 3) := by decide +kernel
theorem dL_count_7 : decode cL_count 7 = .ok (.i2l, 1) := by decide +kernel
theorem dL_count_8 : decode cL_count 8 = .ok (.lastore, 1) := by decide +kernel
theorem dL_count_9 : decode cL_count 9 = .ok (.goto 6, 3) := by decide +kernel
theorem dL_count_12 : decode cL_count 12 = .ok (.astore_n 3, 1) := by decide +kernel
theorem dL_count_13 : decode cL_count 13 = .ok (.iconst 1, 1) := by decide +kernel
theorem dL_count_14 : decode cL_count 14 = .ok (.ireturn, 1) := by decide +kernel
theorem dL_count_15 : decode cL_count 15 = .ok (.iconst 0, 1) := by decide +kernel
theorem dL_count_16 : decode cL_count 16 = .ok (.ireturn, 1) := by decide +kernel
theorem l_count {G : GI} {S : Hp} {x b : Nat} {y0 : Int32} {Q2 : OV → Hp → Prop} (hx : zT S x = 14) (hcn : Cn m_X12_count G [.ref x, .int y0] S Q2) (hQ : ∀ o T, Q2 o T → (zT T b = 102 ∧ zN T b = 1) ∧ ((∃ v : Int32, o = .inl (some (.int v))) ∨ o = .inr "java/lang/IllegalArgumentException")) : CnH m_L_count G [.ref x, .int y0, .ref b] S (fun r U => (∃ (v : Int32) (T : Hp), Q2 (.inl (some (.int v))) T ∧ r = .inl (some (.int (nI 0))) ∧ U = uL T b 0 (v.toInt64)) ∨ (Q2 (.inr "java/lang/IllegalArgumentException") U ∧ r = .inl (some (.int (nI 1))))) := by
  refine CnH.of (by decide) (Nat.le_of_ble_eq_true rfl) (fun hN9 hM9 => ?_)
  show Wx _ G _ 0 [(0, .ref x), (1, .int y0), (2, .ref b)] [] _
  refine r_aload_n dL_count_0 rfl 2 rfl ?_
  refine r_iconst (v := nI 0) dL_count_1 (by decide) ?_
  refine r_aload_n dL_count_2 rfl 0 rfl ?_
  refine r_iload_n dL_count_3 rfl 1 rfl ?_
  refine r_callV (M2 := m_X12_count) (As := [.int y0]) (rest := [.int (nI 0), .ref b]) dL_count_4 cc_L_count_139 rfl rfl rfl (Nat.le_of_ble_eq_true rfl) hx rfl rfl (by decide) hcn (fun v9 T hq => ?_) (fun E9 T hq => ?_)
  · obtain ⟨⟨hb1, hb2⟩, ho⟩ := hQ _ _ hq
    obtain ⟨v, rfl⟩ : ∃ v : Int32, v9 = some (.int v) := by
      rcases ho with ⟨v, ho⟩ | ho
      · exact ⟨v, Sum.inl.inj ho⟩
      · cases ho
    show Wx _ G T 7 [(0, .ref x), (1, .int y0), (2, .ref b)] [.int v, .int (nI 0), .ref b] _
    refine r_i2l dL_count_7 ?_
    refine r_last dL_count_8 hb1 (by rw [hb2]; exact vp_in_nI (by decide) (by decide)) ?_
    refine Wx.st' (S' := uL T b 0 (v.toInt64)) (by rw [nI_clamp (by decide)]) ?_
    refine r_goto (tgt := 15) dL_count_9 (by decide) ?_
    refine r_iconst (v := nI 0) dL_count_15 (by decide) ?_
    exact r_iret (ty := .int) dL_count_16 rfl rfl (Or.inl ⟨v, T, hq, rfl, rfl⟩)
  · obtain ⟨-, ho⟩ := hQ _ _ hq
    rcases ho with ⟨v, ho⟩ | ho
    · cases ho
    · cases ho
      refine r_catch [] [] rfl (fun z hz => absurd hz List.not_mem_nil) (by decide) (by decide) (sg3 55 rfl rfl) (fun q => ?_)
      refine r_astore_n dL_count_12 rfl (Nat.le_of_ble_eq_true rfl) rfl ?_
      refine r_iconst (v := nI 1) dL_count_13 (by decide) ?_
      exact r_iret (ty := .int) dL_count_14 rfl rfl (Or.inr (⟨hq, rfl⟩))
