/-! CASES OF THE LAW -/
theorem JS.m15 {S : Hp} {x m b a0 : Nat} {inp : Nat → Int32} {n B0 U0 k : Nat} (h : JS S x m b a0 inp n B0 U0 k) : zT S m = 15 := by
  obtain ⟨T, V, g, od, N, ps, gq, ik, gk, D, pv, cap, pp, bx, bu, rfl, hs, -⟩ := h
  exact hs.1
theorem JS.inp {S : Hp} {x m b a0 : Nat} {inp : Nat → Int32} {n B0 U0 k : Nat} (h : JS S x m b a0 inp n B0 U0 k) : (zT S b = 102 ∧ zN S b = 1) ∧ zT S a0 = 102 ∧ zN S a0 = n ∧ ∀ i, i < n → zA S a0 i = inp i := by
  obtain ⟨T, V, g, od, N, ps, gq, ik, gk, D, pv, cap, pp, bx, bu, -, hs, -, -, -, hb, -⟩ := h
  exact hb.2
/-- the script lies below the base -/
def SCR (G : GI) (n : Nat) (inp : Nat → Int32) : Prop := gK G 5 0 < gB G ∧ ∃ scr : Cell, (gH G)[gK G 5 0]? = some scr ∧ scr.vm ≠ .unknown ∧ scr.slots.size = n ∧ ∀ j : Nat, j < n → scr.slots[j]? = some (.int (inp j))
theorem SCR.x {G : GI} {n : Nat} {inp : Nat → Int32} {U : State} (h : SCR G n inp) (hK : KK G U) : va_X (gK G 5 0) n inp U (gH G) := by
  obtain ⟨-, scr, h1, h2, h3, h4⟩ := h
  exact ⟨scr, h1, hK.2.2.2.2.2.2 scr h1, h2, h3, h4⟩
section ScrRules
variable {M : MI} {G : GI} {S : Hp} {pc n : Nat} {lv : List (Nat × Value)} {st : List Value} {Q : OV → Hp → Prop} {inp : Nat → Int32}
theorem scr_S {H : Heap} {locs : List Loc} {U : State} (hW : WD G S H) (hK : KK G U) (hl : ∀ q ∈ locs, gB G ≤ q.base) : va_S (gA G) (gH G) H locs :=
  ⟨by rw [hW.2.1, hK.2.2.1]; exact hW.2.2.2.2.2.1, fun q _ h => hW.2.2.2.2.2.2 q (Nat.not_le.mp h), hl⟩
theorem r_sld {i : Int32} (hS : SCR G n inp) (hd : decode (mB M) pc = .ok (.iaload, 1)) (hi : vp_in i n) (kk : Wx M G S (pc + 1) lv (.int (inp i.toNatClampNeg) :: st) Q) : Wx M G S pc lv (.int i :: .ref (gK G 5 0) :: st) Q := by
  intro p e R s m args below meth c C0 H locs cells slots ls hW hc hs hl hlv
  obtain ⟨hx, hb, hml, hr, hown, hts, hlk, hin0, hK, hbase, hfr, hlo, htb⟩ := id C0
  exact va_sld hx hb (hS.x hK) (by rw [hK.2.2.1]; exact hS.1) (Nat.not_le.mpr hS.1) (scr_S hW hK hl) hi hd (kk p e R s m args below meth c C0 H locs cells slots ls hW hc hs hl hlv)
theorem r_slen (hS : SCR G n inp) (hd : decode (mB M) pc = .ok (.arraylength, 1)) (kk : Wx M G S (pc + 1) lv (.int (nI n) :: st) Q) : Wx M G S pc lv (.ref (gK G 5 0) :: st) Q := by
  intro p e R s m args below meth c C0 H locs cells slots ls hW hc hs hl hlv
  obtain ⟨hx, hb, hml, hr, hown, hts, hlk, hin0, hK, hbase, hfr, hlo, htb⟩ := id C0
  exact va_slen hx hb (hS.x hK) (by rw [hK.2.2.1]; exact hS.1) (Nat.not_le.mpr hS.1) (scr_S hW hK hl) hd (kk p e R s m args below meth c C0 H locs cells slots ls hW hc hs hl hlv)
end ScrRules
theorem cmp_self (x : Int64) : lg_cmp x x = nI 0 := by
  unfold lg_cmp
  rw [if_neg (Int64.lt_irrefl), if_pos rfl]
  decide
theorem w_machine {G : GI} {S : Hp} {x m b a0 : Nat} {ip inp : Nat → Int32} {n0 n B0 U0 k : Nat} {Q : OV → Hp → Prop} (hSc : SCR G n inp) (h : JS S x m b a0 ip n0 B0 U0 k) (h1 : B0 + k + 1 ≤ gN G) (h2 : U0 + 6 * k + 6 ≤ gM G) (hk : k < 130000) (hi : 7 * k + 7 ≤ n) (hn : n < 2 ^ 31) (kk : ∀ S', JS S' x m b a0 ip n0 B0 U0 (k + 1) → Wx m_L_law G S' 2750 [(0, .ref (gK G 5 0)), (1, .ref x), (2, .ref m), (3, .ref b), (4, .int (nI (7 * k)))] [] Q) : Wx m_L_law G S 212 [(0, .ref (gK G 5 0)), (1, .ref x), (2, .ref m), (3, .ref b), (4, .int (nI (7 * k)))] [] Q := by
  refine r_aload_n dL_law_212 rfl 1 rfl ?_
  refine r_aload_n dL_law_213 rfl 0 rfl ?_
  refine r_iload dL_law_214 4 rfl ?_
  refine r_iconst (v := nI 1) dL_law_216 (by decide) ?_
  refine r_iaddN dL_law_217 ?_
  refine r_sld hSc dL_law_218 (vp_in_nI (by omega) (by omega)) ?_
  refine Wx.top (y := inp (7 * k + 1)) (by rw [nI_clamp (by omega)]) ?_
  refine r_aload_n dL_law_219 rfl 0 rfl ?_
  refine r_iload dL_law_220 4 rfl ?_
  refine r_iconst (v := nI 2) dL_law_222 (by decide) ?_
  refine r_iaddN dL_law_223 ?_
  refine r_sld hSc dL_law_224 (vp_in_nI (by omega) (by omega)) ?_
  refine Wx.top (y := inp (7 * k + 2)) (by rw [nI_clamp (by omega)]) ?_
  refine r_aload_n dL_law_225 rfl 0 rfl ?_
  refine r_iload dL_law_226 4 rfl ?_
  refine r_iconst (v := nI 3) dL_law_228 (by decide) ?_
  refine r_iaddN dL_law_229 ?_
  refine r_sld hSc dL_law_230 (vp_in_nI (by omega) (by omega)) ?_
  refine Wx.top (y := inp (7 * k + 3)) (by rw [nI_clamp (by omega)]) ?_
  refine r_aload_n dL_law_231 rfl 3 rfl ?_
  refine r_callSX (M2 := m_L_machine) (As := [.ref x, .int (inp (7 * k + 1)), .int (inp (7 * k + 2)), .int (inp (7 * k + 3)), .ref b]) (rest := []) dL_law_232 cl_146 rfl rfl (Nat.le_of_ble_eq_true rfl) (j_machine h h1 h2 hk) (fun v9 S1 hq => ?_) (fun E9 T9 hq => by obtain ⟨kd, -, e, -⟩ := hq; cases e)
  obtain ⟨kd, hkd, e, ⟨hm1, hb1, hb2, hb3⟩, hMO⟩ := hq
  cases e
  show Wx _ G S1 235 [(0, .ref (gK G 5 0)), (1, .ref x), (2, .ref m), (3, .ref b), (4, .int (nI (7 * k)))] [.int (nI kd)] _
  refine r_istore (lv' := [(5, .int (nI kd)), (0, .ref (gK G 5 0)), (1, .ref x), (2, .ref m), (3, .ref b), (4, .int (nI (7 * k)))]) dL_law_235 (Nat.le_of_ble_eq_true rfl) rfl ?_
  refine r_aload_n dL_law_237 rfl 3 rfl ?_
  refine r_aload_n dL_law_238 rfl 1 rfl ?_
  refine r_iload dL_law_239 5 rfl ?_
  refine r_iconst (v := nI 1) dL_law_241 (by decide) ?_
  refine r_iaddN dL_law_242 ?_
  refine r_sld hSc dL_law_243 (vp_in_nI (by omega) (by omega)) ?_
  refine Wx.top (y := inp (7 * k + 1)) (by rw [nI_clamp (by omega)]) ?_
  refine r_aload_n dL_law_244 rfl 1 rfl ?_
  refine r_iload dL_law_245 5 rfl ?_
  refine r_iconst (v := nI 2) dL_law_247 (by decide) ?_
  refine r_iaddN dL_law_248 ?_
  refine r_sld hSc dL_law_249 (vp_in_nI (by omega) (by omega)) ?_
  refine Wx.top (y := inp (7 * k + 2)) (by rw [nI_clamp (by omega)]) ?_
  refine r_aload_n dL_law_250 rfl 1 rfl ?_
  refine r_iload dL_law_251 5 rfl ?_
  refine r_iconst (v := nI 3) dL_law_253 (by decide) ?_
  refine r_iaddN dL_law_254 ?_
  refine r_sld hSc dL_law_255 (vp_in_nI (by omega) (by omega)) ?_
  refine Wx.top (y := inp (7 * k + 3)) (by rw [nI_clamp (by omega)]) ?_
  refine r_callV (M2 := m_X13_machine) (As := [.int (inp (7 * k + 1)), .int (inp (7 * k + 2)), .int (inp (7 * k + 3))]) (rest := []) dL_law_256 cl_151 rfl rfl rfl (Nat.le_of_ble_eq_true rfl) hm1 rfl rfl (by decide) hMO (fun v9 S2 hq => ?_) (fun E9 T9 hq => by obtain ⟨res, e, -⟩ := hq; cases e)
  obtain ⟨res, e, hth, hz, hJ⟩ := hq
  cases e
  show Wx _ G S2 259 [(5, .int (nI kd)), (0, .ref (gK G 5 0)), (1, .ref x), (2, .ref m), (3, .ref b), (4, .int (nI (7 * k)))] [.int res] _
  refine r_istore (lv' := [(6, .int res), (5, .int (nI kd)), (0, .ref (gK G 5 0)), (1, .ref x), (2, .ref m), (3, .ref b), (4, .int (nI (7 * k)))]) dL_law_259 (Nat.le_of_ble_eq_true rfl) rfl ?_
  refine r_aload_n dL_law_261 rfl 4 rfl ?_
  refine r_fnV (M2 := m_X13_thrown) (As := []) (rest := []) (v := some (.int (nI kd))) dL_law_262 cl_152 rfl rfl rfl (Nat.le_of_ble_eq_true rfl) hJ.m15 rfl rfl (by decide) hth rfl ?_
  refine r_iload dL_law_265 1 rfl ?_
  refine r_icmp_eqN (tgt := 272) dL_law_267 (by decide) (by omega) (by omega) (fun _ => ?_) (fun z => absurd rfl z)
  refine r_iload dL_law_272 1 rfl ?_
  refine r_if_neN (tgt := 289) dL_law_274 (by decide) (by omega) (fun _ => r_goto (tgt := 2750) dL_law_289 (by decide) (Wx.sub [2, 3, 4, 5, 6] rfl (kk S2 hJ))) (fun z => ?_)
  refine r_aload_n dL_law_277 rfl 5 rfl ?_
  refine r_iconst (v := nI 0) dL_law_278 (by decide) ?_
  refine r_lald dL_law_279 hJ.inp.1.1 (by rw [hJ.inp.1.2]; exact vp_in_nI (by decide) (by decide)) ?_
  rw [show zL S2 b (nI 0).toNatClampNeg = res.toInt64 from (by rw [nI_clamp (by decide)]; exact hz z)]
  refine r_iload dL_law_280 0 rfl ?_
  refine r_i2l dL_law_282 ?_
  refine r_lcmp dL_law_283 ?_
  refine Wx.top (cmp_self _) ?_
  exact r_if_eqN (tgt := 289) dL_law_284 (by decide) (by decide) (fun _ => r_goto (tgt := 2750) dL_law_289 (by decide) (Wx.sub [2, 3, 4, 5, 6] rfl (kk S2 hJ))) (fun z => absurd rfl z)
theorem w_worked {G : GI} {S : Hp} {x m b a0 : Nat} {ip inp : Nat → Int32} {n0 n B0 U0 k : Nat} {Q : OV → Hp → Prop} (hSc : SCR G n inp) (h : JS S x m b a0 ip n0 B0 U0 k) (h1 : B0 + k + 1 ≤ gN G) (h2 : U0 + 6 * k + 6 ≤ gM G) (hk : k < 130000) (hi : 7 * k + 7 ≤ n) (hn : n < 2 ^ 31) (kk : ∀ S', JS S' x m b a0 ip n0 B0 U0 (k + 1) → Wx m_L_law G S' 2750 [(0, .ref (gK G 5 0)), (1, .ref x), (2, .ref m), (3, .ref b), (4, .int (nI (7 * k)))] [] Q) : Wx m_L_law G S 292 [(0, .ref (gK G 5 0)), (1, .ref x), (2, .ref m), (3, .ref b), (4, .int (nI (7 * k)))] [] Q := by
  refine r_aload_n dL_law_292 rfl 1 rfl ?_
  refine r_aload_n dL_law_293 rfl 0 rfl ?_
  refine r_iload dL_law_294 4 rfl ?_
  refine r_iconst (v := nI 1) dL_law_296 (by decide) ?_
  refine r_iaddN dL_law_297 ?_
  refine r_sld hSc dL_law_298 (vp_in_nI (by omega) (by omega)) ?_
  refine Wx.top (y := inp (7 * k + 1)) (by rw [nI_clamp (by omega)]) ?_
  refine r_aload_n dL_law_299 rfl 3 rfl ?_
  refine r_callSX (M2 := m_L_worked) (As := [.ref x, .int (inp (7 * k + 1)), .ref b]) (rest := []) dL_law_300 cl_155 rfl rfl (Nat.le_of_ble_eq_true rfl) (j_worked h h1 h2 hk) (fun v9 S1 hq => ?_) (fun E9 T9 hq => by obtain ⟨kd, -, e, -⟩ := hq; cases e)
  obtain ⟨kd, hkd, e, ⟨hm1, hb1, hb2, hb3⟩, hMO⟩ := hq
  cases e
  show Wx _ G S1 303 [(0, .ref (gK G 5 0)), (1, .ref x), (2, .ref m), (3, .ref b), (4, .int (nI (7 * k)))] [.int (nI kd)] _
  refine r_istore (lv' := [(5, .int (nI kd)), (0, .ref (gK G 5 0)), (1, .ref x), (2, .ref m), (3, .ref b), (4, .int (nI (7 * k)))]) dL_law_303 (Nat.le_of_ble_eq_true rfl) rfl ?_
  refine r_aload_n dL_law_305 rfl 3 rfl ?_
  refine r_aload_n dL_law_306 rfl 1 rfl ?_
  refine r_iload dL_law_307 5 rfl ?_
  refine r_iconst (v := nI 1) dL_law_309 (by decide) ?_
  refine r_iaddN dL_law_310 ?_
  refine r_sld hSc dL_law_311 (vp_in_nI (by omega) (by omega)) ?_
  refine Wx.top (y := inp (7 * k + 1)) (by rw [nI_clamp (by omega)]) ?_
  refine r_callV (M2 := m_X13_worked) (As := [.int (inp (7 * k + 1))]) (rest := []) dL_law_312 cl_158 rfl rfl rfl (Nat.le_of_ble_eq_true rfl) hm1 rfl rfl (by decide) hMO (fun v9 S2 hq => ?_) (fun E9 T9 hq => by obtain ⟨res, e, -⟩ := hq; cases e)
  obtain ⟨res, e, hth, hz, hJ⟩ := hq
  cases e
  show Wx _ G S2 315 [(5, .int (nI kd)), (0, .ref (gK G 5 0)), (1, .ref x), (2, .ref m), (3, .ref b), (4, .int (nI (7 * k)))] [.int res] _
  refine r_istore (lv' := [(6, .int res), (5, .int (nI kd)), (0, .ref (gK G 5 0)), (1, .ref x), (2, .ref m), (3, .ref b), (4, .int (nI (7 * k)))]) dL_law_315 (Nat.le_of_ble_eq_true rfl) rfl ?_
  refine r_aload_n dL_law_317 rfl 4 rfl ?_
  refine r_fnV (M2 := m_X13_thrown) (As := []) (rest := []) (v := some (.int (nI kd))) dL_law_318 cl_152 rfl rfl rfl (Nat.le_of_ble_eq_true rfl) hJ.m15 rfl rfl (by decide) hth rfl ?_
  refine r_iload dL_law_321 1 rfl ?_
  refine r_icmp_eqN (tgt := 328) dL_law_323 (by decide) (by omega) (by omega) (fun _ => ?_) (fun z => absurd rfl z)
  refine r_iload dL_law_328 1 rfl ?_
  refine r_if_neN (tgt := 345) dL_law_330 (by decide) (by omega) (fun _ => r_goto (tgt := 2750) dL_law_345 (by decide) (Wx.sub [2, 3, 4, 5, 6] rfl (kk S2 hJ))) (fun z => ?_)
  refine r_aload_n dL_law_333 rfl 5 rfl ?_
  refine r_iconst (v := nI 0) dL_law_334 (by decide) ?_
  refine r_lald dL_law_335 hJ.inp.1.1 (by rw [hJ.inp.1.2]; exact vp_in_nI (by decide) (by decide)) ?_
  rw [show zL S2 b (nI 0).toNatClampNeg = res.toInt64 from (by rw [nI_clamp (by decide)]; exact hz z)]
  refine r_iload dL_law_336 0 rfl ?_
  refine r_i2l dL_law_338 ?_
  refine r_lcmp dL_law_339 ?_
  refine Wx.top (cmp_self _) ?_
  exact r_if_eqN (tgt := 345) dL_law_340 (by decide) (by decide) (fun _ => r_goto (tgt := 2750) dL_law_345 (by decide) (Wx.sub [2, 3, 4, 5, 6] rfl (kk S2 hJ))) (fun z => absurd rfl z)
theorem w_product {G : GI} {S : Hp} {x m b a0 : Nat} {ip inp : Nat → Int32} {n0 n B0 U0 k : Nat} {Q : OV → Hp → Prop} (hSc : SCR G n inp) (h : JS S x m b a0 ip n0 B0 U0 k) (h1 : B0 + k + 1 ≤ gN G) (h2 : U0 + 6 * k + 6 ≤ gM G) (hk : k < 130000) (hi : 7 * k + 7 ≤ n) (hn : n < 2 ^ 31) (kk : ∀ S', JS S' x m b a0 ip n0 B0 U0 (k + 1) → Wx m_L_law G S' 2750 [(0, .ref (gK G 5 0)), (1, .ref x), (2, .ref m), (3, .ref b), (4, .int (nI (7 * k)))] [] Q) : Wx m_L_law G S 348 [(0, .ref (gK G 5 0)), (1, .ref x), (2, .ref m), (3, .ref b), (4, .int (nI (7 * k)))] [] Q := by
  refine r_aload_n dL_law_348 rfl 1 rfl ?_
  refine r_aload_n dL_law_349 rfl 0 rfl ?_
  refine r_iload dL_law_350 4 rfl ?_
  refine r_iconst (v := nI 1) dL_law_352 (by decide) ?_
  refine r_iaddN dL_law_353 ?_
  refine r_sld hSc dL_law_354 (vp_in_nI (by omega) (by omega)) ?_
  refine Wx.top (y := inp (7 * k + 1)) (by rw [nI_clamp (by omega)]) ?_
  refine r_aload_n dL_law_355 rfl 0 rfl ?_
  refine r_iload dL_law_356 4 rfl ?_
  refine r_iconst (v := nI 2) dL_law_358 (by decide) ?_
  refine r_iaddN dL_law_359 ?_
  refine r_sld hSc dL_law_360 (vp_in_nI (by omega) (by omega)) ?_
  refine Wx.top (y := inp (7 * k + 2)) (by rw [nI_clamp (by omega)]) ?_
  refine r_aload_n dL_law_361 rfl 0 rfl ?_
  refine r_iload dL_law_362 4 rfl ?_
  refine r_iconst (v := nI 3) dL_law_364 (by decide) ?_
  refine r_iaddN dL_law_365 ?_
  refine r_sld hSc dL_law_366 (vp_in_nI (by omega) (by omega)) ?_
  refine Wx.top (y := inp (7 * k + 3)) (by rw [nI_clamp (by omega)]) ?_
  refine r_aload_n dL_law_367 rfl 0 rfl ?_
  refine r_iload dL_law_368 4 rfl ?_
  refine r_iconst (v := nI 4) dL_law_370 (by decide) ?_
  refine r_iaddN dL_law_371 ?_
  refine r_sld hSc dL_law_372 (vp_in_nI (by omega) (by omega)) ?_
  refine Wx.top (y := inp (7 * k + 4)) (by rw [nI_clamp (by omega)]) ?_
  refine r_aload_n dL_law_373 rfl 3 rfl ?_
  refine r_callSX (M2 := m_L_product) (As := [.ref x, .int (inp (7 * k + 1)), .int (inp (7 * k + 2)), .int (inp (7 * k + 3)), .int (inp (7 * k + 4)), .ref b]) (rest := []) dL_law_374 cl_159 rfl rfl (Nat.le_of_ble_eq_true rfl) (j_product h h1 h2 hk) (fun v9 S1 hq => ?_) (fun E9 T9 hq => by obtain ⟨kd, -, e, -⟩ := hq; cases e)
  obtain ⟨kd, hkd, e, ⟨hm1, hb1, hb2, hb3⟩, hMO⟩ := hq
  cases e
  show Wx _ G S1 377 [(0, .ref (gK G 5 0)), (1, .ref x), (2, .ref m), (3, .ref b), (4, .int (nI (7 * k)))] [.int (nI kd)] _
  refine r_istore (lv' := [(5, .int (nI kd)), (0, .ref (gK G 5 0)), (1, .ref x), (2, .ref m), (3, .ref b), (4, .int (nI (7 * k)))]) dL_law_377 (Nat.le_of_ble_eq_true rfl) rfl ?_
  refine r_aload_n dL_law_379 rfl 3 rfl ?_
  refine r_aload_n dL_law_380 rfl 1 rfl ?_
  refine r_iload dL_law_381 5 rfl ?_
  refine r_iconst (v := nI 1) dL_law_383 (by decide) ?_
  refine r_iaddN dL_law_384 ?_
  refine r_sld hSc dL_law_385 (vp_in_nI (by omega) (by omega)) ?_
  refine Wx.top (y := inp (7 * k + 1)) (by rw [nI_clamp (by omega)]) ?_
  refine r_aload_n dL_law_386 rfl 1 rfl ?_
  refine r_iload dL_law_387 5 rfl ?_
  refine r_iconst (v := nI 2) dL_law_389 (by decide) ?_
  refine r_iaddN dL_law_390 ?_
  refine r_sld hSc dL_law_391 (vp_in_nI (by omega) (by omega)) ?_
  refine Wx.top (y := inp (7 * k + 2)) (by rw [nI_clamp (by omega)]) ?_
  refine r_aload_n dL_law_392 rfl 1 rfl ?_
  refine r_iload dL_law_393 5 rfl ?_
  refine r_iconst (v := nI 3) dL_law_395 (by decide) ?_
  refine r_iaddN dL_law_396 ?_
  refine r_sld hSc dL_law_397 (vp_in_nI (by omega) (by omega)) ?_
  refine Wx.top (y := inp (7 * k + 3)) (by rw [nI_clamp (by omega)]) ?_
  refine r_aload_n dL_law_398 rfl 1 rfl ?_
  refine r_iload dL_law_399 5 rfl ?_
  refine r_iconst (v := nI 4) dL_law_401 (by decide) ?_
  refine r_iaddN dL_law_402 ?_
  refine r_sld hSc dL_law_403 (vp_in_nI (by omega) (by omega)) ?_
  refine Wx.top (y := inp (7 * k + 4)) (by rw [nI_clamp (by omega)]) ?_
  refine r_callV (M2 := m_X13_product) (As := [.int (inp (7 * k + 1)), .int (inp (7 * k + 2)), .int (inp (7 * k + 3)), .int (inp (7 * k + 4))]) (rest := []) dL_law_404 cl_162 rfl rfl rfl (Nat.le_of_ble_eq_true rfl) hm1 rfl rfl (by decide) hMO (fun v9 S2 hq => ?_) (fun E9 T9 hq => by obtain ⟨res, e, -⟩ := hq; cases e)
  obtain ⟨res, e, hth, hz, hJ⟩ := hq
  cases e
  show Wx _ G S2 407 [(5, .int (nI kd)), (0, .ref (gK G 5 0)), (1, .ref x), (2, .ref m), (3, .ref b), (4, .int (nI (7 * k)))] [.int res] _
  refine r_istore (lv' := [(6, .int res), (5, .int (nI kd)), (0, .ref (gK G 5 0)), (1, .ref x), (2, .ref m), (3, .ref b), (4, .int (nI (7 * k)))]) dL_law_407 (Nat.le_of_ble_eq_true rfl) rfl ?_
  refine r_aload_n dL_law_409 rfl 4 rfl ?_
  refine r_fnV (M2 := m_X13_thrown) (As := []) (rest := []) (v := some (.int (nI kd))) dL_law_410 cl_152 rfl rfl rfl (Nat.le_of_ble_eq_true rfl) hJ.m15 rfl rfl (by decide) hth rfl ?_
  refine r_iload dL_law_413 1 rfl ?_
  refine r_icmp_eqN (tgt := 420) dL_law_415 (by decide) (by omega) (by omega) (fun _ => ?_) (fun z => absurd rfl z)
  refine r_iload dL_law_420 1 rfl ?_
  refine r_if_neN (tgt := 437) dL_law_422 (by decide) (by omega) (fun _ => r_goto (tgt := 2750) dL_law_437 (by decide) (Wx.sub [2, 3, 4, 5, 6] rfl (kk S2 hJ))) (fun z => ?_)
  refine r_aload_n dL_law_425 rfl 5 rfl ?_
  refine r_iconst (v := nI 0) dL_law_426 (by decide) ?_
  refine r_lald dL_law_427 hJ.inp.1.1 (by rw [hJ.inp.1.2]; exact vp_in_nI (by decide) (by decide)) ?_
  rw [show zL S2 b (nI 0).toNatClampNeg = res.toInt64 from (by rw [nI_clamp (by decide)]; exact hz z)]
  refine r_iload dL_law_428 0 rfl ?_
  refine r_i2l dL_law_430 ?_
  refine r_lcmp dL_law_431 ?_
  refine Wx.top (cmp_self _) ?_
  exact r_if_eqN (tgt := 437) dL_law_432 (by decide) (by decide) (fun _ => r_goto (tgt := 2750) dL_law_437 (by decide) (Wx.sub [2, 3, 4, 5, 6] rfl (kk S2 hJ))) (fun z => absurd rfl z)
theorem w_policy {G : GI} {S : Hp} {x m b a0 : Nat} {ip inp : Nat → Int32} {n0 n B0 U0 k : Nat} {Q : OV → Hp → Prop} (hSc : SCR G n inp) (h : JS S x m b a0 ip n0 B0 U0 k) (h1 : B0 + k + 1 ≤ gN G) (h2 : U0 + 6 * k + 6 ≤ gM G) (hk : k < 130000) (hi : 7 * k + 7 ≤ n) (hn : n < 2 ^ 31) (kk : ∀ S', JS S' x m b a0 ip n0 B0 U0 (k + 1) → Wx m_L_law G S' 2750 [(0, .ref (gK G 5 0)), (1, .ref x), (2, .ref m), (3, .ref b), (4, .int (nI (7 * k)))] [] Q) : Wx m_L_law G S 440 [(0, .ref (gK G 5 0)), (1, .ref x), (2, .ref m), (3, .ref b), (4, .int (nI (7 * k)))] [] Q := by
  refine r_aload_n dL_law_440 rfl 1 rfl ?_
  refine r_aload_n dL_law_441 rfl 0 rfl ?_
  refine r_iload dL_law_442 4 rfl ?_
  refine r_iconst (v := nI 1) dL_law_444 (by decide) ?_
  refine r_iaddN dL_law_445 ?_
  refine r_sld hSc dL_law_446 (vp_in_nI (by omega) (by omega)) ?_
  refine Wx.top (y := inp (7 * k + 1)) (by rw [nI_clamp (by omega)]) ?_
  refine r_aload_n dL_law_447 rfl 0 rfl ?_
  refine r_iload dL_law_448 4 rfl ?_
  refine r_iconst (v := nI 2) dL_law_450 (by decide) ?_
  refine r_iaddN dL_law_451 ?_
  refine r_sld hSc dL_law_452 (vp_in_nI (by omega) (by omega)) ?_
  refine Wx.top (y := inp (7 * k + 2)) (by rw [nI_clamp (by omega)]) ?_
  refine r_aload_n dL_law_453 rfl 3 rfl ?_
  refine r_callSX (M2 := m_L_policy) (As := [.ref x, .int (inp (7 * k + 1)), .int (inp (7 * k + 2)), .ref b]) (rest := []) dL_law_454 cl_163 rfl rfl (Nat.le_of_ble_eq_true rfl) (j_policy h h1 h2 hk) (fun v9 S1 hq => ?_) (fun E9 T9 hq => by obtain ⟨kd, -, e, -⟩ := hq; cases e)
  obtain ⟨kd, hkd, e, ⟨hm1, hb1, hb2, hb3⟩, hMO⟩ := hq
  cases e
  show Wx _ G S1 457 [(0, .ref (gK G 5 0)), (1, .ref x), (2, .ref m), (3, .ref b), (4, .int (nI (7 * k)))] [.int (nI kd)] _
  refine r_istore (lv' := [(5, .int (nI kd)), (0, .ref (gK G 5 0)), (1, .ref x), (2, .ref m), (3, .ref b), (4, .int (nI (7 * k)))]) dL_law_457 (Nat.le_of_ble_eq_true rfl) rfl ?_
  refine r_aload_n dL_law_459 rfl 3 rfl ?_
  refine r_aload_n dL_law_460 rfl 1 rfl ?_
  refine r_iload dL_law_461 5 rfl ?_
  refine r_iconst (v := nI 1) dL_law_463 (by decide) ?_
  refine r_iaddN dL_law_464 ?_
  refine r_sld hSc dL_law_465 (vp_in_nI (by omega) (by omega)) ?_
  refine Wx.top (y := inp (7 * k + 1)) (by rw [nI_clamp (by omega)]) ?_
  refine r_aload_n dL_law_466 rfl 1 rfl ?_
  refine r_iload dL_law_467 5 rfl ?_
  refine r_iconst (v := nI 2) dL_law_469 (by decide) ?_
  refine r_iaddN dL_law_470 ?_
  refine r_sld hSc dL_law_471 (vp_in_nI (by omega) (by omega)) ?_
  refine Wx.top (y := inp (7 * k + 2)) (by rw [nI_clamp (by omega)]) ?_
  refine r_callV (M2 := m_X13_policy) (As := [.int (inp (7 * k + 1)), .int (inp (7 * k + 2))]) (rest := []) dL_law_472 cl_166 rfl rfl rfl (Nat.le_of_ble_eq_true rfl) hm1 rfl rfl (by decide) hMO (fun v9 S2 hq => ?_) (fun E9 T9 hq => by obtain ⟨res, e, -⟩ := hq; cases e)
  obtain ⟨res, e, hth, hz, hJ⟩ := hq
  cases e
  show Wx _ G S2 475 [(5, .int (nI kd)), (0, .ref (gK G 5 0)), (1, .ref x), (2, .ref m), (3, .ref b), (4, .int (nI (7 * k)))] [.int res] _
  refine r_istore (lv' := [(6, .int res), (5, .int (nI kd)), (0, .ref (gK G 5 0)), (1, .ref x), (2, .ref m), (3, .ref b), (4, .int (nI (7 * k)))]) dL_law_475 (Nat.le_of_ble_eq_true rfl) rfl ?_
  refine r_aload_n dL_law_477 rfl 4 rfl ?_
  refine r_fnV (M2 := m_X13_thrown) (As := []) (rest := []) (v := some (.int (nI kd))) dL_law_478 cl_152 rfl rfl rfl (Nat.le_of_ble_eq_true rfl) hJ.m15 rfl rfl (by decide) hth rfl ?_
  refine r_iload dL_law_481 1 rfl ?_
  refine r_icmp_eqN (tgt := 488) dL_law_483 (by decide) (by omega) (by omega) (fun _ => ?_) (fun z => absurd rfl z)
  refine r_iload dL_law_488 1 rfl ?_
  refine r_if_neN (tgt := 505) dL_law_490 (by decide) (by omega) (fun _ => r_goto (tgt := 2750) dL_law_505 (by decide) (Wx.sub [2, 3, 4, 5, 6] rfl (kk S2 hJ))) (fun z => ?_)
  refine r_aload_n dL_law_493 rfl 5 rfl ?_
  refine r_iconst (v := nI 0) dL_law_494 (by decide) ?_
  refine r_lald dL_law_495 hJ.inp.1.1 (by rw [hJ.inp.1.2]; exact vp_in_nI (by decide) (by decide)) ?_
  rw [show zL S2 b (nI 0).toNatClampNeg = res.toInt64 from (by rw [nI_clamp (by decide)]; exact hz z)]
  refine r_iload dL_law_496 0 rfl ?_
  refine r_i2l dL_law_498 ?_
  refine r_lcmp dL_law_499 ?_
  refine Wx.top (cmp_self _) ?_
  exact r_if_eqN (tgt := 505) dL_law_500 (by decide) (by decide) (fun _ => r_goto (tgt := 2750) dL_law_505 (by decide) (Wx.sub [2, 3, 4, 5, 6] rfl (kk S2 hJ))) (fun z => absurd rfl z)
theorem w_table {G : GI} {S : Hp} {x m b a0 : Nat} {ip inp : Nat → Int32} {n0 n B0 U0 k : Nat} {Q : OV → Hp → Prop} (hSc : SCR G n inp) (h : JS S x m b a0 ip n0 B0 U0 k) (h1 : B0 + k + 1 ≤ gN G) (h2 : U0 + 6 * k + 6 ≤ gM G) (hk : k < 130000) (hi : 7 * k + 7 ≤ n) (hn : n < 2 ^ 31) (kk : ∀ S', JS S' x m b a0 ip n0 B0 U0 (k + 1) → Wx m_L_law G S' 2750 [(0, .ref (gK G 5 0)), (1, .ref x), (2, .ref m), (3, .ref b), (4, .int (nI (7 * k)))] [] Q) : Wx m_L_law G S 508 [(0, .ref (gK G 5 0)), (1, .ref x), (2, .ref m), (3, .ref b), (4, .int (nI (7 * k)))] [] Q := by
  refine r_aload_n dL_law_508 rfl 1 rfl ?_
  refine r_aload_n dL_law_509 rfl 0 rfl ?_
  refine r_iload dL_law_510 4 rfl ?_
  refine r_iconst (v := nI 1) dL_law_512 (by decide) ?_
  refine r_iaddN dL_law_513 ?_
  refine r_sld hSc dL_law_514 (vp_in_nI (by omega) (by omega)) ?_
  refine Wx.top (y := inp (7 * k + 1)) (by rw [nI_clamp (by omega)]) ?_
  refine r_aload_n dL_law_515 rfl 0 rfl ?_
  refine r_iload dL_law_516 4 rfl ?_
  refine r_iconst (v := nI 2) dL_law_518 (by decide) ?_
  refine r_iaddN dL_law_519 ?_
  refine r_sld hSc dL_law_520 (vp_in_nI (by omega) (by omega)) ?_
  refine Wx.top (y := inp (7 * k + 2)) (by rw [nI_clamp (by omega)]) ?_
  refine r_aload_n dL_law_521 rfl 0 rfl ?_
  refine r_iload dL_law_522 4 rfl ?_
  refine r_iconst (v := nI 3) dL_law_524 (by decide) ?_
  refine r_iaddN dL_law_525 ?_
  refine r_sld hSc dL_law_526 (vp_in_nI (by omega) (by omega)) ?_
  refine Wx.top (y := inp (7 * k + 3)) (by rw [nI_clamp (by omega)]) ?_
  refine r_aload_n dL_law_527 rfl 0 rfl ?_
  refine r_iload dL_law_528 4 rfl ?_
  refine r_iconst (v := nI 4) dL_law_530 (by decide) ?_
  refine r_iaddN dL_law_531 ?_
  refine r_sld hSc dL_law_532 (vp_in_nI (by omega) (by omega)) ?_
  refine Wx.top (y := inp (7 * k + 4)) (by rw [nI_clamp (by omega)]) ?_
  refine r_if_eq (tgt := 540) dL_law_533 (by decide) (fun zb => ?_) (fun zb => ?_)
  · refine r_iconst (v := nI 0) dL_law_540 (by decide) ?_
    refine r_aload_n dL_law_541 rfl 3 rfl ?_
    refine r_callSX (M2 := m_L_table) (As := [.ref x, .int (inp (7 * k + 1)), .int (inp (7 * k + 2)), .int (inp (7 * k + 3)), .int (nI 0), .ref b]) (rest := []) dL_law_542 cl_167 rfl rfl (Nat.le_of_ble_eq_true rfl) (j_table h h1 h2 hk (Or.inl rfl)) (fun v9 S1 hq => ?_) (fun E9 T9 hq => by obtain ⟨kd, -, e, -⟩ := hq; cases e)
    obtain ⟨kd, hkd, e, ⟨hm1, hb1, hb2, hb3⟩, hMO⟩ := hq
    cases e
    show Wx _ G S1 545 [(0, .ref (gK G 5 0)), (1, .ref x), (2, .ref m), (3, .ref b), (4, .int (nI (7 * k)))] [.int (nI kd)] _
    refine r_istore (lv' := [(5, .int (nI kd)), (0, .ref (gK G 5 0)), (1, .ref x), (2, .ref m), (3, .ref b), (4, .int (nI (7 * k)))]) dL_law_545 (Nat.le_of_ble_eq_true rfl) rfl ?_
    refine r_aload_n dL_law_547 rfl 3 rfl ?_
    refine r_aload_n dL_law_548 rfl 1 rfl ?_
    refine r_iload dL_law_549 5 rfl ?_
    refine r_iconst (v := nI 1) dL_law_551 (by decide) ?_
    refine r_iaddN dL_law_552 ?_
    refine r_sld hSc dL_law_553 (vp_in_nI (by omega) (by omega)) ?_
    refine Wx.top (y := inp (7 * k + 1)) (by rw [nI_clamp (by omega)]) ?_
    refine r_aload_n dL_law_554 rfl 1 rfl ?_
    refine r_iload dL_law_555 5 rfl ?_
    refine r_iconst (v := nI 2) dL_law_557 (by decide) ?_
    refine r_iaddN dL_law_558 ?_
    refine r_sld hSc dL_law_559 (vp_in_nI (by omega) (by omega)) ?_
    refine Wx.top (y := inp (7 * k + 2)) (by rw [nI_clamp (by omega)]) ?_
    refine r_aload_n dL_law_560 rfl 1 rfl ?_
    refine r_iload dL_law_561 5 rfl ?_
    refine r_iconst (v := nI 3) dL_law_563 (by decide) ?_
    refine r_iaddN dL_law_564 ?_
    refine r_sld hSc dL_law_565 (vp_in_nI (by omega) (by omega)) ?_
    refine Wx.top (y := inp (7 * k + 3)) (by rw [nI_clamp (by omega)]) ?_
    refine r_aload_n dL_law_566 rfl 1 rfl ?_
    refine r_iload dL_law_567 5 rfl ?_
    refine r_iconst (v := nI 4) dL_law_569 (by decide) ?_
    refine r_iaddN dL_law_570 ?_
    refine r_sld hSc dL_law_571 (vp_in_nI (by omega) (by omega)) ?_
    refine Wx.top (y := inp (7 * k + 4)) (by rw [nI_clamp (by omega)]) ?_
    refine r_if_eq (tgt := 579) dL_law_572 (by decide) (fun _ => ?_) (fun z => absurd zb z)
    refine r_iconst (v := nI 0) dL_law_579 (by decide) ?_
    refine r_callV (M2 := m_X13_table) (As := [.int (inp (7 * k + 1)), .int (inp (7 * k + 2)), .int (inp (7 * k + 3)), .int (nI 0)]) (rest := []) dL_law_580 cl_170 rfl rfl rfl (Nat.le_of_ble_eq_true rfl) hm1 rfl rfl (by decide) hMO (fun v9 S2 hq => ?_) (fun E9 T9 hq => by obtain ⟨res, e, -⟩ := hq; cases e)
    obtain ⟨res, e, hth, hz, hJ⟩ := hq
    cases e
    show Wx _ G S2 583 [(5, .int (nI kd)), (0, .ref (gK G 5 0)), (1, .ref x), (2, .ref m), (3, .ref b), (4, .int (nI (7 * k)))] [.int res] _
    refine r_istore (lv' := [(6, .int res), (5, .int (nI kd)), (0, .ref (gK G 5 0)), (1, .ref x), (2, .ref m), (3, .ref b), (4, .int (nI (7 * k)))]) dL_law_583 (Nat.le_of_ble_eq_true rfl) rfl ?_
    refine r_aload_n dL_law_585 rfl 4 rfl ?_
    refine r_fnV (M2 := m_X13_thrown) (As := []) (rest := []) (v := some (.int (nI kd))) dL_law_586 cl_152 rfl rfl rfl (Nat.le_of_ble_eq_true rfl) hJ.m15 rfl rfl (by decide) hth rfl ?_
    refine r_iload dL_law_589 1 rfl ?_
    refine r_icmp_eqN (tgt := 596) dL_law_591 (by decide) (by omega) (by omega) (fun _ => ?_) (fun z => absurd rfl z)
    refine r_iload dL_law_596 1 rfl ?_
    refine r_if_neN (tgt := 613) dL_law_598 (by decide) (by omega) (fun _ => r_goto (tgt := 2750) dL_law_613 (by decide) (Wx.sub [2, 3, 4, 5, 6] rfl (kk S2 hJ))) (fun z => ?_)
    refine r_aload_n dL_law_601 rfl 5 rfl ?_
    refine r_iconst (v := nI 0) dL_law_602 (by decide) ?_
    refine r_lald dL_law_603 hJ.inp.1.1 (by rw [hJ.inp.1.2]; exact vp_in_nI (by decide) (by decide)) ?_
    rw [show zL S2 b (nI 0).toNatClampNeg = res.toInt64 from (by rw [nI_clamp (by decide)]; exact hz z)]
    refine r_iload dL_law_604 0 rfl ?_
    refine r_i2l dL_law_606 ?_
    refine r_lcmp dL_law_607 ?_
    refine Wx.top (cmp_self _) ?_
    exact r_if_eqN (tgt := 613) dL_law_608 (by decide) (by decide) (fun _ => r_goto (tgt := 2750) dL_law_613 (by decide) (Wx.sub [2, 3, 4, 5, 6] rfl (kk S2 hJ))) (fun z => absurd rfl z)
  · refine r_iconst (v := nI 1) dL_law_536 (by decide) ?_
    refine r_goto (tgt := 541) dL_law_537 (by decide) ?_
    refine r_aload_n dL_law_541 rfl 3 rfl ?_
    refine r_callSX (M2 := m_L_table) (As := [.ref x, .int (inp (7 * k + 1)), .int (inp (7 * k + 2)), .int (inp (7 * k + 3)), .int (nI 1), .ref b]) (rest := []) dL_law_542 cl_167 rfl rfl (Nat.le_of_ble_eq_true rfl) (j_table h h1 h2 hk (Or.inr rfl)) (fun v9 S1 hq => ?_) (fun E9 T9 hq => by obtain ⟨kd, -, e, -⟩ := hq; cases e)
    obtain ⟨kd, hkd, e, ⟨hm1, hb1, hb2, hb3⟩, hMO⟩ := hq
    cases e
    show Wx _ G S1 545 [(0, .ref (gK G 5 0)), (1, .ref x), (2, .ref m), (3, .ref b), (4, .int (nI (7 * k)))] [.int (nI kd)] _
    refine r_istore (lv' := [(5, .int (nI kd)), (0, .ref (gK G 5 0)), (1, .ref x), (2, .ref m), (3, .ref b), (4, .int (nI (7 * k)))]) dL_law_545 (Nat.le_of_ble_eq_true rfl) rfl ?_
    refine r_aload_n dL_law_547 rfl 3 rfl ?_
    refine r_aload_n dL_law_548 rfl 1 rfl ?_
    refine r_iload dL_law_549 5 rfl ?_
    refine r_iconst (v := nI 1) dL_law_551 (by decide) ?_
    refine r_iaddN dL_law_552 ?_
    refine r_sld hSc dL_law_553 (vp_in_nI (by omega) (by omega)) ?_
    refine Wx.top (y := inp (7 * k + 1)) (by rw [nI_clamp (by omega)]) ?_
    refine r_aload_n dL_law_554 rfl 1 rfl ?_
    refine r_iload dL_law_555 5 rfl ?_
    refine r_iconst (v := nI 2) dL_law_557 (by decide) ?_
    refine r_iaddN dL_law_558 ?_
    refine r_sld hSc dL_law_559 (vp_in_nI (by omega) (by omega)) ?_
    refine Wx.top (y := inp (7 * k + 2)) (by rw [nI_clamp (by omega)]) ?_
    refine r_aload_n dL_law_560 rfl 1 rfl ?_
    refine r_iload dL_law_561 5 rfl ?_
    refine r_iconst (v := nI 3) dL_law_563 (by decide) ?_
    refine r_iaddN dL_law_564 ?_
    refine r_sld hSc dL_law_565 (vp_in_nI (by omega) (by omega)) ?_
    refine Wx.top (y := inp (7 * k + 3)) (by rw [nI_clamp (by omega)]) ?_
    refine r_aload_n dL_law_566 rfl 1 rfl ?_
    refine r_iload dL_law_567 5 rfl ?_
    refine r_iconst (v := nI 4) dL_law_569 (by decide) ?_
    refine r_iaddN dL_law_570 ?_
    refine r_sld hSc dL_law_571 (vp_in_nI (by omega) (by omega)) ?_
    refine Wx.top (y := inp (7 * k + 4)) (by rw [nI_clamp (by omega)]) ?_
    refine r_if_eq (tgt := 579) dL_law_572 (by decide) (fun z => absurd z zb) (fun _ => ?_)
    refine r_iconst (v := nI 1) dL_law_575 (by decide) ?_
    refine r_goto (tgt := 580) dL_law_576 (by decide) ?_
    refine r_callV (M2 := m_X13_table) (As := [.int (inp (7 * k + 1)), .int (inp (7 * k + 2)), .int (inp (7 * k + 3)), .int (nI 1)]) (rest := []) dL_law_580 cl_170 rfl rfl rfl (Nat.le_of_ble_eq_true rfl) hm1 rfl rfl (by decide) hMO (fun v9 S2 hq => ?_) (fun E9 T9 hq => by obtain ⟨res, e, -⟩ := hq; cases e)
    obtain ⟨res, e, hth, hz, hJ⟩ := hq
    cases e
    show Wx _ G S2 583 [(5, .int (nI kd)), (0, .ref (gK G 5 0)), (1, .ref x), (2, .ref m), (3, .ref b), (4, .int (nI (7 * k)))] [.int res] _
    refine r_istore (lv' := [(6, .int res), (5, .int (nI kd)), (0, .ref (gK G 5 0)), (1, .ref x), (2, .ref m), (3, .ref b), (4, .int (nI (7 * k)))]) dL_law_583 (Nat.le_of_ble_eq_true rfl) rfl ?_
    refine r_aload_n dL_law_585 rfl 4 rfl ?_
    refine r_fnV (M2 := m_X13_thrown) (As := []) (rest := []) (v := some (.int (nI kd))) dL_law_586 cl_152 rfl rfl rfl (Nat.le_of_ble_eq_true rfl) hJ.m15 rfl rfl (by decide) hth rfl ?_
    refine r_iload dL_law_589 1 rfl ?_
    refine r_icmp_eqN (tgt := 596) dL_law_591 (by decide) (by omega) (by omega) (fun _ => ?_) (fun z => absurd rfl z)
    refine r_iload dL_law_596 1 rfl ?_
    refine r_if_neN (tgt := 613) dL_law_598 (by decide) (by omega) (fun _ => r_goto (tgt := 2750) dL_law_613 (by decide) (Wx.sub [2, 3, 4, 5, 6] rfl (kk S2 hJ))) (fun z => ?_)
    refine r_aload_n dL_law_601 rfl 5 rfl ?_
    refine r_iconst (v := nI 0) dL_law_602 (by decide) ?_
    refine r_lald dL_law_603 hJ.inp.1.1 (by rw [hJ.inp.1.2]; exact vp_in_nI (by decide) (by decide)) ?_
    rw [show zL S2 b (nI 0).toNatClampNeg = res.toInt64 from (by rw [nI_clamp (by decide)]; exact hz z)]
    refine r_iload dL_law_604 0 rfl ?_
    refine r_i2l dL_law_606 ?_
    refine r_lcmp dL_law_607 ?_
    refine Wx.top (cmp_self _) ?_
    exact r_if_eqN (tgt := 613) dL_law_608 (by decide) (by decide) (fun _ => r_goto (tgt := 2750) dL_law_613 (by decide) (Wx.sub [2, 3, 4, 5, 6] rfl (kk S2 hJ))) (fun z => absurd rfl z)
theorem w_afterwards {G : GI} {S : Hp} {x m b a0 : Nat} {ip inp : Nat → Int32} {n0 n B0 U0 k : Nat} {Q : OV → Hp → Prop} (hSc : SCR G n inp) (h : JS S x m b a0 ip n0 B0 U0 k) (h1 : B0 + k + 1 ≤ gN G) (h2 : U0 + 6 * k + 6 ≤ gM G) (hk : k < 130000) (hi : 7 * k + 7 ≤ n) (hn : n < 2 ^ 31) (kk : ∀ S', JS S' x m b a0 ip n0 B0 U0 (k + 1) → Wx m_L_law G S' 2750 [(0, .ref (gK G 5 0)), (1, .ref x), (2, .ref m), (3, .ref b), (4, .int (nI (7 * k)))] [] Q) : Wx m_L_law G S 616 [(0, .ref (gK G 5 0)), (1, .ref x), (2, .ref m), (3, .ref b), (4, .int (nI (7 * k)))] [] Q := by
  refine r_aload_n dL_law_616 rfl 1 rfl ?_
  refine r_aload_n dL_law_617 rfl 0 rfl ?_
  refine r_iload dL_law_618 4 rfl ?_
  refine r_iconst (v := nI 1) dL_law_620 (by decide) ?_
  refine r_iaddN dL_law_621 ?_
  refine r_sld hSc dL_law_622 (vp_in_nI (by omega) (by omega)) ?_
  refine Wx.top (y := inp (7 * k + 1)) (by rw [nI_clamp (by omega)]) ?_
  refine r_aload_n dL_law_623 rfl 0 rfl ?_
  refine r_iload dL_law_624 4 rfl ?_
  refine r_iconst (v := nI 2) dL_law_626 (by decide) ?_
  refine r_iaddN dL_law_627 ?_
  refine r_sld hSc dL_law_628 (vp_in_nI (by omega) (by omega)) ?_
  refine Wx.top (y := inp (7 * k + 2)) (by rw [nI_clamp (by omega)]) ?_
  refine r_aload_n dL_law_629 rfl 0 rfl ?_
  refine r_iload dL_law_630 4 rfl ?_
  refine r_iconst (v := nI 3) dL_law_632 (by decide) ?_
  refine r_iaddN dL_law_633 ?_
  refine r_sld hSc dL_law_634 (vp_in_nI (by omega) (by omega)) ?_
  refine Wx.top (y := inp (7 * k + 3)) (by rw [nI_clamp (by omega)]) ?_
  refine r_aload_n dL_law_635 rfl 3 rfl ?_
  refine r_callSX (M2 := m_L_afterwards) (As := [.ref x, .int (inp (7 * k + 1)), .int (inp (7 * k + 2)), .int (inp (7 * k + 3)), .ref b]) (rest := []) dL_law_636 cl_171 rfl rfl (Nat.le_of_ble_eq_true rfl) (j_afterwards h h1 h2 hk) (fun v9 S1 hq => ?_) (fun E9 T9 hq => by obtain ⟨kd, -, e, -⟩ := hq; cases e)
  obtain ⟨kd, hkd, e, ⟨hm1, hb1, hb2, hb3⟩, hMO⟩ := hq
  cases e
  show Wx _ G S1 639 [(0, .ref (gK G 5 0)), (1, .ref x), (2, .ref m), (3, .ref b), (4, .int (nI (7 * k)))] [.int (nI kd)] _
  refine r_istore (lv' := [(5, .int (nI kd)), (0, .ref (gK G 5 0)), (1, .ref x), (2, .ref m), (3, .ref b), (4, .int (nI (7 * k)))]) dL_law_639 (Nat.le_of_ble_eq_true rfl) rfl ?_
  refine r_aload_n dL_law_641 rfl 3 rfl ?_
  refine r_aload_n dL_law_642 rfl 1 rfl ?_
  refine r_iload dL_law_643 5 rfl ?_
  refine r_iconst (v := nI 1) dL_law_645 (by decide) ?_
  refine r_iaddN dL_law_646 ?_
  refine r_sld hSc dL_law_647 (vp_in_nI (by omega) (by omega)) ?_
  refine Wx.top (y := inp (7 * k + 1)) (by rw [nI_clamp (by omega)]) ?_
  refine r_aload_n dL_law_648 rfl 1 rfl ?_
  refine r_iload dL_law_649 5 rfl ?_
  refine r_iconst (v := nI 2) dL_law_651 (by decide) ?_
  refine r_iaddN dL_law_652 ?_
  refine r_sld hSc dL_law_653 (vp_in_nI (by omega) (by omega)) ?_
  refine Wx.top (y := inp (7 * k + 2)) (by rw [nI_clamp (by omega)]) ?_
  refine r_aload_n dL_law_654 rfl 1 rfl ?_
  refine r_iload dL_law_655 5 rfl ?_
  refine r_iconst (v := nI 3) dL_law_657 (by decide) ?_
  refine r_iaddN dL_law_658 ?_
  refine r_sld hSc dL_law_659 (vp_in_nI (by omega) (by omega)) ?_
  refine Wx.top (y := inp (7 * k + 3)) (by rw [nI_clamp (by omega)]) ?_
  refine r_callV (M2 := m_X13_afterwards) (As := [.int (inp (7 * k + 1)), .int (inp (7 * k + 2)), .int (inp (7 * k + 3))]) (rest := []) dL_law_660 cl_173 rfl rfl rfl (Nat.le_of_ble_eq_true rfl) hm1 rfl rfl (by decide) hMO (fun v9 S2 hq => ?_) (fun E9 T9 hq => by obtain ⟨res, e, -⟩ := hq; cases e)
  obtain ⟨res, e, hth, hz, hJ⟩ := hq
  cases e
  show Wx _ G S2 663 [(5, .int (nI kd)), (0, .ref (gK G 5 0)), (1, .ref x), (2, .ref m), (3, .ref b), (4, .int (nI (7 * k)))] [.int res] _
  refine r_istore (lv' := [(6, .int res), (5, .int (nI kd)), (0, .ref (gK G 5 0)), (1, .ref x), (2, .ref m), (3, .ref b), (4, .int (nI (7 * k)))]) dL_law_663 (Nat.le_of_ble_eq_true rfl) rfl ?_
  refine r_aload_n dL_law_665 rfl 4 rfl ?_
  refine r_fnV (M2 := m_X13_thrown) (As := []) (rest := []) (v := some (.int (nI kd))) dL_law_666 cl_152 rfl rfl rfl (Nat.le_of_ble_eq_true rfl) hJ.m15 rfl rfl (by decide) hth rfl ?_
  refine r_iload dL_law_669 1 rfl ?_
  refine r_icmp_eqN (tgt := 676) dL_law_671 (by decide) (by omega) (by omega) (fun _ => ?_) (fun z => absurd rfl z)
  refine r_iload dL_law_676 1 rfl ?_
  refine r_if_neN (tgt := 693) dL_law_678 (by decide) (by omega) (fun _ => r_goto (tgt := 2750) dL_law_693 (by decide) (Wx.sub [2, 3, 4, 5, 6] rfl (kk S2 hJ))) (fun z => ?_)
  refine r_aload_n dL_law_681 rfl 5 rfl ?_
  refine r_iconst (v := nI 0) dL_law_682 (by decide) ?_
  refine r_lald dL_law_683 hJ.inp.1.1 (by rw [hJ.inp.1.2]; exact vp_in_nI (by decide) (by decide)) ?_
  rw [show zL S2 b (nI 0).toNatClampNeg = res.toInt64 from (by rw [nI_clamp (by decide)]; exact hz z)]
  refine r_iload dL_law_684 0 rfl ?_
  refine r_i2l dL_law_686 ?_
  refine r_lcmp dL_law_687 ?_
  refine Wx.top (cmp_self _) ?_
  exact r_if_eqN (tgt := 693) dL_law_688 (by decide) (by decide) (fun _ => r_goto (tgt := 2750) dL_law_693 (by decide) (Wx.sub [2, 3, 4, 5, 6] rfl (kk S2 hJ))) (fun z => absurd rfl z)
theorem w_release {G : GI} {S : Hp} {x m b a0 : Nat} {ip inp : Nat → Int32} {n0 n B0 U0 k : Nat} {Q : OV → Hp → Prop} (hSc : SCR G n inp) (h : JS S x m b a0 ip n0 B0 U0 k) (h1 : B0 + k + 1 ≤ gN G) (h2 : U0 + 6 * k + 6 ≤ gM G) (hk : k < 130000) (hi : 7 * k + 7 ≤ n) (hn : n < 2 ^ 31) (kk : ∀ S', JS S' x m b a0 ip n0 B0 U0 (k + 1) → Wx m_L_law G S' 2750 [(0, .ref (gK G 5 0)), (1, .ref x), (2, .ref m), (3, .ref b), (4, .int (nI (7 * k)))] [] Q) : Wx m_L_law G S 696 [(0, .ref (gK G 5 0)), (1, .ref x), (2, .ref m), (3, .ref b), (4, .int (nI (7 * k)))] [] Q := by
  refine r_aload_n dL_law_696 rfl 1 rfl ?_
  refine r_aload_n dL_law_697 rfl 0 rfl ?_
  refine r_iload dL_law_698 4 rfl ?_
  refine r_iconst (v := nI 1) dL_law_700 (by decide) ?_
  refine r_iaddN dL_law_701 ?_
  refine r_sld hSc dL_law_702 (vp_in_nI (by omega) (by omega)) ?_
  refine Wx.top (y := inp (7 * k + 1)) (by rw [nI_clamp (by omega)]) ?_
  refine r_aload_n dL_law_703 rfl 3 rfl ?_
  refine r_callSX (M2 := m_L_release) (As := [.ref x, .int (inp (7 * k + 1)), .ref b]) (rest := []) dL_law_704 cl_174 rfl rfl (Nat.le_of_ble_eq_true rfl) (j_release h h1 h2 hk) (fun v9 S1 hq => ?_) (fun E9 T9 hq => by obtain ⟨kd, -, e, -⟩ := hq; cases e)
  obtain ⟨kd, hkd, e, ⟨hm1, hb1, hb2, hb3⟩, hMO⟩ := hq
  cases e
  show Wx _ G S1 707 [(0, .ref (gK G 5 0)), (1, .ref x), (2, .ref m), (3, .ref b), (4, .int (nI (7 * k)))] [.int (nI kd)] _
  refine r_istore (lv' := [(5, .int (nI kd)), (0, .ref (gK G 5 0)), (1, .ref x), (2, .ref m), (3, .ref b), (4, .int (nI (7 * k)))]) dL_law_707 (Nat.le_of_ble_eq_true rfl) rfl ?_
  refine r_aload_n dL_law_709 rfl 3 rfl ?_
  refine r_aload_n dL_law_710 rfl 1 rfl ?_
  refine r_iload dL_law_711 5 rfl ?_
  refine r_iconst (v := nI 1) dL_law_713 (by decide) ?_
  refine r_iaddN dL_law_714 ?_
  refine r_sld hSc dL_law_715 (vp_in_nI (by omega) (by omega)) ?_
  refine Wx.top (y := inp (7 * k + 1)) (by rw [nI_clamp (by omega)]) ?_
  refine r_callV (M2 := m_X13_release) (As := [.int (inp (7 * k + 1))]) (rest := []) dL_law_716 cl_176 rfl rfl rfl (Nat.le_of_ble_eq_true rfl) hm1 rfl rfl (by decide) hMO (fun v9 S2 hq => ?_) (fun E9 T9 hq => by obtain ⟨res, e, -⟩ := hq; cases e)
  obtain ⟨res, e, hth, hz, hJ⟩ := hq
  cases e
  show Wx _ G S2 719 [(5, .int (nI kd)), (0, .ref (gK G 5 0)), (1, .ref x), (2, .ref m), (3, .ref b), (4, .int (nI (7 * k)))] [.int res] _
  refine r_istore (lv' := [(6, .int res), (5, .int (nI kd)), (0, .ref (gK G 5 0)), (1, .ref x), (2, .ref m), (3, .ref b), (4, .int (nI (7 * k)))]) dL_law_719 (Nat.le_of_ble_eq_true rfl) rfl ?_
  refine r_aload_n dL_law_721 rfl 4 rfl ?_
  refine r_fnV (M2 := m_X13_thrown) (As := []) (rest := []) (v := some (.int (nI kd))) dL_law_722 cl_152 rfl rfl rfl (Nat.le_of_ble_eq_true rfl) hJ.m15 rfl rfl (by decide) hth rfl ?_
  refine r_iload dL_law_725 1 rfl ?_
  refine r_icmp_eqN (tgt := 732) dL_law_727 (by decide) (by omega) (by omega) (fun _ => ?_) (fun z => absurd rfl z)
  refine r_iload dL_law_732 1 rfl ?_
  refine r_if_neN (tgt := 749) dL_law_734 (by decide) (by omega) (fun _ => r_goto (tgt := 2750) dL_law_749 (by decide) (Wx.sub [2, 3, 4, 5, 6] rfl (kk S2 hJ))) (fun z => ?_)
  refine r_aload_n dL_law_737 rfl 5 rfl ?_
  refine r_iconst (v := nI 0) dL_law_738 (by decide) ?_
  refine r_lald dL_law_739 hJ.inp.1.1 (by rw [hJ.inp.1.2]; exact vp_in_nI (by decide) (by decide)) ?_
  rw [show zL S2 b (nI 0).toNatClampNeg = res.toInt64 from (by rw [nI_clamp (by decide)]; exact hz z)]
  refine r_iload dL_law_740 0 rfl ?_
  refine r_i2l dL_law_742 ?_
  refine r_lcmp dL_law_743 ?_
  refine Wx.top (cmp_self _) ?_
  exact r_if_eqN (tgt := 749) dL_law_744 (by decide) (by decide) (fun _ => r_goto (tgt := 2750) dL_law_749 (by decide) (Wx.sub [2, 3, 4, 5, 6] rfl (kk S2 hJ))) (fun z => absurd rfl z)
theorem w_seed {G : GI} {S : Hp} {x m b a0 : Nat} {ip inp : Nat → Int32} {n0 n B0 U0 k : Nat} {Q : OV → Hp → Prop} (hSc : SCR G n inp) (h : JS S x m b a0 ip n0 B0 U0 k) (h1 : B0 + k + 1 ≤ gN G) (h2 : U0 + 6 * k + 6 ≤ gM G) (hk : k < 130000) (hi : 7 * k + 7 ≤ n) (hn : n < 2 ^ 31) (kk : ∀ S', JS S' x m b a0 ip n0 B0 U0 (k + 1) → Wx m_L_law G S' 2750 [(0, .ref (gK G 5 0)), (1, .ref x), (2, .ref m), (3, .ref b), (4, .int (nI (7 * k)))] [] Q) : Wx m_L_law G S 752 [(0, .ref (gK G 5 0)), (1, .ref x), (2, .ref m), (3, .ref b), (4, .int (nI (7 * k)))] [] Q := by
  refine r_aload_n dL_law_752 rfl 1 rfl ?_
  refine r_aload_n dL_law_753 rfl 0 rfl ?_
  refine r_iload dL_law_754 4 rfl ?_
  refine r_iconst (v := nI 1) dL_law_756 (by decide) ?_
  refine r_iaddN dL_law_757 ?_
  refine r_sld hSc dL_law_758 (vp_in_nI (by omega) (by omega)) ?_
  refine Wx.top (y := inp (7 * k + 1)) (by rw [nI_clamp (by omega)]) ?_
  refine r_aload_n dL_law_759 rfl 3 rfl ?_
  refine r_callSX (M2 := m_L_seed) (As := [.ref x, .int (inp (7 * k + 1)), .ref b]) (rest := []) dL_law_760 cl_177 rfl rfl (Nat.le_of_ble_eq_true rfl) (j_seed h h1 h2 hk) (fun v9 S1 hq => ?_) (fun E9 T9 hq => by obtain ⟨kd, -, e, -⟩ := hq; cases e)
  obtain ⟨kd, hkd, e, ⟨hm1, hb1, hb2, hb3⟩, hMO⟩ := hq
  cases e
  show Wx _ G S1 763 [(0, .ref (gK G 5 0)), (1, .ref x), (2, .ref m), (3, .ref b), (4, .int (nI (7 * k)))] [.int (nI kd)] _
  refine r_istore (lv' := [(5, .int (nI kd)), (0, .ref (gK G 5 0)), (1, .ref x), (2, .ref m), (3, .ref b), (4, .int (nI (7 * k)))]) dL_law_763 (Nat.le_of_ble_eq_true rfl) rfl ?_
  refine r_aload_n dL_law_765 rfl 3 rfl ?_
  refine r_aload_n dL_law_766 rfl 1 rfl ?_
  refine r_iload dL_law_767 5 rfl ?_
  refine r_iconst (v := nI 1) dL_law_769 (by decide) ?_
  refine r_iaddN dL_law_770 ?_
  refine r_sld hSc dL_law_771 (vp_in_nI (by omega) (by omega)) ?_
  refine Wx.top (y := inp (7 * k + 1)) (by rw [nI_clamp (by omega)]) ?_
  refine r_callV (M2 := m_X13_seed) (As := [.int (inp (7 * k + 1))]) (rest := []) dL_law_772 cl_179 rfl rfl rfl (Nat.le_of_ble_eq_true rfl) hm1 rfl rfl (by decide) hMO (fun v9 S2 hq => ?_) (fun E9 T9 hq => by obtain ⟨res, e, -⟩ := hq; cases e)
  obtain ⟨res, e, hth, hz, hJ⟩ := hq
  cases e
  show Wx _ G S2 775 [(5, .int (nI kd)), (0, .ref (gK G 5 0)), (1, .ref x), (2, .ref m), (3, .ref b), (4, .int (nI (7 * k)))] [.int res] _
  refine r_istore (lv' := [(6, .int res), (5, .int (nI kd)), (0, .ref (gK G 5 0)), (1, .ref x), (2, .ref m), (3, .ref b), (4, .int (nI (7 * k)))]) dL_law_775 (Nat.le_of_ble_eq_true rfl) rfl ?_
  refine r_aload_n dL_law_777 rfl 4 rfl ?_
  refine r_fnV (M2 := m_X13_thrown) (As := []) (rest := []) (v := some (.int (nI kd))) dL_law_778 cl_152 rfl rfl rfl (Nat.le_of_ble_eq_true rfl) hJ.m15 rfl rfl (by decide) hth rfl ?_
  refine r_iload dL_law_781 1 rfl ?_
  refine r_icmp_eqN (tgt := 788) dL_law_783 (by decide) (by omega) (by omega) (fun _ => ?_) (fun z => absurd rfl z)
  refine r_iload dL_law_788 1 rfl ?_
  refine r_if_neN (tgt := 805) dL_law_790 (by decide) (by omega) (fun _ => r_goto (tgt := 2750) dL_law_805 (by decide) (Wx.sub [2, 3, 4, 5, 6] rfl (kk S2 hJ))) (fun z => ?_)
  refine r_aload_n dL_law_793 rfl 5 rfl ?_
  refine r_iconst (v := nI 0) dL_law_794 (by decide) ?_
  refine r_lald dL_law_795 hJ.inp.1.1 (by rw [hJ.inp.1.2]; exact vp_in_nI (by decide) (by decide)) ?_
  rw [show zL S2 b (nI 0).toNatClampNeg = res.toInt64 from (by rw [nI_clamp (by decide)]; exact hz z)]
  refine r_iload dL_law_796 0 rfl ?_
  refine r_i2l dL_law_798 ?_
  refine r_lcmp dL_law_799 ?_
  refine Wx.top (cmp_self _) ?_
  exact r_if_eqN (tgt := 805) dL_law_800 (by decide) (by decide) (fun _ => r_goto (tgt := 2750) dL_law_805 (by decide) (Wx.sub [2, 3, 4, 5, 6] rfl (kk S2 hJ))) (fun z => absurd rfl z)
theorem w_raw {G : GI} {S : Hp} {x m b a0 : Nat} {ip inp : Nat → Int32} {n0 n B0 U0 k : Nat} {Q : OV → Hp → Prop} (hSc : SCR G n inp) (h : JS S x m b a0 ip n0 B0 U0 k) (h1 : B0 + k + 1 ≤ gN G) (h2 : U0 + 6 * k + 6 ≤ gM G) (hk : k < 130000) (hi : 7 * k + 7 ≤ n) (hn : n < 2 ^ 31) (kk : ∀ S', JS S' x m b a0 ip n0 B0 U0 (k + 1) → Wx m_L_law G S' 2750 [(0, .ref (gK G 5 0)), (1, .ref x), (2, .ref m), (3, .ref b), (4, .int (nI (7 * k)))] [] Q) : Wx m_L_law G S 808 [(0, .ref (gK G 5 0)), (1, .ref x), (2, .ref m), (3, .ref b), (4, .int (nI (7 * k)))] [] Q := by
  refine r_aload_n dL_law_808 rfl 1 rfl ?_
  refine r_aload_n dL_law_809 rfl 0 rfl ?_
  refine r_iload dL_law_810 4 rfl ?_
  refine r_iconst (v := nI 1) dL_law_812 (by decide) ?_
  refine r_iaddN dL_law_813 ?_
  refine r_sld hSc dL_law_814 (vp_in_nI (by omega) (by omega)) ?_
  refine Wx.top (y := inp (7 * k + 1)) (by rw [nI_clamp (by omega)]) ?_
  refine r_aload_n dL_law_815 rfl 0 rfl ?_
  refine r_iload dL_law_816 4 rfl ?_
  refine r_iconst (v := nI 2) dL_law_818 (by decide) ?_
  refine r_iaddN dL_law_819 ?_
  refine r_sld hSc dL_law_820 (vp_in_nI (by omega) (by omega)) ?_
  refine Wx.top (y := inp (7 * k + 2)) (by rw [nI_clamp (by omega)]) ?_
  refine r_aload_n dL_law_821 rfl 0 rfl ?_
  refine r_iload dL_law_822 4 rfl ?_
  refine r_iconst (v := nI 3) dL_law_824 (by decide) ?_
  refine r_iaddN dL_law_825 ?_
  refine r_sld hSc dL_law_826 (vp_in_nI (by omega) (by omega)) ?_
  refine Wx.top (y := inp (7 * k + 3)) (by rw [nI_clamp (by omega)]) ?_
  refine r_aload_n dL_law_827 rfl 3 rfl ?_
  refine r_callSX (M2 := m_L_raw) (As := [.ref x, .int (inp (7 * k + 1)), .int (inp (7 * k + 2)), .int (inp (7 * k + 3)), .ref b]) (rest := []) dL_law_828 cl_180 rfl rfl (Nat.le_of_ble_eq_true rfl) (j_raw h h1 h2 hk) (fun v9 S1 hq => ?_) (fun E9 T9 hq => by obtain ⟨kd, -, e, -⟩ := hq; cases e)
  obtain ⟨kd, hkd, e, ⟨hm1, hb1, hb2, hb3⟩, hMO⟩ := hq
  cases e
  show Wx _ G S1 831 [(0, .ref (gK G 5 0)), (1, .ref x), (2, .ref m), (3, .ref b), (4, .int (nI (7 * k)))] [.int (nI kd)] _
  refine r_istore (lv' := [(5, .int (nI kd)), (0, .ref (gK G 5 0)), (1, .ref x), (2, .ref m), (3, .ref b), (4, .int (nI (7 * k)))]) dL_law_831 (Nat.le_of_ble_eq_true rfl) rfl ?_
  refine r_aload_n dL_law_833 rfl 3 rfl ?_
  refine r_aload_n dL_law_834 rfl 1 rfl ?_
  refine r_iload dL_law_835 5 rfl ?_
  refine r_iconst (v := nI 1) dL_law_837 (by decide) ?_
  refine r_iaddN dL_law_838 ?_
  refine r_sld hSc dL_law_839 (vp_in_nI (by omega) (by omega)) ?_
  refine Wx.top (y := inp (7 * k + 1)) (by rw [nI_clamp (by omega)]) ?_
  refine r_aload_n dL_law_840 rfl 1 rfl ?_
  refine r_iload dL_law_841 5 rfl ?_
  refine r_iconst (v := nI 2) dL_law_843 (by decide) ?_
  refine r_iaddN dL_law_844 ?_
  refine r_sld hSc dL_law_845 (vp_in_nI (by omega) (by omega)) ?_
  refine Wx.top (y := inp (7 * k + 2)) (by rw [nI_clamp (by omega)]) ?_
  refine r_aload_n dL_law_846 rfl 1 rfl ?_
  refine r_iload dL_law_847 5 rfl ?_
  refine r_iconst (v := nI 3) dL_law_849 (by decide) ?_
  refine r_iaddN dL_law_850 ?_
  refine r_sld hSc dL_law_851 (vp_in_nI (by omega) (by omega)) ?_
  refine Wx.top (y := inp (7 * k + 3)) (by rw [nI_clamp (by omega)]) ?_
  refine r_callV (M2 := m_X13_raw) (As := [.int (inp (7 * k + 1)), .int (inp (7 * k + 2)), .int (inp (7 * k + 3))]) (rest := []) dL_law_852 cl_182 rfl rfl rfl (Nat.le_of_ble_eq_true rfl) hm1 rfl rfl (by decide) hMO (fun v9 S2 hq => ?_) (fun E9 T9 hq => by obtain ⟨res, e, -⟩ := hq; cases e)
  obtain ⟨res, e, hth, hz, hJ⟩ := hq
  cases e
  show Wx _ G S2 855 [(5, .int (nI kd)), (0, .ref (gK G 5 0)), (1, .ref x), (2, .ref m), (3, .ref b), (4, .int (nI (7 * k)))] [.int res] _
  refine r_istore (lv' := [(6, .int res), (5, .int (nI kd)), (0, .ref (gK G 5 0)), (1, .ref x), (2, .ref m), (3, .ref b), (4, .int (nI (7 * k)))]) dL_law_855 (Nat.le_of_ble_eq_true rfl) rfl ?_
  refine r_aload_n dL_law_857 rfl 4 rfl ?_
  refine r_fnV (M2 := m_X13_thrown) (As := []) (rest := []) (v := some (.int (nI kd))) dL_law_858 cl_152 rfl rfl rfl (Nat.le_of_ble_eq_true rfl) hJ.m15 rfl rfl (by decide) hth rfl ?_
  refine r_iload dL_law_861 1 rfl ?_
  refine r_icmp_eqN (tgt := 868) dL_law_863 (by decide) (by omega) (by omega) (fun _ => ?_) (fun z => absurd rfl z)
  refine r_iload dL_law_868 1 rfl ?_
  refine r_if_neN (tgt := 885) dL_law_870 (by decide) (by omega) (fun _ => r_goto (tgt := 2750) dL_law_885 (by decide) (Wx.sub [2, 3, 4, 5, 6] rfl (kk S2 hJ))) (fun z => ?_)
  refine r_aload_n dL_law_873 rfl 5 rfl ?_
  refine r_iconst (v := nI 0) dL_law_874 (by decide) ?_
  refine r_lald dL_law_875 hJ.inp.1.1 (by rw [hJ.inp.1.2]; exact vp_in_nI (by decide) (by decide)) ?_
  rw [show zL S2 b (nI 0).toNatClampNeg = res.toInt64 from (by rw [nI_clamp (by decide)]; exact hz z)]
  refine r_iload dL_law_876 0 rfl ?_
  refine r_i2l dL_law_878 ?_
  refine r_lcmp dL_law_879 ?_
  refine Wx.top (cmp_self _) ?_
  exact r_if_eqN (tgt := 885) dL_law_880 (by decide) (by decide) (fun _ => r_goto (tgt := 2750) dL_law_885 (by decide) (Wx.sub [2, 3, 4, 5, 6] rfl (kk S2 hJ))) (fun z => absurd rfl z)
theorem w_make {G : GI} {S : Hp} {x m b a0 : Nat} {ip inp : Nat → Int32} {n0 n B0 U0 k : Nat} {Q : OV → Hp → Prop} (hSc : SCR G n inp) (h : JS S x m b a0 ip n0 B0 U0 k) (h1 : B0 + k + 1 ≤ gN G) (h2 : U0 + 6 * k + 6 ≤ gM G) (hk : k < 130000) (hi : 7 * k + 7 ≤ n) (hn : n < 2 ^ 31) (kk : ∀ S', JS S' x m b a0 ip n0 B0 U0 (k + 1) → Wx m_L_law G S' 2750 [(0, .ref (gK G 5 0)), (1, .ref x), (2, .ref m), (3, .ref b), (4, .int (nI (7 * k)))] [] Q) : Wx m_L_law G S 888 [(0, .ref (gK G 5 0)), (1, .ref x), (2, .ref m), (3, .ref b), (4, .int (nI (7 * k)))] [] Q := by
  refine r_aload_n dL_law_888 rfl 1 rfl ?_
  refine r_aload_n dL_law_889 rfl 0 rfl ?_
  refine r_iload dL_law_890 4 rfl ?_
  refine r_iconst (v := nI 1) dL_law_892 (by decide) ?_
  refine r_iaddN dL_law_893 ?_
  refine r_sld hSc dL_law_894 (vp_in_nI (by omega) (by omega)) ?_
  refine Wx.top (y := inp (7 * k + 1)) (by rw [nI_clamp (by omega)]) ?_
  refine r_aload_n dL_law_895 rfl 0 rfl ?_
  refine r_iload dL_law_896 4 rfl ?_
  refine r_iconst (v := nI 2) dL_law_898 (by decide) ?_
  refine r_iaddN dL_law_899 ?_
  refine r_sld hSc dL_law_900 (vp_in_nI (by omega) (by omega)) ?_
  refine Wx.top (y := inp (7 * k + 2)) (by rw [nI_clamp (by omega)]) ?_
  refine r_aload_n dL_law_901 rfl 0 rfl ?_
  refine r_iload dL_law_902 4 rfl ?_
  refine r_iconst (v := nI 3) dL_law_904 (by decide) ?_
  refine r_iaddN dL_law_905 ?_
  refine r_sld hSc dL_law_906 (vp_in_nI (by omega) (by omega)) ?_
  refine Wx.top (y := inp (7 * k + 3)) (by rw [nI_clamp (by omega)]) ?_
  refine r_aload_n dL_law_907 rfl 0 rfl ?_
  refine r_iload dL_law_908 4 rfl ?_
  refine r_iconst (v := nI 4) dL_law_910 (by decide) ?_
  refine r_iaddN dL_law_911 ?_
  refine r_sld hSc dL_law_912 (vp_in_nI (by omega) (by omega)) ?_
  refine Wx.top (y := inp (7 * k + 4)) (by rw [nI_clamp (by omega)]) ?_
  refine r_aload_n dL_law_913 rfl 0 rfl ?_
  refine r_iload dL_law_914 4 rfl ?_
  refine r_iconst (v := nI 5) dL_law_916 (by decide) ?_
  refine r_iaddN dL_law_917 ?_
  refine r_sld hSc dL_law_918 (vp_in_nI (by omega) (by omega)) ?_
  refine Wx.top (y := inp (7 * k + 5)) (by rw [nI_clamp (by omega)]) ?_
  refine r_aload_n dL_law_919 rfl 0 rfl ?_
  refine r_iload dL_law_920 4 rfl ?_
  refine r_bipush (v := nI 6) dL_law_922 (by decide) ?_
  refine r_iaddN dL_law_924 ?_
  refine r_sld hSc dL_law_925 (vp_in_nI (by omega) (by omega)) ?_
  refine Wx.top (y := inp (7 * k + 6)) (by rw [nI_clamp (by omega)]) ?_
  refine r_aload_n dL_law_926 rfl 3 rfl ?_
  refine r_callSX (M2 := m_L_make) (As := [.ref x, .int (inp (7 * k + 1)), .int (inp (7 * k + 2)), .int (inp (7 * k + 3)), .int (inp (7 * k + 4)), .int (inp (7 * k + 5)), .int (inp (7 * k + 6)), .ref b]) (rest := []) dL_law_927 cl_183 rfl rfl (Nat.le_of_ble_eq_true rfl) (j_make h h1 h2 hk) (fun v9 S1 hq => ?_) (fun E9 T9 hq => by obtain ⟨kd, -, e, -⟩ := hq; cases e)
  obtain ⟨kd, hkd, e, ⟨hm1, hb1, hb2, hb3⟩, hMO⟩ := hq
  cases e
  show Wx _ G S1 930 [(0, .ref (gK G 5 0)), (1, .ref x), (2, .ref m), (3, .ref b), (4, .int (nI (7 * k)))] [.int (nI kd)] _
  refine r_istore (lv' := [(5, .int (nI kd)), (0, .ref (gK G 5 0)), (1, .ref x), (2, .ref m), (3, .ref b), (4, .int (nI (7 * k)))]) dL_law_930 (Nat.le_of_ble_eq_true rfl) rfl ?_
  refine r_aload_n dL_law_932 rfl 3 rfl ?_
  refine r_aload_n dL_law_933 rfl 1 rfl ?_
  refine r_iload dL_law_934 5 rfl ?_
  refine r_iconst (v := nI 1) dL_law_936 (by decide) ?_
  refine r_iaddN dL_law_937 ?_
  refine r_sld hSc dL_law_938 (vp_in_nI (by omega) (by omega)) ?_
  refine Wx.top (y := inp (7 * k + 1)) (by rw [nI_clamp (by omega)]) ?_
  refine r_aload_n dL_law_939 rfl 1 rfl ?_
  refine r_iload dL_law_940 5 rfl ?_
  refine r_iconst (v := nI 2) dL_law_942 (by decide) ?_
  refine r_iaddN dL_law_943 ?_
  refine r_sld hSc dL_law_944 (vp_in_nI (by omega) (by omega)) ?_
  refine Wx.top (y := inp (7 * k + 2)) (by rw [nI_clamp (by omega)]) ?_
  refine r_aload_n dL_law_945 rfl 1 rfl ?_
  refine r_iload dL_law_946 5 rfl ?_
  refine r_iconst (v := nI 3) dL_law_948 (by decide) ?_
  refine r_iaddN dL_law_949 ?_
  refine r_sld hSc dL_law_950 (vp_in_nI (by omega) (by omega)) ?_
  refine Wx.top (y := inp (7 * k + 3)) (by rw [nI_clamp (by omega)]) ?_
  refine r_aload_n dL_law_951 rfl 1 rfl ?_
  refine r_iload dL_law_952 5 rfl ?_
  refine r_iconst (v := nI 4) dL_law_954 (by decide) ?_
  refine r_iaddN dL_law_955 ?_
  refine r_sld hSc dL_law_956 (vp_in_nI (by omega) (by omega)) ?_
  refine Wx.top (y := inp (7 * k + 4)) (by rw [nI_clamp (by omega)]) ?_
  refine r_aload_n dL_law_957 rfl 1 rfl ?_
  refine r_iload dL_law_958 5 rfl ?_
  refine r_iconst (v := nI 5) dL_law_960 (by decide) ?_
  refine r_iaddN dL_law_961 ?_
  refine r_sld hSc dL_law_962 (vp_in_nI (by omega) (by omega)) ?_
  refine Wx.top (y := inp (7 * k + 5)) (by rw [nI_clamp (by omega)]) ?_
  refine r_aload_n dL_law_963 rfl 1 rfl ?_
  refine r_iload dL_law_964 5 rfl ?_
  refine r_bipush (v := nI 6) dL_law_966 (by decide) ?_
  refine r_iaddN dL_law_968 ?_
  refine r_sld hSc dL_law_969 (vp_in_nI (by omega) (by omega)) ?_
  refine Wx.top (y := inp (7 * k + 6)) (by rw [nI_clamp (by omega)]) ?_
  refine r_callV (M2 := m_X13_make) (As := [.int (inp (7 * k + 1)), .int (inp (7 * k + 2)), .int (inp (7 * k + 3)), .int (inp (7 * k + 4)), .int (inp (7 * k + 5)), .int (inp (7 * k + 6))]) (rest := []) dL_law_970 cl_186 rfl rfl rfl (Nat.le_of_ble_eq_true rfl) hm1 rfl rfl (by decide) hMO (fun v9 S2 hq => ?_) (fun E9 T9 hq => by obtain ⟨res, e, -⟩ := hq; cases e)
  obtain ⟨res, e, hth, hz, hJ⟩ := hq
  cases e
  show Wx _ G S2 973 [(5, .int (nI kd)), (0, .ref (gK G 5 0)), (1, .ref x), (2, .ref m), (3, .ref b), (4, .int (nI (7 * k)))] [.int res] _
  refine r_istore (lv' := [(6, .int res), (5, .int (nI kd)), (0, .ref (gK G 5 0)), (1, .ref x), (2, .ref m), (3, .ref b), (4, .int (nI (7 * k)))]) dL_law_973 (Nat.le_of_ble_eq_true rfl) rfl ?_
  refine r_aload_n dL_law_975 rfl 4 rfl ?_
  refine r_fnV (M2 := m_X13_thrown) (As := []) (rest := []) (v := some (.int (nI kd))) dL_law_976 cl_152 rfl rfl rfl (Nat.le_of_ble_eq_true rfl) hJ.m15 rfl rfl (by decide) hth rfl ?_
  refine r_iload dL_law_979 1 rfl ?_
  refine r_icmp_eqN (tgt := 986) dL_law_981 (by decide) (by omega) (by omega) (fun _ => ?_) (fun z => absurd rfl z)
  refine r_iload dL_law_986 1 rfl ?_
  refine r_if_neN (tgt := 1003) dL_law_988 (by decide) (by omega) (fun _ => r_goto (tgt := 2750) dL_law_1003 (by decide) (Wx.sub [2, 3, 4, 5, 6] rfl (kk S2 hJ))) (fun z => ?_)
  refine r_aload_n dL_law_991 rfl 5 rfl ?_
  refine r_iconst (v := nI 0) dL_law_992 (by decide) ?_
  refine r_lald dL_law_993 hJ.inp.1.1 (by rw [hJ.inp.1.2]; exact vp_in_nI (by decide) (by decide)) ?_
  rw [show zL S2 b (nI 0).toNatClampNeg = res.toInt64 from (by rw [nI_clamp (by decide)]; exact hz z)]
  refine r_iload dL_law_994 0 rfl ?_
  refine r_i2l dL_law_996 ?_
  refine r_lcmp dL_law_997 ?_
  refine Wx.top (cmp_self _) ?_
  exact r_if_eqN (tgt := 1003) dL_law_998 (by decide) (by decide) (fun _ => r_goto (tgt := 2750) dL_law_1003 (by decide) (Wx.sub [2, 3, 4, 5, 6] rfl (kk S2 hJ))) (fun z => absurd rfl z)
theorem w_inspect {G : GI} {S : Hp} {x m b a0 : Nat} {ip inp : Nat → Int32} {n0 n B0 U0 k : Nat} {Q : OV → Hp → Prop} (hSc : SCR G n inp) (h : JS S x m b a0 ip n0 B0 U0 k) (h1 : B0 + k + 1 ≤ gN G) (h2 : U0 + 6 * k + 6 ≤ gM G) (hk : k < 130000) (hi : 7 * k + 7 ≤ n) (hn : n < 2 ^ 31) (kk : ∀ S', JS S' x m b a0 ip n0 B0 U0 (k + 1) → Wx m_L_law G S' 2750 [(0, .ref (gK G 5 0)), (1, .ref x), (2, .ref m), (3, .ref b), (4, .int (nI (7 * k)))] [] Q) : Wx m_L_law G S 1006 [(0, .ref (gK G 5 0)), (1, .ref x), (2, .ref m), (3, .ref b), (4, .int (nI (7 * k)))] [] Q := by
  refine r_aload_n dL_law_1006 rfl 1 rfl ?_
  refine r_aload_n dL_law_1007 rfl 0 rfl ?_
  refine r_iload dL_law_1008 4 rfl ?_
  refine r_iconst (v := nI 1) dL_law_1010 (by decide) ?_
  refine r_iaddN dL_law_1011 ?_
  refine r_sld hSc dL_law_1012 (vp_in_nI (by omega) (by omega)) ?_
  refine Wx.top (y := inp (7 * k + 1)) (by rw [nI_clamp (by omega)]) ?_
  refine r_aload_n dL_law_1013 rfl 3 rfl ?_
  refine r_callSX (M2 := m_L_inspect) (As := [.ref x, .int (inp (7 * k + 1)), .ref b]) (rest := []) dL_law_1014 cl_187 rfl rfl (Nat.le_of_ble_eq_true rfl) (j_inspect h h1 h2 hk) (fun v9 S1 hq => ?_) (fun E9 T9 hq => by obtain ⟨kd, -, e, -⟩ := hq; cases e)
  obtain ⟨kd, hkd, e, ⟨hm1, hb1, hb2, hb3⟩, hMO⟩ := hq
  cases e
  show Wx _ G S1 1017 [(0, .ref (gK G 5 0)), (1, .ref x), (2, .ref m), (3, .ref b), (4, .int (nI (7 * k)))] [.int (nI kd)] _
  refine r_istore (lv' := [(5, .int (nI kd)), (0, .ref (gK G 5 0)), (1, .ref x), (2, .ref m), (3, .ref b), (4, .int (nI (7 * k)))]) dL_law_1017 (Nat.le_of_ble_eq_true rfl) rfl ?_
  refine r_aload_n dL_law_1019 rfl 3 rfl ?_
  refine r_aload_n dL_law_1020 rfl 1 rfl ?_
  refine r_iload dL_law_1021 5 rfl ?_
  refine r_iconst (v := nI 1) dL_law_1023 (by decide) ?_
  refine r_iaddN dL_law_1024 ?_
  refine r_sld hSc dL_law_1025 (vp_in_nI (by omega) (by omega)) ?_
  refine Wx.top (y := inp (7 * k + 1)) (by rw [nI_clamp (by omega)]) ?_
  refine r_callV (M2 := m_X13_inspect) (As := [.int (inp (7 * k + 1))]) (rest := []) dL_law_1026 cl_189 rfl rfl rfl (Nat.le_of_ble_eq_true rfl) hm1 rfl rfl (by decide) hMO (fun v9 S2 hq => ?_) (fun E9 T9 hq => by obtain ⟨res, e, -⟩ := hq; cases e)
  obtain ⟨res, e, hth, hz, hJ⟩ := hq
  cases e
  show Wx _ G S2 1029 [(5, .int (nI kd)), (0, .ref (gK G 5 0)), (1, .ref x), (2, .ref m), (3, .ref b), (4, .int (nI (7 * k)))] [.int res] _
  refine r_istore (lv' := [(6, .int res), (5, .int (nI kd)), (0, .ref (gK G 5 0)), (1, .ref x), (2, .ref m), (3, .ref b), (4, .int (nI (7 * k)))]) dL_law_1029 (Nat.le_of_ble_eq_true rfl) rfl ?_
  refine r_aload_n dL_law_1031 rfl 4 rfl ?_
  refine r_fnV (M2 := m_X13_thrown) (As := []) (rest := []) (v := some (.int (nI kd))) dL_law_1032 cl_152 rfl rfl rfl (Nat.le_of_ble_eq_true rfl) hJ.m15 rfl rfl (by decide) hth rfl ?_
  refine r_iload dL_law_1035 1 rfl ?_
  refine r_icmp_eqN (tgt := 1042) dL_law_1037 (by decide) (by omega) (by omega) (fun _ => ?_) (fun z => absurd rfl z)
  refine r_iload dL_law_1042 1 rfl ?_
  refine r_if_neN (tgt := 1059) dL_law_1044 (by decide) (by omega) (fun _ => r_goto (tgt := 2750) dL_law_1059 (by decide) (Wx.sub [2, 3, 4, 5, 6] rfl (kk S2 hJ))) (fun z => ?_)
  refine r_aload_n dL_law_1047 rfl 5 rfl ?_
  refine r_iconst (v := nI 0) dL_law_1048 (by decide) ?_
  refine r_lald dL_law_1049 hJ.inp.1.1 (by rw [hJ.inp.1.2]; exact vp_in_nI (by decide) (by decide)) ?_
  rw [show zL S2 b (nI 0).toNatClampNeg = res.toInt64 from (by rw [nI_clamp (by decide)]; exact hz z)]
  refine r_iload dL_law_1050 0 rfl ?_
  refine r_i2l dL_law_1052 ?_
  refine r_lcmp dL_law_1053 ?_
  refine Wx.top (cmp_self _) ?_
  exact r_if_eqN (tgt := 1059) dL_law_1054 (by decide) (by decide) (fun _ => r_goto (tgt := 2750) dL_law_1059 (by decide) (Wx.sub [2, 3, 4, 5, 6] rfl (kk S2 hJ))) (fun z => absurd rfl z)
theorem w_sort {G : GI} {S : Hp} {x m b a0 : Nat} {ip inp : Nat → Int32} {n0 n B0 U0 k : Nat} {Q : OV → Hp → Prop} (hSc : SCR G n inp) (h : JS S x m b a0 ip n0 B0 U0 k) (h1 : B0 + k + 1 ≤ gN G) (h2 : U0 + 6 * k + 6 ≤ gM G) (hk : k < 130000) (hi : 7 * k + 7 ≤ n) (hn : n < 2 ^ 31) (kk : ∀ S', JS S' x m b a0 ip n0 B0 U0 (k + 1) → Wx m_L_law G S' 2750 [(0, .ref (gK G 5 0)), (1, .ref x), (2, .ref m), (3, .ref b), (4, .int (nI (7 * k)))] [] Q) : Wx m_L_law G S 1062 [(0, .ref (gK G 5 0)), (1, .ref x), (2, .ref m), (3, .ref b), (4, .int (nI (7 * k)))] [] Q := by
  refine r_aload_n dL_law_1062 rfl 1 rfl ?_
  refine r_aload_n dL_law_1063 rfl 0 rfl ?_
  refine r_iload dL_law_1064 4 rfl ?_
  refine r_iconst (v := nI 1) dL_law_1066 (by decide) ?_
  refine r_iaddN dL_law_1067 ?_
  refine r_sld hSc dL_law_1068 (vp_in_nI (by omega) (by omega)) ?_
  refine Wx.top (y := inp (7 * k + 1)) (by rw [nI_clamp (by omega)]) ?_
  refine r_aload_n dL_law_1069 rfl 3 rfl ?_
  refine r_callSX (M2 := m_L_sort) (As := [.ref x, .int (inp (7 * k + 1)), .ref b]) (rest := []) dL_law_1070 cl_190 rfl rfl (Nat.le_of_ble_eq_true rfl) (j_sort h h1 h2 hk) (fun v9 S1 hq => ?_) (fun E9 T9 hq => by obtain ⟨kd, -, e, -⟩ := hq; cases e)
  obtain ⟨kd, hkd, e, ⟨hm1, hb1, hb2, hb3⟩, hMO⟩ := hq
  cases e
  show Wx _ G S1 1073 [(0, .ref (gK G 5 0)), (1, .ref x), (2, .ref m), (3, .ref b), (4, .int (nI (7 * k)))] [.int (nI kd)] _
  refine r_istore (lv' := [(5, .int (nI kd)), (0, .ref (gK G 5 0)), (1, .ref x), (2, .ref m), (3, .ref b), (4, .int (nI (7 * k)))]) dL_law_1073 (Nat.le_of_ble_eq_true rfl) rfl ?_
  refine r_aload_n dL_law_1075 rfl 3 rfl ?_
  refine r_aload_n dL_law_1076 rfl 1 rfl ?_
  refine r_iload dL_law_1077 5 rfl ?_
  refine r_iconst (v := nI 1) dL_law_1079 (by decide) ?_
  refine r_iaddN dL_law_1080 ?_
  refine r_sld hSc dL_law_1081 (vp_in_nI (by omega) (by omega)) ?_
  refine Wx.top (y := inp (7 * k + 1)) (by rw [nI_clamp (by omega)]) ?_
  refine r_callV (M2 := m_X13_sort) (As := [.int (inp (7 * k + 1))]) (rest := []) dL_law_1082 cl_192 rfl rfl rfl (Nat.le_of_ble_eq_true rfl) hm1 rfl rfl (by decide) hMO (fun v9 S2 hq => ?_) (fun E9 T9 hq => by obtain ⟨res, e, -⟩ := hq; cases e)
  obtain ⟨res, e, hth, hz, hJ⟩ := hq
  cases e
  show Wx _ G S2 1085 [(5, .int (nI kd)), (0, .ref (gK G 5 0)), (1, .ref x), (2, .ref m), (3, .ref b), (4, .int (nI (7 * k)))] [.int res] _
  refine r_istore (lv' := [(6, .int res), (5, .int (nI kd)), (0, .ref (gK G 5 0)), (1, .ref x), (2, .ref m), (3, .ref b), (4, .int (nI (7 * k)))]) dL_law_1085 (Nat.le_of_ble_eq_true rfl) rfl ?_
  refine r_aload_n dL_law_1087 rfl 4 rfl ?_
  refine r_fnV (M2 := m_X13_thrown) (As := []) (rest := []) (v := some (.int (nI kd))) dL_law_1088 cl_152 rfl rfl rfl (Nat.le_of_ble_eq_true rfl) hJ.m15 rfl rfl (by decide) hth rfl ?_
  refine r_iload dL_law_1091 1 rfl ?_
  refine r_icmp_eqN (tgt := 1098) dL_law_1093 (by decide) (by omega) (by omega) (fun _ => ?_) (fun z => absurd rfl z)
  refine r_iload dL_law_1098 1 rfl ?_
  refine r_if_neN (tgt := 1115) dL_law_1100 (by decide) (by omega) (fun _ => r_goto (tgt := 2750) dL_law_1115 (by decide) (Wx.sub [2, 3, 4, 5, 6] rfl (kk S2 hJ))) (fun z => ?_)
  refine r_aload_n dL_law_1103 rfl 5 rfl ?_
  refine r_iconst (v := nI 0) dL_law_1104 (by decide) ?_
  refine r_lald dL_law_1105 hJ.inp.1.1 (by rw [hJ.inp.1.2]; exact vp_in_nI (by decide) (by decide)) ?_
  rw [show zL S2 b (nI 0).toNatClampNeg = res.toInt64 from (by rw [nI_clamp (by decide)]; exact hz z)]
  refine r_iload dL_law_1106 0 rfl ?_
  refine r_i2l dL_law_1108 ?_
  refine r_lcmp dL_law_1109 ?_
  refine Wx.top (cmp_self _) ?_
  exact r_if_eqN (tgt := 1115) dL_law_1110 (by decide) (by decide) (fun _ => r_goto (tgt := 2750) dL_law_1115 (by decide) (Wx.sub [2, 3, 4, 5, 6] rfl (kk S2 hJ))) (fun z => absurd rfl z)
theorem w_ship {G : GI} {S : Hp} {x m b a0 : Nat} {ip inp : Nat → Int32} {n0 n B0 U0 k : Nat} {Q : OV → Hp → Prop} (hSc : SCR G n inp) (h : JS S x m b a0 ip n0 B0 U0 k) (h1 : B0 + k + 1 ≤ gN G) (h2 : U0 + 6 * k + 6 ≤ gM G) (hk : k < 130000) (hi : 7 * k + 7 ≤ n) (hn : n < 2 ^ 31) (kk : ∀ S', JS S' x m b a0 ip n0 B0 U0 (k + 1) → Wx m_L_law G S' 2750 [(0, .ref (gK G 5 0)), (1, .ref x), (2, .ref m), (3, .ref b), (4, .int (nI (7 * k)))] [] Q) : Wx m_L_law G S 1118 [(0, .ref (gK G 5 0)), (1, .ref x), (2, .ref m), (3, .ref b), (4, .int (nI (7 * k)))] [] Q := by
  refine r_aload_n dL_law_1118 rfl 1 rfl ?_
  refine r_aload_n dL_law_1119 rfl 0 rfl ?_
  refine r_iload dL_law_1120 4 rfl ?_
  refine r_iconst (v := nI 1) dL_law_1122 (by decide) ?_
  refine r_iaddN dL_law_1123 ?_
  refine r_sld hSc dL_law_1124 (vp_in_nI (by omega) (by omega)) ?_
  refine Wx.top (y := inp (7 * k + 1)) (by rw [nI_clamp (by omega)]) ?_
  refine r_aload_n dL_law_1125 rfl 3 rfl ?_
  refine r_callSX (M2 := m_L_ship) (As := [.ref x, .int (inp (7 * k + 1)), .ref b]) (rest := []) dL_law_1126 cl_193 rfl rfl (Nat.le_of_ble_eq_true rfl) (j_ship h h1 h2 hk) (fun v9 S1 hq => ?_) (fun E9 T9 hq => by obtain ⟨kd, -, e, -⟩ := hq; cases e)
  obtain ⟨kd, hkd, e, ⟨hm1, hb1, hb2, hb3⟩, hMO⟩ := hq
  cases e
  show Wx _ G S1 1129 [(0, .ref (gK G 5 0)), (1, .ref x), (2, .ref m), (3, .ref b), (4, .int (nI (7 * k)))] [.int (nI kd)] _
  refine r_istore (lv' := [(5, .int (nI kd)), (0, .ref (gK G 5 0)), (1, .ref x), (2, .ref m), (3, .ref b), (4, .int (nI (7 * k)))]) dL_law_1129 (Nat.le_of_ble_eq_true rfl) rfl ?_
  refine r_aload_n dL_law_1131 rfl 3 rfl ?_
  refine r_aload_n dL_law_1132 rfl 1 rfl ?_
  refine r_iload dL_law_1133 5 rfl ?_
  refine r_iconst (v := nI 1) dL_law_1135 (by decide) ?_
  refine r_iaddN dL_law_1136 ?_
  refine r_sld hSc dL_law_1137 (vp_in_nI (by omega) (by omega)) ?_
  refine Wx.top (y := inp (7 * k + 1)) (by rw [nI_clamp (by omega)]) ?_
  refine r_callV (M2 := m_X13_ship) (As := [.int (inp (7 * k + 1))]) (rest := []) dL_law_1138 cl_195 rfl rfl rfl (Nat.le_of_ble_eq_true rfl) hm1 rfl rfl (by decide) hMO (fun v9 S2 hq => ?_) (fun E9 T9 hq => by obtain ⟨res, e, -⟩ := hq; cases e)
  obtain ⟨res, e, hth, hz, hJ⟩ := hq
  cases e
  show Wx _ G S2 1141 [(5, .int (nI kd)), (0, .ref (gK G 5 0)), (1, .ref x), (2, .ref m), (3, .ref b), (4, .int (nI (7 * k)))] [.int res] _
  refine r_istore (lv' := [(6, .int res), (5, .int (nI kd)), (0, .ref (gK G 5 0)), (1, .ref x), (2, .ref m), (3, .ref b), (4, .int (nI (7 * k)))]) dL_law_1141 (Nat.le_of_ble_eq_true rfl) rfl ?_
  refine r_aload_n dL_law_1143 rfl 4 rfl ?_
  refine r_fnV (M2 := m_X13_thrown) (As := []) (rest := []) (v := some (.int (nI kd))) dL_law_1144 cl_152 rfl rfl rfl (Nat.le_of_ble_eq_true rfl) hJ.m15 rfl rfl (by decide) hth rfl ?_
  refine r_iload dL_law_1147 1 rfl ?_
  refine r_icmp_eqN (tgt := 1154) dL_law_1149 (by decide) (by omega) (by omega) (fun _ => ?_) (fun z => absurd rfl z)
  refine r_iload dL_law_1154 1 rfl ?_
  refine r_if_neN (tgt := 1171) dL_law_1156 (by decide) (by omega) (fun _ => r_goto (tgt := 2750) dL_law_1171 (by decide) (Wx.sub [2, 3, 4, 5, 6] rfl (kk S2 hJ))) (fun z => ?_)
  refine r_aload_n dL_law_1159 rfl 5 rfl ?_
  refine r_iconst (v := nI 0) dL_law_1160 (by decide) ?_
  refine r_lald dL_law_1161 hJ.inp.1.1 (by rw [hJ.inp.1.2]; exact vp_in_nI (by decide) (by decide)) ?_
  rw [show zL S2 b (nI 0).toNatClampNeg = res.toInt64 from (by rw [nI_clamp (by decide)]; exact hz z)]
  refine r_iload dL_law_1162 0 rfl ?_
  refine r_i2l dL_law_1164 ?_
  refine r_lcmp dL_law_1165 ?_
  refine Wx.top (cmp_self _) ?_
  exact r_if_eqN (tgt := 1171) dL_law_1166 (by decide) (by decide) (fun _ => r_goto (tgt := 2750) dL_law_1171 (by decide) (Wx.sub [2, 3, 4, 5, 6] rfl (kk S2 hJ))) (fun z => absurd rfl z)
theorem w_complain {G : GI} {S : Hp} {x m b a0 : Nat} {ip inp : Nat → Int32} {n0 n B0 U0 k : Nat} {Q : OV → Hp → Prop} (hSc : SCR G n inp) (h : JS S x m b a0 ip n0 B0 U0 k) (h1 : B0 + k + 1 ≤ gN G) (h2 : U0 + 6 * k + 6 ≤ gM G) (hk : k < 130000) (hi : 7 * k + 7 ≤ n) (hn : n < 2 ^ 31) (kk : ∀ S', JS S' x m b a0 ip n0 B0 U0 (k + 1) → Wx m_L_law G S' 2750 [(0, .ref (gK G 5 0)), (1, .ref x), (2, .ref m), (3, .ref b), (4, .int (nI (7 * k)))] [] Q) : Wx m_L_law G S 1174 [(0, .ref (gK G 5 0)), (1, .ref x), (2, .ref m), (3, .ref b), (4, .int (nI (7 * k)))] [] Q := by
  refine r_aload_n dL_law_1174 rfl 1 rfl ?_
  refine r_aload_n dL_law_1175 rfl 0 rfl ?_
  refine r_iload dL_law_1176 4 rfl ?_
  refine r_iconst (v := nI 1) dL_law_1178 (by decide) ?_
  refine r_iaddN dL_law_1179 ?_
  refine r_sld hSc dL_law_1180 (vp_in_nI (by omega) (by omega)) ?_
  refine Wx.top (y := inp (7 * k + 1)) (by rw [nI_clamp (by omega)]) ?_
  refine r_aload_n dL_law_1181 rfl 0 rfl ?_
  refine r_iload dL_law_1182 4 rfl ?_
  refine r_iconst (v := nI 2) dL_law_1184 (by decide) ?_
  refine r_iaddN dL_law_1185 ?_
  refine r_sld hSc dL_law_1186 (vp_in_nI (by omega) (by omega)) ?_
  refine Wx.top (y := inp (7 * k + 2)) (by rw [nI_clamp (by omega)]) ?_
  refine r_aload_n dL_law_1187 rfl 3 rfl ?_
  refine r_callSX (M2 := m_L_complain) (As := [.ref x, .int (inp (7 * k + 1)), .int (inp (7 * k + 2)), .ref b]) (rest := []) dL_law_1188 cl_196 rfl rfl (Nat.le_of_ble_eq_true rfl) (j_complain h h1 h2 hk) (fun v9 S1 hq => ?_) (fun E9 T9 hq => by obtain ⟨kd, -, e, -⟩ := hq; cases e)
  obtain ⟨kd, hkd, e, ⟨hm1, hb1, hb2, hb3⟩, hMO⟩ := hq
  cases e
  show Wx _ G S1 1191 [(0, .ref (gK G 5 0)), (1, .ref x), (2, .ref m), (3, .ref b), (4, .int (nI (7 * k)))] [.int (nI kd)] _
  refine r_istore (lv' := [(5, .int (nI kd)), (0, .ref (gK G 5 0)), (1, .ref x), (2, .ref m), (3, .ref b), (4, .int (nI (7 * k)))]) dL_law_1191 (Nat.le_of_ble_eq_true rfl) rfl ?_
  refine r_aload_n dL_law_1193 rfl 3 rfl ?_
  refine r_aload_n dL_law_1194 rfl 1 rfl ?_
  refine r_iload dL_law_1195 5 rfl ?_
  refine r_iconst (v := nI 1) dL_law_1197 (by decide) ?_
  refine r_iaddN dL_law_1198 ?_
  refine r_sld hSc dL_law_1199 (vp_in_nI (by omega) (by omega)) ?_
  refine Wx.top (y := inp (7 * k + 1)) (by rw [nI_clamp (by omega)]) ?_
  refine r_aload_n dL_law_1200 rfl 1 rfl ?_
  refine r_iload dL_law_1201 5 rfl ?_
  refine r_iconst (v := nI 2) dL_law_1203 (by decide) ?_
  refine r_iaddN dL_law_1204 ?_
  refine r_sld hSc dL_law_1205 (vp_in_nI (by omega) (by omega)) ?_
  refine Wx.top (y := inp (7 * k + 2)) (by rw [nI_clamp (by omega)]) ?_
  refine r_callV (M2 := m_X13_complain) (As := [.int (inp (7 * k + 1)), .int (inp (7 * k + 2))]) (rest := []) dL_law_1206 cl_198 rfl rfl rfl (Nat.le_of_ble_eq_true rfl) hm1 rfl rfl (by decide) hMO (fun v9 S2 hq => ?_) (fun E9 T9 hq => by obtain ⟨res, e, -⟩ := hq; cases e)
  obtain ⟨res, e, hth, hz, hJ⟩ := hq
  cases e
  show Wx _ G S2 1209 [(5, .int (nI kd)), (0, .ref (gK G 5 0)), (1, .ref x), (2, .ref m), (3, .ref b), (4, .int (nI (7 * k)))] [.int res] _
  refine r_istore (lv' := [(6, .int res), (5, .int (nI kd)), (0, .ref (gK G 5 0)), (1, .ref x), (2, .ref m), (3, .ref b), (4, .int (nI (7 * k)))]) dL_law_1209 (Nat.le_of_ble_eq_true rfl) rfl ?_
  refine r_aload_n dL_law_1211 rfl 4 rfl ?_
  refine r_fnV (M2 := m_X13_thrown) (As := []) (rest := []) (v := some (.int (nI kd))) dL_law_1212 cl_152 rfl rfl rfl (Nat.le_of_ble_eq_true rfl) hJ.m15 rfl rfl (by decide) hth rfl ?_
  refine r_iload dL_law_1215 1 rfl ?_
  refine r_icmp_eqN (tgt := 1222) dL_law_1217 (by decide) (by omega) (by omega) (fun _ => ?_) (fun z => absurd rfl z)
  refine r_iload dL_law_1222 1 rfl ?_
  refine r_if_neN (tgt := 1239) dL_law_1224 (by decide) (by omega) (fun _ => r_goto (tgt := 2750) dL_law_1239 (by decide) (Wx.sub [2, 3, 4, 5, 6] rfl (kk S2 hJ))) (fun z => ?_)
  refine r_aload_n dL_law_1227 rfl 5 rfl ?_
  refine r_iconst (v := nI 0) dL_law_1228 (by decide) ?_
  refine r_lald dL_law_1229 hJ.inp.1.1 (by rw [hJ.inp.1.2]; exact vp_in_nI (by decide) (by decide)) ?_
  rw [show zL S2 b (nI 0).toNatClampNeg = res.toInt64 from (by rw [nI_clamp (by decide)]; exact hz z)]
  refine r_iload dL_law_1230 0 rfl ?_
  refine r_i2l dL_law_1232 ?_
  refine r_lcmp dL_law_1233 ?_
  refine Wx.top (cmp_self _) ?_
  exact r_if_eqN (tgt := 1239) dL_law_1234 (by decide) (by decide) (fun _ => r_goto (tgt := 2750) dL_law_1239 (by decide) (Wx.sub [2, 3, 4, 5, 6] rfl (kk S2 hJ))) (fun z => absurd rfl z)
theorem w_lot {G : GI} {S : Hp} {x m b a0 : Nat} {ip inp : Nat → Int32} {n0 n B0 U0 k : Nat} {Q : OV → Hp → Prop} (hSc : SCR G n inp) (h : JS S x m b a0 ip n0 B0 U0 k) (h1 : B0 + k + 1 ≤ gN G) (h2 : U0 + 6 * k + 6 ≤ gM G) (hk : k < 130000) (hi : 7 * k + 7 ≤ n) (hn : n < 2 ^ 31) (kk : ∀ S', JS S' x m b a0 ip n0 B0 U0 (k + 1) → Wx m_L_law G S' 2750 [(0, .ref (gK G 5 0)), (1, .ref x), (2, .ref m), (3, .ref b), (4, .int (nI (7 * k)))] [] Q) : Wx m_L_law G S 1242 [(0, .ref (gK G 5 0)), (1, .ref x), (2, .ref m), (3, .ref b), (4, .int (nI (7 * k)))] [] Q := by
  refine r_aload_n dL_law_1242 rfl 1 rfl ?_
  refine r_aload_n dL_law_1243 rfl 0 rfl ?_
  refine r_iload dL_law_1244 4 rfl ?_
  refine r_iconst (v := nI 1) dL_law_1246 (by decide) ?_
  refine r_iaddN dL_law_1247 ?_
  refine r_sld hSc dL_law_1248 (vp_in_nI (by omega) (by omega)) ?_
  refine Wx.top (y := inp (7 * k + 1)) (by rw [nI_clamp (by omega)]) ?_
  refine r_aload_n dL_law_1249 rfl 0 rfl ?_
  refine r_iload dL_law_1250 4 rfl ?_
  refine r_iconst (v := nI 2) dL_law_1252 (by decide) ?_
  refine r_iaddN dL_law_1253 ?_
  refine r_sld hSc dL_law_1254 (vp_in_nI (by omega) (by omega)) ?_
  refine Wx.top (y := inp (7 * k + 2)) (by rw [nI_clamp (by omega)]) ?_
  refine r_aload_n dL_law_1255 rfl 3 rfl ?_
  refine r_callSX (M2 := m_L_lot) (As := [.ref x, .int (inp (7 * k + 1)), .int (inp (7 * k + 2)), .ref b]) (rest := []) dL_law_1256 cl_199 rfl rfl (Nat.le_of_ble_eq_true rfl) (j_lot h h1 h2 hk) (fun v9 S1 hq => ?_) (fun E9 T9 hq => by obtain ⟨kd, -, e, -⟩ := hq; cases e)
  obtain ⟨kd, hkd, e, ⟨hm1, hb1, hb2, hb3⟩, hMO⟩ := hq
  cases e
  show Wx _ G S1 1259 [(0, .ref (gK G 5 0)), (1, .ref x), (2, .ref m), (3, .ref b), (4, .int (nI (7 * k)))] [.int (nI kd)] _
  refine r_istore (lv' := [(5, .int (nI kd)), (0, .ref (gK G 5 0)), (1, .ref x), (2, .ref m), (3, .ref b), (4, .int (nI (7 * k)))]) dL_law_1259 (Nat.le_of_ble_eq_true rfl) rfl ?_
  refine r_aload_n dL_law_1261 rfl 3 rfl ?_
  refine r_aload_n dL_law_1262 rfl 1 rfl ?_
  refine r_iload dL_law_1263 5 rfl ?_
  refine r_iconst (v := nI 1) dL_law_1265 (by decide) ?_
  refine r_iaddN dL_law_1266 ?_
  refine r_sld hSc dL_law_1267 (vp_in_nI (by omega) (by omega)) ?_
  refine Wx.top (y := inp (7 * k + 1)) (by rw [nI_clamp (by omega)]) ?_
  refine r_aload_n dL_law_1268 rfl 1 rfl ?_
  refine r_iload dL_law_1269 5 rfl ?_
  refine r_iconst (v := nI 2) dL_law_1271 (by decide) ?_
  refine r_iaddN dL_law_1272 ?_
  refine r_sld hSc dL_law_1273 (vp_in_nI (by omega) (by omega)) ?_
  refine Wx.top (y := inp (7 * k + 2)) (by rw [nI_clamp (by omega)]) ?_
  refine r_callV (M2 := m_X13_lot) (As := [.int (inp (7 * k + 1)), .int (inp (7 * k + 2))]) (rest := []) dL_law_1274 cl_201 rfl rfl rfl (Nat.le_of_ble_eq_true rfl) hm1 rfl rfl (by decide) hMO (fun v9 S2 hq => ?_) (fun E9 T9 hq => by obtain ⟨res, e, -⟩ := hq; cases e)
  obtain ⟨res, e, hth, hz, hJ⟩ := hq
  cases e
  show Wx _ G S2 1277 [(5, .int (nI kd)), (0, .ref (gK G 5 0)), (1, .ref x), (2, .ref m), (3, .ref b), (4, .int (nI (7 * k)))] [.int res] _
  refine r_istore (lv' := [(6, .int res), (5, .int (nI kd)), (0, .ref (gK G 5 0)), (1, .ref x), (2, .ref m), (3, .ref b), (4, .int (nI (7 * k)))]) dL_law_1277 (Nat.le_of_ble_eq_true rfl) rfl ?_
  refine r_aload_n dL_law_1279 rfl 4 rfl ?_
  refine r_fnV (M2 := m_X13_thrown) (As := []) (rest := []) (v := some (.int (nI kd))) dL_law_1280 cl_152 rfl rfl rfl (Nat.le_of_ble_eq_true rfl) hJ.m15 rfl rfl (by decide) hth rfl ?_
  refine r_iload dL_law_1283 1 rfl ?_
  refine r_icmp_eqN (tgt := 1290) dL_law_1285 (by decide) (by omega) (by omega) (fun _ => ?_) (fun z => absurd rfl z)
  refine r_iload dL_law_1290 1 rfl ?_
  refine r_if_neN (tgt := 1307) dL_law_1292 (by decide) (by omega) (fun _ => r_goto (tgt := 2750) dL_law_1307 (by decide) (Wx.sub [2, 3, 4, 5, 6] rfl (kk S2 hJ))) (fun z => ?_)
  refine r_aload_n dL_law_1295 rfl 5 rfl ?_
  refine r_iconst (v := nI 0) dL_law_1296 (by decide) ?_
  refine r_lald dL_law_1297 hJ.inp.1.1 (by rw [hJ.inp.1.2]; exact vp_in_nI (by decide) (by decide)) ?_
  rw [show zL S2 b (nI 0).toNatClampNeg = res.toInt64 from (by rw [nI_clamp (by decide)]; exact hz z)]
  refine r_iload dL_law_1298 0 rfl ?_
  refine r_i2l dL_law_1300 ?_
  refine r_lcmp dL_law_1301 ?_
  refine Wx.top (cmp_self _) ?_
  exact r_if_eqN (tgt := 1307) dL_law_1302 (by decide) (by decide) (fun _ => r_goto (tgt := 2750) dL_law_1307 (by decide) (Wx.sub [2, 3, 4, 5, 6] rfl (kk S2 hJ))) (fun z => absurd rfl z)
theorem w_units {G : GI} {S : Hp} {x m b a0 : Nat} {ip inp : Nat → Int32} {n0 n B0 U0 k : Nat} {Q : OV → Hp → Prop} (hSc : SCR G n inp) (h : JS S x m b a0 ip n0 B0 U0 k) (h1 : B0 + k + 1 ≤ gN G) (h2 : U0 + 6 * k + 6 ≤ gM G) (hk : k < 130000) (hi : 7 * k + 7 ≤ n) (hn : n < 2 ^ 31) (kk : ∀ S', JS S' x m b a0 ip n0 B0 U0 (k + 1) → Wx m_L_law G S' 2750 [(0, .ref (gK G 5 0)), (1, .ref x), (2, .ref m), (3, .ref b), (4, .int (nI (7 * k)))] [] Q) : Wx m_L_law G S 1310 [(0, .ref (gK G 5 0)), (1, .ref x), (2, .ref m), (3, .ref b), (4, .int (nI (7 * k)))] [] Q := by
  refine r_aload_n dL_law_1310 rfl 1 rfl ?_
  refine r_aload_n dL_law_1311 rfl 0 rfl ?_
  refine r_iload dL_law_1312 4 rfl ?_
  refine r_iconst (v := nI 1) dL_law_1314 (by decide) ?_
  refine r_iaddN dL_law_1315 ?_
  refine r_sld hSc dL_law_1316 (vp_in_nI (by omega) (by omega)) ?_
  refine Wx.top (y := inp (7 * k + 1)) (by rw [nI_clamp (by omega)]) ?_
  refine r_aload_n dL_law_1317 rfl 0 rfl ?_
  refine r_iload dL_law_1318 4 rfl ?_
  refine r_iconst (v := nI 2) dL_law_1320 (by decide) ?_
  refine r_iaddN dL_law_1321 ?_
  refine r_sld hSc dL_law_1322 (vp_in_nI (by omega) (by omega)) ?_
  refine Wx.top (y := inp (7 * k + 2)) (by rw [nI_clamp (by omega)]) ?_
  refine r_aload_n dL_law_1323 rfl 3 rfl ?_
  refine r_callSX (M2 := m_L_units) (As := [.ref x, .int (inp (7 * k + 1)), .int (inp (7 * k + 2)), .ref b]) (rest := []) dL_law_1324 cl_202 rfl rfl (Nat.le_of_ble_eq_true rfl) (j_units h h1 h2 hk) (fun v9 S1 hq => ?_) (fun E9 T9 hq => by obtain ⟨kd, -, e, -⟩ := hq; cases e)
  obtain ⟨kd, hkd, e, ⟨hm1, hb1, hb2, hb3⟩, hMO⟩ := hq
  cases e
  show Wx _ G S1 1327 [(0, .ref (gK G 5 0)), (1, .ref x), (2, .ref m), (3, .ref b), (4, .int (nI (7 * k)))] [.int (nI kd)] _
  refine r_istore (lv' := [(5, .int (nI kd)), (0, .ref (gK G 5 0)), (1, .ref x), (2, .ref m), (3, .ref b), (4, .int (nI (7 * k)))]) dL_law_1327 (Nat.le_of_ble_eq_true rfl) rfl ?_
  refine r_aload_n dL_law_1329 rfl 3 rfl ?_
  refine r_aload_n dL_law_1330 rfl 1 rfl ?_
  refine r_iload dL_law_1331 5 rfl ?_
  refine r_iconst (v := nI 1) dL_law_1333 (by decide) ?_
  refine r_iaddN dL_law_1334 ?_
  refine r_sld hSc dL_law_1335 (vp_in_nI (by omega) (by omega)) ?_
  refine Wx.top (y := inp (7 * k + 1)) (by rw [nI_clamp (by omega)]) ?_
  refine r_aload_n dL_law_1336 rfl 1 rfl ?_
  refine r_iload dL_law_1337 5 rfl ?_
  refine r_iconst (v := nI 2) dL_law_1339 (by decide) ?_
  refine r_iaddN dL_law_1340 ?_
  refine r_sld hSc dL_law_1341 (vp_in_nI (by omega) (by omega)) ?_
  refine Wx.top (y := inp (7 * k + 2)) (by rw [nI_clamp (by omega)]) ?_
  refine r_callV (M2 := m_X13_units) (As := [.int (inp (7 * k + 1)), .int (inp (7 * k + 2))]) (rest := []) dL_law_1342 cl_204 rfl rfl rfl (Nat.le_of_ble_eq_true rfl) hm1 rfl rfl (by decide) hMO (fun v9 S2 hq => ?_) (fun E9 T9 hq => by obtain ⟨res, e, -⟩ := hq; cases e)
  obtain ⟨res, e, hth, hz, hJ⟩ := hq
  cases e
  show Wx _ G S2 1345 [(5, .int (nI kd)), (0, .ref (gK G 5 0)), (1, .ref x), (2, .ref m), (3, .ref b), (4, .int (nI (7 * k)))] [.int res] _
  refine r_istore (lv' := [(6, .int res), (5, .int (nI kd)), (0, .ref (gK G 5 0)), (1, .ref x), (2, .ref m), (3, .ref b), (4, .int (nI (7 * k)))]) dL_law_1345 (Nat.le_of_ble_eq_true rfl) rfl ?_
  refine r_aload_n dL_law_1347 rfl 4 rfl ?_
  refine r_fnV (M2 := m_X13_thrown) (As := []) (rest := []) (v := some (.int (nI kd))) dL_law_1348 cl_152 rfl rfl rfl (Nat.le_of_ble_eq_true rfl) hJ.m15 rfl rfl (by decide) hth rfl ?_
  refine r_iload dL_law_1351 1 rfl ?_
  refine r_icmp_eqN (tgt := 1358) dL_law_1353 (by decide) (by omega) (by omega) (fun _ => ?_) (fun z => absurd rfl z)
  refine r_iload dL_law_1358 1 rfl ?_
  refine r_if_neN (tgt := 1375) dL_law_1360 (by decide) (by omega) (fun _ => r_goto (tgt := 2750) dL_law_1375 (by decide) (Wx.sub [2, 3, 4, 5, 6] rfl (kk S2 hJ))) (fun z => ?_)
  refine r_aload_n dL_law_1363 rfl 5 rfl ?_
  refine r_iconst (v := nI 0) dL_law_1364 (by decide) ?_
  refine r_lald dL_law_1365 hJ.inp.1.1 (by rw [hJ.inp.1.2]; exact vp_in_nI (by decide) (by decide)) ?_
  rw [show zL S2 b (nI 0).toNatClampNeg = res.toInt64 from (by rw [nI_clamp (by decide)]; exact hz z)]
  refine r_iload dL_law_1366 0 rfl ?_
  refine r_i2l dL_law_1368 ?_
  refine r_lcmp dL_law_1369 ?_
  refine Wx.top (cmp_self _) ?_
  exact r_if_eqN (tgt := 1375) dL_law_1370 (by decide) (by decide) (fun _ => r_goto (tgt := 2750) dL_law_1375 (by decide) (Wx.sub [2, 3, 4, 5, 6] rfl (kk S2 hJ))) (fun z => absurd rfl z)
theorem w_unit {G : GI} {S : Hp} {x m b a0 : Nat} {ip inp : Nat → Int32} {n0 n B0 U0 k : Nat} {Q : OV → Hp → Prop} (hSc : SCR G n inp) (h : JS S x m b a0 ip n0 B0 U0 k) (h1 : B0 + k + 1 ≤ gN G) (h2 : U0 + 6 * k + 6 ≤ gM G) (hk : k < 130000) (hi : 7 * k + 7 ≤ n) (hn : n < 2 ^ 31) (kk : ∀ S', JS S' x m b a0 ip n0 B0 U0 (k + 1) → Wx m_L_law G S' 2750 [(0, .ref (gK G 5 0)), (1, .ref x), (2, .ref m), (3, .ref b), (4, .int (nI (7 * k)))] [] Q) : Wx m_L_law G S 1378 [(0, .ref (gK G 5 0)), (1, .ref x), (2, .ref m), (3, .ref b), (4, .int (nI (7 * k)))] [] Q := by
  refine r_aload_n dL_law_1378 rfl 1 rfl ?_
  refine r_aload_n dL_law_1379 rfl 0 rfl ?_
  refine r_iload dL_law_1380 4 rfl ?_
  refine r_iconst (v := nI 1) dL_law_1382 (by decide) ?_
  refine r_iaddN dL_law_1383 ?_
  refine r_sld hSc dL_law_1384 (vp_in_nI (by omega) (by omega)) ?_
  refine Wx.top (y := inp (7 * k + 1)) (by rw [nI_clamp (by omega)]) ?_
  refine r_aload_n dL_law_1385 rfl 0 rfl ?_
  refine r_iload dL_law_1386 4 rfl ?_
  refine r_iconst (v := nI 2) dL_law_1388 (by decide) ?_
  refine r_iaddN dL_law_1389 ?_
  refine r_sld hSc dL_law_1390 (vp_in_nI (by omega) (by omega)) ?_
  refine Wx.top (y := inp (7 * k + 2)) (by rw [nI_clamp (by omega)]) ?_
  refine r_aload_n dL_law_1391 rfl 0 rfl ?_
  refine r_iload dL_law_1392 4 rfl ?_
  refine r_iconst (v := nI 3) dL_law_1394 (by decide) ?_
  refine r_iaddN dL_law_1395 ?_
  refine r_sld hSc dL_law_1396 (vp_in_nI (by omega) (by omega)) ?_
  refine Wx.top (y := inp (7 * k + 3)) (by rw [nI_clamp (by omega)]) ?_
  refine r_aload_n dL_law_1397 rfl 3 rfl ?_
  refine r_callSX (M2 := m_L_unit) (As := [.ref x, .int (inp (7 * k + 1)), .int (inp (7 * k + 2)), .int (inp (7 * k + 3)), .ref b]) (rest := []) dL_law_1398 cl_205 rfl rfl (Nat.le_of_ble_eq_true rfl) (j_unit h h1 h2 hk) (fun v9 S1 hq => ?_) (fun E9 T9 hq => by obtain ⟨kd, -, e, -⟩ := hq; cases e)
  obtain ⟨kd, hkd, e, ⟨hm1, hb1, hb2, hb3⟩, hMO⟩ := hq
  cases e
  show Wx _ G S1 1401 [(0, .ref (gK G 5 0)), (1, .ref x), (2, .ref m), (3, .ref b), (4, .int (nI (7 * k)))] [.int (nI kd)] _
  refine r_istore (lv' := [(5, .int (nI kd)), (0, .ref (gK G 5 0)), (1, .ref x), (2, .ref m), (3, .ref b), (4, .int (nI (7 * k)))]) dL_law_1401 (Nat.le_of_ble_eq_true rfl) rfl ?_
  refine r_aload_n dL_law_1403 rfl 3 rfl ?_
  refine r_aload_n dL_law_1404 rfl 1 rfl ?_
  refine r_iload dL_law_1405 5 rfl ?_
  refine r_iconst (v := nI 1) dL_law_1407 (by decide) ?_
  refine r_iaddN dL_law_1408 ?_
  refine r_sld hSc dL_law_1409 (vp_in_nI (by omega) (by omega)) ?_
  refine Wx.top (y := inp (7 * k + 1)) (by rw [nI_clamp (by omega)]) ?_
  refine r_aload_n dL_law_1410 rfl 1 rfl ?_
  refine r_iload dL_law_1411 5 rfl ?_
  refine r_iconst (v := nI 2) dL_law_1413 (by decide) ?_
  refine r_iaddN dL_law_1414 ?_
  refine r_sld hSc dL_law_1415 (vp_in_nI (by omega) (by omega)) ?_
  refine Wx.top (y := inp (7 * k + 2)) (by rw [nI_clamp (by omega)]) ?_
  refine r_aload_n dL_law_1416 rfl 1 rfl ?_
  refine r_iload dL_law_1417 5 rfl ?_
  refine r_iconst (v := nI 3) dL_law_1419 (by decide) ?_
  refine r_iaddN dL_law_1420 ?_
  refine r_sld hSc dL_law_1421 (vp_in_nI (by omega) (by omega)) ?_
  refine Wx.top (y := inp (7 * k + 3)) (by rw [nI_clamp (by omega)]) ?_
  refine r_callV (M2 := m_X13_unit) (As := [.int (inp (7 * k + 1)), .int (inp (7 * k + 2)), .int (inp (7 * k + 3))]) (rest := []) dL_law_1422 cl_207 rfl rfl rfl (Nat.le_of_ble_eq_true rfl) hm1 rfl rfl (by decide) hMO (fun v9 S2 hq => ?_) (fun E9 T9 hq => by obtain ⟨res, e, -⟩ := hq; cases e)
  obtain ⟨res, e, hth, hz, hJ⟩ := hq
  cases e
  show Wx _ G S2 1425 [(5, .int (nI kd)), (0, .ref (gK G 5 0)), (1, .ref x), (2, .ref m), (3, .ref b), (4, .int (nI (7 * k)))] [.int res] _
  refine r_istore (lv' := [(6, .int res), (5, .int (nI kd)), (0, .ref (gK G 5 0)), (1, .ref x), (2, .ref m), (3, .ref b), (4, .int (nI (7 * k)))]) dL_law_1425 (Nat.le_of_ble_eq_true rfl) rfl ?_
  refine r_aload_n dL_law_1427 rfl 4 rfl ?_
  refine r_fnV (M2 := m_X13_thrown) (As := []) (rest := []) (v := some (.int (nI kd))) dL_law_1428 cl_152 rfl rfl rfl (Nat.le_of_ble_eq_true rfl) hJ.m15 rfl rfl (by decide) hth rfl ?_
  refine r_iload dL_law_1431 1 rfl ?_
  refine r_icmp_eqN (tgt := 1438) dL_law_1433 (by decide) (by omega) (by omega) (fun _ => ?_) (fun z => absurd rfl z)
  refine r_iload dL_law_1438 1 rfl ?_
  refine r_if_neN (tgt := 1455) dL_law_1440 (by decide) (by omega) (fun _ => r_goto (tgt := 2750) dL_law_1455 (by decide) (Wx.sub [2, 3, 4, 5, 6] rfl (kk S2 hJ))) (fun z => ?_)
  refine r_aload_n dL_law_1443 rfl 5 rfl ?_
  refine r_iconst (v := nI 0) dL_law_1444 (by decide) ?_
  refine r_lald dL_law_1445 hJ.inp.1.1 (by rw [hJ.inp.1.2]; exact vp_in_nI (by decide) (by decide)) ?_
  rw [show zL S2 b (nI 0).toNatClampNeg = res.toInt64 from (by rw [nI_clamp (by decide)]; exact hz z)]
  refine r_iload dL_law_1446 0 rfl ?_
  refine r_i2l dL_law_1448 ?_
  refine r_lcmp dL_law_1449 ?_
  refine Wx.top (cmp_self _) ?_
  exact r_if_eqN (tgt := 1455) dL_law_1450 (by decide) (by decide) (fun _ => r_goto (tgt := 2750) dL_law_1455 (by decide) (Wx.sub [2, 3, 4, 5, 6] rfl (kk S2 hJ))) (fun z => absurd rfl z)
theorem w_chance {G : GI} {S : Hp} {x m b a0 : Nat} {ip inp : Nat → Int32} {n0 n B0 U0 k : Nat} {Q : OV → Hp → Prop} (hSc : SCR G n inp) (h : JS S x m b a0 ip n0 B0 U0 k) (h1 : B0 + k + 1 ≤ gN G) (h2 : U0 + 6 * k + 6 ≤ gM G) (hk : k < 130000) (hi : 7 * k + 7 ≤ n) (hn : n < 2 ^ 31) (kk : ∀ S', JS S' x m b a0 ip n0 B0 U0 (k + 1) → Wx m_L_law G S' 2750 [(0, .ref (gK G 5 0)), (1, .ref x), (2, .ref m), (3, .ref b), (4, .int (nI (7 * k)))] [] Q) : Wx m_L_law G S 1458 [(0, .ref (gK G 5 0)), (1, .ref x), (2, .ref m), (3, .ref b), (4, .int (nI (7 * k)))] [] Q := by
  refine r_aload_n dL_law_1458 rfl 1 rfl ?_
  refine r_aload_n dL_law_1459 rfl 0 rfl ?_
  refine r_iload dL_law_1460 4 rfl ?_
  refine r_iconst (v := nI 1) dL_law_1462 (by decide) ?_
  refine r_iaddN dL_law_1463 ?_
  refine r_sld hSc dL_law_1464 (vp_in_nI (by omega) (by omega)) ?_
  refine Wx.top (y := inp (7 * k + 1)) (by rw [nI_clamp (by omega)]) ?_
  refine r_aload_n dL_law_1465 rfl 0 rfl ?_
  refine r_iload dL_law_1466 4 rfl ?_
  refine r_iconst (v := nI 2) dL_law_1468 (by decide) ?_
  refine r_iaddN dL_law_1469 ?_
  refine r_sld hSc dL_law_1470 (vp_in_nI (by omega) (by omega)) ?_
  refine Wx.top (y := inp (7 * k + 2)) (by rw [nI_clamp (by omega)]) ?_
  refine r_aload_n dL_law_1471 rfl 3 rfl ?_
  refine r_callSX (M2 := m_L_chance) (As := [.ref x, .int (inp (7 * k + 1)), .int (inp (7 * k + 2)), .ref b]) (rest := []) dL_law_1472 cl_208 rfl rfl (Nat.le_of_ble_eq_true rfl) (j_chance h h1 h2 hk) (fun v9 S1 hq => ?_) (fun E9 T9 hq => by obtain ⟨kd, -, e, -⟩ := hq; cases e)
  obtain ⟨kd, hkd, e, ⟨hm1, hb1, hb2, hb3⟩, hMO⟩ := hq
  cases e
  show Wx _ G S1 1475 [(0, .ref (gK G 5 0)), (1, .ref x), (2, .ref m), (3, .ref b), (4, .int (nI (7 * k)))] [.int (nI kd)] _
  refine r_istore (lv' := [(5, .int (nI kd)), (0, .ref (gK G 5 0)), (1, .ref x), (2, .ref m), (3, .ref b), (4, .int (nI (7 * k)))]) dL_law_1475 (Nat.le_of_ble_eq_true rfl) rfl ?_
  refine r_aload_n dL_law_1477 rfl 3 rfl ?_
  refine r_aload_n dL_law_1478 rfl 1 rfl ?_
  refine r_iload dL_law_1479 5 rfl ?_
  refine r_iconst (v := nI 1) dL_law_1481 (by decide) ?_
  refine r_iaddN dL_law_1482 ?_
  refine r_sld hSc dL_law_1483 (vp_in_nI (by omega) (by omega)) ?_
  refine Wx.top (y := inp (7 * k + 1)) (by rw [nI_clamp (by omega)]) ?_
  refine r_aload_n dL_law_1484 rfl 1 rfl ?_
  refine r_iload dL_law_1485 5 rfl ?_
  refine r_iconst (v := nI 2) dL_law_1487 (by decide) ?_
  refine r_iaddN dL_law_1488 ?_
  refine r_sld hSc dL_law_1489 (vp_in_nI (by omega) (by omega)) ?_
  refine Wx.top (y := inp (7 * k + 2)) (by rw [nI_clamp (by omega)]) ?_
  refine r_callV (M2 := m_X13_chance) (As := [.int (inp (7 * k + 1)), .int (inp (7 * k + 2))]) (rest := []) dL_law_1490 cl_210 rfl rfl rfl (Nat.le_of_ble_eq_true rfl) hm1 rfl rfl (by decide) hMO (fun v9 S2 hq => ?_) (fun E9 T9 hq => by obtain ⟨res, e, -⟩ := hq; cases e)
  obtain ⟨res, e, hth, hz, hJ⟩ := hq
  cases e
  show Wx _ G S2 1493 [(5, .int (nI kd)), (0, .ref (gK G 5 0)), (1, .ref x), (2, .ref m), (3, .ref b), (4, .int (nI (7 * k)))] [.long res] _
  refine r_lstore (lv' := [(6, .long res), (5, .int (nI kd)), (0, .ref (gK G 5 0)), (1, .ref x), (2, .ref m), (3, .ref b), (4, .int (nI (7 * k)))]) dL_law_1493 (Nat.le_of_ble_eq_true rfl) rfl ?_
  refine r_aload_n dL_law_1495 rfl 4 rfl ?_
  refine r_fnV (M2 := m_X13_thrown) (As := []) (rest := []) (v := some (.int (nI kd))) dL_law_1496 cl_152 rfl rfl rfl (Nat.le_of_ble_eq_true rfl) hJ.m15 rfl rfl (by decide) hth rfl ?_
  refine r_iload dL_law_1499 1 rfl ?_
  refine r_icmp_eqN (tgt := 1506) dL_law_1501 (by decide) (by omega) (by omega) (fun _ => ?_) (fun z => absurd rfl z)
  refine r_iload dL_law_1506 1 rfl ?_
  refine r_if_neN (tgt := 1522) dL_law_1508 (by decide) (by omega) (fun _ => r_goto (tgt := 2750) dL_law_1522 (by decide) (Wx.sub [2, 3, 4, 5, 6] rfl (kk S2 hJ))) (fun z => ?_)
  refine r_aload_n dL_law_1511 rfl 5 rfl ?_
  refine r_iconst (v := nI 0) dL_law_1512 (by decide) ?_
  refine r_lald dL_law_1513 hJ.inp.1.1 (by rw [hJ.inp.1.2]; exact vp_in_nI (by decide) (by decide)) ?_
  rw [show zL S2 b (nI 0).toNatClampNeg = res from (by rw [nI_clamp (by decide)]; exact hz z)]
  refine r_lload dL_law_1514 0 rfl ?_
  refine r_lcmp dL_law_1516 ?_
  refine Wx.top (cmp_self _) ?_
  exact r_if_eqN (tgt := 1522) dL_law_1517 (by decide) (by decide) (fun _ => r_goto (tgt := 2750) dL_law_1522 (by decide) (Wx.sub [2, 3, 4, 5, 6] rfl (kk S2 hJ))) (fun z => absurd rfl z)
theorem w_madeOf {G : GI} {S : Hp} {x m b a0 : Nat} {ip inp : Nat → Int32} {n0 n B0 U0 k : Nat} {Q : OV → Hp → Prop} (hSc : SCR G n inp) (h : JS S x m b a0 ip n0 B0 U0 k) (h1 : B0 + k + 1 ≤ gN G) (h2 : U0 + 6 * k + 6 ≤ gM G) (hk : k < 130000) (hi : 7 * k + 7 ≤ n) (hn : n < 2 ^ 31) (kk : ∀ S', JS S' x m b a0 ip n0 B0 U0 (k + 1) → Wx m_L_law G S' 2750 [(0, .ref (gK G 5 0)), (1, .ref x), (2, .ref m), (3, .ref b), (4, .int (nI (7 * k)))] [] Q) : Wx m_L_law G S 1525 [(0, .ref (gK G 5 0)), (1, .ref x), (2, .ref m), (3, .ref b), (4, .int (nI (7 * k)))] [] Q := by
  refine r_aload_n dL_law_1525 rfl 1 rfl ?_
  refine r_aload_n dL_law_1526 rfl 0 rfl ?_
  refine r_iload dL_law_1527 4 rfl ?_
  refine r_iconst (v := nI 1) dL_law_1529 (by decide) ?_
  refine r_iaddN dL_law_1530 ?_
  refine r_sld hSc dL_law_1531 (vp_in_nI (by omega) (by omega)) ?_
  refine Wx.top (y := inp (7 * k + 1)) (by rw [nI_clamp (by omega)]) ?_
  refine r_aload_n dL_law_1532 rfl 0 rfl ?_
  refine r_iload dL_law_1533 4 rfl ?_
  refine r_iconst (v := nI 2) dL_law_1535 (by decide) ?_
  refine r_iaddN dL_law_1536 ?_
  refine r_sld hSc dL_law_1537 (vp_in_nI (by omega) (by omega)) ?_
  refine Wx.top (y := inp (7 * k + 2)) (by rw [nI_clamp (by omega)]) ?_
  refine r_aload_n dL_law_1538 rfl 0 rfl ?_
  refine r_iload dL_law_1539 4 rfl ?_
  refine r_iconst (v := nI 3) dL_law_1541 (by decide) ?_
  refine r_iaddN dL_law_1542 ?_
  refine r_sld hSc dL_law_1543 (vp_in_nI (by omega) (by omega)) ?_
  refine Wx.top (y := inp (7 * k + 3)) (by rw [nI_clamp (by omega)]) ?_
  refine r_aload_n dL_law_1544 rfl 3 rfl ?_
  refine r_callSX (M2 := m_L_madeOf) (As := [.ref x, .int (inp (7 * k + 1)), .int (inp (7 * k + 2)), .int (inp (7 * k + 3)), .ref b]) (rest := []) dL_law_1545 cl_211 rfl rfl (Nat.le_of_ble_eq_true rfl) (j_madeOf h h1 h2 hk) (fun v9 S1 hq => ?_) (fun E9 T9 hq => by obtain ⟨kd, -, e, -⟩ := hq; cases e)
  obtain ⟨kd, hkd, e, ⟨hm1, hb1, hb2, hb3⟩, hMO⟩ := hq
  cases e
  show Wx _ G S1 1548 [(0, .ref (gK G 5 0)), (1, .ref x), (2, .ref m), (3, .ref b), (4, .int (nI (7 * k)))] [.int (nI kd)] _
  refine r_istore (lv' := [(5, .int (nI kd)), (0, .ref (gK G 5 0)), (1, .ref x), (2, .ref m), (3, .ref b), (4, .int (nI (7 * k)))]) dL_law_1548 (Nat.le_of_ble_eq_true rfl) rfl ?_
  refine r_aload_n dL_law_1550 rfl 3 rfl ?_
  refine r_aload_n dL_law_1551 rfl 1 rfl ?_
  refine r_iload dL_law_1552 5 rfl ?_
  refine r_iconst (v := nI 1) dL_law_1554 (by decide) ?_
  refine r_iaddN dL_law_1555 ?_
  refine r_sld hSc dL_law_1556 (vp_in_nI (by omega) (by omega)) ?_
  refine Wx.top (y := inp (7 * k + 1)) (by rw [nI_clamp (by omega)]) ?_
  refine r_aload_n dL_law_1557 rfl 1 rfl ?_
  refine r_iload dL_law_1558 5 rfl ?_
  refine r_iconst (v := nI 2) dL_law_1560 (by decide) ?_
  refine r_iaddN dL_law_1561 ?_
  refine r_sld hSc dL_law_1562 (vp_in_nI (by omega) (by omega)) ?_
  refine Wx.top (y := inp (7 * k + 2)) (by rw [nI_clamp (by omega)]) ?_
  refine r_aload_n dL_law_1563 rfl 1 rfl ?_
  refine r_iload dL_law_1564 5 rfl ?_
  refine r_iconst (v := nI 3) dL_law_1566 (by decide) ?_
  refine r_iaddN dL_law_1567 ?_
  refine r_sld hSc dL_law_1568 (vp_in_nI (by omega) (by omega)) ?_
  refine Wx.top (y := inp (7 * k + 3)) (by rw [nI_clamp (by omega)]) ?_
  refine r_callV (M2 := m_X13_madeOf) (As := [.int (inp (7 * k + 1)), .int (inp (7 * k + 2)), .int (inp (7 * k + 3))]) (rest := []) dL_law_1569 cl_213 rfl rfl rfl (Nat.le_of_ble_eq_true rfl) hm1 rfl rfl (by decide) hMO (fun v9 S2 hq => ?_) (fun E9 T9 hq => by obtain ⟨res, e, -⟩ := hq; cases e)
  obtain ⟨res, e, hth, hz, hJ⟩ := hq
  cases e
  show Wx _ G S2 1572 [(5, .int (nI kd)), (0, .ref (gK G 5 0)), (1, .ref x), (2, .ref m), (3, .ref b), (4, .int (nI (7 * k)))] [.int res] _
  refine r_istore (lv' := [(6, .int res), (5, .int (nI kd)), (0, .ref (gK G 5 0)), (1, .ref x), (2, .ref m), (3, .ref b), (4, .int (nI (7 * k)))]) dL_law_1572 (Nat.le_of_ble_eq_true rfl) rfl ?_
  refine r_aload_n dL_law_1574 rfl 4 rfl ?_
  refine r_fnV (M2 := m_X13_thrown) (As := []) (rest := []) (v := some (.int (nI kd))) dL_law_1575 cl_152 rfl rfl rfl (Nat.le_of_ble_eq_true rfl) hJ.m15 rfl rfl (by decide) hth rfl ?_
  refine r_iload dL_law_1578 1 rfl ?_
  refine r_icmp_eqN (tgt := 1585) dL_law_1580 (by decide) (by omega) (by omega) (fun _ => ?_) (fun z => absurd rfl z)
  refine r_iload dL_law_1585 1 rfl ?_
  refine r_if_neN (tgt := 1602) dL_law_1587 (by decide) (by omega) (fun _ => r_goto (tgt := 2750) dL_law_1602 (by decide) (Wx.sub [2, 3, 4, 5, 6] rfl (kk S2 hJ))) (fun z => ?_)
  refine r_aload_n dL_law_1590 rfl 5 rfl ?_
  refine r_iconst (v := nI 0) dL_law_1591 (by decide) ?_
  refine r_lald dL_law_1592 hJ.inp.1.1 (by rw [hJ.inp.1.2]; exact vp_in_nI (by decide) (by decide)) ?_
  rw [show zL S2 b (nI 0).toNatClampNeg = res.toInt64 from (by rw [nI_clamp (by decide)]; exact hz z)]
  refine r_iload dL_law_1593 0 rfl ?_
  refine r_i2l dL_law_1595 ?_
  refine r_lcmp dL_law_1596 ?_
  refine Wx.top (cmp_self _) ?_
  exact r_if_eqN (tgt := 1602) dL_law_1597 (by decide) (by decide) (fun _ => r_goto (tgt := 2750) dL_law_1602 (by decide) (Wx.sub [2, 3, 4, 5, 6] rfl (kk S2 hJ))) (fun z => absurd rfl z)
theorem w_whereabouts {G : GI} {S : Hp} {x m b a0 : Nat} {ip inp : Nat → Int32} {n0 n B0 U0 k : Nat} {Q : OV → Hp → Prop} (hSc : SCR G n inp) (h : JS S x m b a0 ip n0 B0 U0 k) (h1 : B0 + k + 1 ≤ gN G) (h2 : U0 + 6 * k + 6 ≤ gM G) (hk : k < 130000) (hi : 7 * k + 7 ≤ n) (hn : n < 2 ^ 31) (kk : ∀ S', JS S' x m b a0 ip n0 B0 U0 (k + 1) → Wx m_L_law G S' 2750 [(0, .ref (gK G 5 0)), (1, .ref x), (2, .ref m), (3, .ref b), (4, .int (nI (7 * k)))] [] Q) : Wx m_L_law G S 1605 [(0, .ref (gK G 5 0)), (1, .ref x), (2, .ref m), (3, .ref b), (4, .int (nI (7 * k)))] [] Q := by
  refine r_aload_n dL_law_1605 rfl 1 rfl ?_
  refine r_aload_n dL_law_1606 rfl 0 rfl ?_
  refine r_iload dL_law_1607 4 rfl ?_
  refine r_iconst (v := nI 1) dL_law_1609 (by decide) ?_
  refine r_iaddN dL_law_1610 ?_
  refine r_sld hSc dL_law_1611 (vp_in_nI (by omega) (by omega)) ?_
  refine Wx.top (y := inp (7 * k + 1)) (by rw [nI_clamp (by omega)]) ?_
  refine r_aload_n dL_law_1612 rfl 0 rfl ?_
  refine r_iload dL_law_1613 4 rfl ?_
  refine r_iconst (v := nI 2) dL_law_1615 (by decide) ?_
  refine r_iaddN dL_law_1616 ?_
  refine r_sld hSc dL_law_1617 (vp_in_nI (by omega) (by omega)) ?_
  refine Wx.top (y := inp (7 * k + 2)) (by rw [nI_clamp (by omega)]) ?_
  refine r_aload_n dL_law_1618 rfl 3 rfl ?_
  refine r_callSX (M2 := m_L_whereabouts) (As := [.ref x, .int (inp (7 * k + 1)), .int (inp (7 * k + 2)), .ref b]) (rest := []) dL_law_1619 cl_214 rfl rfl (Nat.le_of_ble_eq_true rfl) (j_whereabouts h h1 h2 hk) (fun v9 S1 hq => ?_) (fun E9 T9 hq => by obtain ⟨kd, -, e, -⟩ := hq; cases e)
  obtain ⟨kd, hkd, e, ⟨hm1, hb1, hb2, hb3⟩, hMO⟩ := hq
  cases e
  show Wx _ G S1 1622 [(0, .ref (gK G 5 0)), (1, .ref x), (2, .ref m), (3, .ref b), (4, .int (nI (7 * k)))] [.int (nI kd)] _
  refine r_istore (lv' := [(5, .int (nI kd)), (0, .ref (gK G 5 0)), (1, .ref x), (2, .ref m), (3, .ref b), (4, .int (nI (7 * k)))]) dL_law_1622 (Nat.le_of_ble_eq_true rfl) rfl ?_
  refine r_aload_n dL_law_1624 rfl 3 rfl ?_
  refine r_aload_n dL_law_1625 rfl 1 rfl ?_
  refine r_iload dL_law_1626 5 rfl ?_
  refine r_iconst (v := nI 1) dL_law_1628 (by decide) ?_
  refine r_iaddN dL_law_1629 ?_
  refine r_sld hSc dL_law_1630 (vp_in_nI (by omega) (by omega)) ?_
  refine Wx.top (y := inp (7 * k + 1)) (by rw [nI_clamp (by omega)]) ?_
  refine r_aload_n dL_law_1631 rfl 1 rfl ?_
  refine r_iload dL_law_1632 5 rfl ?_
  refine r_iconst (v := nI 2) dL_law_1634 (by decide) ?_
  refine r_iaddN dL_law_1635 ?_
  refine r_sld hSc dL_law_1636 (vp_in_nI (by omega) (by omega)) ?_
  refine Wx.top (y := inp (7 * k + 2)) (by rw [nI_clamp (by omega)]) ?_
  refine r_callV (M2 := m_X13_whereabouts) (As := [.int (inp (7 * k + 1)), .int (inp (7 * k + 2))]) (rest := []) dL_law_1637 cl_216 rfl rfl rfl (Nat.le_of_ble_eq_true rfl) hm1 rfl rfl (by decide) hMO (fun v9 S2 hq => ?_) (fun E9 T9 hq => by obtain ⟨res, e, -⟩ := hq; cases e)
  obtain ⟨res, e, hth, hz, hJ⟩ := hq
  cases e
  show Wx _ G S2 1640 [(5, .int (nI kd)), (0, .ref (gK G 5 0)), (1, .ref x), (2, .ref m), (3, .ref b), (4, .int (nI (7 * k)))] [.int res] _
  refine r_istore (lv' := [(6, .int res), (5, .int (nI kd)), (0, .ref (gK G 5 0)), (1, .ref x), (2, .ref m), (3, .ref b), (4, .int (nI (7 * k)))]) dL_law_1640 (Nat.le_of_ble_eq_true rfl) rfl ?_
  refine r_aload_n dL_law_1642 rfl 4 rfl ?_
  refine r_fnV (M2 := m_X13_thrown) (As := []) (rest := []) (v := some (.int (nI kd))) dL_law_1643 cl_152 rfl rfl rfl (Nat.le_of_ble_eq_true rfl) hJ.m15 rfl rfl (by decide) hth rfl ?_
  refine r_iload dL_law_1646 1 rfl ?_
  refine r_icmp_eqN (tgt := 1653) dL_law_1648 (by decide) (by omega) (by omega) (fun _ => ?_) (fun z => absurd rfl z)
  refine r_iload dL_law_1653 1 rfl ?_
  refine r_if_neN (tgt := 1670) dL_law_1655 (by decide) (by omega) (fun _ => r_goto (tgt := 2750) dL_law_1670 (by decide) (Wx.sub [2, 3, 4, 5, 6] rfl (kk S2 hJ))) (fun z => ?_)
  refine r_aload_n dL_law_1658 rfl 5 rfl ?_
  refine r_iconst (v := nI 0) dL_law_1659 (by decide) ?_
  refine r_lald dL_law_1660 hJ.inp.1.1 (by rw [hJ.inp.1.2]; exact vp_in_nI (by decide) (by decide)) ?_
  rw [show zL S2 b (nI 0).toNatClampNeg = res.toInt64 from (by rw [nI_clamp (by decide)]; exact hz z)]
  refine r_iload dL_law_1661 0 rfl ?_
  refine r_i2l dL_law_1663 ?_
  refine r_lcmp dL_law_1664 ?_
  refine Wx.top (cmp_self _) ?_
  exact r_if_eqN (tgt := 1670) dL_law_1665 (by decide) (by decide) (fun _ => r_goto (tgt := 2750) dL_law_1670 (by decide) (Wx.sub [2, 3, 4, 5, 6] rfl (kk S2 hJ))) (fun z => absurd rfl z)
theorem w_trace {G : GI} {S : Hp} {x m b a0 : Nat} {ip inp : Nat → Int32} {n0 n B0 U0 k : Nat} {Q : OV → Hp → Prop} (hSc : SCR G n inp) (h : JS S x m b a0 ip n0 B0 U0 k) (h1 : B0 + k + 1 ≤ gN G) (h2 : U0 + 6 * k + 6 ≤ gM G) (hk : k < 130000) (hi : 7 * k + 7 ≤ n) (hn : n < 2 ^ 31) (kk : ∀ S', JS S' x m b a0 ip n0 B0 U0 (k + 1) → Wx m_L_law G S' 2750 [(0, .ref (gK G 5 0)), (1, .ref x), (2, .ref m), (3, .ref b), (4, .int (nI (7 * k)))] [] Q) : Wx m_L_law G S 1673 [(0, .ref (gK G 5 0)), (1, .ref x), (2, .ref m), (3, .ref b), (4, .int (nI (7 * k)))] [] Q := by
  refine r_aload_n dL_law_1673 rfl 1 rfl ?_
  refine r_aload_n dL_law_1674 rfl 0 rfl ?_
  refine r_iload dL_law_1675 4 rfl ?_
  refine r_iconst (v := nI 1) dL_law_1677 (by decide) ?_
  refine r_iaddN dL_law_1678 ?_
  refine r_sld hSc dL_law_1679 (vp_in_nI (by omega) (by omega)) ?_
  refine Wx.top (y := inp (7 * k + 1)) (by rw [nI_clamp (by omega)]) ?_
  refine r_aload_n dL_law_1680 rfl 0 rfl ?_
  refine r_iload dL_law_1681 4 rfl ?_
  refine r_iconst (v := nI 2) dL_law_1683 (by decide) ?_
  refine r_iaddN dL_law_1684 ?_
  refine r_sld hSc dL_law_1685 (vp_in_nI (by omega) (by omega)) ?_
  refine Wx.top (y := inp (7 * k + 2)) (by rw [nI_clamp (by omega)]) ?_
  refine r_aload_n dL_law_1686 rfl 0 rfl ?_
  refine r_iload dL_law_1687 4 rfl ?_
  refine r_iconst (v := nI 3) dL_law_1689 (by decide) ?_
  refine r_iaddN dL_law_1690 ?_
  refine r_sld hSc dL_law_1691 (vp_in_nI (by omega) (by omega)) ?_
  refine Wx.top (y := inp (7 * k + 3)) (by rw [nI_clamp (by omega)]) ?_
  refine r_aload_n dL_law_1692 rfl 0 rfl ?_
  refine r_iload dL_law_1693 4 rfl ?_
  refine r_iconst (v := nI 4) dL_law_1695 (by decide) ?_
  refine r_iaddN dL_law_1696 ?_
  refine r_sld hSc dL_law_1697 (vp_in_nI (by omega) (by omega)) ?_
  refine Wx.top (y := inp (7 * k + 4)) (by rw [nI_clamp (by omega)]) ?_
  refine r_if_eq (tgt := 1705) dL_law_1698 (by decide) (fun zb => ?_) (fun zb => ?_)
  · refine r_iconst (v := nI 0) dL_law_1705 (by decide) ?_
    refine r_aload_n dL_law_1706 rfl 3 rfl ?_
    refine r_callSX (M2 := m_L_trace) (As := [.ref x, .int (inp (7 * k + 1)), .int (inp (7 * k + 2)), .int (inp (7 * k + 3)), .int (nI 0), .ref b]) (rest := []) dL_law_1707 cl_217 rfl rfl (Nat.le_of_ble_eq_true rfl) (j_trace h h1 h2 hk (Or.inl rfl)) (fun v9 S1 hq => ?_) (fun E9 T9 hq => by obtain ⟨kd, -, e, -⟩ := hq; cases e)
    obtain ⟨kd, hkd, e, ⟨hm1, hb1, hb2, hb3⟩, hMO⟩ := hq
    cases e
    show Wx _ G S1 1710 [(0, .ref (gK G 5 0)), (1, .ref x), (2, .ref m), (3, .ref b), (4, .int (nI (7 * k)))] [.int (nI kd)] _
    refine r_istore (lv' := [(5, .int (nI kd)), (0, .ref (gK G 5 0)), (1, .ref x), (2, .ref m), (3, .ref b), (4, .int (nI (7 * k)))]) dL_law_1710 (Nat.le_of_ble_eq_true rfl) rfl ?_
    refine r_aload_n dL_law_1712 rfl 3 rfl ?_
    refine r_aload_n dL_law_1713 rfl 1 rfl ?_
    refine r_iload dL_law_1714 5 rfl ?_
    refine r_iconst (v := nI 1) dL_law_1716 (by decide) ?_
    refine r_iaddN dL_law_1717 ?_
    refine r_sld hSc dL_law_1718 (vp_in_nI (by omega) (by omega)) ?_
    refine Wx.top (y := inp (7 * k + 1)) (by rw [nI_clamp (by omega)]) ?_
    refine r_aload_n dL_law_1719 rfl 1 rfl ?_
    refine r_iload dL_law_1720 5 rfl ?_
    refine r_iconst (v := nI 2) dL_law_1722 (by decide) ?_
    refine r_iaddN dL_law_1723 ?_
    refine r_sld hSc dL_law_1724 (vp_in_nI (by omega) (by omega)) ?_
    refine Wx.top (y := inp (7 * k + 2)) (by rw [nI_clamp (by omega)]) ?_
    refine r_aload_n dL_law_1725 rfl 1 rfl ?_
    refine r_iload dL_law_1726 5 rfl ?_
    refine r_iconst (v := nI 3) dL_law_1728 (by decide) ?_
    refine r_iaddN dL_law_1729 ?_
    refine r_sld hSc dL_law_1730 (vp_in_nI (by omega) (by omega)) ?_
    refine Wx.top (y := inp (7 * k + 3)) (by rw [nI_clamp (by omega)]) ?_
    refine r_aload_n dL_law_1731 rfl 1 rfl ?_
    refine r_iload dL_law_1732 5 rfl ?_
    refine r_iconst (v := nI 4) dL_law_1734 (by decide) ?_
    refine r_iaddN dL_law_1735 ?_
    refine r_sld hSc dL_law_1736 (vp_in_nI (by omega) (by omega)) ?_
    refine Wx.top (y := inp (7 * k + 4)) (by rw [nI_clamp (by omega)]) ?_
    refine r_if_eq (tgt := 1744) dL_law_1737 (by decide) (fun _ => ?_) (fun z => absurd zb z)
    refine r_iconst (v := nI 0) dL_law_1744 (by decide) ?_
    refine r_callV (M2 := m_X13_trace) (As := [.int (inp (7 * k + 1)), .int (inp (7 * k + 2)), .int (inp (7 * k + 3)), .int (nI 0)]) (rest := []) dL_law_1745 cl_219 rfl rfl rfl (Nat.le_of_ble_eq_true rfl) hm1 rfl rfl (by decide) hMO (fun v9 S2 hq => ?_) (fun E9 T9 hq => by obtain ⟨res, e, -⟩ := hq; cases e)
    obtain ⟨res, e, hth, hz, hJ⟩ := hq
    cases e
    show Wx _ G S2 1748 [(5, .int (nI kd)), (0, .ref (gK G 5 0)), (1, .ref x), (2, .ref m), (3, .ref b), (4, .int (nI (7 * k)))] [.int res] _
    refine r_istore (lv' := [(6, .int res), (5, .int (nI kd)), (0, .ref (gK G 5 0)), (1, .ref x), (2, .ref m), (3, .ref b), (4, .int (nI (7 * k)))]) dL_law_1748 (Nat.le_of_ble_eq_true rfl) rfl ?_
    refine r_aload_n dL_law_1750 rfl 4 rfl ?_
    refine r_fnV (M2 := m_X13_thrown) (As := []) (rest := []) (v := some (.int (nI kd))) dL_law_1751 cl_152 rfl rfl rfl (Nat.le_of_ble_eq_true rfl) hJ.m15 rfl rfl (by decide) hth rfl ?_
    refine r_iload dL_law_1754 1 rfl ?_
    refine r_icmp_eqN (tgt := 1761) dL_law_1756 (by decide) (by omega) (by omega) (fun _ => ?_) (fun z => absurd rfl z)
    refine r_iload dL_law_1761 1 rfl ?_
    refine r_if_neN (tgt := 1778) dL_law_1763 (by decide) (by omega) (fun _ => r_goto (tgt := 2750) dL_law_1778 (by decide) (Wx.sub [2, 3, 4, 5, 6] rfl (kk S2 hJ))) (fun z => ?_)
    refine r_aload_n dL_law_1766 rfl 5 rfl ?_
    refine r_iconst (v := nI 0) dL_law_1767 (by decide) ?_
    refine r_lald dL_law_1768 hJ.inp.1.1 (by rw [hJ.inp.1.2]; exact vp_in_nI (by decide) (by decide)) ?_
    rw [show zL S2 b (nI 0).toNatClampNeg = res.toInt64 from (by rw [nI_clamp (by decide)]; exact hz z)]
    refine r_iload dL_law_1769 0 rfl ?_
    refine r_i2l dL_law_1771 ?_
    refine r_lcmp dL_law_1772 ?_
    refine Wx.top (cmp_self _) ?_
    exact r_if_eqN (tgt := 1778) dL_law_1773 (by decide) (by decide) (fun _ => r_goto (tgt := 2750) dL_law_1778 (by decide) (Wx.sub [2, 3, 4, 5, 6] rfl (kk S2 hJ))) (fun z => absurd rfl z)
  · refine r_iconst (v := nI 1) dL_law_1701 (by decide) ?_
    refine r_goto (tgt := 1706) dL_law_1702 (by decide) ?_
    refine r_aload_n dL_law_1706 rfl 3 rfl ?_
    refine r_callSX (M2 := m_L_trace) (As := [.ref x, .int (inp (7 * k + 1)), .int (inp (7 * k + 2)), .int (inp (7 * k + 3)), .int (nI 1), .ref b]) (rest := []) dL_law_1707 cl_217 rfl rfl (Nat.le_of_ble_eq_true rfl) (j_trace h h1 h2 hk (Or.inr rfl)) (fun v9 S1 hq => ?_) (fun E9 T9 hq => by obtain ⟨kd, -, e, -⟩ := hq; cases e)
    obtain ⟨kd, hkd, e, ⟨hm1, hb1, hb2, hb3⟩, hMO⟩ := hq
    cases e
    show Wx _ G S1 1710 [(0, .ref (gK G 5 0)), (1, .ref x), (2, .ref m), (3, .ref b), (4, .int (nI (7 * k)))] [.int (nI kd)] _
    refine r_istore (lv' := [(5, .int (nI kd)), (0, .ref (gK G 5 0)), (1, .ref x), (2, .ref m), (3, .ref b), (4, .int (nI (7 * k)))]) dL_law_1710 (Nat.le_of_ble_eq_true rfl) rfl ?_
    refine r_aload_n dL_law_1712 rfl 3 rfl ?_
    refine r_aload_n dL_law_1713 rfl 1 rfl ?_
    refine r_iload dL_law_1714 5 rfl ?_
    refine r_iconst (v := nI 1) dL_law_1716 (by decide) ?_
    refine r_iaddN dL_law_1717 ?_
    refine r_sld hSc dL_law_1718 (vp_in_nI (by omega) (by omega)) ?_
    refine Wx.top (y := inp (7 * k + 1)) (by rw [nI_clamp (by omega)]) ?_
    refine r_aload_n dL_law_1719 rfl 1 rfl ?_
    refine r_iload dL_law_1720 5 rfl ?_
    refine r_iconst (v := nI 2) dL_law_1722 (by decide) ?_
    refine r_iaddN dL_law_1723 ?_
    refine r_sld hSc dL_law_1724 (vp_in_nI (by omega) (by omega)) ?_
    refine Wx.top (y := inp (7 * k + 2)) (by rw [nI_clamp (by omega)]) ?_
    refine r_aload_n dL_law_1725 rfl 1 rfl ?_
    refine r_iload dL_law_1726 5 rfl ?_
    refine r_iconst (v := nI 3) dL_law_1728 (by decide) ?_
    refine r_iaddN dL_law_1729 ?_
    refine r_sld hSc dL_law_1730 (vp_in_nI (by omega) (by omega)) ?_
    refine Wx.top (y := inp (7 * k + 3)) (by rw [nI_clamp (by omega)]) ?_
    refine r_aload_n dL_law_1731 rfl 1 rfl ?_
    refine r_iload dL_law_1732 5 rfl ?_
    refine r_iconst (v := nI 4) dL_law_1734 (by decide) ?_
    refine r_iaddN dL_law_1735 ?_
    refine r_sld hSc dL_law_1736 (vp_in_nI (by omega) (by omega)) ?_
    refine Wx.top (y := inp (7 * k + 4)) (by rw [nI_clamp (by omega)]) ?_
    refine r_if_eq (tgt := 1744) dL_law_1737 (by decide) (fun z => absurd z zb) (fun _ => ?_)
    refine r_iconst (v := nI 1) dL_law_1740 (by decide) ?_
    refine r_goto (tgt := 1745) dL_law_1741 (by decide) ?_
    refine r_callV (M2 := m_X13_trace) (As := [.int (inp (7 * k + 1)), .int (inp (7 * k + 2)), .int (inp (7 * k + 3)), .int (nI 1)]) (rest := []) dL_law_1745 cl_219 rfl rfl rfl (Nat.le_of_ble_eq_true rfl) hm1 rfl rfl (by decide) hMO (fun v9 S2 hq => ?_) (fun E9 T9 hq => by obtain ⟨res, e, -⟩ := hq; cases e)
    obtain ⟨res, e, hth, hz, hJ⟩ := hq
    cases e
    show Wx _ G S2 1748 [(5, .int (nI kd)), (0, .ref (gK G 5 0)), (1, .ref x), (2, .ref m), (3, .ref b), (4, .int (nI (7 * k)))] [.int res] _
    refine r_istore (lv' := [(6, .int res), (5, .int (nI kd)), (0, .ref (gK G 5 0)), (1, .ref x), (2, .ref m), (3, .ref b), (4, .int (nI (7 * k)))]) dL_law_1748 (Nat.le_of_ble_eq_true rfl) rfl ?_
    refine r_aload_n dL_law_1750 rfl 4 rfl ?_
    refine r_fnV (M2 := m_X13_thrown) (As := []) (rest := []) (v := some (.int (nI kd))) dL_law_1751 cl_152 rfl rfl rfl (Nat.le_of_ble_eq_true rfl) hJ.m15 rfl rfl (by decide) hth rfl ?_
    refine r_iload dL_law_1754 1 rfl ?_
    refine r_icmp_eqN (tgt := 1761) dL_law_1756 (by decide) (by omega) (by omega) (fun _ => ?_) (fun z => absurd rfl z)
    refine r_iload dL_law_1761 1 rfl ?_
    refine r_if_neN (tgt := 1778) dL_law_1763 (by decide) (by omega) (fun _ => r_goto (tgt := 2750) dL_law_1778 (by decide) (Wx.sub [2, 3, 4, 5, 6] rfl (kk S2 hJ))) (fun z => ?_)
    refine r_aload_n dL_law_1766 rfl 5 rfl ?_
    refine r_iconst (v := nI 0) dL_law_1767 (by decide) ?_
    refine r_lald dL_law_1768 hJ.inp.1.1 (by rw [hJ.inp.1.2]; exact vp_in_nI (by decide) (by decide)) ?_
    rw [show zL S2 b (nI 0).toNatClampNeg = res.toInt64 from (by rw [nI_clamp (by decide)]; exact hz z)]
    refine r_iload dL_law_1769 0 rfl ?_
    refine r_i2l dL_law_1771 ?_
    refine r_lcmp dL_law_1772 ?_
    refine Wx.top (cmp_self _) ?_
    exact r_if_eqN (tgt := 1778) dL_law_1773 (by decide) (by decide) (fun _ => r_goto (tgt := 2750) dL_law_1778 (by decide) (Wx.sub [2, 3, 4, 5, 6] rfl (kk S2 hJ))) (fun z => absurd rfl z)
theorem w_recall {G : GI} {S : Hp} {x m b a0 : Nat} {ip inp : Nat → Int32} {n0 n B0 U0 k : Nat} {Q : OV → Hp → Prop} (hSc : SCR G n inp) (h : JS S x m b a0 ip n0 B0 U0 k) (h1 : B0 + k + 1 ≤ gN G) (h2 : U0 + 6 * k + 6 ≤ gM G) (hk : k < 130000) (hi : 7 * k + 7 ≤ n) (hn : n < 2 ^ 31) (kk : ∀ S', JS S' x m b a0 ip n0 B0 U0 (k + 1) → Wx m_L_law G S' 2750 [(0, .ref (gK G 5 0)), (1, .ref x), (2, .ref m), (3, .ref b), (4, .int (nI (7 * k)))] [] Q) : Wx m_L_law G S 1781 [(0, .ref (gK G 5 0)), (1, .ref x), (2, .ref m), (3, .ref b), (4, .int (nI (7 * k)))] [] Q := by
  refine r_aload_n dL_law_1781 rfl 1 rfl ?_
  refine r_aload_n dL_law_1782 rfl 0 rfl ?_
  refine r_iload dL_law_1783 4 rfl ?_
  refine r_iconst (v := nI 1) dL_law_1785 (by decide) ?_
  refine r_iaddN dL_law_1786 ?_
  refine r_sld hSc dL_law_1787 (vp_in_nI (by omega) (by omega)) ?_
  refine Wx.top (y := inp (7 * k + 1)) (by rw [nI_clamp (by omega)]) ?_
  refine r_aload_n dL_law_1788 rfl 3 rfl ?_
  refine r_callSX (M2 := m_L_recall) (As := [.ref x, .int (inp (7 * k + 1)), .ref b]) (rest := []) dL_law_1789 cl_220 rfl rfl (Nat.le_of_ble_eq_true rfl) (j_recall h h1 h2 hk) (fun v9 S1 hq => ?_) (fun E9 T9 hq => by obtain ⟨kd, -, e, -⟩ := hq; cases e)
  obtain ⟨kd, hkd, e, ⟨hm1, hb1, hb2, hb3⟩, hMO⟩ := hq
  cases e
  show Wx _ G S1 1792 [(0, .ref (gK G 5 0)), (1, .ref x), (2, .ref m), (3, .ref b), (4, .int (nI (7 * k)))] [.int (nI kd)] _
  refine r_istore (lv' := [(5, .int (nI kd)), (0, .ref (gK G 5 0)), (1, .ref x), (2, .ref m), (3, .ref b), (4, .int (nI (7 * k)))]) dL_law_1792 (Nat.le_of_ble_eq_true rfl) rfl ?_
  refine r_aload_n dL_law_1794 rfl 3 rfl ?_
  refine r_aload_n dL_law_1795 rfl 1 rfl ?_
  refine r_iload dL_law_1796 5 rfl ?_
  refine r_iconst (v := nI 1) dL_law_1798 (by decide) ?_
  refine r_iaddN dL_law_1799 ?_
  refine r_sld hSc dL_law_1800 (vp_in_nI (by omega) (by omega)) ?_
  refine Wx.top (y := inp (7 * k + 1)) (by rw [nI_clamp (by omega)]) ?_
  refine r_callV (M2 := m_X13_recall) (As := [.int (inp (7 * k + 1))]) (rest := []) dL_law_1801 cl_222 rfl rfl rfl (Nat.le_of_ble_eq_true rfl) hm1 rfl rfl (by decide) hMO (fun v9 S2 hq => ?_) (fun E9 T9 hq => by obtain ⟨res, e, -⟩ := hq; cases e)
  obtain ⟨res, e, hth, hz, hJ⟩ := hq
  cases e
  show Wx _ G S2 1804 [(5, .int (nI kd)), (0, .ref (gK G 5 0)), (1, .ref x), (2, .ref m), (3, .ref b), (4, .int (nI (7 * k)))] [.int res] _
  refine r_istore (lv' := [(6, .int res), (5, .int (nI kd)), (0, .ref (gK G 5 0)), (1, .ref x), (2, .ref m), (3, .ref b), (4, .int (nI (7 * k)))]) dL_law_1804 (Nat.le_of_ble_eq_true rfl) rfl ?_
  refine r_aload_n dL_law_1806 rfl 4 rfl ?_
  refine r_fnV (M2 := m_X13_thrown) (As := []) (rest := []) (v := some (.int (nI kd))) dL_law_1807 cl_152 rfl rfl rfl (Nat.le_of_ble_eq_true rfl) hJ.m15 rfl rfl (by decide) hth rfl ?_
  refine r_iload dL_law_1810 1 rfl ?_
  refine r_icmp_eqN (tgt := 1817) dL_law_1812 (by decide) (by omega) (by omega) (fun _ => ?_) (fun z => absurd rfl z)
  refine r_iload dL_law_1817 1 rfl ?_
  refine r_if_neN (tgt := 1834) dL_law_1819 (by decide) (by omega) (fun _ => r_goto (tgt := 2750) dL_law_1834 (by decide) (Wx.sub [2, 3, 4, 5, 6] rfl (kk S2 hJ))) (fun z => ?_)
  refine r_aload_n dL_law_1822 rfl 5 rfl ?_
  refine r_iconst (v := nI 0) dL_law_1823 (by decide) ?_
  refine r_lald dL_law_1824 hJ.inp.1.1 (by rw [hJ.inp.1.2]; exact vp_in_nI (by decide) (by decide)) ?_
  rw [show zL S2 b (nI 0).toNatClampNeg = res.toInt64 from (by rw [nI_clamp (by decide)]; exact hz z)]
  refine r_iload dL_law_1825 0 rfl ?_
  refine r_i2l dL_law_1827 ?_
  refine r_lcmp dL_law_1828 ?_
  refine Wx.top (cmp_self _) ?_
  exact r_if_eqN (tgt := 1834) dL_law_1829 (by decide) (by decide) (fun _ => r_goto (tgt := 2750) dL_law_1834 (by decide) (Wx.sub [2, 3, 4, 5, 6] rfl (kk S2 hJ))) (fun z => absurd rfl z)
theorem w_recalled {G : GI} {S : Hp} {x m b a0 : Nat} {ip inp : Nat → Int32} {n0 n B0 U0 k : Nat} {Q : OV → Hp → Prop} (hSc : SCR G n inp) (h : JS S x m b a0 ip n0 B0 U0 k) (h1 : B0 + k + 1 ≤ gN G) (h2 : U0 + 6 * k + 6 ≤ gM G) (hk : k < 130000) (hi : 7 * k + 7 ≤ n) (hn : n < 2 ^ 31) (kk : ∀ S', JS S' x m b a0 ip n0 B0 U0 (k + 1) → Wx m_L_law G S' 2750 [(0, .ref (gK G 5 0)), (1, .ref x), (2, .ref m), (3, .ref b), (4, .int (nI (7 * k)))] [] Q) : Wx m_L_law G S 1837 [(0, .ref (gK G 5 0)), (1, .ref x), (2, .ref m), (3, .ref b), (4, .int (nI (7 * k)))] [] Q := by
  refine r_aload_n dL_law_1837 rfl 1 rfl ?_
  refine r_aload_n dL_law_1838 rfl 0 rfl ?_
  refine r_iload dL_law_1839 4 rfl ?_
  refine r_iconst (v := nI 1) dL_law_1841 (by decide) ?_
  refine r_iaddN dL_law_1842 ?_
  refine r_sld hSc dL_law_1843 (vp_in_nI (by omega) (by omega)) ?_
  refine Wx.top (y := inp (7 * k + 1)) (by rw [nI_clamp (by omega)]) ?_
  refine r_aload_n dL_law_1844 rfl 0 rfl ?_
  refine r_iload dL_law_1845 4 rfl ?_
  refine r_iconst (v := nI 2) dL_law_1847 (by decide) ?_
  refine r_iaddN dL_law_1848 ?_
  refine r_sld hSc dL_law_1849 (vp_in_nI (by omega) (by omega)) ?_
  refine Wx.top (y := inp (7 * k + 2)) (by rw [nI_clamp (by omega)]) ?_
  refine r_aload_n dL_law_1850 rfl 3 rfl ?_
  refine r_callSX (M2 := m_L_recalled) (As := [.ref x, .int (inp (7 * k + 1)), .int (inp (7 * k + 2)), .ref b]) (rest := []) dL_law_1851 cl_223 rfl rfl (Nat.le_of_ble_eq_true rfl) (j_recalled h h1 h2 hk) (fun v9 S1 hq => ?_) (fun E9 T9 hq => by obtain ⟨kd, -, e, -⟩ := hq; cases e)
  obtain ⟨kd, hkd, e, ⟨hm1, hb1, hb2, hb3⟩, hMO⟩ := hq
  cases e
  show Wx _ G S1 1854 [(0, .ref (gK G 5 0)), (1, .ref x), (2, .ref m), (3, .ref b), (4, .int (nI (7 * k)))] [.int (nI kd)] _
  refine r_istore (lv' := [(5, .int (nI kd)), (0, .ref (gK G 5 0)), (1, .ref x), (2, .ref m), (3, .ref b), (4, .int (nI (7 * k)))]) dL_law_1854 (Nat.le_of_ble_eq_true rfl) rfl ?_
  refine r_aload_n dL_law_1856 rfl 3 rfl ?_
  refine r_aload_n dL_law_1857 rfl 1 rfl ?_
  refine r_iload dL_law_1858 5 rfl ?_
  refine r_iconst (v := nI 1) dL_law_1860 (by decide) ?_
  refine r_iaddN dL_law_1861 ?_
  refine r_sld hSc dL_law_1862 (vp_in_nI (by omega) (by omega)) ?_
  refine Wx.top (y := inp (7 * k + 1)) (by rw [nI_clamp (by omega)]) ?_
  refine r_aload_n dL_law_1863 rfl 1 rfl ?_
  refine r_iload dL_law_1864 5 rfl ?_
  refine r_iconst (v := nI 2) dL_law_1866 (by decide) ?_
  refine r_iaddN dL_law_1867 ?_
  refine r_sld hSc dL_law_1868 (vp_in_nI (by omega) (by omega)) ?_
  refine Wx.top (y := inp (7 * k + 2)) (by rw [nI_clamp (by omega)]) ?_
  refine r_callV (M2 := m_X13_recalled) (As := [.int (inp (7 * k + 1)), .int (inp (7 * k + 2))]) (rest := []) dL_law_1869 cl_225 rfl rfl rfl (Nat.le_of_ble_eq_true rfl) hm1 rfl rfl (by decide) hMO (fun v9 S2 hq => ?_) (fun E9 T9 hq => by obtain ⟨res, e, -⟩ := hq; cases e)
  obtain ⟨res, e, hth, hz, hJ⟩ := hq
  cases e
  show Wx _ G S2 1872 [(5, .int (nI kd)), (0, .ref (gK G 5 0)), (1, .ref x), (2, .ref m), (3, .ref b), (4, .int (nI (7 * k)))] [.int res] _
  refine r_istore (lv' := [(6, .int res), (5, .int (nI kd)), (0, .ref (gK G 5 0)), (1, .ref x), (2, .ref m), (3, .ref b), (4, .int (nI (7 * k)))]) dL_law_1872 (Nat.le_of_ble_eq_true rfl) rfl ?_
  refine r_aload_n dL_law_1874 rfl 4 rfl ?_
  refine r_fnV (M2 := m_X13_thrown) (As := []) (rest := []) (v := some (.int (nI kd))) dL_law_1875 cl_152 rfl rfl rfl (Nat.le_of_ble_eq_true rfl) hJ.m15 rfl rfl (by decide) hth rfl ?_
  refine r_iload dL_law_1878 1 rfl ?_
  refine r_icmp_eqN (tgt := 1885) dL_law_1880 (by decide) (by omega) (by omega) (fun _ => ?_) (fun z => absurd rfl z)
  refine r_iload dL_law_1885 1 rfl ?_
  refine r_if_neN (tgt := 1902) dL_law_1887 (by decide) (by omega) (fun _ => r_goto (tgt := 2750) dL_law_1902 (by decide) (Wx.sub [2, 3, 4, 5, 6] rfl (kk S2 hJ))) (fun z => ?_)
  refine r_aload_n dL_law_1890 rfl 5 rfl ?_
  refine r_iconst (v := nI 0) dL_law_1891 (by decide) ?_
  refine r_lald dL_law_1892 hJ.inp.1.1 (by rw [hJ.inp.1.2]; exact vp_in_nI (by decide) (by decide)) ?_
  rw [show zL S2 b (nI 0).toNatClampNeg = res.toInt64 from (by rw [nI_clamp (by decide)]; exact hz z)]
  refine r_iload dL_law_1893 0 rfl ?_
  refine r_i2l dL_law_1895 ?_
  refine r_lcmp dL_law_1896 ?_
  refine Wx.top (cmp_self _) ?_
  exact r_if_eqN (tgt := 1902) dL_law_1897 (by decide) (by decide) (fun _ => r_goto (tgt := 2750) dL_law_1902 (by decide) (Wx.sub [2, 3, 4, 5, 6] rfl (kk S2 hJ))) (fun z => absurd rfl z)
theorem w_blame {G : GI} {S : Hp} {x m b a0 : Nat} {ip inp : Nat → Int32} {n0 n B0 U0 k : Nat} {Q : OV → Hp → Prop} (hSc : SCR G n inp) (h : JS S x m b a0 ip n0 B0 U0 k) (h1 : B0 + k + 1 ≤ gN G) (h2 : U0 + 6 * k + 6 ≤ gM G) (hk : k < 130000) (hi : 7 * k + 7 ≤ n) (hn : n < 2 ^ 31) (kk : ∀ S', JS S' x m b a0 ip n0 B0 U0 (k + 1) → Wx m_L_law G S' 2750 [(0, .ref (gK G 5 0)), (1, .ref x), (2, .ref m), (3, .ref b), (4, .int (nI (7 * k)))] [] Q) : Wx m_L_law G S 1905 [(0, .ref (gK G 5 0)), (1, .ref x), (2, .ref m), (3, .ref b), (4, .int (nI (7 * k)))] [] Q := by
  refine r_aload_n dL_law_1905 rfl 1 rfl ?_
  refine r_aload_n dL_law_1906 rfl 0 rfl ?_
  refine r_iload dL_law_1907 4 rfl ?_
  refine r_iconst (v := nI 1) dL_law_1909 (by decide) ?_
  refine r_iaddN dL_law_1910 ?_
  refine r_sld hSc dL_law_1911 (vp_in_nI (by omega) (by omega)) ?_
  refine Wx.top (y := inp (7 * k + 1)) (by rw [nI_clamp (by omega)]) ?_
  refine r_aload_n dL_law_1912 rfl 0 rfl ?_
  refine r_iload dL_law_1913 4 rfl ?_
  refine r_iconst (v := nI 2) dL_law_1915 (by decide) ?_
  refine r_iaddN dL_law_1916 ?_
  refine r_sld hSc dL_law_1917 (vp_in_nI (by omega) (by omega)) ?_
  refine Wx.top (y := inp (7 * k + 2)) (by rw [nI_clamp (by omega)]) ?_
  refine r_aload_n dL_law_1918 rfl 3 rfl ?_
  refine r_callSX (M2 := m_L_blame) (As := [.ref x, .int (inp (7 * k + 1)), .int (inp (7 * k + 2)), .ref b]) (rest := []) dL_law_1919 cl_226 rfl rfl (Nat.le_of_ble_eq_true rfl) (j_blame h h1 h2 hk) (fun v9 S1 hq => ?_) (fun E9 T9 hq => by obtain ⟨kd, -, e, -⟩ := hq; cases e)
  obtain ⟨kd, hkd, e, ⟨hm1, hb1, hb2, hb3⟩, hMO⟩ := hq
  cases e
  show Wx _ G S1 1922 [(0, .ref (gK G 5 0)), (1, .ref x), (2, .ref m), (3, .ref b), (4, .int (nI (7 * k)))] [.int (nI kd)] _
  refine r_istore (lv' := [(5, .int (nI kd)), (0, .ref (gK G 5 0)), (1, .ref x), (2, .ref m), (3, .ref b), (4, .int (nI (7 * k)))]) dL_law_1922 (Nat.le_of_ble_eq_true rfl) rfl ?_
  refine r_aload_n dL_law_1924 rfl 3 rfl ?_
  refine r_aload_n dL_law_1925 rfl 1 rfl ?_
  refine r_iload dL_law_1926 5 rfl ?_
  refine r_iconst (v := nI 1) dL_law_1928 (by decide) ?_
  refine r_iaddN dL_law_1929 ?_
  refine r_sld hSc dL_law_1930 (vp_in_nI (by omega) (by omega)) ?_
  refine Wx.top (y := inp (7 * k + 1)) (by rw [nI_clamp (by omega)]) ?_
  refine r_aload_n dL_law_1931 rfl 1 rfl ?_
  refine r_iload dL_law_1932 5 rfl ?_
  refine r_iconst (v := nI 2) dL_law_1934 (by decide) ?_
  refine r_iaddN dL_law_1935 ?_
  refine r_sld hSc dL_law_1936 (vp_in_nI (by omega) (by omega)) ?_
  refine Wx.top (y := inp (7 * k + 2)) (by rw [nI_clamp (by omega)]) ?_
  refine r_callV (M2 := m_X13_blame) (As := [.int (inp (7 * k + 1)), .int (inp (7 * k + 2))]) (rest := []) dL_law_1937 cl_228 rfl rfl rfl (Nat.le_of_ble_eq_true rfl) hm1 rfl rfl (by decide) hMO (fun v9 S2 hq => ?_) (fun E9 T9 hq => by obtain ⟨res, e, -⟩ := hq; cases e)
  obtain ⟨res, e, hth, hz, hJ⟩ := hq
  cases e
  show Wx _ G S2 1940 [(5, .int (nI kd)), (0, .ref (gK G 5 0)), (1, .ref x), (2, .ref m), (3, .ref b), (4, .int (nI (7 * k)))] [.int res] _
  refine r_istore (lv' := [(6, .int res), (5, .int (nI kd)), (0, .ref (gK G 5 0)), (1, .ref x), (2, .ref m), (3, .ref b), (4, .int (nI (7 * k)))]) dL_law_1940 (Nat.le_of_ble_eq_true rfl) rfl ?_
  refine r_aload_n dL_law_1942 rfl 4 rfl ?_
  refine r_fnV (M2 := m_X13_thrown) (As := []) (rest := []) (v := some (.int (nI kd))) dL_law_1943 cl_152 rfl rfl rfl (Nat.le_of_ble_eq_true rfl) hJ.m15 rfl rfl (by decide) hth rfl ?_
  refine r_iload dL_law_1946 1 rfl ?_
  refine r_icmp_eqN (tgt := 1953) dL_law_1948 (by decide) (by omega) (by omega) (fun _ => ?_) (fun z => absurd rfl z)
  refine r_iload dL_law_1953 1 rfl ?_
  refine r_if_neN (tgt := 1970) dL_law_1955 (by decide) (by omega) (fun _ => r_goto (tgt := 2750) dL_law_1970 (by decide) (Wx.sub [2, 3, 4, 5, 6] rfl (kk S2 hJ))) (fun z => ?_)
  refine r_aload_n dL_law_1958 rfl 5 rfl ?_
  refine r_iconst (v := nI 0) dL_law_1959 (by decide) ?_
  refine r_lald dL_law_1960 hJ.inp.1.1 (by rw [hJ.inp.1.2]; exact vp_in_nI (by decide) (by decide)) ?_
  rw [show zL S2 b (nI 0).toNatClampNeg = res.toInt64 from (by rw [nI_clamp (by decide)]; exact hz z)]
  refine r_iload dL_law_1961 0 rfl ?_
  refine r_i2l dL_law_1963 ?_
  refine r_lcmp dL_law_1964 ?_
  refine Wx.top (cmp_self _) ?_
  exact r_if_eqN (tgt := 1970) dL_law_1965 (by decide) (by decide) (fun _ => r_goto (tgt := 2750) dL_law_1970 (by decide) (Wx.sub [2, 3, 4, 5, 6] rfl (kk S2 hJ))) (fun z => absurd rfl z)
theorem w_worst {G : GI} {S : Hp} {x m b a0 : Nat} {ip inp : Nat → Int32} {n0 n B0 U0 k : Nat} {Q : OV → Hp → Prop} (hSc : SCR G n inp) (h : JS S x m b a0 ip n0 B0 U0 k) (h1 : B0 + k + 1 ≤ gN G) (h2 : U0 + 6 * k + 6 ≤ gM G) (hk : k < 130000) (hi : 7 * k + 7 ≤ n) (hn : n < 2 ^ 31) (kk : ∀ S', JS S' x m b a0 ip n0 B0 U0 (k + 1) → Wx m_L_law G S' 2750 [(0, .ref (gK G 5 0)), (1, .ref x), (2, .ref m), (3, .ref b), (4, .int (nI (7 * k)))] [] Q) : Wx m_L_law G S 1973 [(0, .ref (gK G 5 0)), (1, .ref x), (2, .ref m), (3, .ref b), (4, .int (nI (7 * k)))] [] Q := by
  refine r_aload_n dL_law_1973 rfl 1 rfl ?_
  refine r_aload_n dL_law_1974 rfl 0 rfl ?_
  refine r_iload dL_law_1975 4 rfl ?_
  refine r_iconst (v := nI 1) dL_law_1977 (by decide) ?_
  refine r_iaddN dL_law_1978 ?_
  refine r_sld hSc dL_law_1979 (vp_in_nI (by omega) (by omega)) ?_
  refine Wx.top (y := inp (7 * k + 1)) (by rw [nI_clamp (by omega)]) ?_
  refine r_aload_n dL_law_1980 rfl 3 rfl ?_
  refine r_callSX (M2 := m_L_worst) (As := [.ref x, .int (inp (7 * k + 1)), .ref b]) (rest := []) dL_law_1981 cl_229 rfl rfl (Nat.le_of_ble_eq_true rfl) (j_worst h h1 h2 hk) (fun v9 S1 hq => ?_) (fun E9 T9 hq => by obtain ⟨kd, -, e, -⟩ := hq; cases e)
  obtain ⟨kd, hkd, e, ⟨hm1, hb1, hb2, hb3⟩, hMO⟩ := hq
  cases e
  show Wx _ G S1 1984 [(0, .ref (gK G 5 0)), (1, .ref x), (2, .ref m), (3, .ref b), (4, .int (nI (7 * k)))] [.int (nI kd)] _
  refine r_istore (lv' := [(5, .int (nI kd)), (0, .ref (gK G 5 0)), (1, .ref x), (2, .ref m), (3, .ref b), (4, .int (nI (7 * k)))]) dL_law_1984 (Nat.le_of_ble_eq_true rfl) rfl ?_
  refine r_aload_n dL_law_1986 rfl 3 rfl ?_
  refine r_aload_n dL_law_1987 rfl 1 rfl ?_
  refine r_iload dL_law_1988 5 rfl ?_
  refine r_iconst (v := nI 1) dL_law_1990 (by decide) ?_
  refine r_iaddN dL_law_1991 ?_
  refine r_sld hSc dL_law_1992 (vp_in_nI (by omega) (by omega)) ?_
  refine Wx.top (y := inp (7 * k + 1)) (by rw [nI_clamp (by omega)]) ?_
  refine r_callV (M2 := m_X13_worst) (As := [.int (inp (7 * k + 1))]) (rest := []) dL_law_1993 cl_231 rfl rfl rfl (Nat.le_of_ble_eq_true rfl) hm1 rfl rfl (by decide) hMO (fun v9 S2 hq => ?_) (fun E9 T9 hq => by obtain ⟨res, e, -⟩ := hq; cases e)
  obtain ⟨res, e, hth, hz, hJ⟩ := hq
  cases e
  show Wx _ G S2 1996 [(5, .int (nI kd)), (0, .ref (gK G 5 0)), (1, .ref x), (2, .ref m), (3, .ref b), (4, .int (nI (7 * k)))] [.int res] _
  refine r_istore (lv' := [(6, .int res), (5, .int (nI kd)), (0, .ref (gK G 5 0)), (1, .ref x), (2, .ref m), (3, .ref b), (4, .int (nI (7 * k)))]) dL_law_1996 (Nat.le_of_ble_eq_true rfl) rfl ?_
  refine r_aload_n dL_law_1998 rfl 4 rfl ?_
  refine r_fnV (M2 := m_X13_thrown) (As := []) (rest := []) (v := some (.int (nI kd))) dL_law_1999 cl_152 rfl rfl rfl (Nat.le_of_ble_eq_true rfl) hJ.m15 rfl rfl (by decide) hth rfl ?_
  refine r_iload dL_law_2002 1 rfl ?_
  refine r_icmp_eqN (tgt := 2009) dL_law_2004 (by decide) (by omega) (by omega) (fun _ => ?_) (fun z => absurd rfl z)
  refine r_iload dL_law_2009 1 rfl ?_
  refine r_if_neN (tgt := 2026) dL_law_2011 (by decide) (by omega) (fun _ => r_goto (tgt := 2750) dL_law_2026 (by decide) (Wx.sub [2, 3, 4, 5, 6] rfl (kk S2 hJ))) (fun z => ?_)
  refine r_aload_n dL_law_2014 rfl 5 rfl ?_
  refine r_iconst (v := nI 0) dL_law_2015 (by decide) ?_
  refine r_lald dL_law_2016 hJ.inp.1.1 (by rw [hJ.inp.1.2]; exact vp_in_nI (by decide) (by decide)) ?_
  rw [show zL S2 b (nI 0).toNatClampNeg = res.toInt64 from (by rw [nI_clamp (by decide)]; exact hz z)]
  refine r_iload dL_law_2017 0 rfl ?_
  refine r_i2l dL_law_2019 ?_
  refine r_lcmp dL_law_2020 ?_
  refine Wx.top (cmp_self _) ?_
  exact r_if_eqN (tgt := 2026) dL_law_2021 (by decide) (by decide) (fun _ => r_goto (tgt := 2750) dL_law_2026 (by decide) (Wx.sub [2, 3, 4, 5, 6] rfl (kk S2 hJ))) (fun z => absurd rfl z)
theorem w_outgoing {G : GI} {S : Hp} {x m b a0 : Nat} {ip inp : Nat → Int32} {n0 n B0 U0 k : Nat} {Q : OV → Hp → Prop} (hSc : SCR G n inp) (h : JS S x m b a0 ip n0 B0 U0 k) (h1 : B0 + k + 1 ≤ gN G) (h2 : U0 + 6 * k + 6 ≤ gM G) (hk : k < 130000) (hi : 7 * k + 7 ≤ n) (hn : n < 2 ^ 31) (kk : ∀ S', JS S' x m b a0 ip n0 B0 U0 (k + 1) → Wx m_L_law G S' 2750 [(0, .ref (gK G 5 0)), (1, .ref x), (2, .ref m), (3, .ref b), (4, .int (nI (7 * k)))] [] Q) : Wx m_L_law G S 2029 [(0, .ref (gK G 5 0)), (1, .ref x), (2, .ref m), (3, .ref b), (4, .int (nI (7 * k)))] [] Q := by
  refine r_aload_n dL_law_2029 rfl 1 rfl ?_
  refine r_aload_n dL_law_2030 rfl 0 rfl ?_
  refine r_iload dL_law_2031 4 rfl ?_
  refine r_iconst (v := nI 1) dL_law_2033 (by decide) ?_
  refine r_iaddN dL_law_2034 ?_
  refine r_sld hSc dL_law_2035 (vp_in_nI (by omega) (by omega)) ?_
  refine Wx.top (y := inp (7 * k + 1)) (by rw [nI_clamp (by omega)]) ?_
  refine r_aload_n dL_law_2036 rfl 3 rfl ?_
  refine r_callSX (M2 := m_L_outgoing) (As := [.ref x, .int (inp (7 * k + 1)), .ref b]) (rest := []) dL_law_2037 cl_232 rfl rfl (Nat.le_of_ble_eq_true rfl) (j_outgoing h h1 h2 hk) (fun v9 S1 hq => ?_) (fun E9 T9 hq => by obtain ⟨kd, -, e, -⟩ := hq; cases e)
  obtain ⟨kd, hkd, e, ⟨hm1, hb1, hb2, hb3⟩, hMO⟩ := hq
  cases e
  show Wx _ G S1 2040 [(0, .ref (gK G 5 0)), (1, .ref x), (2, .ref m), (3, .ref b), (4, .int (nI (7 * k)))] [.int (nI kd)] _
  refine r_istore (lv' := [(5, .int (nI kd)), (0, .ref (gK G 5 0)), (1, .ref x), (2, .ref m), (3, .ref b), (4, .int (nI (7 * k)))]) dL_law_2040 (Nat.le_of_ble_eq_true rfl) rfl ?_
  refine r_aload_n dL_law_2042 rfl 3 rfl ?_
  refine r_aload_n dL_law_2043 rfl 1 rfl ?_
  refine r_iload dL_law_2044 5 rfl ?_
  refine r_iconst (v := nI 1) dL_law_2046 (by decide) ?_
  refine r_iaddN dL_law_2047 ?_
  refine r_sld hSc dL_law_2048 (vp_in_nI (by omega) (by omega)) ?_
  refine Wx.top (y := inp (7 * k + 1)) (by rw [nI_clamp (by omega)]) ?_
  refine r_callV (M2 := m_X13_outgoing) (As := [.int (inp (7 * k + 1))]) (rest := []) dL_law_2049 cl_234 rfl rfl rfl (Nat.le_of_ble_eq_true rfl) hm1 rfl rfl (by decide) hMO (fun v9 S2 hq => ?_) (fun E9 T9 hq => by obtain ⟨res, e, -⟩ := hq; cases e)
  obtain ⟨res, e, hth, hz, hJ⟩ := hq
  cases e
  show Wx _ G S2 2052 [(5, .int (nI kd)), (0, .ref (gK G 5 0)), (1, .ref x), (2, .ref m), (3, .ref b), (4, .int (nI (7 * k)))] [.int res] _
  refine r_istore (lv' := [(6, .int res), (5, .int (nI kd)), (0, .ref (gK G 5 0)), (1, .ref x), (2, .ref m), (3, .ref b), (4, .int (nI (7 * k)))]) dL_law_2052 (Nat.le_of_ble_eq_true rfl) rfl ?_
  refine r_aload_n dL_law_2054 rfl 4 rfl ?_
  refine r_fnV (M2 := m_X13_thrown) (As := []) (rest := []) (v := some (.int (nI kd))) dL_law_2055 cl_152 rfl rfl rfl (Nat.le_of_ble_eq_true rfl) hJ.m15 rfl rfl (by decide) hth rfl ?_
  refine r_iload dL_law_2058 1 rfl ?_
  refine r_icmp_eqN (tgt := 2065) dL_law_2060 (by decide) (by omega) (by omega) (fun _ => ?_) (fun z => absurd rfl z)
  refine r_iload dL_law_2065 1 rfl ?_
  refine r_if_neN (tgt := 2082) dL_law_2067 (by decide) (by omega) (fun _ => r_goto (tgt := 2750) dL_law_2082 (by decide) (Wx.sub [2, 3, 4, 5, 6] rfl (kk S2 hJ))) (fun z => ?_)
  refine r_aload_n dL_law_2070 rfl 5 rfl ?_
  refine r_iconst (v := nI 0) dL_law_2071 (by decide) ?_
  refine r_lald dL_law_2072 hJ.inp.1.1 (by rw [hJ.inp.1.2]; exact vp_in_nI (by decide) (by decide)) ?_
  rw [show zL S2 b (nI 0).toNatClampNeg = res.toInt64 from (by rw [nI_clamp (by decide)]; exact hz z)]
  refine r_iload dL_law_2073 0 rfl ?_
  refine r_i2l dL_law_2075 ?_
  refine r_lcmp dL_law_2076 ?_
  refine Wx.top (cmp_self _) ?_
  exact r_if_eqN (tgt := 2082) dL_law_2077 (by decide) (by decide) (fun _ => r_goto (tgt := 2750) dL_law_2082 (by decide) (Wx.sub [2, 3, 4, 5, 6] rfl (kk S2 hJ))) (fun z => absurd rfl z)
theorem w_foundShare {G : GI} {S : Hp} {x m b a0 : Nat} {ip inp : Nat → Int32} {n0 n B0 U0 k : Nat} {Q : OV → Hp → Prop} (hSc : SCR G n inp) (h : JS S x m b a0 ip n0 B0 U0 k) (h1 : B0 + k + 1 ≤ gN G) (h2 : U0 + 6 * k + 6 ≤ gM G) (hk : k < 130000) (hi : 7 * k + 7 ≤ n) (hn : n < 2 ^ 31) (kk : ∀ S', JS S' x m b a0 ip n0 B0 U0 (k + 1) → Wx m_L_law G S' 2750 [(0, .ref (gK G 5 0)), (1, .ref x), (2, .ref m), (3, .ref b), (4, .int (nI (7 * k)))] [] Q) : Wx m_L_law G S 2085 [(0, .ref (gK G 5 0)), (1, .ref x), (2, .ref m), (3, .ref b), (4, .int (nI (7 * k)))] [] Q := by
  refine r_aload_n dL_law_2085 rfl 1 rfl ?_
  refine r_aload_n dL_law_2086 rfl 0 rfl ?_
  refine r_iload dL_law_2087 4 rfl ?_
  refine r_iconst (v := nI 1) dL_law_2089 (by decide) ?_
  refine r_iaddN dL_law_2090 ?_
  refine r_sld hSc dL_law_2091 (vp_in_nI (by omega) (by omega)) ?_
  refine Wx.top (y := inp (7 * k + 1)) (by rw [nI_clamp (by omega)]) ?_
  refine r_aload_n dL_law_2092 rfl 3 rfl ?_
  refine r_callSX (M2 := m_L_foundShare) (As := [.ref x, .int (inp (7 * k + 1)), .ref b]) (rest := []) dL_law_2093 cl_235 rfl rfl (Nat.le_of_ble_eq_true rfl) (j_foundShare h h1 h2 hk) (fun v9 S1 hq => ?_) (fun E9 T9 hq => by obtain ⟨kd, -, e, -⟩ := hq; cases e)
  obtain ⟨kd, hkd, e, ⟨hm1, hb1, hb2, hb3⟩, hMO⟩ := hq
  cases e
  show Wx _ G S1 2096 [(0, .ref (gK G 5 0)), (1, .ref x), (2, .ref m), (3, .ref b), (4, .int (nI (7 * k)))] [.int (nI kd)] _
  refine r_istore (lv' := [(5, .int (nI kd)), (0, .ref (gK G 5 0)), (1, .ref x), (2, .ref m), (3, .ref b), (4, .int (nI (7 * k)))]) dL_law_2096 (Nat.le_of_ble_eq_true rfl) rfl ?_
  refine r_aload_n dL_law_2098 rfl 3 rfl ?_
  refine r_aload_n dL_law_2099 rfl 1 rfl ?_
  refine r_iload dL_law_2100 5 rfl ?_
  refine r_iconst (v := nI 1) dL_law_2102 (by decide) ?_
  refine r_iaddN dL_law_2103 ?_
  refine r_sld hSc dL_law_2104 (vp_in_nI (by omega) (by omega)) ?_
  refine Wx.top (y := inp (7 * k + 1)) (by rw [nI_clamp (by omega)]) ?_
  refine r_callV (M2 := m_X13_foundShare) (As := [.int (inp (7 * k + 1))]) (rest := []) dL_law_2105 cl_237 rfl rfl rfl (Nat.le_of_ble_eq_true rfl) hm1 rfl rfl (by decide) hMO (fun v9 S2 hq => ?_) (fun E9 T9 hq => by obtain ⟨res, e, -⟩ := hq; cases e)
  obtain ⟨res, e, hth, hz, hJ⟩ := hq
  cases e
  show Wx _ G S2 2108 [(5, .int (nI kd)), (0, .ref (gK G 5 0)), (1, .ref x), (2, .ref m), (3, .ref b), (4, .int (nI (7 * k)))] [.long res] _
  refine r_lstore (lv' := [(6, .long res), (5, .int (nI kd)), (0, .ref (gK G 5 0)), (1, .ref x), (2, .ref m), (3, .ref b), (4, .int (nI (7 * k)))]) dL_law_2108 (Nat.le_of_ble_eq_true rfl) rfl ?_
  refine r_aload_n dL_law_2110 rfl 4 rfl ?_
  refine r_fnV (M2 := m_X13_thrown) (As := []) (rest := []) (v := some (.int (nI kd))) dL_law_2111 cl_152 rfl rfl rfl (Nat.le_of_ble_eq_true rfl) hJ.m15 rfl rfl (by decide) hth rfl ?_
  refine r_iload dL_law_2114 1 rfl ?_
  refine r_icmp_eqN (tgt := 2121) dL_law_2116 (by decide) (by omega) (by omega) (fun _ => ?_) (fun z => absurd rfl z)
  refine r_iload dL_law_2121 1 rfl ?_
  refine r_if_neN (tgt := 2137) dL_law_2123 (by decide) (by omega) (fun _ => r_goto (tgt := 2750) dL_law_2137 (by decide) (Wx.sub [2, 3, 4, 5, 6] rfl (kk S2 hJ))) (fun z => ?_)
  refine r_aload_n dL_law_2126 rfl 5 rfl ?_
  refine r_iconst (v := nI 0) dL_law_2127 (by decide) ?_
  refine r_lald dL_law_2128 hJ.inp.1.1 (by rw [hJ.inp.1.2]; exact vp_in_nI (by decide) (by decide)) ?_
  rw [show zL S2 b (nI 0).toNatClampNeg = res from (by rw [nI_clamp (by decide)]; exact hz z)]
  refine r_lload dL_law_2129 0 rfl ?_
  refine r_lcmp dL_law_2131 ?_
  refine Wx.top (cmp_self _) ?_
  exact r_if_eqN (tgt := 2137) dL_law_2132 (by decide) (by decide) (fun _ => r_goto (tgt := 2750) dL_law_2137 (by decide) (Wx.sub [2, 3, 4, 5, 6] rfl (kk S2 hJ))) (fun z => absurd rfl z)
theorem w_open {G : GI} {S : Hp} {x m b a0 : Nat} {ip inp : Nat → Int32} {n0 n B0 U0 k : Nat} {Q : OV → Hp → Prop} (hSc : SCR G n inp) (h : JS S x m b a0 ip n0 B0 U0 k) (h1 : B0 + k + 1 ≤ gN G) (h2 : U0 + 6 * k + 6 ≤ gM G) (hk : k < 130000) (hi : 7 * k + 7 ≤ n) (hn : n < 2 ^ 31) (kk : ∀ S', JS S' x m b a0 ip n0 B0 U0 (k + 1) → Wx m_L_law G S' 2750 [(0, .ref (gK G 5 0)), (1, .ref x), (2, .ref m), (3, .ref b), (4, .int (nI (7 * k)))] [] Q) : Wx m_L_law G S 2140 [(0, .ref (gK G 5 0)), (1, .ref x), (2, .ref m), (3, .ref b), (4, .int (nI (7 * k)))] [] Q := by
  refine r_aload_n dL_law_2140 rfl 1 rfl ?_
  refine r_aload_n dL_law_2141 rfl 0 rfl ?_
  refine r_iload dL_law_2142 4 rfl ?_
  refine r_iconst (v := nI 1) dL_law_2144 (by decide) ?_
  refine r_iaddN dL_law_2145 ?_
  refine r_sld hSc dL_law_2146 (vp_in_nI (by omega) (by omega)) ?_
  refine Wx.top (y := inp (7 * k + 1)) (by rw [nI_clamp (by omega)]) ?_
  refine r_aload_n dL_law_2147 rfl 0 rfl ?_
  refine r_iload dL_law_2148 4 rfl ?_
  refine r_iconst (v := nI 2) dL_law_2150 (by decide) ?_
  refine r_iaddN dL_law_2151 ?_
  refine r_sld hSc dL_law_2152 (vp_in_nI (by omega) (by omega)) ?_
  refine Wx.top (y := inp (7 * k + 2)) (by rw [nI_clamp (by omega)]) ?_
  refine r_aload_n dL_law_2153 rfl 3 rfl ?_
  refine r_callSX (M2 := m_L_open) (As := [.ref x, .int (inp (7 * k + 1)), .int (inp (7 * k + 2)), .ref b]) (rest := []) dL_law_2154 cl_238 rfl rfl (Nat.le_of_ble_eq_true rfl) (j_open h h1 h2 hk) (fun v9 S1 hq => ?_) (fun E9 T9 hq => by obtain ⟨kd, -, e, -⟩ := hq; cases e)
  obtain ⟨kd, hkd, e, ⟨hm1, hb1, hb2, hb3⟩, hMO⟩ := hq
  cases e
  show Wx _ G S1 2157 [(0, .ref (gK G 5 0)), (1, .ref x), (2, .ref m), (3, .ref b), (4, .int (nI (7 * k)))] [.int (nI kd)] _
  refine r_istore (lv' := [(5, .int (nI kd)), (0, .ref (gK G 5 0)), (1, .ref x), (2, .ref m), (3, .ref b), (4, .int (nI (7 * k)))]) dL_law_2157 (Nat.le_of_ble_eq_true rfl) rfl ?_
  refine r_aload_n dL_law_2159 rfl 3 rfl ?_
  refine r_aload_n dL_law_2160 rfl 1 rfl ?_
  refine r_iload dL_law_2161 5 rfl ?_
  refine r_iconst (v := nI 1) dL_law_2163 (by decide) ?_
  refine r_iaddN dL_law_2164 ?_
  refine r_sld hSc dL_law_2165 (vp_in_nI (by omega) (by omega)) ?_
  refine Wx.top (y := inp (7 * k + 1)) (by rw [nI_clamp (by omega)]) ?_
  refine r_aload_n dL_law_2166 rfl 1 rfl ?_
  refine r_iload dL_law_2167 5 rfl ?_
  refine r_iconst (v := nI 2) dL_law_2169 (by decide) ?_
  refine r_iaddN dL_law_2170 ?_
  refine r_sld hSc dL_law_2171 (vp_in_nI (by omega) (by omega)) ?_
  refine Wx.top (y := inp (7 * k + 2)) (by rw [nI_clamp (by omega)]) ?_
  refine r_callV (M2 := m_X13_open) (As := [.int (inp (7 * k + 1)), .int (inp (7 * k + 2))]) (rest := []) dL_law_2172 cl_240 rfl rfl rfl (Nat.le_of_ble_eq_true rfl) hm1 rfl rfl (by decide) hMO (fun v9 S2 hq => ?_) (fun E9 T9 hq => by obtain ⟨res, e, -⟩ := hq; cases e)
  obtain ⟨res, e, hth, hz, hJ⟩ := hq
  cases e
  show Wx _ G S2 2175 [(5, .int (nI kd)), (0, .ref (gK G 5 0)), (1, .ref x), (2, .ref m), (3, .ref b), (4, .int (nI (7 * k)))] [.int res] _
  refine r_istore (lv' := [(6, .int res), (5, .int (nI kd)), (0, .ref (gK G 5 0)), (1, .ref x), (2, .ref m), (3, .ref b), (4, .int (nI (7 * k)))]) dL_law_2175 (Nat.le_of_ble_eq_true rfl) rfl ?_
  refine r_aload_n dL_law_2177 rfl 4 rfl ?_
  refine r_fnV (M2 := m_X13_thrown) (As := []) (rest := []) (v := some (.int (nI kd))) dL_law_2178 cl_152 rfl rfl rfl (Nat.le_of_ble_eq_true rfl) hJ.m15 rfl rfl (by decide) hth rfl ?_
  refine r_iload dL_law_2181 1 rfl ?_
  refine r_icmp_eqN (tgt := 2188) dL_law_2183 (by decide) (by omega) (by omega) (fun _ => ?_) (fun z => absurd rfl z)
  refine r_iload dL_law_2188 1 rfl ?_
  refine r_if_neN (tgt := 2205) dL_law_2190 (by decide) (by omega) (fun _ => r_goto (tgt := 2750) dL_law_2205 (by decide) (Wx.sub [2, 3, 4, 5, 6] rfl (kk S2 hJ))) (fun z => ?_)
  refine r_aload_n dL_law_2193 rfl 5 rfl ?_
  refine r_iconst (v := nI 0) dL_law_2194 (by decide) ?_
  refine r_lald dL_law_2195 hJ.inp.1.1 (by rw [hJ.inp.1.2]; exact vp_in_nI (by decide) (by decide)) ?_
  rw [show zL S2 b (nI 0).toNatClampNeg = res.toInt64 from (by rw [nI_clamp (by decide)]; exact hz z)]
  refine r_iload dL_law_2196 0 rfl ?_
  refine r_i2l dL_law_2198 ?_
  refine r_lcmp dL_law_2199 ?_
  refine Wx.top (cmp_self _) ?_
  exact r_if_eqN (tgt := 2205) dL_law_2200 (by decide) (by decide) (fun _ => r_goto (tgt := 2750) dL_law_2205 (by decide) (Wx.sub [2, 3, 4, 5, 6] rfl (kk S2 hJ))) (fun z => absurd rfl z)
theorem w_keep {G : GI} {S : Hp} {x m b a0 : Nat} {ip inp : Nat → Int32} {n0 n B0 U0 k : Nat} {Q : OV → Hp → Prop} (hSc : SCR G n inp) (h : JS S x m b a0 ip n0 B0 U0 k) (h1 : B0 + k + 1 ≤ gN G) (h2 : U0 + 6 * k + 6 ≤ gM G) (hk : k < 130000) (hi : 7 * k + 7 ≤ n) (hn : n < 2 ^ 31) (kk : ∀ S', JS S' x m b a0 ip n0 B0 U0 (k + 1) → Wx m_L_law G S' 2750 [(0, .ref (gK G 5 0)), (1, .ref x), (2, .ref m), (3, .ref b), (4, .int (nI (7 * k)))] [] Q) : Wx m_L_law G S 2208 [(0, .ref (gK G 5 0)), (1, .ref x), (2, .ref m), (3, .ref b), (4, .int (nI (7 * k)))] [] Q := by
  refine r_aload_n dL_law_2208 rfl 1 rfl ?_
  refine r_aload_n dL_law_2209 rfl 0 rfl ?_
  refine r_iload dL_law_2210 4 rfl ?_
  refine r_iconst (v := nI 1) dL_law_2212 (by decide) ?_
  refine r_iaddN dL_law_2213 ?_
  refine r_sld hSc dL_law_2214 (vp_in_nI (by omega) (by omega)) ?_
  refine Wx.top (y := inp (7 * k + 1)) (by rw [nI_clamp (by omega)]) ?_
  refine r_aload_n dL_law_2215 rfl 0 rfl ?_
  refine r_iload dL_law_2216 4 rfl ?_
  refine r_iconst (v := nI 2) dL_law_2218 (by decide) ?_
  refine r_iaddN dL_law_2219 ?_
  refine r_sld hSc dL_law_2220 (vp_in_nI (by omega) (by omega)) ?_
  refine Wx.top (y := inp (7 * k + 2)) (by rw [nI_clamp (by omega)]) ?_
  refine r_aload_n dL_law_2221 rfl 0 rfl ?_
  refine r_iload dL_law_2222 4 rfl ?_
  refine r_iconst (v := nI 3) dL_law_2224 (by decide) ?_
  refine r_iaddN dL_law_2225 ?_
  refine r_sld hSc dL_law_2226 (vp_in_nI (by omega) (by omega)) ?_
  refine Wx.top (y := inp (7 * k + 3)) (by rw [nI_clamp (by omega)]) ?_
  refine r_aload_n dL_law_2227 rfl 3 rfl ?_
  refine r_callSX (M2 := m_L_keep) (As := [.ref x, .int (inp (7 * k + 1)), .int (inp (7 * k + 2)), .int (inp (7 * k + 3)), .ref b]) (rest := []) dL_law_2228 cl_241 rfl rfl (Nat.le_of_ble_eq_true rfl) (j_keep h h1 h2 hk) (fun v9 S1 hq => ?_) (fun E9 T9 hq => by obtain ⟨kd, -, e, -⟩ := hq; cases e)
  obtain ⟨kd, hkd, e, ⟨hm1, hb1, hb2, hb3⟩, hMO⟩ := hq
  cases e
  show Wx _ G S1 2231 [(0, .ref (gK G 5 0)), (1, .ref x), (2, .ref m), (3, .ref b), (4, .int (nI (7 * k)))] [.int (nI kd)] _
  refine r_istore (lv' := [(5, .int (nI kd)), (0, .ref (gK G 5 0)), (1, .ref x), (2, .ref m), (3, .ref b), (4, .int (nI (7 * k)))]) dL_law_2231 (Nat.le_of_ble_eq_true rfl) rfl ?_
  refine r_aload_n dL_law_2233 rfl 3 rfl ?_
  refine r_aload_n dL_law_2234 rfl 1 rfl ?_
  refine r_iload dL_law_2235 5 rfl ?_
  refine r_iconst (v := nI 1) dL_law_2237 (by decide) ?_
  refine r_iaddN dL_law_2238 ?_
  refine r_sld hSc dL_law_2239 (vp_in_nI (by omega) (by omega)) ?_
  refine Wx.top (y := inp (7 * k + 1)) (by rw [nI_clamp (by omega)]) ?_
  refine r_aload_n dL_law_2240 rfl 1 rfl ?_
  refine r_iload dL_law_2241 5 rfl ?_
  refine r_iconst (v := nI 2) dL_law_2243 (by decide) ?_
  refine r_iaddN dL_law_2244 ?_
  refine r_sld hSc dL_law_2245 (vp_in_nI (by omega) (by omega)) ?_
  refine Wx.top (y := inp (7 * k + 2)) (by rw [nI_clamp (by omega)]) ?_
  refine r_aload_n dL_law_2246 rfl 1 rfl ?_
  refine r_iload dL_law_2247 5 rfl ?_
  refine r_iconst (v := nI 3) dL_law_2249 (by decide) ?_
  refine r_iaddN dL_law_2250 ?_
  refine r_sld hSc dL_law_2251 (vp_in_nI (by omega) (by omega)) ?_
  refine Wx.top (y := inp (7 * k + 3)) (by rw [nI_clamp (by omega)]) ?_
  refine r_callV (M2 := m_X13_keep) (As := [.int (inp (7 * k + 1)), .int (inp (7 * k + 2)), .int (inp (7 * k + 3))]) (rest := []) dL_law_2252 cl_243 rfl rfl rfl (Nat.le_of_ble_eq_true rfl) hm1 rfl rfl (by decide) hMO (fun v9 S2 hq => ?_) (fun E9 T9 hq => by obtain ⟨res, e, -⟩ := hq; cases e)
  obtain ⟨res, e, hth, hz, hJ⟩ := hq
  cases e
  show Wx _ G S2 2255 [(5, .int (nI kd)), (0, .ref (gK G 5 0)), (1, .ref x), (2, .ref m), (3, .ref b), (4, .int (nI (7 * k)))] [.int res] _
  refine r_istore (lv' := [(6, .int res), (5, .int (nI kd)), (0, .ref (gK G 5 0)), (1, .ref x), (2, .ref m), (3, .ref b), (4, .int (nI (7 * k)))]) dL_law_2255 (Nat.le_of_ble_eq_true rfl) rfl ?_
  refine r_aload_n dL_law_2257 rfl 4 rfl ?_
  refine r_fnV (M2 := m_X13_thrown) (As := []) (rest := []) (v := some (.int (nI kd))) dL_law_2258 cl_152 rfl rfl rfl (Nat.le_of_ble_eq_true rfl) hJ.m15 rfl rfl (by decide) hth rfl ?_
  refine r_iload dL_law_2261 1 rfl ?_
  refine r_icmp_eqN (tgt := 2268) dL_law_2263 (by decide) (by omega) (by omega) (fun _ => ?_) (fun z => absurd rfl z)
  refine r_iload dL_law_2268 1 rfl ?_
  refine r_if_neN (tgt := 2285) dL_law_2270 (by decide) (by omega) (fun _ => r_goto (tgt := 2750) dL_law_2285 (by decide) (Wx.sub [2, 3, 4, 5, 6] rfl (kk S2 hJ))) (fun z => ?_)
  refine r_aload_n dL_law_2273 rfl 5 rfl ?_
  refine r_iconst (v := nI 0) dL_law_2274 (by decide) ?_
  refine r_lald dL_law_2275 hJ.inp.1.1 (by rw [hJ.inp.1.2]; exact vp_in_nI (by decide) (by decide)) ?_
  rw [show zL S2 b (nI 0).toNatClampNeg = res.toInt64 from (by rw [nI_clamp (by decide)]; exact hz z)]
  refine r_iload dL_law_2276 0 rfl ?_
  refine r_i2l dL_law_2278 ?_
  refine r_lcmp dL_law_2279 ?_
  refine Wx.top (cmp_self _) ?_
  exact r_if_eqN (tgt := 2285) dL_law_2280 (by decide) (by decide) (fun _ => r_goto (tgt := 2750) dL_law_2285 (by decide) (Wx.sub [2, 3, 4, 5, 6] rfl (kk S2 hJ))) (fun z => absurd rfl z)
theorem w_specimen {G : GI} {S : Hp} {x m b a0 : Nat} {ip inp : Nat → Int32} {n0 n B0 U0 k : Nat} {Q : OV → Hp → Prop} (hSc : SCR G n inp) (h : JS S x m b a0 ip n0 B0 U0 k) (h1 : B0 + k + 1 ≤ gN G) (h2 : U0 + 6 * k + 6 ≤ gM G) (hk : k < 130000) (hi : 7 * k + 7 ≤ n) (hn : n < 2 ^ 31) (kk : ∀ S', JS S' x m b a0 ip n0 B0 U0 (k + 1) → Wx m_L_law G S' 2750 [(0, .ref (gK G 5 0)), (1, .ref x), (2, .ref m), (3, .ref b), (4, .int (nI (7 * k)))] [] Q) : Wx m_L_law G S 2288 [(0, .ref (gK G 5 0)), (1, .ref x), (2, .ref m), (3, .ref b), (4, .int (nI (7 * k)))] [] Q := by
  refine r_aload_n dL_law_2288 rfl 1 rfl ?_
  refine r_aload_n dL_law_2289 rfl 0 rfl ?_
  refine r_iload dL_law_2290 4 rfl ?_
  refine r_iconst (v := nI 1) dL_law_2292 (by decide) ?_
  refine r_iaddN dL_law_2293 ?_
  refine r_sld hSc dL_law_2294 (vp_in_nI (by omega) (by omega)) ?_
  refine Wx.top (y := inp (7 * k + 1)) (by rw [nI_clamp (by omega)]) ?_
  refine r_aload_n dL_law_2295 rfl 0 rfl ?_
  refine r_iload dL_law_2296 4 rfl ?_
  refine r_iconst (v := nI 2) dL_law_2298 (by decide) ?_
  refine r_iaddN dL_law_2299 ?_
  refine r_sld hSc dL_law_2300 (vp_in_nI (by omega) (by omega)) ?_
  refine Wx.top (y := inp (7 * k + 2)) (by rw [nI_clamp (by omega)]) ?_
  refine r_aload_n dL_law_2301 rfl 0 rfl ?_
  refine r_iload dL_law_2302 4 rfl ?_
  refine r_iconst (v := nI 3) dL_law_2304 (by decide) ?_
  refine r_iaddN dL_law_2305 ?_
  refine r_sld hSc dL_law_2306 (vp_in_nI (by omega) (by omega)) ?_
  refine Wx.top (y := inp (7 * k + 3)) (by rw [nI_clamp (by omega)]) ?_
  refine r_aload_n dL_law_2307 rfl 3 rfl ?_
  refine r_callSX (M2 := m_L_specimen) (As := [.ref x, .int (inp (7 * k + 1)), .int (inp (7 * k + 2)), .int (inp (7 * k + 3)), .ref b]) (rest := []) dL_law_2308 cl_244 rfl rfl (Nat.le_of_ble_eq_true rfl) (j_specimen h h1 h2 hk) (fun v9 S1 hq => ?_) (fun E9 T9 hq => by obtain ⟨kd, -, e, -⟩ := hq; cases e)
  obtain ⟨kd, hkd, e, ⟨hm1, hb1, hb2, hb3⟩, hMO⟩ := hq
  cases e
  show Wx _ G S1 2311 [(0, .ref (gK G 5 0)), (1, .ref x), (2, .ref m), (3, .ref b), (4, .int (nI (7 * k)))] [.int (nI kd)] _
  refine r_istore (lv' := [(5, .int (nI kd)), (0, .ref (gK G 5 0)), (1, .ref x), (2, .ref m), (3, .ref b), (4, .int (nI (7 * k)))]) dL_law_2311 (Nat.le_of_ble_eq_true rfl) rfl ?_
  refine r_aload_n dL_law_2313 rfl 3 rfl ?_
  refine r_aload_n dL_law_2314 rfl 1 rfl ?_
  refine r_iload dL_law_2315 5 rfl ?_
  refine r_iconst (v := nI 1) dL_law_2317 (by decide) ?_
  refine r_iaddN dL_law_2318 ?_
  refine r_sld hSc dL_law_2319 (vp_in_nI (by omega) (by omega)) ?_
  refine Wx.top (y := inp (7 * k + 1)) (by rw [nI_clamp (by omega)]) ?_
  refine r_aload_n dL_law_2320 rfl 1 rfl ?_
  refine r_iload dL_law_2321 5 rfl ?_
  refine r_iconst (v := nI 2) dL_law_2323 (by decide) ?_
  refine r_iaddN dL_law_2324 ?_
  refine r_sld hSc dL_law_2325 (vp_in_nI (by omega) (by omega)) ?_
  refine Wx.top (y := inp (7 * k + 2)) (by rw [nI_clamp (by omega)]) ?_
  refine r_aload_n dL_law_2326 rfl 1 rfl ?_
  refine r_iload dL_law_2327 5 rfl ?_
  refine r_iconst (v := nI 3) dL_law_2329 (by decide) ?_
  refine r_iaddN dL_law_2330 ?_
  refine r_sld hSc dL_law_2331 (vp_in_nI (by omega) (by omega)) ?_
  refine Wx.top (y := inp (7 * k + 3)) (by rw [nI_clamp (by omega)]) ?_
  refine r_callV (M2 := m_X13_specimen) (As := [.int (inp (7 * k + 1)), .int (inp (7 * k + 2)), .int (inp (7 * k + 3))]) (rest := []) dL_law_2332 cl_246 rfl rfl rfl (Nat.le_of_ble_eq_true rfl) hm1 rfl rfl (by decide) hMO (fun v9 S2 hq => ?_) (fun E9 T9 hq => by obtain ⟨res, e, -⟩ := hq; cases e)
  obtain ⟨res, e, hth, hz, hJ⟩ := hq
  cases e
  show Wx _ G S2 2335 [(5, .int (nI kd)), (0, .ref (gK G 5 0)), (1, .ref x), (2, .ref m), (3, .ref b), (4, .int (nI (7 * k)))] [.int res] _
  refine r_istore (lv' := [(6, .int res), (5, .int (nI kd)), (0, .ref (gK G 5 0)), (1, .ref x), (2, .ref m), (3, .ref b), (4, .int (nI (7 * k)))]) dL_law_2335 (Nat.le_of_ble_eq_true rfl) rfl ?_
  refine r_aload_n dL_law_2337 rfl 4 rfl ?_
  refine r_fnV (M2 := m_X13_thrown) (As := []) (rest := []) (v := some (.int (nI kd))) dL_law_2338 cl_152 rfl rfl rfl (Nat.le_of_ble_eq_true rfl) hJ.m15 rfl rfl (by decide) hth rfl ?_
  refine r_iload dL_law_2341 1 rfl ?_
  refine r_icmp_eqN (tgt := 2348) dL_law_2343 (by decide) (by omega) (by omega) (fun _ => ?_) (fun z => absurd rfl z)
  refine r_iload dL_law_2348 1 rfl ?_
  refine r_if_neN (tgt := 2365) dL_law_2350 (by decide) (by omega) (fun _ => r_goto (tgt := 2750) dL_law_2365 (by decide) (Wx.sub [2, 3, 4, 5, 6] rfl (kk S2 hJ))) (fun z => ?_)
  refine r_aload_n dL_law_2353 rfl 5 rfl ?_
  refine r_iconst (v := nI 0) dL_law_2354 (by decide) ?_
  refine r_lald dL_law_2355 hJ.inp.1.1 (by rw [hJ.inp.1.2]; exact vp_in_nI (by decide) (by decide)) ?_
  rw [show zL S2 b (nI 0).toNatClampNeg = res.toInt64 from (by rw [nI_clamp (by decide)]; exact hz z)]
  refine r_iload dL_law_2356 0 rfl ?_
  refine r_i2l dL_law_2358 ?_
  refine r_lcmp dL_law_2359 ?_
  refine Wx.top (cmp_self _) ?_
  exact r_if_eqN (tgt := 2365) dL_law_2360 (by decide) (by decide) (fun _ => r_goto (tgt := 2750) dL_law_2365 (by decide) (Wx.sub [2, 3, 4, 5, 6] rfl (kk S2 hJ))) (fun z => absurd rfl z)
theorem w_append {G : GI} {S : Hp} {x m b a0 : Nat} {ip inp : Nat → Int32} {n0 n B0 U0 k : Nat} {Q : OV → Hp → Prop} (hSc : SCR G n inp) (h : JS S x m b a0 ip n0 B0 U0 k) (h1 : B0 + k + 1 ≤ gN G) (h2 : U0 + 6 * k + 6 ≤ gM G) (hk : k < 130000) (hi : 7 * k + 7 ≤ n) (hn : n < 2 ^ 31) (kk : ∀ S', JS S' x m b a0 ip n0 B0 U0 (k + 1) → Wx m_L_law G S' 2750 [(0, .ref (gK G 5 0)), (1, .ref x), (2, .ref m), (3, .ref b), (4, .int (nI (7 * k)))] [] Q) : Wx m_L_law G S 2368 [(0, .ref (gK G 5 0)), (1, .ref x), (2, .ref m), (3, .ref b), (4, .int (nI (7 * k)))] [] Q := by
  refine r_aload_n dL_law_2368 rfl 1 rfl ?_
  refine r_aload_n dL_law_2369 rfl 0 rfl ?_
  refine r_iload dL_law_2370 4 rfl ?_
  refine r_iconst (v := nI 1) dL_law_2372 (by decide) ?_
  refine r_iaddN dL_law_2373 ?_
  refine r_sld hSc dL_law_2374 (vp_in_nI (by omega) (by omega)) ?_
  refine Wx.top (y := inp (7 * k + 1)) (by rw [nI_clamp (by omega)]) ?_
  refine r_aload_n dL_law_2375 rfl 3 rfl ?_
  refine r_callSX (M2 := m_L_append) (As := [.ref x, .int (inp (7 * k + 1)), .ref b]) (rest := []) dL_law_2376 cl_247 rfl rfl (Nat.le_of_ble_eq_true rfl) (j_append h h1 h2 hk) (fun v9 S1 hq => ?_) (fun E9 T9 hq => by obtain ⟨kd, -, e, -⟩ := hq; cases e)
  obtain ⟨kd, hkd, e, ⟨hm1, hb1, hb2, hb3⟩, hMO⟩ := hq
  cases e
  show Wx _ G S1 2379 [(0, .ref (gK G 5 0)), (1, .ref x), (2, .ref m), (3, .ref b), (4, .int (nI (7 * k)))] [.int (nI kd)] _
  refine r_istore (lv' := [(5, .int (nI kd)), (0, .ref (gK G 5 0)), (1, .ref x), (2, .ref m), (3, .ref b), (4, .int (nI (7 * k)))]) dL_law_2379 (Nat.le_of_ble_eq_true rfl) rfl ?_
  refine r_aload_n dL_law_2381 rfl 3 rfl ?_
  refine r_aload_n dL_law_2382 rfl 1 rfl ?_
  refine r_iload dL_law_2383 5 rfl ?_
  refine r_iconst (v := nI 1) dL_law_2385 (by decide) ?_
  refine r_iaddN dL_law_2386 ?_
  refine r_sld hSc dL_law_2387 (vp_in_nI (by omega) (by omega)) ?_
  refine Wx.top (y := inp (7 * k + 1)) (by rw [nI_clamp (by omega)]) ?_
  refine r_callV (M2 := m_X13_append) (As := [.int (inp (7 * k + 1))]) (rest := []) dL_law_2388 cl_249 rfl rfl rfl (Nat.le_of_ble_eq_true rfl) hm1 rfl rfl (by decide) hMO (fun v9 S2 hq => ?_) (fun E9 T9 hq => by obtain ⟨res, e, -⟩ := hq; cases e)
  obtain ⟨res, e, hth, hz, hJ⟩ := hq
  cases e
  show Wx _ G S2 2391 [(5, .int (nI kd)), (0, .ref (gK G 5 0)), (1, .ref x), (2, .ref m), (3, .ref b), (4, .int (nI (7 * k)))] [.int res] _
  refine r_istore (lv' := [(6, .int res), (5, .int (nI kd)), (0, .ref (gK G 5 0)), (1, .ref x), (2, .ref m), (3, .ref b), (4, .int (nI (7 * k)))]) dL_law_2391 (Nat.le_of_ble_eq_true rfl) rfl ?_
  refine r_aload_n dL_law_2393 rfl 4 rfl ?_
  refine r_fnV (M2 := m_X13_thrown) (As := []) (rest := []) (v := some (.int (nI kd))) dL_law_2394 cl_152 rfl rfl rfl (Nat.le_of_ble_eq_true rfl) hJ.m15 rfl rfl (by decide) hth rfl ?_
  refine r_iload dL_law_2397 1 rfl ?_
  refine r_icmp_eqN (tgt := 2404) dL_law_2399 (by decide) (by omega) (by omega) (fun _ => ?_) (fun z => absurd rfl z)
  refine r_iload dL_law_2404 1 rfl ?_
  refine r_if_neN (tgt := 2421) dL_law_2406 (by decide) (by omega) (fun _ => r_goto (tgt := 2750) dL_law_2421 (by decide) (Wx.sub [2, 3, 4, 5, 6] rfl (kk S2 hJ))) (fun z => ?_)
  refine r_aload_n dL_law_2409 rfl 5 rfl ?_
  refine r_iconst (v := nI 0) dL_law_2410 (by decide) ?_
  refine r_lald dL_law_2411 hJ.inp.1.1 (by rw [hJ.inp.1.2]; exact vp_in_nI (by decide) (by decide)) ?_
  rw [show zL S2 b (nI 0).toNatClampNeg = res.toInt64 from (by rw [nI_clamp (by decide)]; exact hz z)]
  refine r_iload dL_law_2412 0 rfl ?_
  refine r_i2l dL_law_2414 ?_
  refine r_lcmp dL_law_2415 ?_
  refine Wx.top (cmp_self _) ?_
  exact r_if_eqN (tgt := 2421) dL_law_2416 (by decide) (by decide) (fun _ => r_goto (tgt := 2750) dL_law_2421 (by decide) (Wx.sub [2, 3, 4, 5, 6] rfl (kk S2 hJ))) (fun z => absurd rfl z)
theorem w_run {G : GI} {S : Hp} {x m b a0 : Nat} {ip inp : Nat → Int32} {n0 n B0 U0 k : Nat} {Q : OV → Hp → Prop} (hSc : SCR G n inp) (h : JS S x m b a0 ip n0 B0 U0 k) (h1 : B0 + k + 1 ≤ gN G) (h2 : U0 + 6 * k + 6 ≤ gM G) (hk : k < 130000) (hi : 7 * k + 7 ≤ n) (hn : n < 2 ^ 31) (kk : ∀ S', JS S' x m b a0 ip n0 B0 U0 (k + 1) → Wx m_L_law G S' 2750 [(0, .ref (gK G 5 0)), (1, .ref x), (2, .ref m), (3, .ref b), (4, .int (nI (7 * k)))] [] Q) : Wx m_L_law G S 2424 [(0, .ref (gK G 5 0)), (1, .ref x), (2, .ref m), (3, .ref b), (4, .int (nI (7 * k)))] [] Q := by
  refine r_aload_n dL_law_2424 rfl 1 rfl ?_
  refine r_aload_n dL_law_2425 rfl 3 rfl ?_
  refine r_callSX (M2 := m_L_run) (As := [.ref x, .ref b]) (rest := []) dL_law_2426 cl_250 rfl rfl (Nat.le_of_ble_eq_true rfl) (j_run h h1 h2 hk) (fun v9 S1 hq => ?_) (fun E9 T9 hq => by obtain ⟨kd, -, e, -⟩ := hq; cases e)
  obtain ⟨kd, hkd, e, ⟨hm1, hb1, hb2, hb3⟩, hMO⟩ := hq
  cases e
  show Wx _ G S1 2429 [(0, .ref (gK G 5 0)), (1, .ref x), (2, .ref m), (3, .ref b), (4, .int (nI (7 * k)))] [.int (nI kd)] _
  refine r_istore (lv' := [(5, .int (nI kd)), (0, .ref (gK G 5 0)), (1, .ref x), (2, .ref m), (3, .ref b), (4, .int (nI (7 * k)))]) dL_law_2429 (Nat.le_of_ble_eq_true rfl) rfl ?_
  refine r_aload_n dL_law_2431 rfl 3 rfl ?_
  refine r_callV (M2 := m_X13_run) (As := []) (rest := []) dL_law_2432 cl_253 rfl rfl rfl (Nat.le_of_ble_eq_true rfl) hm1 rfl rfl (by decide) hMO (fun v9 S2 hq => ?_) (fun E9 T9 hq => by obtain ⟨res, e, -⟩ := hq; cases e)
  obtain ⟨res, e, hth, hz, hJ⟩ := hq
  cases e
  show Wx _ G S2 2435 [(5, .int (nI kd)), (0, .ref (gK G 5 0)), (1, .ref x), (2, .ref m), (3, .ref b), (4, .int (nI (7 * k)))] [.int res] _
  refine r_istore (lv' := [(6, .int res), (5, .int (nI kd)), (0, .ref (gK G 5 0)), (1, .ref x), (2, .ref m), (3, .ref b), (4, .int (nI (7 * k)))]) dL_law_2435 (Nat.le_of_ble_eq_true rfl) rfl ?_
  refine r_aload_n dL_law_2437 rfl 4 rfl ?_
  refine r_fnV (M2 := m_X13_thrown) (As := []) (rest := []) (v := some (.int (nI kd))) dL_law_2438 cl_152 rfl rfl rfl (Nat.le_of_ble_eq_true rfl) hJ.m15 rfl rfl (by decide) hth rfl ?_
  refine r_iload dL_law_2441 1 rfl ?_
  refine r_icmp_eqN (tgt := 2448) dL_law_2443 (by decide) (by omega) (by omega) (fun _ => ?_) (fun z => absurd rfl z)
  refine r_iload dL_law_2448 1 rfl ?_
  refine r_if_neN (tgt := 2465) dL_law_2450 (by decide) (by omega) (fun _ => r_goto (tgt := 2750) dL_law_2465 (by decide) (Wx.sub [2, 3, 4, 5, 6] rfl (kk S2 hJ))) (fun z => ?_)
  refine r_aload_n dL_law_2453 rfl 5 rfl ?_
  refine r_iconst (v := nI 0) dL_law_2454 (by decide) ?_
  refine r_lald dL_law_2455 hJ.inp.1.1 (by rw [hJ.inp.1.2]; exact vp_in_nI (by decide) (by decide)) ?_
  rw [show zL S2 b (nI 0).toNatClampNeg = res.toInt64 from (by rw [nI_clamp (by decide)]; exact hz z)]
  refine r_iload dL_law_2456 0 rfl ?_
  refine r_i2l dL_law_2458 ?_
  refine r_lcmp dL_law_2459 ?_
  refine Wx.top (cmp_self _) ?_
  exact r_if_eqN (tgt := 2465) dL_law_2460 (by decide) (by decide) (fun _ => r_goto (tgt := 2750) dL_law_2465 (by decide) (Wx.sub [2, 3, 4, 5, 6] rfl (kk S2 hJ))) (fun z => absurd rfl z)
theorem w_errorPosition {G : GI} {S : Hp} {x m b a0 : Nat} {ip inp : Nat → Int32} {n0 n B0 U0 k : Nat} {Q : OV → Hp → Prop} (hSc : SCR G n inp) (h : JS S x m b a0 ip n0 B0 U0 k) (h1 : B0 + k + 1 ≤ gN G) (h2 : U0 + 6 * k + 6 ≤ gM G) (hk : k < 130000) (hi : 7 * k + 7 ≤ n) (hn : n < 2 ^ 31) (kk : ∀ S', JS S' x m b a0 ip n0 B0 U0 (k + 1) → Wx m_L_law G S' 2750 [(0, .ref (gK G 5 0)), (1, .ref x), (2, .ref m), (3, .ref b), (4, .int (nI (7 * k)))] [] Q) : Wx m_L_law G S 2468 [(0, .ref (gK G 5 0)), (1, .ref x), (2, .ref m), (3, .ref b), (4, .int (nI (7 * k)))] [] Q := by
  refine r_aload_n dL_law_2468 rfl 1 rfl ?_
  refine r_callV (M2 := m_X12_errorPosition) (As := []) (rest := []) dL_law_2469 cl_254 rfl rfl rfl (Nat.le_of_ble_eq_true rfl) (j_errorPosition h h1 h2 hk).1 rfl rfl (by decide) (j_errorPosition h h1 h2 hk).2 (fun v9 S1 hq => ?_) (fun E9 T9 hq => by obtain ⟨v, e, -⟩ := hq; cases e)
  obtain ⟨v, e, ⟨hm1, hb1, hb2, hb3⟩, hEO⟩ := hq
  cases e
  show Wx _ G S1 2472 [(0, .ref (gK G 5 0)), (1, .ref x), (2, .ref m), (3, .ref b), (4, .int (nI (7 * k)))] [.int v] _
  refine r_aload_n dL_law_2472 rfl 2 rfl ?_
  refine r_callV (M2 := m_X13_errorPosition) (As := []) (rest := [.int v]) dL_law_2473 cl_257 rfl rfl rfl (Nat.le_of_ble_eq_true rfl) hm1 rfl rfl (by decide) hEO (fun v9 S2 hq => ?_) (fun E9 T9 hq => by obtain ⟨e, -⟩ := hq; cases e)
  obtain ⟨e, hJ⟩ := hq
  cases e
  show Wx _ G S2 2476 [(0, .ref (gK G 5 0)), (1, .ref x), (2, .ref m), (3, .ref b), (4, .int (nI (7 * k)))] [.int v, .int v] _
  exact r_icmp_eq (tgt := 2750) dL_law_2476 (by decide) (fun _ => (Wx.sub [0, 1, 2, 3, 4] rfl (kk S2 hJ))) (fun z => absurd rfl z)
theorem w_report {G : GI} {S : Hp} {x m b a0 : Nat} {ip inp : Nat → Int32} {n0 n B0 U0 k : Nat} {Q : OV → Hp → Prop} (hSc : SCR G n inp) (h : JS S x m b a0 ip n0 B0 U0 k) (h1 : B0 + k + 1 ≤ gN G) (h2 : U0 + 6 * k + 6 ≤ gM G) (hk : k < 130000) (hi : 7 * k + 7 ≤ n) (hn : n < 2 ^ 31) (kk : ∀ S', JS S' x m b a0 ip n0 B0 U0 (k + 1) → Wx m_L_law G S' 2750 [(0, .ref (gK G 5 0)), (1, .ref x), (2, .ref m), (3, .ref b), (4, .int (nI (7 * k)))] [] Q) : Wx m_L_law G S 2481 [(0, .ref (gK G 5 0)), (1, .ref x), (2, .ref m), (3, .ref b), (4, .int (nI (7 * k)))] [] Q := by
  refine r_aload_n dL_law_2481 rfl 1 rfl ?_
  refine r_aload_n dL_law_2482 rfl 0 rfl ?_
  refine r_iload dL_law_2483 4 rfl ?_
  refine r_iconst (v := nI 1) dL_law_2485 (by decide) ?_
  refine r_iaddN dL_law_2486 ?_
  refine r_sld hSc dL_law_2487 (vp_in_nI (by omega) (by omega)) ?_
  refine Wx.top (y := inp (7 * k + 1)) (by rw [nI_clamp (by omega)]) ?_
  refine r_aload_n dL_law_2488 rfl 3 rfl ?_
  refine r_callSX (M2 := m_L_report) (As := [.ref x, .int (inp (7 * k + 1)), .ref b]) (rest := []) dL_law_2489 cl_258 rfl rfl (Nat.le_of_ble_eq_true rfl) (j_report h h1 h2 hk) (fun v9 S1 hq => ?_) (fun E9 T9 hq => by obtain ⟨kd, -, e, -⟩ := hq; cases e)
  obtain ⟨kd, hkd, e, ⟨hm1, hb1, hb2, hb3⟩, hMO⟩ := hq
  cases e
  show Wx _ G S1 2492 [(0, .ref (gK G 5 0)), (1, .ref x), (2, .ref m), (3, .ref b), (4, .int (nI (7 * k)))] [.int (nI kd)] _
  refine r_istore (lv' := [(5, .int (nI kd)), (0, .ref (gK G 5 0)), (1, .ref x), (2, .ref m), (3, .ref b), (4, .int (nI (7 * k)))]) dL_law_2492 (Nat.le_of_ble_eq_true rfl) rfl ?_
  refine r_aload_n dL_law_2494 rfl 3 rfl ?_
  refine r_aload_n dL_law_2495 rfl 1 rfl ?_
  refine r_iload dL_law_2496 5 rfl ?_
  refine r_iconst (v := nI 1) dL_law_2498 (by decide) ?_
  refine r_iaddN dL_law_2499 ?_
  refine r_sld hSc dL_law_2500 (vp_in_nI (by omega) (by omega)) ?_
  refine Wx.top (y := inp (7 * k + 1)) (by rw [nI_clamp (by omega)]) ?_
  refine r_callV (M2 := m_X13_report) (As := [.int (inp (7 * k + 1))]) (rest := []) dL_law_2501 cl_260 rfl rfl rfl (Nat.le_of_ble_eq_true rfl) hm1 rfl rfl (by decide) hMO (fun v9 S2 hq => ?_) (fun E9 T9 hq => by obtain ⟨res, e, -⟩ := hq; cases e)
  obtain ⟨res, e, hth, hz, hJ⟩ := hq
  cases e
  show Wx _ G S2 2504 [(5, .int (nI kd)), (0, .ref (gK G 5 0)), (1, .ref x), (2, .ref m), (3, .ref b), (4, .int (nI (7 * k)))] [.int res] _
  refine r_istore (lv' := [(6, .int res), (5, .int (nI kd)), (0, .ref (gK G 5 0)), (1, .ref x), (2, .ref m), (3, .ref b), (4, .int (nI (7 * k)))]) dL_law_2504 (Nat.le_of_ble_eq_true rfl) rfl ?_
  refine r_aload_n dL_law_2506 rfl 4 rfl ?_
  refine r_fnV (M2 := m_X13_thrown) (As := []) (rest := []) (v := some (.int (nI kd))) dL_law_2507 cl_152 rfl rfl rfl (Nat.le_of_ble_eq_true rfl) hJ.m15 rfl rfl (by decide) hth rfl ?_
  refine r_iload dL_law_2510 1 rfl ?_
  refine r_icmp_eqN (tgt := 2517) dL_law_2512 (by decide) (by omega) (by omega) (fun _ => ?_) (fun z => absurd rfl z)
  refine r_iload dL_law_2517 1 rfl ?_
  refine r_if_neN (tgt := 2534) dL_law_2519 (by decide) (by omega) (fun _ => r_goto (tgt := 2750) dL_law_2534 (by decide) (Wx.sub [2, 3, 4, 5, 6] rfl (kk S2 hJ))) (fun z => ?_)
  refine r_aload_n dL_law_2522 rfl 5 rfl ?_
  refine r_iconst (v := nI 0) dL_law_2523 (by decide) ?_
  refine r_lald dL_law_2524 hJ.inp.1.1 (by rw [hJ.inp.1.2]; exact vp_in_nI (by decide) (by decide)) ?_
  rw [show zL S2 b (nI 0).toNatClampNeg = res.toInt64 from (by rw [nI_clamp (by decide)]; exact hz z)]
  refine r_iload dL_law_2525 0 rfl ?_
  refine r_i2l dL_law_2527 ?_
  refine r_lcmp dL_law_2528 ?_
  refine Wx.top (cmp_self _) ?_
  exact r_if_eqN (tgt := 2534) dL_law_2529 (by decide) (by decide) (fun _ => r_goto (tgt := 2750) dL_law_2534 (by decide) (Wx.sub [2, 3, 4, 5, 6] rfl (kk S2 hJ))) (fun z => absurd rfl z)
theorem w_character {G : GI} {S : Hp} {x m b a0 : Nat} {ip inp : Nat → Int32} {n0 n B0 U0 k : Nat} {Q : OV → Hp → Prop} (hSc : SCR G n inp) (h : JS S x m b a0 ip n0 B0 U0 k) (h1 : B0 + k + 1 ≤ gN G) (h2 : U0 + 6 * k + 6 ≤ gM G) (hk : k < 130000) (hi : 7 * k + 7 ≤ n) (hn : n < 2 ^ 31) (kk : ∀ S', JS S' x m b a0 ip n0 B0 U0 (k + 1) → Wx m_L_law G S' 2750 [(0, .ref (gK G 5 0)), (1, .ref x), (2, .ref m), (3, .ref b), (4, .int (nI (7 * k)))] [] Q) : Wx m_L_law G S 2537 [(0, .ref (gK G 5 0)), (1, .ref x), (2, .ref m), (3, .ref b), (4, .int (nI (7 * k)))] [] Q := by
  refine r_aload_n dL_law_2537 rfl 1 rfl ?_
  refine r_aload_n dL_law_2538 rfl 0 rfl ?_
  refine r_iload dL_law_2539 4 rfl ?_
  refine r_iconst (v := nI 1) dL_law_2541 (by decide) ?_
  refine r_iaddN dL_law_2542 ?_
  refine r_sld hSc dL_law_2543 (vp_in_nI (by omega) (by omega)) ?_
  refine Wx.top (y := inp (7 * k + 1)) (by rw [nI_clamp (by omega)]) ?_
  refine r_aload_n dL_law_2544 rfl 3 rfl ?_
  refine r_callSX (M2 := m_L_character) (As := [.ref x, .int (inp (7 * k + 1)), .ref b]) (rest := []) dL_law_2545 cl_261 rfl rfl (Nat.le_of_ble_eq_true rfl) (j_character h h1 h2 hk) (fun v9 S1 hq => ?_) (fun E9 T9 hq => by obtain ⟨kd, -, e, -⟩ := hq; cases e)
  obtain ⟨kd, hkd, e, ⟨hm1, hb1, hb2, hb3⟩, hMO⟩ := hq
  cases e
  show Wx _ G S1 2548 [(0, .ref (gK G 5 0)), (1, .ref x), (2, .ref m), (3, .ref b), (4, .int (nI (7 * k)))] [.int (nI kd)] _
  refine r_istore (lv' := [(5, .int (nI kd)), (0, .ref (gK G 5 0)), (1, .ref x), (2, .ref m), (3, .ref b), (4, .int (nI (7 * k)))]) dL_law_2548 (Nat.le_of_ble_eq_true rfl) rfl ?_
  refine r_aload_n dL_law_2550 rfl 3 rfl ?_
  refine r_aload_n dL_law_2551 rfl 1 rfl ?_
  refine r_iload dL_law_2552 5 rfl ?_
  refine r_iconst (v := nI 1) dL_law_2554 (by decide) ?_
  refine r_iaddN dL_law_2555 ?_
  refine r_sld hSc dL_law_2556 (vp_in_nI (by omega) (by omega)) ?_
  refine Wx.top (y := inp (7 * k + 1)) (by rw [nI_clamp (by omega)]) ?_
  refine r_callV (M2 := m_X13_character) (As := [.int (inp (7 * k + 1))]) (rest := []) dL_law_2557 cl_263 rfl rfl rfl (Nat.le_of_ble_eq_true rfl) hm1 rfl rfl (by decide) hMO (fun v9 S2 hq => ?_) (fun E9 T9 hq => by obtain ⟨res, e, -⟩ := hq; cases e)
  obtain ⟨res, e, hth, hz, hJ⟩ := hq
  cases e
  show Wx _ G S2 2560 [(5, .int (nI kd)), (0, .ref (gK G 5 0)), (1, .ref x), (2, .ref m), (3, .ref b), (4, .int (nI (7 * k)))] [.int res] _
  refine r_istore (lv' := [(6, .int res), (5, .int (nI kd)), (0, .ref (gK G 5 0)), (1, .ref x), (2, .ref m), (3, .ref b), (4, .int (nI (7 * k)))]) dL_law_2560 (Nat.le_of_ble_eq_true rfl) rfl ?_
  refine r_aload_n dL_law_2562 rfl 4 rfl ?_
  refine r_fnV (M2 := m_X13_thrown) (As := []) (rest := []) (v := some (.int (nI kd))) dL_law_2563 cl_152 rfl rfl rfl (Nat.le_of_ble_eq_true rfl) hJ.m15 rfl rfl (by decide) hth rfl ?_
  refine r_iload dL_law_2566 1 rfl ?_
  refine r_icmp_eqN (tgt := 2573) dL_law_2568 (by decide) (by omega) (by omega) (fun _ => ?_) (fun z => absurd rfl z)
  refine r_iload dL_law_2573 1 rfl ?_
  refine r_if_neN (tgt := 2590) dL_law_2575 (by decide) (by omega) (fun _ => r_goto (tgt := 2750) dL_law_2590 (by decide) (Wx.sub [2, 3, 4, 5, 6] rfl (kk S2 hJ))) (fun z => ?_)
  refine r_aload_n dL_law_2578 rfl 5 rfl ?_
  refine r_iconst (v := nI 0) dL_law_2579 (by decide) ?_
  refine r_lald dL_law_2580 hJ.inp.1.1 (by rw [hJ.inp.1.2]; exact vp_in_nI (by decide) (by decide)) ?_
  rw [show zL S2 b (nI 0).toNatClampNeg = res.toInt64 from (by rw [nI_clamp (by decide)]; exact hz z)]
  refine r_iload dL_law_2581 0 rfl ?_
  refine r_i2l dL_law_2583 ?_
  refine r_lcmp dL_law_2584 ?_
  refine Wx.top (cmp_self _) ?_
  exact r_if_eqN (tgt := 2590) dL_law_2585 (by decide) (by decide) (fun _ => r_goto (tgt := 2750) dL_law_2590 (by decide) (Wx.sub [2, 3, 4, 5, 6] rfl (kk S2 hJ))) (fun z => absurd rfl z)
theorem w_undo {G : GI} {S : Hp} {x m b a0 : Nat} {ip inp : Nat → Int32} {n0 n B0 U0 k : Nat} {Q : OV → Hp → Prop} (hSc : SCR G n inp) (h : JS S x m b a0 ip n0 B0 U0 k) (h1 : B0 + k + 1 ≤ gN G) (h2 : U0 + 6 * k + 6 ≤ gM G) (hk : k < 130000) (hi : 7 * k + 7 ≤ n) (hn : n < 2 ^ 31) (kk : ∀ S', JS S' x m b a0 ip n0 B0 U0 (k + 1) → Wx m_L_law G S' 2750 [(0, .ref (gK G 5 0)), (1, .ref x), (2, .ref m), (3, .ref b), (4, .int (nI (7 * k)))] [] Q) : Wx m_L_law G S 2593 [(0, .ref (gK G 5 0)), (1, .ref x), (2, .ref m), (3, .ref b), (4, .int (nI (7 * k)))] [] Q := by
  refine r_aload_n dL_law_2593 rfl 1 rfl ?_
  refine r_aload_n dL_law_2594 rfl 3 rfl ?_
  refine r_callSX (M2 := m_L_undo) (As := [.ref x, .ref b]) (rest := []) dL_law_2595 cl_264 rfl rfl (Nat.le_of_ble_eq_true rfl) (j_undo h h1 h2 hk) (fun v9 S1 hq => ?_) (fun E9 T9 hq => by obtain ⟨kd, -, e, -⟩ := hq; cases e)
  obtain ⟨kd, hkd, e, ⟨hm1, hb1, hb2, hb3⟩, hMO⟩ := hq
  cases e
  show Wx _ G S1 2598 [(0, .ref (gK G 5 0)), (1, .ref x), (2, .ref m), (3, .ref b), (4, .int (nI (7 * k)))] [.int (nI kd)] _
  refine r_istore (lv' := [(5, .int (nI kd)), (0, .ref (gK G 5 0)), (1, .ref x), (2, .ref m), (3, .ref b), (4, .int (nI (7 * k)))]) dL_law_2598 (Nat.le_of_ble_eq_true rfl) rfl ?_
  refine r_aload_n dL_law_2600 rfl 3 rfl ?_
  refine r_callV (M2 := m_X13_undo) (As := []) (rest := []) dL_law_2601 cl_266 rfl rfl rfl (Nat.le_of_ble_eq_true rfl) hm1 rfl rfl (by decide) hMO (fun v9 S2 hq => ?_) (fun E9 T9 hq => by obtain ⟨res, e, -⟩ := hq; cases e)
  obtain ⟨res, e, hth, hz, hJ⟩ := hq
  cases e
  show Wx _ G S2 2604 [(5, .int (nI kd)), (0, .ref (gK G 5 0)), (1, .ref x), (2, .ref m), (3, .ref b), (4, .int (nI (7 * k)))] [.int res] _
  refine r_istore (lv' := [(6, .int res), (5, .int (nI kd)), (0, .ref (gK G 5 0)), (1, .ref x), (2, .ref m), (3, .ref b), (4, .int (nI (7 * k)))]) dL_law_2604 (Nat.le_of_ble_eq_true rfl) rfl ?_
  refine r_aload_n dL_law_2606 rfl 4 rfl ?_
  refine r_fnV (M2 := m_X13_thrown) (As := []) (rest := []) (v := some (.int (nI kd))) dL_law_2607 cl_152 rfl rfl rfl (Nat.le_of_ble_eq_true rfl) hJ.m15 rfl rfl (by decide) hth rfl ?_
  refine r_iload dL_law_2610 1 rfl ?_
  refine r_icmp_eqN (tgt := 2617) dL_law_2612 (by decide) (by omega) (by omega) (fun _ => ?_) (fun z => absurd rfl z)
  refine r_iload dL_law_2617 1 rfl ?_
  refine r_if_neN (tgt := 2634) dL_law_2619 (by decide) (by omega) (fun _ => r_goto (tgt := 2750) dL_law_2634 (by decide) (Wx.sub [2, 3, 4, 5, 6] rfl (kk S2 hJ))) (fun z => ?_)
  refine r_aload_n dL_law_2622 rfl 5 rfl ?_
  refine r_iconst (v := nI 0) dL_law_2623 (by decide) ?_
  refine r_lald dL_law_2624 hJ.inp.1.1 (by rw [hJ.inp.1.2]; exact vp_in_nI (by decide) (by decide)) ?_
  rw [show zL S2 b (nI 0).toNatClampNeg = res.toInt64 from (by rw [nI_clamp (by decide)]; exact hz z)]
  refine r_iload dL_law_2625 0 rfl ?_
  refine r_i2l dL_law_2627 ?_
  refine r_lcmp dL_law_2628 ?_
  refine Wx.top (cmp_self _) ?_
  exact r_if_eqN (tgt := 2634) dL_law_2629 (by decide) (by decide) (fun _ => r_goto (tgt := 2750) dL_law_2634 (by decide) (Wx.sub [2, 3, 4, 5, 6] rfl (kk S2 hJ))) (fun z => absurd rfl z)
theorem w_save {G : GI} {S : Hp} {x m b a0 : Nat} {ip inp : Nat → Int32} {n0 n B0 U0 k : Nat} {Q : OV → Hp → Prop} (hSc : SCR G n inp) (h : JS S x m b a0 ip n0 B0 U0 k) (h1 : B0 + k + 1 ≤ gN G) (h2 : U0 + 6 * k + 6 ≤ gM G) (hk : k < 130000) (hi : 7 * k + 7 ≤ n) (hn : n < 2 ^ 31) (kk : ∀ S', JS S' x m b a0 ip n0 B0 U0 (k + 1) → Wx m_L_law G S' 2750 [(0, .ref (gK G 5 0)), (1, .ref x), (2, .ref m), (3, .ref b), (4, .int (nI (7 * k)))] [] Q) : Wx m_L_law G S 2637 [(0, .ref (gK G 5 0)), (1, .ref x), (2, .ref m), (3, .ref b), (4, .int (nI (7 * k)))] [] Q := by
  refine r_aload_n dL_law_2637 rfl 1 rfl ?_
  refine r_callV (M2 := m_X12_save) (As := []) (rest := []) dL_law_2638 cl_267 rfl rfl rfl (Nat.le_of_ble_eq_true rfl) (j_save h h1 h2 hk).1 rfl rfl (by decide) (j_save h h1 h2 hk).2 (fun v9 S1 hq => ?_) (fun E9 T9 hq => by obtain ⟨v, e, -⟩ := hq; cases e)
  obtain ⟨v, e, ⟨hm1, hb1, hb2, hb3⟩, hEO⟩ := hq
  cases e
  show Wx _ G S1 2641 [(0, .ref (gK G 5 0)), (1, .ref x), (2, .ref m), (3, .ref b), (4, .int (nI (7 * k)))] [.int v] _
  refine r_aload_n dL_law_2641 rfl 2 rfl ?_
  refine r_callV (M2 := m_X13_save) (As := []) (rest := [.int v]) dL_law_2642 cl_270 rfl rfl rfl (Nat.le_of_ble_eq_true rfl) hm1 rfl rfl (by decide) hEO (fun v9 S2 hq => ?_) (fun E9 T9 hq => by obtain ⟨e, -⟩ := hq; cases e)
  obtain ⟨e, hJ⟩ := hq
  cases e
  show Wx _ G S2 2645 [(0, .ref (gK G 5 0)), (1, .ref x), (2, .ref m), (3, .ref b), (4, .int (nI (7 * k)))] [.int v, .int v] _
  exact r_icmp_eq (tgt := 2750) dL_law_2645 (by decide) (fun _ => (Wx.sub [0, 1, 2, 3, 4] rfl (kk S2 hJ))) (fun z => absurd rfl z)
theorem w_restore {G : GI} {S : Hp} {x m b a0 : Nat} {ip inp : Nat → Int32} {n0 n B0 U0 k : Nat} {Q : OV → Hp → Prop} (hSc : SCR G n inp) (h : JS S x m b a0 ip n0 B0 U0 k) (h1 : B0 + k + 1 ≤ gN G) (h2 : U0 + 6 * k + 6 ≤ gM G) (hk : k < 130000) (hi : 7 * k + 7 ≤ n) (hn : n < 2 ^ 31) (kk : ∀ S', JS S' x m b a0 ip n0 B0 U0 (k + 1) → Wx m_L_law G S' 2750 [(0, .ref (gK G 5 0)), (1, .ref x), (2, .ref m), (3, .ref b), (4, .int (nI (7 * k)))] [] Q) : Wx m_L_law G S 2650 [(0, .ref (gK G 5 0)), (1, .ref x), (2, .ref m), (3, .ref b), (4, .int (nI (7 * k)))] [] Q := by
  refine r_aload_n dL_law_2650 rfl 1 rfl ?_
  refine r_aload_n dL_law_2651 rfl 3 rfl ?_
  refine r_callSX (M2 := m_L_restore) (As := [.ref x, .ref b]) (rest := []) dL_law_2652 cl_271 rfl rfl (Nat.le_of_ble_eq_true rfl) (j_restore h h1 h2 hk) (fun v9 S1 hq => ?_) (fun E9 T9 hq => by obtain ⟨kd, -, e, -⟩ := hq; cases e)
  obtain ⟨kd, hkd, e, ⟨hm1, hb1, hb2, hb3⟩, hMO⟩ := hq
  cases e
  show Wx _ G S1 2655 [(0, .ref (gK G 5 0)), (1, .ref x), (2, .ref m), (3, .ref b), (4, .int (nI (7 * k)))] [.int (nI kd)] _
  refine r_istore (lv' := [(5, .int (nI kd)), (0, .ref (gK G 5 0)), (1, .ref x), (2, .ref m), (3, .ref b), (4, .int (nI (7 * k)))]) dL_law_2655 (Nat.le_of_ble_eq_true rfl) rfl ?_
  refine r_aload_n dL_law_2657 rfl 3 rfl ?_
  refine r_callV (M2 := m_X13_restore) (As := []) (rest := []) dL_law_2658 cl_273 rfl rfl rfl (Nat.le_of_ble_eq_true rfl) hm1 rfl rfl (by decide) hMO (fun v9 S2 hq => ?_) (fun E9 T9 hq => by obtain ⟨res, e, -⟩ := hq; cases e)
  obtain ⟨res, e, hth, hz, hJ⟩ := hq
  cases e
  show Wx _ G S2 2661 [(5, .int (nI kd)), (0, .ref (gK G 5 0)), (1, .ref x), (2, .ref m), (3, .ref b), (4, .int (nI (7 * k)))] [.int res] _
  refine r_istore (lv' := [(6, .int res), (5, .int (nI kd)), (0, .ref (gK G 5 0)), (1, .ref x), (2, .ref m), (3, .ref b), (4, .int (nI (7 * k)))]) dL_law_2661 (Nat.le_of_ble_eq_true rfl) rfl ?_
  refine r_aload_n dL_law_2663 rfl 4 rfl ?_
  refine r_fnV (M2 := m_X13_thrown) (As := []) (rest := []) (v := some (.int (nI kd))) dL_law_2664 cl_152 rfl rfl rfl (Nat.le_of_ble_eq_true rfl) hJ.m15 rfl rfl (by decide) hth rfl ?_
  refine r_iload dL_law_2667 1 rfl ?_
  refine r_icmp_eqN (tgt := 2674) dL_law_2669 (by decide) (by omega) (by omega) (fun _ => ?_) (fun z => absurd rfl z)
  refine r_iload dL_law_2674 1 rfl ?_
  refine r_if_neN (tgt := 2691) dL_law_2676 (by decide) (by omega) (fun _ => r_goto (tgt := 2750) dL_law_2691 (by decide) (Wx.sub [2, 3, 4, 5, 6] rfl (kk S2 hJ))) (fun z => ?_)
  refine r_aload_n dL_law_2679 rfl 5 rfl ?_
  refine r_iconst (v := nI 0) dL_law_2680 (by decide) ?_
  refine r_lald dL_law_2681 hJ.inp.1.1 (by rw [hJ.inp.1.2]; exact vp_in_nI (by decide) (by decide)) ?_
  rw [show zL S2 b (nI 0).toNatClampNeg = res.toInt64 from (by rw [nI_clamp (by decide)]; exact hz z)]
  refine r_iload dL_law_2682 0 rfl ?_
  refine r_i2l dL_law_2684 ?_
  refine r_lcmp dL_law_2685 ?_
  refine Wx.top (cmp_self _) ?_
  exact r_if_eqN (tgt := 2691) dL_law_2686 (by decide) (by decide) (fun _ => r_goto (tgt := 2750) dL_law_2691 (by decide) (Wx.sub [2, 3, 4, 5, 6] rfl (kk S2 hJ))) (fun z => absurd rfl z)
theorem w_count {G : GI} {S : Hp} {x m b a0 : Nat} {ip inp : Nat → Int32} {n0 n B0 U0 k : Nat} {Q : OV → Hp → Prop} (hSc : SCR G n inp) (h : JS S x m b a0 ip n0 B0 U0 k) (h1 : B0 + k + 1 ≤ gN G) (h2 : U0 + 6 * k + 6 ≤ gM G) (hk : k < 130000) (hi : 7 * k + 7 ≤ n) (hn : n < 2 ^ 31) (kk : ∀ S', JS S' x m b a0 ip n0 B0 U0 (k + 1) → Wx m_L_law G S' 2750 [(0, .ref (gK G 5 0)), (1, .ref x), (2, .ref m), (3, .ref b), (4, .int (nI (7 * k)))] [] Q) : Wx m_L_law G S 2694 [(0, .ref (gK G 5 0)), (1, .ref x), (2, .ref m), (3, .ref b), (4, .int (nI (7 * k)))] [] Q := by
  refine r_aload_n dL_law_2694 rfl 1 rfl ?_
  refine r_aload_n dL_law_2695 rfl 0 rfl ?_
  refine r_iload dL_law_2696 4 rfl ?_
  refine r_iconst (v := nI 1) dL_law_2698 (by decide) ?_
  refine r_iaddN dL_law_2699 ?_
  refine r_sld hSc dL_law_2700 (vp_in_nI (by omega) (by omega)) ?_
  refine Wx.top (y := inp (7 * k + 1)) (by rw [nI_clamp (by omega)]) ?_
  refine r_aload_n dL_law_2701 rfl 3 rfl ?_
  refine r_callSX (M2 := m_L_count) (As := [.ref x, .int (inp (7 * k + 1)), .ref b]) (rest := []) dL_law_2702 cl_274 rfl rfl (Nat.le_of_ble_eq_true rfl) (j_count h h1 h2 hk) (fun v9 S1 hq => ?_) (fun E9 T9 hq => by obtain ⟨kd, -, e, -⟩ := hq; cases e)
  obtain ⟨kd, hkd, e, ⟨hm1, hb1, hb2, hb3⟩, hMO⟩ := hq
  cases e
  show Wx _ G S1 2705 [(0, .ref (gK G 5 0)), (1, .ref x), (2, .ref m), (3, .ref b), (4, .int (nI (7 * k)))] [.int (nI kd)] _
  refine r_istore (lv' := [(5, .int (nI kd)), (0, .ref (gK G 5 0)), (1, .ref x), (2, .ref m), (3, .ref b), (4, .int (nI (7 * k)))]) dL_law_2705 (Nat.le_of_ble_eq_true rfl) rfl ?_
  refine r_aload_n dL_law_2707 rfl 3 rfl ?_
  refine r_aload_n dL_law_2708 rfl 1 rfl ?_
  refine r_iload dL_law_2709 5 rfl ?_
  refine r_iconst (v := nI 1) dL_law_2711 (by decide) ?_
  refine r_iaddN dL_law_2712 ?_
  refine r_sld hSc dL_law_2713 (vp_in_nI (by omega) (by omega)) ?_
  refine Wx.top (y := inp (7 * k + 1)) (by rw [nI_clamp (by omega)]) ?_
  refine r_callV (M2 := m_X13_count) (As := [.int (inp (7 * k + 1))]) (rest := []) dL_law_2714 cl_276 rfl rfl rfl (Nat.le_of_ble_eq_true rfl) hm1 rfl rfl (by decide) hMO (fun v9 S2 hq => ?_) (fun E9 T9 hq => by obtain ⟨res, e, -⟩ := hq; cases e)
  obtain ⟨res, e, hth, hz, hJ⟩ := hq
  cases e
  show Wx _ G S2 2717 [(5, .int (nI kd)), (0, .ref (gK G 5 0)), (1, .ref x), (2, .ref m), (3, .ref b), (4, .int (nI (7 * k)))] [.int res] _
  refine r_istore (lv' := [(6, .int res), (5, .int (nI kd)), (0, .ref (gK G 5 0)), (1, .ref x), (2, .ref m), (3, .ref b), (4, .int (nI (7 * k)))]) dL_law_2717 (Nat.le_of_ble_eq_true rfl) rfl ?_
  refine r_aload_n dL_law_2719 rfl 4 rfl ?_
  refine r_fnV (M2 := m_X13_thrown) (As := []) (rest := []) (v := some (.int (nI kd))) dL_law_2720 cl_152 rfl rfl rfl (Nat.le_of_ble_eq_true rfl) hJ.m15 rfl rfl (by decide) hth rfl ?_
  refine r_iload dL_law_2723 1 rfl ?_
  refine r_icmp_eqN (tgt := 2730) dL_law_2725 (by decide) (by omega) (by omega) (fun _ => ?_) (fun z => absurd rfl z)
  refine r_iload dL_law_2730 1 rfl ?_
  refine r_if_neN (tgt := 2747) dL_law_2732 (by decide) (by omega) (fun _ => r_goto (tgt := 2750) dL_law_2747 (by decide) (Wx.sub [2, 3, 4, 5, 6] rfl (kk S2 hJ))) (fun z => ?_)
  refine r_aload_n dL_law_2735 rfl 5 rfl ?_
  refine r_iconst (v := nI 0) dL_law_2736 (by decide) ?_
  refine r_lald dL_law_2737 hJ.inp.1.1 (by rw [hJ.inp.1.2]; exact vp_in_nI (by decide) (by decide)) ?_
  rw [show zL S2 b (nI 0).toNatClampNeg = res.toInt64 from (by rw [nI_clamp (by decide)]; exact hz z)]
  refine r_iload dL_law_2738 0 rfl ?_
  refine r_i2l dL_law_2740 ?_
  refine r_lcmp dL_law_2741 ?_
  refine Wx.top (cmp_self _) ?_
  exact r_if_eqN (tgt := 2747) dL_law_2742 (by decide) (by decide) (fun _ => r_goto (tgt := 2750) dL_law_2747 (by decide) (Wx.sub [2, 3, 4, 5, 6] rfl (kk S2 hJ))) (fun z => absurd rfl z)
