/-! REFUSAL of inspect: the list of drawable units is written all the same -/
set_option maxRecDepth 4000 in
set_option maxHeartbeats 400000 in
theorem o_inspect_2 {G : GI} {S : Hp} {w : Nat → Nat} {k o : Nat} {A c g : Nat → Nat} {N : Nat} (h : OR S w k o A c) (hr : Rel c g N) (hal : ∀ l, l < g 0 → A l ≠ 0) {l : Nat} (hl : l < g 0) {p : Nat} (hp : g (90 + 13 * l + 0) = p) (hok : ¬ g (90 + 13 * l + 2) = 0 ∨ inS g l 0 = 0 ∨ g (22 + 10 * p + 3) = 3) : OCx m_X7_inspectLot G [.ref (o), .int (nI (l))] S w k o A (some (.int (-3))) (g) (N) := by
  refine Cn.of rfl (by decide) (Nat.le_of_ble_eq_true rfl) (fun hN hM => ?_)
  show Wx _ G _ 0 [(0, .ref (o)), (1, .int (nI (l)))] [] _
  have hx := OX.refl h
  have h24 := hr.n24
  have hl24 : l < 24 := by omega
  have hAl := hal l hl
  have hL := hr.lot hl
  have hz := hL.z
  have hp4 : p < 4 := hp ▸ hL.pr
  have hst := hL.st
  have hin : inS g l 0 ≤ g (90 + 13 * l + 1) := cnt_le _ _
  have hsv : g (22 + 10 * p + 3) ≤ 3 := (hr.p hp4).2.2.2.1.2.2.2.1
  refine r_aload_n dX7_inspectLot_0 rfl 0 rfl ?_
  refine r_iload_n dX7_inspectLot_1 rfl 1 rfl ?_
  refine r_fnV (M2 := m_X7_lotAt) (As := [.int (nI (l))]) (rest := []) (v := some (.ref (A l))) dX7_inspectLot_2 cc_X7_inspectLot_105 rfl rfl rfl (Nat.le_of_ble_eq_true rfl) hx.1.1.1 rfl rfl (by decide) (o_lotAt hx.1 hr hal (l := l) (by omega)) rfl ?_
  refine r_astore_n (lv' := [(2, .ref (A l)), (0, .ref (o)), (1, .int (nI (l)))]) dX7_inspectLot_5 rfl (by decide) rfl ?_
  refine r_aload_n dX7_inspectLot_6 rfl 0 rfl ?_
  refine r_ifnonnull (tgt := 12) dX7_inspectLot_7 (by decide) ?_
  refine r_aload_n dX7_inspectLot_12 rfl 1 rfl ?_
  refine r_aload_n dX7_inspectLot_13 rfl 0 rfl ?_
  refine r_getI (ci := 7) (k := 0) dX7_inspectLot_14 fr_X7_72 (hx.1.lo hl24 hAl).2.1 rfl ?_
  refine Wx.top (hx.1.l0 hl24 hAl) ?_
  refine Wx.topN (hL.h (f := 0) (by decide)) ?_
  refine Wx.topN hp ?_
  refine r_fnV (M2 := m_X7_productAt) (As := [.int (nI (p))]) (rest := []) (v := some (.ref (o + 12 + p))) dX7_inspectLot_17 cc_X7_inspectLot_75 rfl rfl rfl (Nat.le_of_ble_eq_true rfl) hx.1.1.1 rfl rfl (by decide) (k_productAt hx.1.1 (by omega)) rfl ?_
  refine r_astore_n (lv' := [(3, .ref (o + 12 + p)), (2, .ref (A l)), (0, .ref (o)), (1, .int (nI (l)))]) dX7_inspectLot_20 rfl (by decide) rfl ?_
  refine r_aload_n dX7_inspectLot_21 rfl 2 rfl ?_
  refine r_aload_n dX7_inspectLot_22 rfl 1 rfl ?_
  refine r_oexV (M2 := m_X7_listDrawable) (As := [.ref (A l)]) (rest := []) (v := some (.int (nI (inS g l 0)))) dX7_inspectLot_23 cc_X7_inspectLot_154 rfl rfl rfl (Nat.le_of_ble_eq_true rfl) hx.1.1.1 rfl rfl (by decide) hx (o_list hx.1 hr hal hl) rfl (fun T cd (hx : OX S w A T w k o A cd) hcd => ?_)
  have hrd : Rel cd g N := Rel.dr hcd.1 hr
  refine r_istore (lv' := [(4, .int (nI (inS g l 0))), (3, .ref (o + 12 + p)), (2, .ref (A l)), (0, .ref (o)), (1, .int (nI (l)))]) dX7_inspectLot_26 (by decide) rfl ?_
  refine r_aload_n dX7_inspectLot_28 rfl 1 rfl ?_
  refine r_ifnull dX7_inspectLot_29 ?_
  refine r_aload_n dX7_inspectLot_32 rfl 2 rfl ?_
  refine r_getI (ci := 7) (k := 3) dX7_inspectLot_33 fr_X7_108 (hx.1.lo hl24 hAl).2.1 rfl ?_
  refine Wx.top (hx.1.l3 hl24 hAl) ?_
  refine Wx.topN ((hrd.lot (l := l) (by omega)).h (f := 2) (by decide)) ?_
  refine r_if_neN (tgt := 52) dX7_inspectLot_36 (by decide) (by omega) (fun h36 => ?_) (fun h36 => ?_)
  · refine r_bipush (v := nI 4294967293) dX7_inspectLot_52 (by decide) ?_
    exact r_iret (ty := .int) dX7_inspectLot_54 rfl rfl ⟨congrArg (fun x => Sum.inl (some (Value.int x))) (by decide : nI 4294967293 = -3), cd, hx, hrd⟩
  · refine r_iload dX7_inspectLot_39 0 rfl ?_
    refine r_if_eqN (tgt := 52) dX7_inspectLot_41 (by decide) (by omega) (fun h41 => ?_) (fun h41 => ?_)
    · refine r_bipush (v := nI 4294967293) dX7_inspectLot_52 (by decide) ?_
      exact r_iret (ty := .int) dX7_inspectLot_54 rfl rfl ⟨congrArg (fun x => Sum.inl (some (Value.int x))) (by decide : nI 4294967293 = -3), cd, hx, hrd⟩
    · refine r_aload_n dX7_inspectLot_44 rfl 1 rfl ?_
      refine r_getI (ci := 10) (k := 3) dX7_inspectLot_45 fr_X7_98 (hx.1.1.2.2.2.2.2.2.2.2 p (by omega)).2 rfl ?_
      refine Wx.top (hx.1.p3 (i := p) (by omega)) ?_
      refine Wx.topN ((hrd.p (p := p) (by omega)).cf (f := 3) (by decide)) ?_
      refine r_iconst (v := nI 3) dX7_inspectLot_48 (by decide) ?_
      refine r_icmp_neN (tgt := 55) dX7_inspectLot_49 (by decide) (by omega) (by omega) (fun h49 => ?_) (fun h49 => ?_)
      · rcases hok with q | q | q
        · exact absurd h36 q
        · exact absurd q h41
        · exact absurd q h49
      · refine r_bipush (v := nI 4294967293) dX7_inspectLot_52 (by decide) ?_
        exact r_iret (ty := .int) dX7_inspectLot_54 rfl rfl ⟨congrArg (fun x => Sum.inl (some (Value.int x))) (by decide : nI 4294967293 = -3), cd, hx, hrd⟩
theorem draw_ex {g : Nat → Nat} {l : Nat} : ∀ s, s ≤ inS g l 0 → ∃ e, DrawE g l (inS g l 0) s e
  | 0, _ => ⟨fun _ => 0, fun k hk => absurd hk (Nat.not_lt_zero k)⟩
  | s + 1, hs => by
    obtain ⟨e, he⟩ := draw_ex (g := g) (l := l) s (by omega)
    have hc : ∀ k, k ≤ s → cnt (HD g l e k) (g (90 + 13 * l + 1)) + k = inS g l 0 := fun k => by
      induction k with
      | zero => exact fun _ => cnt_congr fun i _ => ⟨fun q => q.1, fun q => ⟨q, fun ⟨z, hz, _⟩ => absurd hz (Nat.not_lt_zero z)⟩⟩
      | succ k ih =>
        intro hk
        have h1 := ih (by omega)
        obtain ⟨b1, b2, b3, _⟩ := he k (by omega)
        have h2 := cnt_del (p := HD g l e k) (a := e k) ⟨b2, b3⟩ (g (90 + 13 * l + 1))
        rw [if_pos b1] at h2
        have h3 : cnt (HD g l e (k + 1)) (g (90 + 13 * l + 1)) = cnt (fun v => HD g l e k v ∧ ¬ v = e k) (g (90 + 13 * l + 1)) := cnt_congr fun i _ => by
          refine ⟨fun q => ⟨⟨q.1, fun ⟨z, hz, hz2⟩ => q.2 ⟨z, by omega, hz2⟩⟩, fun x => q.2 ⟨k, by omega, x⟩⟩, fun q => ⟨q.1.1, fun ⟨z, hz, hz2⟩ => ?_⟩⟩
          by_cases y : z = k
          · exact q.2 (by rw [hz2, y])
          · exact q.1.2 ⟨z, by omega, hz2⟩
        omega
    have h9 := hc s (Nat.le_refl s)
    have hpos : 0 < inS g l 0 - s := by omega
    have hlt : sdI g (s + 1) / 65536 % (inS g l 0 - s) < cnt (HD g l e s) (g (90 + 13 * l + 1)) := Nat.lt_of_lt_of_le (Nat.mod_lt _ hpos) (by omega)
    obtain ⟨x, hx1, hx2, hx3⟩ := cnt_ex hlt
    obtain ⟨E, hE1, hE2⟩ : ∃ E : Nat → Nat, E s = x ∧ ∀ z, z < s → E z = e z := ⟨fun k => if k = s then x else e k, if_pos rfl, fun z hz => if_neg (by omega)⟩
    refine ⟨E, fun k hk => ?_⟩
    have hHD : ∀ i, ((sW (g (402 + 2 * (200 * l + i))) = 0 ∧ ¬ ∃ q, q < k ∧ i = E q) ↔ HD g l e k i) := fun i =>
      ⟨fun q => ⟨q.1, fun ⟨z, hz, hz2⟩ => q.2 ⟨z, hz, hz2.trans (hE2 z (by omega)).symm⟩⟩, fun q => ⟨q.1, fun ⟨z, hz, hz2⟩ => q.2 ⟨z, hz, hz2.trans (hE2 z (by omega))⟩⟩⟩
    rw [cnt_congr fun i _ => hHD i]
    by_cases y : k = s
    · subst y
      rw [hE1]
      exact ⟨hx1, hx2.1, fun ⟨z, hz, hz2⟩ => hx2.2 ⟨z, hz, hz2.trans (hE2 z hz)⟩, hx3⟩
    · rw [hE2 k (by omega)]
      obtain ⟨b1, b2, b3, b4⟩ := he k (by omega)
      exact ⟨b1, b2, fun ⟨z, hz, hz2⟩ => b3 ⟨z, hz, hz2.trans (hE2 z (by omega))⟩, b4⟩
