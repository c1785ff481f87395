/-! TAKING PARTS -/
/-- e lists the first n numbers below z of which p holds -/
def EN (p : Nat → Prop) (n z : Nat) (e : Nat → Nat) : Prop := ∀ u, u < n → e u < z ∧ p (e u) ∧ cnt p (e u) = u
theorem en_ex {p : Nat → Prop} {n z : Nat} (h : n ≤ cnt p z) : ∃ e, EN p n z e := by
  have h1 : ∀ u, ∃ a, u < n → a < z ∧ p a ∧ cnt p a = u := fun u => by
    by_cases q : u < n
    · obtain ⟨a, ha, hp, he⟩ := cnt_ex (p := p) (n := z) (k := u) (by omega)
      exact ⟨a, fun _ => ⟨ha, hp, he⟩⟩
    · exact ⟨0, fun q9 => absurd q9 q⟩
  exact ⟨fun u => Classical.choose (h1 u), fun u hu => Classical.choose_spec (h1 u) hu⟩
theorem EN.inj {p : Nat → Prop} {n z : Nat} {e : Nat → Nat} (h : EN p n z e) {u v : Nat} (hu : u < n) (hv : v < n) (q : e u = e v) : u = v := by
  have h1 := (h u hu).2.2
  rw [q, (h v hv).2.2] at h1
  exact h1.symm
theorem EN.here {g : Nat → Nat} {t n z : Nat} {e : Nat → Nat} (hz : z ≤ 200) (h : EN (fun v => sW (g (402 + 2 * (200 * t + v))) = 0) n z e) : HereE g t n e := fun u hu => by
  obtain ⟨h1, h2, h3⟩ := h u hu
  have hf : cnt (fun v => sW (g (402 + 2 * (200 * t + v))) = 0) (frE e u) = u := by
    match u, hu with
    | 0, _ => rfl
    | u + 1, hu =>
      obtain ⟨q1, q2, q3⟩ := h u (by omega)
      show cnt _ (e u + 1) = u + 1
      exact (cnt_t (p := fun v => sW (g (402 + 2 * (200 * t + v))) = 0) q2).trans (by rw [q3])
  refine ⟨?_, by omega, h2, fun v hv1 hv2 hv => ?_⟩
  · by_cases q : frE e u ≤ e u
    · exact q
    · have := cnt_lt (p := fun v => sW (g (402 + 2 * (200 * t + v))) = 0) h2 (show e u < frE e u by omega)
      omega
  · have e1 := cnt_lt (p := fun v => sW (g (402 + 2 * (200 * t + v))) = 0) hv hv2
    have e2 := cnt_mono (p := fun v => sW (g (402 + 2 * (200 * t + v))) = 0) hv1
    omega
/-- part kp of lot l has been taken from lot t: the n units that e lists -/
def US (c : Nat → Nat) (l t kp n : Nat) (e : Nat → Nat) (c' : Nat → Nat) : Prop := (∀ j, j ≠ 90 + 13 * l + (10 + kp) → j ≠ 90 + 13 * l + 8 → (∀ u, u < n → j ≠ 402 + 8 * (200 * t + e u) ∧ j ≠ 402 + 8 * (200 * t + e u) + 4 ∧ j ≠ 402 + 8 * (200 * l + u) + 1) → c' j = c j) ∧ (c' (90 + 13 * l + (10 + kp)) = t ∧ c' (90 + 13 * l + 8) = kp + 1) ∧ ∀ u, u < n → c' (402 + 8 * (200 * t + e u)) = 3 ∧ c' (402 + 8 * (200 * t + e u) + 4) = 1000 * c 0 + u ∧ c' (402 + 8 * (200 * l + u) + 1) = (c (402 + 8 * (200 * l + u) + 1) ||| c (402 + 8 * (200 * t + e u) + 1))
theorem UP.us {c c' : Nat → Nat} {l t kp n ue z : Nat} {e : Nat → Nat} (hl : l < 24) (ht : t < 24) (hlt : l ≠ t) (hk : kp < 3) (hn : n ≤ 200) (hz : z ≤ 200) (hue : ue ≤ z) (hc : cnt (hrC (up1 (up1 c (90 + 13 * l + (10 + kp)) t) (90 + 13 * l + 8) (kp + 1)) t) ue = n) (he : EN (hrC (up1 (up1 c (90 + 13 * l + (10 + kp)) t) (90 + 13 * l + 8) (kp + 1)) t) n z e) (h : UP (up1 (up1 c (90 + 13 * l + (10 + kp)) t) (90 + 13 * l + 8) (kp + 1)) l t ue c') : US c l t kp n e c' := by
  have hlo : ∀ u, u < n → e u < ue := fun u hu => by
    by_cases q : e u < ue
    · exact q
    · have := cnt_mono (p := hrC (up1 (up1 c (90 + 13 * l + (10 + kp)) t) (90 + 13 * l + 8) (kp + 1)) t) (show ue ≤ e u by omega)
      have := (he u hu).2.2
      omega
  have hca : ∀ j, j ≠ 90 + 13 * l + (10 + kp) → j ≠ 90 + 13 * l + 8 → (up1 (up1 c (90 + 13 * l + (10 + kp)) t) (90 + 13 * l + 8) (kp + 1)) j = c j := fun j h1 h2 => by rw [up1_n h2, up1_n h1]
  refine ⟨fun j h1 h2 h3 => ?_, ⟨?_, ?_⟩, fun u hu => ?_⟩
  · refine Eq.trans ?_ (hca j h1 h2)
    by_cases q : ∃ v, v < ue ∧ (j = 402 + 8 * (200 * t + v) ∨ j = 402 + 8 * (200 * t + v) + 4)
    · obtain ⟨v, hv, hj⟩ := q
      by_cases hp : hrC (up1 (up1 c (90 + 13 * l + (10 + kp)) t) (90 + 13 * l + 8) (kp + 1)) t v
      · exfalso
        have hvn : cnt (hrC (up1 (up1 c (90 + 13 * l + (10 + kp)) t) (90 + 13 * l + 8) (kp + 1)) t) v < n := by have := cnt_lt hp hv; omega
        obtain ⟨_, q2, q3⟩ := he _ hvn
        have := cnt_inj q2 hp q3
        have := h3 _ hvn
        omega
      · obtain ⟨r1, r2⟩ := (h.2 v hv).2 hp
        rcases hj with hj | hj <;> rw [hj]
        · exact r1
        · exact r2
    · refine h.1 j (fun v hv => ⟨fun w => q ⟨v, hv, Or.inl w⟩, fun w => q ⟨v, hv, Or.inr w⟩⟩) (fun v hv => ?_)
      have := h3 v (by omega)
      exact this.2.2
  · rw [h.1 _ (fun v hv => by omega) (fun v hv => by omega), up1_n (by omega), up1_s]
  · rw [h.1 _ (fun v hv => by omega) (fun v hv => by omega), up1_s]
  · obtain ⟨_, q2, q3⟩ := he u hu
    obtain ⟨r1, r2, r3⟩ := (h.2 _ (hlo u hu)).1 q2
    rw [q3, hca 0 (by omega) (by omega)] at r2
    rw [q3, hca _ (by omega) (by omega), hca _ (by omega) (by omega)] at r3
    exact ⟨r1, r2, r3⟩
theorem US.lo {c c' : Nat → Nat} {l t kp n : Nat} {e : Nat → Nat} (h : US c l t kp n e c') (hl : l < 24) (hk : kp < 3) : ∀ j, j < 90 → c' j = c j := fun j hj => h.1 j (by omega) (by omega) (fun u _ => by omega)
theorem US.sz {c c' : Nat → Nat} {l t kp n : Nat} {e : Nat → Nat} (h : US c l t kp n e c') (hl : l < 24) (hk : kp < 3) : c' (90 + 13 * l + 1) = c (90 + 13 * l + 1) := h.1 _ (by omega) (by omega) (fun u _ => by omega)
theorem US.dl {c c' : Nat → Nat} {l t kp n : Nat} {e : Nat → Nat} (h : US c l t kp n e c') (h1 : ∀ q, q < n → c (402 + 8 * (200 * l + q) + 1) < 16) (h2 : ∀ v, v < n → c (402 + 8 * (200 * t + e v) + 1) < 16) : ∀ q, q < n → c' (402 + 8 * (200 * l + q) + 1) < 16 := fun q hq => by
  rw [(h.2.2 q hq).2.2]
  exact Nat.or_lt_two_pow (n := 4) (h1 q hq) (h2 q hq)
theorem US.ot {c c' : Nat → Nat} {l t kp n s : Nat} {e : Nat → Nat} (h : US c l t kp n e c') (hl : l < 24) (hk : kp < 3) (ht : t < 24) (hs : s < 24) (hn : n ≤ 200) (he : ∀ u, u < n → e u < 200) (hsl : s ≠ l) (hst : s ≠ t) : ∀ j, inL s j → c' j = c j := fun j hj => by
  unfold inL at hj
  exact h.1 j (by omega) (by omega) (fun u hu => by have := he u hu; omega)
theorem o_use {G : GI} {S : Hp} {w : Nat → Nat} {k o : Nat} {A c c0 g : Nat → Nat} {N : Nat} (h : OR S w k o A c) (hr : Rel c0 g N) {l t n kp : Nat} {e : Nat → Nat} (hl24 : l < 24) (hAl : A l ≠ 0) (hgl : g 0 = l) (hal : ∀ i, i < l → A i ≠ 0) (hc0 : c 0 = l) (ht : t < l) (hlot : ∀ j, inL t j → c j = c0 j) (hn : c (90 + 13 * l + 1) = n) (hn200 : n ≤ 200) (hkp : c (90 + 13 * l + 8) = kp) (hkp3 : kp < 3) (hd2 : ∀ u, u < n → c (402 + 8 * (200 * l + u) + 1) < 16) (hf : n ≤ cnt (fun v => sW (g (402 + 2 * (200 * t + v))) = 0) (g (90 + 13 * t + 1))) (he : EN (fun v => sW (g (402 + 2 * (200 * t + v))) = 0) n (g (90 + 13 * t + 1)) e) : OEx m_X7_usePart G [.ref o, .ref (A l), .int (nI t)] S w k o A none (US c l t kp n e) := by
  have hL := hr.lot (l := t) (by omega)
  have hz := hL.z
  have ez : c (90 + 13 * t + 1) = g (90 + 13 * t + 1) := (hlot _ (by unfold inL; omega)).trans (hL.h (f := 1) (by decide))
  have es : ∀ u, u < g (90 + 13 * t + 1) → c (402 + 8 * (200 * t + u)) = sW (g (402 + 2 * (200 * t + u))) := fun u hu => (hlot _ (by unfold inL; omega)).trans (hL.u0 hu)
  have ed : ∀ u, u < g (90 + 13 * t + 1) → c (402 + 8 * (200 * t + u) + 1) = g (402 + 2 * (200 * t + u)) % 16 := fun u hu => (hlot _ (by unfold inL; omega)).trans (hL.u1 hu)
  have ep : ∀ u, u < g (90 + 13 * t + 1) → (hrC (up1 (up1 c (90 + 13 * l + (10 + kp)) t) (90 + 13 * l + 8) (kp + 1)) t u ↔ sW (g (402 + 2 * (200 * t + u))) = 0) := fun u hu => by
    unfold hrC
    rw [up1_n (by omega), up1_n (by omega), es u hu]
  have ec : ∀ m, m ≤ g (90 + 13 * t + 1) → cnt (hrC (up1 (up1 c (90 + 13 * l + (10 + kp)) t) (90 + 13 * l + 8) (kp + 1)) t) m = cnt (fun v => sW (g (402 + 2 * (200 * t + v))) = 0) m := fun m hm => cnt_congr fun i hi => ep i (by omega)
  refine Cn.mono (fun r T hq => ?_) (o_usePart h hl24 hAl (by omega) (fun i hi => hal i (by omega)) (by omega) (by omega) hn hn200 ez hz hkp hkp3 (fun u hu => ?_) (fun u hu => ?_) hd2 ?_)
  · obtain ⟨h1, c', hx, ue, hue, hcn, hup⟩ := hq
    refine ⟨h1, c', hx, UP.us hl24 (by omega) (by omega) hkp3 hn200 hz hue hcn (fun u hu => ?_) hup⟩
    obtain ⟨q1, q2, q3⟩ := he u hu
    exact ⟨q1, (ep _ q1).2 q2, (ec _ (by omega)).trans q3⟩
  · rw [es u hu]; exact sW_lt _
  · rw [ed u hu]; exact Nat.mod_lt _ (by decide)
  · rw [ec _ (Nat.le_refl _)]; exact hf
