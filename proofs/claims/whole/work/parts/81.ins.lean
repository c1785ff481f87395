/-! AN INSPECTION in the order of its draws -/
section Ins
variable {g : Nat → Nat} {l : Nat} {cc : Nat → Nat → Nat} {e : Nat → Nat}
def DB (g : Nat → Nat) (l : Nat) (e : Nat → Nat) (k z : Nat) : Prop := drw e k z ∧ ¬ badV g l z = 0
noncomputable def BB (g : Nat → Nat) (l : Nat) (cc : Nat → Nat → Nat) (z i : Nat) : Nat := cnt (fun q => (g (402 + 2 * (200 * l + z)) % 16 &&& g (22 + 10 * g (90 + 13 * l + 0) + 1)) / 2 ^ q % 2 = 1 ∧ 62 + 4 * cc z q + q = i) 4
noncomputable def FF (g : Nat → Nat) (l : Nat) (cc : Nat → Nat → Nat) (e : Nat → Nat) (k i z : Nat) : Nat := @ite _ (DB g l e k z) (Classical.propDecidable _) (BB g l cc z i) 0
theorem FF_t {k i z : Nat} (h : DB g l e k z) : FF g l cc e k i z = BB g l cc z i := if_pos h
theorem FF_f {k i z : Nat} (h : ¬ DB g l e k z) : FF g l cc e k i z = 0 := if_neg h
theorem blmI_v {G : Nat → Nat} {z ks i : Nat} {c : Nat → Nat} (hd : G (402 + 2 * (200 * l + z)) % 16 = g (402 + 2 * (200 * l + z)) % 16) : ∀ q, blmI G c l z ks q i = G i + cnt (fun q => (g (402 + 2 * (200 * l + z)) % 16 &&& ks) / 2 ^ q % 2 = 1 ∧ 62 + 4 * c q + q = i) q
  | 0 => rfl
  | q + 1 => by
    have ih := blmI_v (ks := ks) (i := i) (c := c) hd q
    by_cases b : (g (402 + 2 * (200 * l + z)) % 16 &&& ks) / 2 ^ q % 2 = 1
    · rw [blmI_t (by rw [hd]; exact b)]
      by_cases f : 62 + 4 * c q + q = i
      · rw [cnt_t (p := fun q => (g (402 + 2 * (200 * l + z)) % 16 &&& ks) / 2 ^ q % 2 = 1 ∧ 62 + 4 * c q + q = i) ⟨b, f⟩, f, up1_s, ih]
        omega
      · rw [cnt_f (p := fun q => (g (402 + 2 * (200 * l + z)) % 16 &&& ks) / 2 ^ q % 2 = 1 ∧ 62 + 4 * c q + q = i) (fun h => f h.2), up1_n (fun h => f h.symm), ih]
    · rw [blmI_f (by rw [hd]; exact b), cnt_f (p := fun q => (g (402 + 2 * (200 * l + z)) % 16 &&& ks) / 2 ^ q % 2 = 1 ∧ 62 + 4 * c q + q = i) (fun h => b h.1), ih]
theorem insS_t {s : Nat → Nat} {u : Nat} {P : Prop} (h : P) : insS g s l u cc P = if badV g l u = 0 then s else becG (blmS g s l u cc) l u 1 := if_pos h
theorem insS_f {s : Nat → Nat} {u : Nat} {P : Prop} (h : ¬ P) : insS g s l u cc P = s := if_neg h
/-- a step of the reference's, by whether the unit is found -/
theorem insI_t {k u : Nat} (h : DB g l e k u) : insI g l cc e k (u + 1) = becG (blmS g (insI g l cc e k u) l u cc) l u 1 := by
  show insS g (insI g l cc e k u) l u cc (drw e k u) = _
  rw [insS_t h.1, if_neg h.2]
theorem insI_f {k u : Nat} (h : ¬ DB g l e k u) : insI g l cc e k (u + 1) = insI g l cc e k u := by
  show insS g (insI g l cc e k u) l u cc (drw e k u) = _
  by_cases d : drw e k u
  · rw [insS_t d, if_pos (Classical.not_not.mp fun q => h ⟨d, q⟩)]
  · rw [insS_f d]
theorem insI_o (h6 : ∀ u q, cc u q ≤ 6) {k i : Nat} (h3 : i ≠ 3) (hb : i < 62 ∨ 90 ≤ i) : ∀ u, (∀ z, z < u → i ≠ 402 + 2 * (200 * l + z)) → insI g l cc e k u i = g i
  | 0, _ => up1_n h3
  | u + 1, h => by
    have ih := insI_o h6 (k := k) h3 hb u (fun z hz => h z (by omega))
    by_cases d : DB g l e k u
    · rw [insI_t d, becG_n (h u (by omega))]
      unfold blmS
      rw [blmG_n (h6 u) hb]
      exact ih
    · rw [insI_f d]; exact ih
theorem insI_3 (h6 : ∀ u q, cc u q ≤ 6) {k : Nat} : ∀ u, insI g l cc e k u 3 = sdI g k
  | 0 => up1_s
  | u + 1 => by
    by_cases d : DB g l e k u
    · rw [insI_t d, becG_n (by omega)]
      unfold blmS
      rw [blmG_n (h6 u) (by omega)]
      exact insI_3 h6 u
    · rw [insI_f d]; exact insI_3 h6 u
theorem insI_w (h6 : ∀ u q, cc u q ≤ 6) {k z : Nat} : ∀ u, (z < u ∧ DB g l e k z → insI g l cc e k u (402 + 2 * (200 * l + z)) = becN (g (402 + 2 * (200 * l + z))) 1) ∧ (¬ (z < u ∧ DB g l e k z) → insI g l cc e k u (402 + 2 * (200 * l + z)) = g (402 + 2 * (200 * l + z)))
  | 0 => ⟨fun h => absurd h.1 (Nat.not_lt_zero _), fun _ => up1_n (by omega)⟩
  | u + 1 => by
    obtain ⟨i1, i2⟩ := insI_w h6 (k := k) (z := z) u
    by_cases d : DB g l e k u
    · rw [insI_t d]
      by_cases f : z = u
      · subst f
        refine ⟨fun _ => ?_, fun h => absurd ⟨by omega, d⟩ h⟩
        unfold becG blmS
        rw [up1_s, blmG_n (h6 z) (by omega), i2 (fun h => absurd h.1 (Nat.lt_irrefl z))]
      · have en : becG (blmS g (insI g l cc e k u) l u cc) l u 1 (402 + 2 * (200 * l + z)) = insI g l cc e k u (402 + 2 * (200 * l + z)) := by
          rw [becG_n (by omega)]
          unfold blmS
          rw [blmG_n (h6 u) (by omega)]
        rw [en]
        exact ⟨fun h => i1 ⟨by omega, h.2⟩, fun h => i2 (fun q => h ⟨by omega, q.2⟩)⟩
    · rw [insI_f d]
      refine ⟨fun h => i1 ⟨?_, h.2⟩, fun h => i2 (fun q => h ⟨by omega, q.2⟩)⟩
      by_cases f : z = u
      · subst f; exact absurd h.2 d
      · omega
theorem insI_b (h6 : ∀ u q, cc u q ≤ 6) {k i : Nat} (hi : 62 ≤ i ∧ i < 90) : ∀ u, insI g l cc e k u i = g i + sumN (FF g l cc e k i) u
  | 0 => up1_n (by omega)
  | u + 1 => by
    have ih := insI_b h6 (k := k) hi u
    show _ = g i + (sumN (FF g l cc e k i) u + FF g l cc e k i u)
    by_cases d : DB g l e k u
    · rw [insI_t d, becG_n (by omega), FF_t d]
      unfold blmS blmG
      have hw := (insI_w (g := g) (l := l) (e := e) h6 (k := k) (z := u) u).2 (fun h => absurd h.1 (Nat.lt_irrefl u))
      rw [blmI_v (g := g) (by rw [hw]) 4, ih]
      unfold BB
      omega
    · rw [insI_f d, FF_f d, ih]
      rfl
theorem sumN_pt {f f' : Nat → Nat} {x d : Nat} (hx : f' x = f x + d) (hn : ∀ z, z ≠ x → f' z = f z) : ∀ n, sumN f' n = sumN f n + (if x < n then d else 0)
  | 0 => rfl
  | n + 1 => by
    have ih := sumN_pt hx hn n
    show sumN f' n + f' n = sumN f n + f n + _
    rw [ih]
    by_cases c : n = x
    · rw [c, hx, if_neg (Nat.lt_irrefl x), if_pos (by omega)]; omega
    · rw [hn n c]
      by_cases c2 : x < n
      · rw [if_pos c2, if_pos (by omega)]; omega
      · rw [if_neg c2, if_neg (by omega)]; omega
theorem drw_s {k z : Nat} : drw e (k + 1) z ↔ drw e k z ∨ z = e k := by
  constructor
  · rintro ⟨q, hq, hz⟩
    by_cases c : q = k
    · subst c; exact Or.inr hz
    · exact Or.inl ⟨q, by omega, hz⟩
  · rintro (⟨q, hq, hz⟩ | h)
    · exact ⟨q, by omega, hz⟩
    · exact ⟨k, by omega, h⟩
noncomputable def GF (g : Nat → Nat) (l : Nat) (cc : Nat → Nat → Nat) (e : Nat → Nat) (n v s a k : Nat) : Nat → Nat := up1 (up1 (up1 (up1 (insI g l cc e k n) (90 + 13 * l + 4) v) (90 + 13 * l + 5) s) (90 + 13 * l + 6) a) (90 + 13 * l + 7) (cnt (DB g l e k) n)
theorem GF_n {n v s a k i : Nat} (h : i < 90 + 13 * l + 4 ∨ 90 + 13 * l + 7 < i) : GF g l cc e n v s a k i = insI g l cc e k n i := by
  unfold GF
  rw [up1_n (by omega), up1_n (by omega), up1_n (by omega), up1_n (by omega)]
theorem GF_4 {n v s a k : Nat} : GF g l cc e n v s a k (90 + 13 * l + 4) = v ∧ GF g l cc e n v s a k (90 + 13 * l + 5) = s ∧ GF g l cc e n v s a k (90 + 13 * l + 6) = a ∧ GF g l cc e n v s a k (90 + 13 * l + 7) = cnt (DB g l e k) n := by
  unfold GF
  refine ⟨?_, ?_, ?_, ?_⟩
  · rw [up1_n (by omega), up1_n (by omega), up1_n (by omega), up1_s]
  · rw [up1_n (by omega), up1_n (by omega), up1_s]
  · rw [up1_n (by omega), up1_s]
  · rw [up1_s]
theorem insI_00 : ∀ u, insI g l cc e 0 u = g
  | 0 => up1_self
  | u + 1 => by
    rw [insI_f (fun h => by obtain ⟨⟨q, hq, -⟩, -⟩ := h; exact absurd hq (Nat.not_lt_zero q))]
    exact insI_00 u
theorem DB_0 {n : Nat} : cnt (DB g l e 0) n = 0 := cnt_0 fun z _ h => by obtain ⟨⟨q, hq, -⟩, -⟩ := h; exact absurd hq (Nat.not_lt_zero q)
theorem GF_0 {n v s a : Nat} : GF g l cc e n v s a 0 = up1 (up1 (up1 (up1 g (90 + 13 * l + 4) v) (90 + 13 * l + 5) s) (90 + 13 * l + 6) a) (90 + 13 * l + 7) 0 := by
  unfold GF
  rw [insI_00, DB_0]
/-- a draw that finds nothing -/
theorem GF_sg (h6 : ∀ u q, cc u q ≤ 6) {n v s a k : Nat} (hl : l < 24) (hb : badV g l (e k) = 0) : up1 (GF g l cc e n v s a k) 3 (sdI g (k + 1)) = GF g l cc e n v s a (k + 1) := by
  have hD : ∀ z, DB g l e (k + 1) z ↔ DB g l e k z := fun z => by
    unfold DB
    rw [drw_s]
    constructor
    · rintro ⟨h | h, h2⟩
      · exact ⟨h, h2⟩
      · subst h; exact absurd hb h2
    · rintro ⟨h, h2⟩; exact ⟨Or.inl h, h2⟩
  have hi : ∀ u i, i ≠ 3 → insI g l cc e (k + 1) u i = insI g l cc e k u i := fun u i h3 => by
    by_cases hbl : 62 ≤ i ∧ i < 90
    · rw [insI_b h6 hbl, insI_b h6 hbl]
      congr 1
      have e9 : FF g l cc e (k + 1) i = FF g l cc e k i := funext fun z => by
        by_cases d : DB g l e k z
        · rw [FF_t d, FF_t ((hD z).mpr d)]
        · rw [FF_f d, FF_f (fun q => d ((hD z).mp q))]
      rw [e9]
    · by_cases hw : ∃ z, z < u ∧ i = 402 + 2 * (200 * l + z)
      · obtain ⟨z, hz, rfl⟩ := hw
        by_cases d : DB g l e k z
        · rw [(insI_w h6 u).1 ⟨hz, d⟩, (insI_w h6 u).1 ⟨hz, (hD z).mpr d⟩]
        · rw [(insI_w h6 u).2 (fun q => d q.2), (insI_w h6 u).2 (fun q => d ((hD z).mp q.2))]
      · rw [insI_o h6 h3 (by omega) u (fun z hz q => hw ⟨z, hz, q⟩), insI_o h6 h3 (by omega) u (fun z hz q => hw ⟨z, hz, q⟩)]
  funext i
  by_cases h3 : i = 3
  · rw [h3, up1_s, GF_n (by omega), insI_3 h6]
  · rw [up1_n h3]
    unfold GF
    rw [cnt_congr (p := DB g l e (k + 1)) (q := DB g l e k) fun z _ => hD z]
    unfold up1
    rw [hi n i h3]
/-- .. and one that finds a unit -/
theorem GF_sb (h6 : ∀ u q, cc u q ≤ 6) {n v s a k : Nat} (hl : l < 24) (hn : n ≤ 200) (hx : e k < n) (hnd : ¬ drw e k (e k)) (hb : ¬ badV g l (e k) = 0) : blmG (becG (up1 (up1 (GF g l cc e n v s a k) 3 (sdI g (k + 1))) (90 + 13 * l + 7) (cnt (DB g l e k) n + 1)) l (e k) 1) (cc (e k)) l (e k) (g (22 + 10 * g (90 + 13 * l + 0) + 1)) = GF g l cc e n v s a (k + 1) := by
  have hD : ∀ z, DB g l e (k + 1) z ↔ DB g l e k z ∨ z = e k := fun z => by
    unfold DB
    rw [drw_s]
    constructor
    · rintro ⟨h | h, h2⟩
      · exact Or.inl ⟨h, h2⟩
      · exact Or.inr h
    · rintro (⟨h, h2⟩ | h)
      · exact ⟨Or.inl h, h2⟩
      · subst h; exact ⟨Or.inr rfl, hb⟩
  have hnk : ¬ DB g l e k (e k) := fun h => hnd h.1
  have hcn : cnt (DB g l e (k + 1)) n = cnt (DB g l e k) n + 1 := by
    have h1 := cnt_del (p := DB g l e (k + 1)) (a := e k) ((hD _).mpr (Or.inr rfl)) n
    rw [if_pos hx] at h1
    rw [← h1]
    congr 1
    refine cnt_congr fun z _ => ⟨fun q => ?_, fun q => ⟨(hD z).mpr (Or.inl q), fun f => hnk (f ▸ q)⟩⟩
    rcases (hD z).mp q.1 with r | r
    · exact r
    · exact absurd r q.2
  have hwx : GF g l cc e n v s a k (402 + 2 * (200 * l + e k)) = g (402 + 2 * (200 * l + e k)) := by
    rw [GF_n (by omega)]
    exact (insI_w h6 n).2 (fun q => hnk q.2)
  funext i
  unfold blmG
  rw [blmI_v (g := g) (by unfold becG; rw [up1_s, up1_n (by omega), up1_n (by omega), hwx]; exact bec_d (by decide)) 4]
  by_cases hbl : 62 ≤ i ∧ i < 90
  · rw [becG_n (by omega), up1_n (by omega), up1_n (by omega), GF_n (by omega), GF_n (by omega), insI_b h6 hbl, insI_b h6 hbl]
    have hs := sumN_pt (f := FF g l cc e k i) (f' := FF g l cc e (k + 1) i) (x := e k) (d := BB g l cc (e k) i) (by rw [FF_t ((hD _).mpr (Or.inr rfl)), FF_f hnk, Nat.zero_add]) (fun z hz => by
      by_cases d : DB g l e k z
      · rw [FF_t d, FF_t ((hD z).mpr (Or.inl d))]
      · rw [FF_f d, FF_f (fun q => ((hD z).mp q).elim d hz)]) n
    rw [hs, if_pos hx]
    unfold BB
    omega
  · have z0 : cnt (fun q => (g (402 + 2 * (200 * l + e k)) % 16 &&& g (22 + 10 * g (90 + 13 * l + 0) + 1)) / 2 ^ q % 2 = 1 ∧ 62 + 4 * cc (e k) q + q = i) 4 = 0 := cnt_0 fun q hq h => by
      have := h6 (e k) q
      omega
    rw [z0, Nat.add_zero]
    by_cases hx9 : i = 402 + 2 * (200 * l + e k)
    · subst hx9
      unfold becG
      rw [up1_s, up1_n (by omega), up1_n (by omega), hwx, GF_n (by omega), (insI_w h6 n).1 ⟨hx, (hD _).mpr (Or.inr rfl)⟩]
    · rw [becG_n hx9]
      by_cases h7 : i = 90 + 13 * l + 7
      · rw [h7, up1_s, GF_4.2.2.2, hcn]
      · rw [up1_n h7]
        by_cases h3 : i = 3
        · rw [h3, up1_s, GF_n (by omega), insI_3 h6]
        · rw [up1_n h3]
          by_cases h4 : i < 90 + 13 * l + 4 ∨ 90 + 13 * l + 7 < i
          · rw [GF_n h4, GF_n h4]
            by_cases hw : ∃ z, z < n ∧ i = 402 + 2 * (200 * l + z)
            · obtain ⟨z, hz, rfl⟩ := hw
              by_cases d : DB g l e k z
              · rw [(insI_w h6 n).1 ⟨hz, d⟩, (insI_w h6 n).1 ⟨hz, (hD z).mpr (Or.inl d)⟩]
              · rw [(insI_w h6 n).2 (fun q => d q.2), (insI_w h6 n).2 (fun q => by
                  rcases (hD z).mp q.2 with r | r
                  · exact d r
                  · exact hx9 (by rw [r]))]
            · rw [insI_o h6 h3 (by omega) n (fun z hz q => hw ⟨z, hz, q⟩), insI_o h6 h3 (by omega) n (fun z hz q => hw ⟨z, hz, q⟩)]
          · obtain h5 | h5 | h5 : i = 90 + 13 * l + 4 ∨ i = 90 + 13 * l + 5 ∨ i = 90 + 13 * l + 6 := by omega
            · rw [h5, GF_4.1, GF_4.1]
            · rw [h5, GF_4.2.1, GF_4.2.1]
            · rw [h5, GF_4.2.2.1, GF_4.2.2.1]
/-- the units' words meanwhile -/
theorem GF_w (h6 : ∀ u q, cc u q ≤ 6) {n v s a k : Nat} (hl : l < 24) {x : Nat} (hx : 402 ≤ x) : GF g l cc e n v s a k x = g x ∨ (GF g l cc e n v s a k x = becN (g x) 1 ∧ ∃ z, z < n ∧ x = 402 + 2 * (200 * l + z)) := by
  rw [GF_n (by omega)]
  by_cases hw : ∃ z, z < n ∧ x = 402 + 2 * (200 * l + z)
  · obtain ⟨z, hz, rfl⟩ := hw
    by_cases d : DB g l e k z
    · exact Or.inr ⟨(insI_w h6 n).1 ⟨hz, d⟩, z, hz, rfl⟩
    · exact Or.inl ((insI_w h6 n).2 (fun q => d q.2))
  · exact Or.inl (insI_o h6 (by omega) (by omega) n (fun z hz q => hw ⟨z, hz, q⟩))
/-- what a switch reads and writes is the product's own -/
theorem swtG_up {i x f al e9 : Nat} (h : i < e9 + 3 ∨ e9 + 7 < i) : swtG (up1 g i x) e9 f al = up1 (swtG g e9 f al) i x := by
  have e3 : up1 g i x (e9 + 3) = g (e9 + 3) := up1_n (by omega)
  have e4 : up1 g i x (e9 + 4) = g (e9 + 4) := up1_n (by omega)
  have e5 : up1 g i x (e9 + 5) = g (e9 + 5) := up1_n (by omega)
  have e6 : up1 g i x (e9 + 6) = g (e9 + 6) := up1_n (by omega)
  have e7 : up1 g i x (e9 + 7) = g (e9 + 7) := up1_n (by omega)
  have es : sevB (up1 g i x) e9 f al = sevB g e9 f al := by unfold sevB; rw [e3, e4, e5, e6, e7]
  have cm : ∀ (G : Nat → Nat) j y, j ≠ i → up1 (up1 G i x) j y = up1 (up1 G j y) i x := fun G j y hj => funext fun q => by
    by_cases c1 : q = j
    · rw [c1, up1_s, up1_n hj, up1_s]
    · rw [up1_n c1]
      by_cases c2 : q = i
      · rw [c2, up1_s, up1_s]
      · rw [up1_n c2, up1_n c2, up1_n c1]
  unfold swtG
  rw [es, e3, e4]
  have hu : ∀ r (G : Nat → Nat), updG (up1 G i x) (up1 g i x) e9 r = up1 (updG G g e9 r) i x := fun r G => by
    unfold updG
    rw [e5, e6, e7, cm _ _ _ (by omega), cm _ _ _ (by omega), cm _ _ _ (by omega)]
  have hf : ∀ sv, fgtG (up1 g i x) e9 sv = up1 (fgtG g e9 sv) i x := fun sv => by
    unfold fgtG
    rw [cm _ _ _ (by omega), cm _ _ _ (by omega), cm _ _ _ (by omega), cm _ _ _ (by omega), cm _ _ _ (by omega)]
  have h4 : ∀ y, up1 (up1 g i x) (e9 + 4) y = up1 (up1 g (e9 + 4) y) i x := fun y => cm _ _ _ (by omega)
  rw [hf, h4, h4, hu, hu, hu, hu, hu]
  repeat' split
  all_goals rfl
end Ins
