def zHs (x : Nat) (G : zG) (h : Nat → (Nat → Int32)) (c f : Nat) : Prop := f < 7 ∧ G (x + 16) 1 = nI f ∧ G (x + 16) 2 = nI c ∧ c ≤ 6 ∧ (∀ j, j < 7 → ∃ r, stOK G (x + 16 + (2 + 15 * j)) r) ∧ ∀ k, k < c → stOK G (x + 16 + (2 + 15 * ((f + k) % 7))) (h k)
def zSl (L : zL) (x nx : Nat) (G : zG) (sl : Nat → Option (Nat → Int32)) (ad : Nat → Nat) : Prop :=
  (∀ j, j < 2 → (sl j = none ∧ G (x + 123) j = 0) ∨ ∃ r, sl j = some r ∧ x + 146 ≤ ad j ∧ ad j + 15 ≤ nx ∧ ad j - (x + 123) < 2 ^ 31 ∧ G (x + 123) j = nI (ad j - (x + 123)) ∧ zSt L (ad j) ∧ stOK G (ad j) r) ∧
  ∀ r0 r1, sl 0 = some r0 → sl 1 = some r1 → apart (ad 0) (ad 1)
/-- the class's object holds: row, past, slots, pad -/
def zRC (L : zL) (x nx : Nat) (G : zG) (r : Nat → Int32) (h : Nat → (Nat → Int32)) (c : Nat) (sl : Nat → Option (Nat → Int32)) (T : Nat → Nat) (tn : Nat) : Prop :=
  zBD L x ∧ CR x r G ∧ (∃ f, zHs x G h c f) ∧ (∃ ad, zSl L x nx G sl ad) ∧ zPT L G (x + 124) T tn
def pushH (h : Nat → (Nat → Int32)) (c : Nat) (r : Nat → Int32) : (Nat → (Nat → Int32)) × Nat :=
  if c < 6 then (fun k => if k = c then r else h k, c + 1) else (fun k => if k = 5 then r else h (k + 1), 6)
theorem zSl_of {L : zL} {x nx : Nat} {G G' : zG} {sl : Nat → Option (Nat → Int32)} {ad : Nat → Nat} (h : zSl L x nx G sl ad) (h1 : G' (x + 123) = G (x + 123)) (h2 : ∀ y, x + 146 ≤ y → G' y = G y) : zSl L x nx G' sl ad := by
  refine ⟨fun j hj => ?_, h.2⟩
  rcases h.1 j hj with ⟨a, b⟩ | ⟨r, a, b, b2, c, d, e, f⟩
  · exact Or.inl ⟨a, by rw [h1]; exact b⟩
  · exact Or.inr ⟨r, a, b, b2, c, by rw [h1]; exact d, e, stOK_of f (fun y g1 g2 => h2 y (by omega))⟩
theorem zPT_of {L : zL} {G G' : zG} {p : Nat} {T : Nat → Nat} {n : Nat} (h : zPT L G p T n) (h1 : G' p = G p) : zPT L G' p T n := by
  unfold zPT at h ⊢
  rw [h1]
  exact h
/-- a read, or what is tried: only scratch is touched -/
theorem zRC_fr {L : zL} {x nx : Nat} {G G' : zG} {r r' : Nat → Int32} {h : Nat → (Nat → Int32)} {c : Nat} {sl : Nat → Option (Nat → Int32)} {T : Nat → Nat} {tn : Nat} (hR : zRC L x nx G r h c sl T tn) (hC : CR x r' G') (hF : zFr x G G') : zRC L x nx G' r' h c sl T tn ∧ ∀ y, x + 134 ≤ y → G' y = G y := by
  obtain ⟨a1, a2, ⟨f, b1, b2, b3, b4, b5, b6⟩, ⟨ad, a4⟩, a5⟩ := hR
  refine ⟨⟨a1, hC, ⟨f, b1, by rw [hF _ (by omega)]; exact b2, by rw [hF _ (by omega)]; exact b3, b4, fun j hj => ?_, fun k hk => ?_⟩, ⟨ad, zSl_of a4 (hF _ (by omega)) (fun y hy => hF _ (by omega))⟩, zPT_of a5 (hF _ (by omega))⟩, fun y hy => hF _ (by omega)⟩
  · obtain ⟨q, hq⟩ := b5 j hj
    exact ⟨q, stOK_of hq (fun y g1 g2 => hF _ (by omega))⟩
  · exact stOK_of (b6 k hk) (fun y g1 g2 => hF _ (by omega))
/-- a state is noted, then changed: nothing is kept of it where the answer is an error -/
theorem zRC_neg {L : zL} {x nx f : Nat} {G G2 : zG} {r r0 : Nat → Int32} {h : Nat → (Nat → Int32)} {c : Nat} {sl : Nat → Option (Nat → Int32)} {T : Nat → Nat} {tn : Nat} (hb : zBD L x) (hh : zHs x G h c f) (hs : ∃ ad, zSl L x nx G sl ad) (hp : zPT L G (x + 124) T tn) (hC : CR x r G2) (hF : zFr x (stPut G (x + 16 + (2 + 15 * ((f + c) % 7))) r0) G2) : zRC L x nx G2 r h c sl T tn ∧ ∀ y, x + 134 ≤ y → G2 y = G y := by
  obtain ⟨b1, b2, b3, b4, b5, b6⟩ := hh
  obtain ⟨ad, a4⟩ := hs
  have hK : (f + c) % 7 < 7 := by omega
  have hq : ∀ y, (y = x + 16 ∨ x + 122 < y) → (y < x + 126 ∨ x + 134 ≤ y) → G2 y = G y := fun y h1 h2 => by
    rw [hF y (by omega), stPut_ne _ _ (by omega)]
  refine ⟨⟨hb, hC, ⟨f, b1, by rw [hq _ (by omega) (by omega)]; exact b2, by rw [hq _ (by omega) (by omega)]; exact b3, b4, fun j hj => ?_, fun k hk => ?_⟩, ⟨ad, zSl_of a4 (hq _ (by omega) (by omega)) (fun y hy => hq _ (by omega) (by omega))⟩, zPT_of hp (hq _ (by omega) (by omega))⟩, fun y hy => hq _ (by omega) (by omega)⟩
  · by_cases e : j = (f + c) % 7
    · subst e
      exact ⟨r0, stOK_of (stPut_OK G _ r0) (fun y g1 g2 => hF _ (by omega))⟩
    · obtain ⟨q, hq1⟩ := b5 j hj
      exact ⟨q, stOK_of (stOK_put (r := r0) hq1 (by unfold apart; omega)) (fun y g1 g2 => hF _ (by omega))⟩
  · refine stOK_of (stOK_put (r := r0) (b6 k hk) (by unfold apart; omega)) (fun y g1 g2 => hF _ (by omega))
theorem zRC_pos {L : zL} {x nx f : Nat} {G G2 : zG} {r r0 : Nat → Int32} {h : Nat → (Nat → Int32)} {c : Nat} {sl : Nat → Option (Nat → Int32)} {T : Nat → Nat} {tn : Nat} (hb : zBD L x) (hh : zHs x G h c f) (hs : ∃ ad, zSl L x nx G sl ad) (hp : zPT L G (x + 124) T tn) (hC : CR x r G2) (hF : zFr x (stPut G (x + 16 + (2 + 15 * ((f + c) % 7))) r0) G2) :
    zRC L x nx (zst G2 (x + 16) (keepH (G2 (x + 16)) f c)) r (pushH h c r0).1 (pushH h c r0).2 sl T tn ∧ ∀ y, x + 134 ≤ y → (zst G2 (x + 16) (keepH (G2 (x + 16)) f c)) y = G y := by
  obtain ⟨b1, b2, b3, b4, b5, b6⟩ := id hh
  obtain ⟨ad, a4⟩ := hs
  have hK : (f + c) % 7 < 7 := by omega
  have hq : ∀ y, (y = x + 16 ∨ x + 122 < y) → (y < x + 126 ∨ x + 134 ≤ y) → G2 y = G y := fun y h1 h2 => by
    rw [hF y (by omega), stPut_ne _ _ (by omega)]
  have hz : ∀ y, y ≠ x + 16 → (zst G2 (x + 16) (keepH (G2 (x + 16)) f c)) y = G2 y := fun y hy => zst_ne _ _ hy
  have e16 : G2 (x + 16) = G (x + 16) := hq _ (by omega) (by omega)
  have hst : ∀ j q, j < 7 → stOK (stPut G (x + 16 + (2 + 15 * ((f + c) % 7))) r0) (x + 16 + (2 + 15 * j)) q → stOK (zst G2 (x + 16) (keepH (G2 (x + 16)) f c)) (x + 16 + (2 + 15 * j)) q := fun j q hj hq1 =>
    stOK_of hq1 (fun y g1 g2 => by rw [hz _ (by omega)]; exact hF _ (by omega))
  have hnew : stOK (stPut G (x + 16 + (2 + 15 * ((f + c) % 7))) r0) (x + 16 + (2 + 15 * ((f + c) % 7))) r0 := stPut_OK G _ r0
  have hold : ∀ k, k < c → stOK (stPut G (x + 16 + (2 + 15 * ((f + c) % 7))) r0) (x + 16 + (2 + 15 * ((f + k) % 7))) (h k) := fun k hk => stOK_put (r := r0) (b6 k hk) (by unfold apart; omega)
  refine ⟨⟨hb, ?_, ?_, ⟨ad, zSl_of a4 (by rw [hz _ (by omega)]; exact hq _ (by omega) (by omega)) (fun y hy => by rw [hz _ (by omega)]; exact hq _ (by omega) (by omega))⟩, zPT_of hp (by rw [hz _ (by omega)]; exact hq _ (by omega) (by omega))⟩, fun y hy => by rw [hz _ (by omega)]; exact hq _ (by omega) (by omega)⟩
  · obtain ⟨⟨h1, h2⟩, h3, h4⟩ := hC
    exact ⟨⟨by rw [hz _ (by omega)]; exact h1, fun k hk => by rw [hz _ (by omega)]; exact h2 k hk⟩, fun j hj => by rw [hz _ (by omega)]; exact h3 j hj, fun j hj => by rw [hz _ (by omega)]; exact h4 j hj⟩
  · have hany : ∀ j, j < 7 → ∃ q, stOK (zst G2 (x + 16) (keepH (G2 (x + 16)) f c)) (x + 16 + (2 + 15 * j)) q := fun j hj => by
      by_cases e : j = (f + c) % 7
      · subst e; exact ⟨r0, hst _ _ hj hnew⟩
      · obtain ⟨q, hq1⟩ := b5 j hj
        exact ⟨q, hst j q hj (stOK_put (r := r0) hq1 (by unfold apart; omega))⟩
    by_cases hc : c < 6
    · have e1 : pushH h c r0 = (fun k => if k = c then r0 else h k, c + 1) := by unfold pushH; rw [if_pos hc]
      have e2 : keepH (G2 (x + 16)) f c = upd (G2 (x + 16)) 2 (nI (c + 1)) := by unfold keepH; rw [if_pos hc]
      rw [e1]
      refine ⟨f, b1, ?_, ?_, by show c + 1 ≤ 6; omega, hany, fun k hk => ?_⟩
      · rw [zst_same, e2, e16]
        show upd (G (x + 16)) 2 _ 1 = _
        simp only [upd]; rw [if_neg (by omega)]; exact b2
      · rw [zst_same, e2]
        show upd (G2 (x + 16)) 2 _ 2 = _
        simp only [upd, if_true]
      · show stOK _ _ (if k = c then r0 else h k)
        by_cases e : k = c
        · subst e; rw [if_pos rfl]; exact hst _ _ hK hnew
        · have hk' : k < c + 1 := hk
          rw [if_neg e]; exact hst _ _ (by omega) (hold k (by omega))
    · have hc6 : c = 6 := by omega
      have e1 : pushH h c r0 = (fun k => if k = 5 then r0 else h (k + 1), 6) := by unfold pushH; rw [if_neg hc]
      have e2 : keepH (G2 (x + 16)) f c = upd (G2 (x + 16)) 1 (nI ((f + 1) % 7)) := by unfold keepH; rw [if_neg hc]
      rw [e1]
      refine ⟨(f + 1) % 7, by omega, ?_, ?_, by show 6 ≤ 6; omega, hany, fun k hk => ?_⟩
      · rw [zst_same, e2]
        show upd (G2 (x + 16)) 1 _ 1 = _
        simp only [upd, if_true]
      · rw [zst_same, e2, e16]
        show upd (G (x + 16)) 1 _ 2 = _
        simp only [upd]; rw [if_neg (by omega), b3, hc6]
      · have hk' : k < 6 := hk
        show stOK _ _ (if k = 5 then r0 else h (k + 1))
        have em : ((f + 1) % 7 + k) % 7 = (f + (k + 1)) % 7 := by omega
        rw [em]
        by_cases e : k = 5
        · subst e
          rw [if_pos rfl]
          subst hc6
          exact hst _ _ hK hnew
        · rw [if_neg e]; exact hst _ _ (by omega) (hold (k + 1) (by omega))
/-- what a change does of row and past -/
def chg (r : Nat → Int32) (h : Nat → (Nat → Int32)) (c : Nat) (o : Int32 × (Nat → Int32)) : (Nat → Int32) × (Nat → (Nat → Int32)) × Nat :=
  if o.1 < 0 then (r, h, c) else (o.2, (pushH h c r).1, (pushH h c r).2)
theorem CR_note {x j : Nat} {r r0 : Nat → Int32} {G : zG} (h : CR x r G) (hj : j < 7) : CR x r (stPut G (x + 16 + (2 + 15 * j)) r0) := by
  obtain ⟨⟨h1, h2⟩, h3, h4⟩ := h
  exact ⟨⟨by rw [stPut_ne _ _ (by omega)]; exact h1, fun k hk => by rw [stPut_ne _ _ (by omega)]; exact h2 k hk⟩, fun j hj => by rw [stPut_ne _ _ (by omega)]; exact h3 j hj, fun j hj => by rw [stPut_ne _ _ (by omega)]; exact h4 j hj⟩
theorem chg_neg {r : Nat → Int32} {h : Nat → (Nat → Int32)} {c : Nat} {o : Int32 × (Nat → Int32)} (hn : o.1 < 0) : chg r h c o = (r, h, c) := if_pos hn
theorem chg_pos {r : Nat → Int32} {h : Nat → (Nat → Int32)} {c : Nat} {o : Int32 × (Nat → Int32)} (hn : ¬ o.1 < 0) : chg r h c o = (o.2, (pushH h c r).1, (pushH h c r).2) := if_neg hn
theorem zHs_fr {x c f : Nat} {G G2 : zG} {r0 : Nat → Int32} {h : Nat → (Nat → Int32)} (hh : zHs x G h c f) (hF : zFr x (stPut G (x + 16 + (2 + 15 * ((f + c) % 7))) r0) G2) : G2 (x + 16) 1 = nI f ∧ G2 (x + 16) 2 = nI c := by
  have : G2 (x + 16) = G (x + 16) := by rw [hF _ (by omega), stPut_ne _ _ (by omega)]
  rw [this]
  exact ⟨hh.2.1, hh.2.2.1⟩
