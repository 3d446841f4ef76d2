theorem zSt_mono {L L' : zL} {s : Nat} (h : ∀ b ∈ L, b ∈ L') (hs : zSt L s) : zSt L' s := ⟨h _ hs.1, fun i hi => h _ (hs.2 i hi)⟩
theorem zBD_mono {L L' : zL} {x : Nat} (h : ∀ b ∈ L, b ∈ L') (hb : zBD L x) : zBD L' x := by
  obtain ⟨h1, h2, h3, h4, h5, h6, h7, h8⟩ := hb
  exact ⟨h _ h1, zSt_mono h h2, ⟨h _ h3.1, fun j hj => zSt_mono h (h3.2 j hj)⟩, h _ h4, h _ h5, h _ h6, h _ h7, h _ h8⟩
theorem zRC_mono {L L' : zL} {x nx nx' : Nat} {G : zG} {r : Nat → Int32} {h : Nat → (Nat → Int32)} {c : Nat} {sl : Nat → Option (Nat → Int32)} {T : Nat → Nat} {tn : Nat} (hR : zRC L x nx G r h c sl T tn) (hL : ∀ b ∈ L, b ∈ L') (hn : nx ≤ nx') : zRC L' x nx' G r h c sl T tn := by
  obtain ⟨a1, a2, a3, ⟨ad, a4⟩, a5⟩ := hR
  refine ⟨zBD_mono hL a1, a2, a3, ⟨ad, fun j hj => ?_, a4.2⟩, ⟨hL _ a5.1, a5.2⟩⟩
  rcases a4.1 j hj with ⟨b1, b2⟩ | ⟨q, b1, b2, b3, b4, b5, b6, b7⟩
  · exact Or.inl ⟨b1, b2⟩
  · exact Or.inr ⟨q, b1, b2, by omega, b4, b5, zSt_mono hL b6, b7⟩
def setO {α : Type} (f : Nat → α) (j : Nat) (v : α) : Nat → α := fun k => if k = j then v else f k
theorem setO_s {α : Type} {f : Nat → α} {j : Nat} {v : α} : setO f j v j = v := if_pos rfl
theorem setO_n {α : Type} {f : Nat → α} {j k : Nat} {v : α} (h : k ≠ j) : setO f j v k = f k := if_neg h
def opSave (r : Nat → Int32) (sl : Nat → Option (Nat → Int32)) (v : Int32) : Int32 × (Nat → Option (Nat → Int32)) :=
  match slI v with
  | none => (-2, sl)
  | some j => (r 3, setO sl j (some r))
/-- what lies in the object itself is as before -/
theorem zRC_out {L : zL} {x nx : Nat} {G G' : zG} {r : Nat → Int32} {h : Nat → (Nat → Int32)} {c : Nat} {sl sl' : Nat → Option (Nat → Int32)} {T : Nat → Nat} {tn : Nat} (hR : zRC L x nx G r h c sl T tn) (hF : ∀ y, y < x + 123 ∨ (x + 123 < y ∧ y < x + 146) → G' y = G y) (hs : ∃ ad, zSl L x nx G' sl' ad) : zRC L x nx G' r h c sl' T tn ∧ G' (x + 134) = G (x + 134) := by
  obtain ⟨a1, ⟨⟨c1, c2⟩, c3, c4⟩, ⟨f, b1, b2, b3, b4, b5, b6⟩, -, a5⟩ := hR
  refine ⟨⟨a1, ⟨⟨by rw [hF _ (by omega)]; exact c1, fun k hk => by rw [hF _ (by omega)]; exact c2 k hk⟩, fun j hj => by rw [hF _ (by omega)]; exact c3 j hj, fun j hj => by rw [hF _ (by omega)]; exact c4 j hj⟩, ⟨f, b1, by rw [hF _ (by omega)]; exact b2, by rw [hF _ (by omega)]; exact b3, b4, fun j hj => ?_, fun k hk => ?_⟩, hs, zPT_of a5 (hF _ (by omega))⟩, hF _ (by omega)⟩
  · obtain ⟨q, hq⟩ := b5 j hj
    exact ⟨q, stOK_of hq (fun y g1 g2 => hF _ (by omega))⟩
  · exact stOK_of (b6 k hk) (fun y g1 g2 => hF _ (by omega))
theorem zSl_put {L : zL} {x nx j : Nat} {G : zG} {r r2 : Nat → Int32} {sl : Nat → Option (Nat → Int32)} {ad : Nat → Nat} (h : zSl L x nx G sl ad) (hj : j < 2) (e : sl j = some r2) : zSl L x nx (stPut G (ad j) r) (setO sl j (some r)) ad := by
  have hself : ∀ k r3, k < 2 → sl k = some r3 → x + 146 ≤ ad k ∧ ad k + 15 ≤ nx ∧ ad k - (x + 123) < 2 ^ 31 ∧ G (x + 123) k = nI (ad k - (x + 123)) ∧ zSt L (ad k) ∧ stOK G (ad k) r3 := fun k r3 hk e3 => by
    rcases h.1 k hk with ⟨a, -⟩ | ⟨q, a, b⟩
    · rw [a] at e3; cases e3
    · rw [a] at e3; cases e3; exact b
  have hjj := hself j r2 hj e
  refine ⟨fun k hk => ?_, fun r0 r1 h0 h1 => ?_⟩
  · by_cases ek : k = j
    · subst ek
      exact Or.inr ⟨r, setO_s, hjj.1, hjj.2.1, hjj.2.2.1, by rw [stPut_ne _ _ (by omega)]; exact hjj.2.2.2.1, hjj.2.2.2.2.1, stPut_OK G _ r⟩
    · rcases h.1 k hk with ⟨a, b⟩ | ⟨q, a, b1, b2, b3, b4, b5, b6⟩
      · exact Or.inl ⟨by rw [setO_n ek]; exact a, by rw [stPut_ne _ _ (by omega)]; exact b⟩
      · refine Or.inr ⟨q, by rw [setO_n ek]; exact a, b1, b2, b3, by rw [stPut_ne _ _ (by omega)]; exact b4, b5, stOK_put b6 ?_⟩
        rcases (show (j = 0 ∧ k = 1) ∨ (j = 1 ∧ k = 0) by omega) with ⟨rfl, rfl⟩ | ⟨rfl, rfl⟩
        · exact h.2 _ _ e a
        · exact Or.symm (h.2 _ _ a e)
  · rcases (show j = 0 ∨ j = 1 by omega) with rfl | rfl
    · rw [setO_n (by decide)] at h1
      exact h.2 _ _ e h1
    · rw [setO_n (by decide)] at h0
      exact h.2 _ _ h0 e
theorem zSl_new {L L' : zL} {x nx j : Nat} {G : zG} {r : Nat → Int32} {sl : Nat → Option (Nat → Int32)} {ad : Nat → Nat} (h : zSl L x nx G sl ad) (hj : j < 2) (e : sl j = none) (hx : x + 146 ≤ nx) (hn : nx < x + 2 ^ 31) (hL : ∀ b ∈ L, b ∈ L') (hz : zSt L' nx) {G' : zG} (h1 : G' (x + 123) = upd (G (x + 123)) j (nI (nx - (x + 123)))) (h2 : stOK G' nx r) (h3 : ∀ y, x + 146 ≤ y → y < nx → G' y = G y) : zSl L' x (nx + 15) G' (setO sl j (some r)) (setO ad j nx) := by
  refine ⟨fun k hk => ?_, fun r0 r1 g0 g1 => ?_⟩
  · by_cases ek : k = j
    · subst ek
      rw [setO_s, setO_s]
      exact Or.inr ⟨r, rfl, hx, Nat.le_refl _, by omega, by rw [h1]; exact if_pos rfl, hz, h2⟩
    · rw [setO_n ek, setO_n ek]
      rcases h.1 k hk with ⟨a, b⟩ | ⟨q, a, b1, b2, b3, b4, b5, b6⟩
      · exact Or.inl ⟨a, by rw [h1]; simp only [upd]; rw [if_neg ek]; exact b⟩
      · exact Or.inr ⟨q, a, b1, by omega, b3, by rw [h1]; simp only [upd]; rw [if_neg ek]; exact b4, zSt_mono hL b5, stOK_of b6 (fun y y1 y2 => h3 y (by omega) (by omega))⟩
  · have hb : ∀ k r3, k < 2 → sl k = some r3 → ad k + 15 ≤ nx := fun k r3 hk e3 => by
      rcases h.1 k hk with ⟨a, -⟩ | ⟨q, a, b1, b2, b⟩
      · rw [a] at e3; cases e3
      · exact b2
    rcases (show j = 0 ∨ j = 1 by omega) with rfl | rfl
    · rw [setO_n (by decide)] at g1
      have := hb 1 _ (by decide) g1
      rw [setO_s, setO_n (by decide)]
      exact Or.inr this
    · rw [setO_n (by decide)] at g0
      have := hb 0 _ (by decide) g0
      rw [setO_s, setO_n (by decide)]
      exact Or.inl this
/-- the outcome of a saving -/
def zSv (L : zL) (nx x : Nat) (G : zG) (a : Int32) (r : Nat → Int32) (h : Nat → (Nat → Int32)) (c : Nat) (sl : Nat → Option (Nat → Int32)) (T : Nat → Nat) (tn : Nat) : zQ := fun v L' nx' G' =>
  v = some (.int a) ∧ (∀ b ∈ L, b ∈ L') ∧ nx ≤ nx' ∧ nx' ≤ nx + 15 ∧ zRC L' x nx' G' r h c sl T tn ∧ G' (x + 134) = G (x + 134)
