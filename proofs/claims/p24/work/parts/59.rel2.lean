theorem zPT_pad {L : zL} {G : zG} {p n : Nat} {T : Nat → Nat} {g : Nat → Int32} (h : zPT L G p T n) (hg : padOK (G p) g) : zPT L (zst G p g) p T n := zPT_upd h hg.1 hg.2
theorem zRC_pad {L : zL} {x nx : Nat} {G : zG} {r : Nat → Int32} {h : Nat → (Nat → Int32)} {c : Nat} {sl : Nat → Option (Nat → Int32)} {T T' : Nat → Nat} {tn tn' : Nat} {g : Nat → Int32} (hR : zRC L x nx G r h c sl T tn) (hp : zPT L (zst G (x + 124) g) (x + 124) T' tn') : zRC L x nx (zst G (x + 124) g) r h c sl T' tn' ∧ zst G (x + 124) g (x + 134) = G (x + 134) := by
  obtain ⟨a1, ⟨⟨c1, c2⟩, c3, c4⟩, ⟨f, b1, b2, b3, b4, b5, b6⟩, ⟨ad, a4⟩, a5⟩ := hR
  have hF : ∀ y, y ≠ x + 124 → zst G (x + 124) g y = G y := fun y hy => zst_ne _ _ hy
  refine ⟨⟨a1, ⟨⟨by rw [hF _ (by omega)]; exact c1, fun k hk => by rw [hF _ (by omega)]; exact c2 k hk⟩, fun j hj => by rw [hF _ (by omega)]; exact c3 j hj, fun j hj => by rw [hF _ (by omega)]; exact c4 j hj⟩, ⟨f, b1, by rw [hF _ (by omega)]; exact b2, by rw [hF _ (by omega)]; exact b3, b4, fun j hj => ?_, fun k hk => ?_⟩, ⟨ad, zSl_of a4 (hF _ (by omega)) (fun y hy => hF _ (by omega))⟩, hp⟩, hF _ (by omega)⟩
  · obtain ⟨q, hq⟩ := b5 j hj
    exact ⟨q, stOK_of hq (fun y g1 g2 => hF _ (by omega))⟩
  · exact stOK_of (b6 k hk) (fun y g1 g2 => hF _ (by omega))
/-- what the carrying out of a text touches -/
def zFp (x : Nat) (G G' : zG) : Prop := ∀ y, (y < x + 1 ∨ (x + 16 ≤ y ∧ y < x + 126 ∧ y ≠ x + 124) ∨ x + 134 ≤ y) → G' y = G y
theorem zFp_rf {x : Nat} {G : zG} : zFp x G G := fun _ _ => rfl
theorem zFp_fr {x : Nat} {G G1 G2 : zG} (h1 : zFp x G G1) (h2 : zFr x G1 G2) : zFp x G G2 := fun y hy => (h2 y (by omega)).trans (h1 y hy)
theorem zFp_pad {x : Nat} {G G1 : zG} {g : Nat → Int32} (h1 : zFp x G G1) : zFp x G (zst G1 (x + 124) g) := fun y hy => (zst_ne _ _ (by omega)).trans (h1 y hy)
theorem CR_pad {x : Nat} {r g : Nat → Int32} {G : zG} (h : CR x r G) : CR x r (zst G (x + 124) g) := by
  obtain ⟨⟨h1, h2⟩, h3, h4⟩ := h
  exact ⟨⟨by rw [zst_ne _ _ (by omega)]; exact h1, fun k hk => by rw [zst_ne _ _ (by omega)]; exact h2 k hk⟩, fun j hj => by rw [zst_ne _ _ (by omega)]; exact h3 j hj, fun j hj => by rw [zst_ne _ _ (by omega)]; exact h4 j hj⟩
theorem stPut_zst {G : zG} {s p y : Nat} {r g : Nat → Int32} (h : y ≠ p) : stPut (zst G p g) s r y = stPut G s r y := by simp only [stPut, stPutI, zst_ne _ _ h]
theorem zRC_car {L : zL} {x nx f : Nat} {G G2 : zG} {r r0 : Nat → Int32} {h : Nat → (Nat → Int32)} {c : Nat} {sl : Nat → Option (Nat → Int32)} {T T' : Nat → Nat} {tn' : Nat} (hb : zBD L x) (hh : zHs x G h c f) (hs : ∃ ad, zSl L x nx G sl ad) (hp : zPT L G2 (x + 124) T' tn') (hC : CR x r G2) (hF : zFp x (stPut G (x + 16 + (2 + 15 * ((f + c) % 7))) r0) G2) :
    zRC L x nx (zst G2 (x + 16) (keepH (G2 (x + 16)) f c)) r (pushH h c r0).1 (pushH h c r0).2 sl T' tn' ∧ (zst G2 (x + 16) (keepH (G2 (x + 16)) f c)) (x + 134) = G (x + 134) := by
  have hz : ∀ y, y ≠ x + 124 → zst G (x + 124) (G2 (x + 124)) y = G y := fun y hy => zst_ne _ _ hy
  have hK : (f + c) % 7 < 7 := by omega
  have := zRC_pos (L := L) (nx := nx) (G := zst G (x + 124) (G2 (x + 124))) (G2 := G2) (f := f) (r := r) (r0 := r0) (h := h) (c := c) (sl := sl) (T := T') (tn := tn') hb ?_ ?_ (zPT_of (G := G2) hp (by rw [zst_same])) hC ?_
  · rw [hz (x + 134) (by omega)] at this
    exact this
  · obtain ⟨b1, b2, b3, b4, b5, b6⟩ := hh
    refine ⟨b1, by rw [hz _ (by omega)]; exact b2, by rw [hz _ (by omega)]; exact b3, b4, fun j hj => ?_, fun k hk => ?_⟩
    · obtain ⟨q, hq⟩ := b5 j hj
      exact ⟨q, stOK_of hq (fun y g1 g2 => hz _ (by omega))⟩
    · exact stOK_of (b6 k hk) (fun y g1 g2 => hz _ (by omega))
  · obtain ⟨ad, a4⟩ := hs
    exact ⟨ad, zSl_of a4 (hz _ (by omega)) (fun y hy => hz _ (by omega))⟩
  · intro y hy
    by_cases e : y = x + 124
    · subst e
      rw [stPut_ne _ _ (by omega), zst_same]
    · rw [hF y (by omega)]
      exact (stPut_zst e).symm
/-- the text's signs, when one more comes -/
theorem zPT_app {L : zL} {G : zG} {p n b : Nat} {T : Nat → Nat} (h : zPT L G p T n) (hn : n < 80) (hb : b < 128) : zPT L (zst G p (upd (upd (G p) (7 + n) (nI b)) 1 (nI (n + 1)))) p (fun j => if j = n then b else T j) (n + 1) := by
  obtain ⟨a1, a2, a3, a4⟩ := h
  refine ⟨a1, by omega, by rw [zst_same]; exact if_pos rfl, fun i hi => ?_⟩
  rw [zst_same]
  show upd (upd (G p) (7 + n) (nI b)) 1 (nI (n + 1)) (7 + i) = nI (if i = n then b else T i) ∧ (if i = n then b else T i) < 128
  simp only [upd]
  rw [if_neg (by omega)]
  by_cases e : i = n
  · rw [if_pos (by omega), if_pos e]
    exact ⟨rfl, hb⟩
  · rw [if_neg (by omega), if_neg e]
    exact a4 i (by omega)
def slI (v : Int32) : Option Nat := zfind (fun i => decide (v = nI i)) 2
theorem slI_some {v : Int32} {j : Nat} (h : slI v = some j) : j < 2 ∧ v = nI j := by
  obtain ⟨h1, h2, -⟩ := zfind_some h
  exact ⟨h1, by simpa using h2⟩
theorem slI_none {v : Int32} (h : slI v = none) : zin3 v 0 1 = false := by
  cases hz : zin3 v 0 1 with
  | false => rfl
  | true =>
    obtain ⟨i, hi, e⟩ := (zin3_iff (m := 1) (by decide)).mp hz
    have := zfind_none h i (by omega)
    simp [e] at this
theorem slI_in {j : Nat} (h : j < 2) : zin3 (nI j) 0 1 = true := (zin3_iff (m := 1) (by decide)).mpr ⟨j, by omega, rfl⟩
def opRest (r : Nat → Int32) (sl : Nat → Option (Nat → Int32)) (v : Int32) : Int32 × (Nat → Int32) :=
  match slI v with
  | none => (-2, r)
  | some j => match sl j with
    | none => (-5, r)
    | some r' => (r' 3, r')
theorem opRest_neg {r : Nat → Int32} {sl : Nat → Option (Nat → Int32)} {v : Int32} (hs : ∀ j r', sl j = some r' → ¬ r' 3 < 0) (hn : (opRest r sl v).1 < 0) : (opRest r sl v).2 = r := by
  unfold opRest at hn ⊢
  split
  · rfl
  · split
    · rfl
    · rename_i h1 _ r' h2
      rw [h1] at hn
      dsimp only at hn
      rw [h2] at hn
      exact absurd hn (hs _ _ h2)
noncomputable def opCar (r : Nat → Int32) (h : Nat → (Nat → Int32)) (c : Nat) (T : Nat → Nat) (tn : Nat) : Int32 × (Nat → Int32) × (Nat → (Nat → Int32)) × Nat × Nat :=
  if ffL T tn 0 80 = -6 then (nI (exL T tn 80 0 r 0).1, (exL T tn 80 0 r 0).2, (pushH h c r).1, (pushH h c r).2, 0) else (-3, r, h, c, tn)
theorem CR_put {x : Nat} {r r' : Nat → Int32} {G : zG} (h : CR x r G) : CR x r' (stPut G (x + 1) r') := by
  obtain ⟨-, h3, h4⟩ := h
  exact ⟨stPut_OK G _ r', fun j hj => by rw [stPut_ne _ _ (by omega)]; exact h3 j hj, fun j hj => by rw [stPut_ne _ _ (by omega)]; exact h4 j hj⟩
theorem zFr_put {x : Nat} {r' : Nat → Int32} {G : zG} : zFr x G (stPut G (x + 1) r') := fun y hy => stPut_ne _ _ (by omega)
def opUndo (r : Nat → Int32) (h : Nat → (Nat → Int32)) (c : Nat) : Int32 × (Nat → Int32) × Nat := if c = 0 then (-5, r, 0) else (nI (c - 1), h (c - 1), c - 1)
theorem zRC_undo {L : zL} {x nx f : Nat} {G : zG} {r : Nat → Int32} {h : Nat → (Nat → Int32)} {c : Nat} {sl : Nat → Option (Nat → Int32)} {T : Nat → Nat} {tn : Nat} (hb : zBD L x) (hC : CR x r G) (hh : zHs x G h c f) (hs : ∃ ad, zSl L x nx G sl ad) (hp : zPT L G (x + 124) T tn) (hc : 0 < c) :
    zRC L x nx (stPut (zst G (x + 16) (upd (G (x + 16)) 2 (nI (c - 1)))) (x + 1) (h (c - 1))) (h (c - 1)) h (c - 1) sl T tn ∧ stPut (zst G (x + 16) (upd (G (x + 16)) 2 (nI (c - 1)))) (x + 1) (h (c - 1)) (x + 134) = G (x + 134) := by
  obtain ⟨b1, b2, b3, b4, b5, b6⟩ := hh
  obtain ⟨ad, a4⟩ := hs
  obtain ⟨h1, h3, h4⟩ := hC
  have hq : ∀ y, (y < x + 1 ∨ x + 16 < y) → stPut (zst G (x + 16) (upd (G (x + 16)) 2 (nI (c - 1)))) (x + 1) (h (c - 1)) y = G y := fun y hy => by
    rw [stPut_ne _ _ (by omega), zst_ne _ _ (by omega)]
  have h16 : stPut (zst G (x + 16) (upd (G (x + 16)) 2 (nI (c - 1)))) (x + 1) (h (c - 1)) (x + 16) = upd (G (x + 16)) 2 (nI (c - 1)) := by rw [stPut_ne _ _ (by omega), zst_same]
  refine ⟨⟨hb, ⟨stPut_OK _ _ _, fun j hj => by rw [hq _ (by omega)]; exact h3 j hj, fun j hj => by rw [hq _ (by omega)]; exact h4 j hj⟩, ⟨f, b1, by rw [h16]; exact b2, by rw [h16]; exact if_pos rfl, by omega, fun j hj => ?_, fun k hk => ?_⟩, ⟨ad, zSl_of a4 (hq _ (by omega)) (fun y hy => hq _ (by omega))⟩, zPT_of hp (hq _ (by omega))⟩, hq _ (by omega)⟩
  · obtain ⟨q, hq1⟩ := b5 j hj
    exact ⟨q, stOK_of hq1 (fun y g1 g2 => hq _ (by omega))⟩
  · exact stOK_of (b6 k (by omega)) (fun y g1 g2 => hq _ (by omega))
/-- what the pad holds of an order that was read -/
def roP (T : Nat → Nat) (n p : Nat) (g : Nat → Int32) : Prop := g 3 = nI (sg T n p) ∧ (sg T n p = 99 ∨ sg T n p = 117 ∨ sg T n p = 112 ∨ sg T n p = 115) ∧ (sg T n p = 99 → g 5 = nI (rdO T n p).2.2.2.1) ∧ (sg T n p = 115 → g 4 = nI (rdO T n p).2.2.1) ∧
    (sg T n p = 112 → g 4 = nI (rdO T n p).2.2.1 ∧ g 5 = nI (rdO T n p).2.2.2.1 ∧ g 6 = nI (rdO T n p).2.2.2.2)
theorem roP_of {T : Nat → Nat} {n p : Nat} {g g' : Nat → Int32} (h : roOK T n p g g') (hb : (rdO T n p).1 = true) : roP T n p g' := by
  obtain ⟨-, -, -, h4⟩ := h
  obtain ⟨e1, e2, e3, e4⟩ := h4 hb
  refine ⟨e1, ?_, e2, e3, e4⟩
  unfold rdO at hb
  by_cases k1 : sg T n p = 99
  · exact Or.inl k1
  · by_cases k2 : sg T n p = 117
    · exact Or.inr (Or.inl k2)
    · by_cases k3 : sg T n p = 115
      · exact Or.inr (Or.inr (Or.inr k3))
      · by_cases k4 : sg T n p = 112
        · exact Or.inr (Or.inr (Or.inl k4))
        · rw [if_neg k1, if_neg k2, if_neg k3, if_neg k4] at hb
          cases hb
theorem zv_post {l : Launch} {X0 : State → Prop} {D : zD} {B : Nat} {own mn : String} {cc : ByteArray} {nL : Nat} {ret : Option FieldType} {R : Room} {q q' : zQ} {k n : Nat} {L : zL} {nx : Nat} {pc : Nat} {lv : List (Option Value)} {st : List Value} {G : zG} (kk : zV l X0 D B own mn cc nL ret R (zN q) k n L nx pc lv st G) (hq : ∀ v L' n' G', q v L' n' G' → q' v L' n' G') : zV l X0 D B own mn cc nL ret R (zN q') k n L nx pc lv st G :=
  fun p e s m args below meth c H locs ls Q hX hR hl hW hS => kk p e s m args below meth c H locs ls Q hX (fun H' locs' ls' pc' v L' nx' G' k' n' h1 h2 h3 h4 => hR H' locs' ls' pc' v L' nx' G' k' n' h1 h2 h3 ⟨hq _ _ _ _ h4.1, h4.2⟩) hl hW hS
