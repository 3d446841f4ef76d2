/-- a state's row: settings, book, numbers (21 places), and three cups of 69 places -/
def hdR (r : Nat → Int32) : Nat → Int32 := fun j => if j < 21 then r j else 0
def cupR (r : Nat → Int32) (i : Nat) : Nat → Int32 := fun j => if j < 69 then r (21 + 69 * i + j) else 0
def zSt (L : zL) (s : Nat) : Prop := (s, 2) ∈ L ∧ ∀ i, i < 3 → (s + (3 + 4 * i), 3) ∈ L
def stOK (G : zG) (s : Nat) (r : Nat → Int32) : Prop := G s = hdR r ∧ ∀ i, i < 3 → G (s + (3 + 4 * i)) = cupR r i
def stPutI (G : zG) (s : Nat) (r : Nat → Int32) (i : Nat) : zG := fun x =>
  if x = s then hdR r else if x = s + 3 ∧ 0 < i then cupR r 0 else if x = s + 7 ∧ 1 < i then cupR r 1 else if x = s + 11 ∧ 2 < i then cupR r 2 else G x
def stPut (G : zG) (s : Nat) (r : Nat → Int32) : zG := stPutI G s r 3
def apart (s p : Nat) : Prop := s + 15 ≤ p ∨ p + 15 ≤ s
theorem stPut_OK (G : zG) (s : Nat) (r : Nat → Int32) : stOK (stPut G s r) s r := by
  refine ⟨by simp [stPut, stPutI], fun i hi => ?_⟩
  match i, hi with
  | 0, _ => simp [stPut, stPutI]
  | 1, _ => simp [stPut, stPutI]
  | 2, _ => simp [stPut, stPutI]
theorem stPut_ne (G : zG) {s x : Nat} (r : Nat → Int32) (h : x < s ∨ s + 15 ≤ x) : stPut G s r x = G x := by
  simp only [stPut, stPutI]; grind
theorem stOK_put {G : zG} {s p : Nat} {r r' : Nat → Int32} (h : stOK G p r') (ha : apart s p) : stOK (stPut G s r) p r' := by
  unfold apart at ha
  refine ⟨by rw [stPut_ne _ _ (by omega)]; exact h.1, fun i hi => ?_⟩
  rw [stPut_ne _ _ (by omega)]
  exact h.2 i hi
theorem stOK_of {G G' : zG} {s : Nat} {r : Nat → Int32} (h : stOK G s r) (h2 : ∀ x, s ≤ x → x < s + 15 → G' x = G x) : stOK G' s r :=
  ⟨by rw [h2 _ (by omega) (by omega)]; exact h.1, fun i hi => by rw [h2 _ (by omega) (by omega)]; exact h.2 i hi⟩
theorem stPut_self {G : zG} {s : Nat} {r : Nat → Int32} (h : stOK G s r) : stPut G s r = G := by
  funext x
  have h0 := h.2 0 (by omega)
  have h1 := h.2 1 (by omega)
  have h2 := h.2 2 (by omega)
  have h3 := h.1
  simp only [Nat.mul_zero, Nat.add_zero, Nat.mul_one, Nat.reduceAdd, Nat.reduceMul] at h0 h1 h2
  simp only [stPut, stPutI]
  grind
theorem stPutI_s {G : zG} {s i : Nat} {r : Nat → Int32} (hi : i < 3) : zst (stPutI G s r i) (s + (3 + 4 * i)) (cupR r i) = stPutI G s r (i + 1) := by
  funext x
  match i, hi with
  | 0, _ => simp only [zst, stPutI]; grind
  | 1, _ => simp only [zst, stPutI]; grind
  | 2, _ => simp only [zst, stPutI]; grind
theorem stPutI_0 {G : zG} {s : Nat} {r : Nat → Int32} : zst G s (hdR r) = stPutI G s r 0 := by
  funext x; simp only [zst, stPutI]; grind
theorem stPutI_ne {G : zG} {s i x : Nat} {r : Nat → Int32} (h : x < s ∨ s + 15 ≤ x ∨ ∃ k, i ≤ k ∧ k < 3 ∧ x = s + (3 + 4 * k)) : stPutI G s r i x = G x := by
  simp only [stPutI]
  rcases h with h | h | ⟨k, h1, h2, h3⟩
  · grind
  · grind
  · match k, h2 with
    | 0, _ => grind
    | 1, _ => grind
    | 2, _ => grind
theorem cpP_cup {r r' : Nat → Int32} {i j : Nat} : cpP (cupR r i) (cupR r' j) = cupR r' j := by
  funext y; simp only [cpP, cupR]; grind
theorem cpH_hd {r r' : Nat → Int32} : zcp 5 16 (hdR r') 5 (upd (upd (upd (upd (upd (hdR r) 0 (hdR r' 0)) 1 (hdR r' 1)) 2 (hdR r' 2)) 3 (hdR r' 3)) 4 (hdR r' 4)) = hdR r' := by
  funext y; simp only [zcp, upd, hdR]; grind
def zHi (L : zL) (h : Nat) : Prop := (h, 6) ∈ L ∧ ∀ j, j < 7 → zSt L (h + (2 + 15 * j))
