def clearA (f : Nat → Int32) (i1 i2 : Nat) : Nat → Int32 := fun j => if j < 5 + i1 ∨ (21 ≤ j ∧ j < 21 + i2) ∨ (45 ≤ j ∧ j < 45 + i2) then 0 else f j
theorem clearA_0 {f : Nat → Int32} : upd (upd (upd (upd (upd f 0 0) 1 0) 2 0) 3 0) 4 0 = clearA f 0 0 := by
  funext j; simp only [upd, clearA]; grind
theorem clearA_1 {f : Nat → Int32} {i : Nat} (h : i < 16) : upd (clearA f i 0) (5 + i) 0 = clearA f (i + 1) 0 := by
  funext j; simp only [upd, clearA]; grind
theorem clearA_2 {f : Nat → Int32} {i : Nat} (h : i < 24) : upd (upd (clearA f 16 i) (21 + i) 0) (45 + i) 0 = clearA f 16 (i + 1) := by
  funext j; simp only [upd, clearA]; grind
def clearP (f : Nat → Int32) : Nat → Int32 := clearA f 16 24
def cpP (f g : Nat → Int32) : Nat → Int32 := fun j => if j < 69 then g j else f j
theorem cpP_e {f g : Nat → Int32} : zcp 45 24 g 45 (zcp 21 24 g 21 (zcp 5 16 g 5 (upd (upd (upd (upd (upd f 0 (g 0)) 1 (g 1)) 2 (g 2)) 3 (g 3)) 4 (g 4)))) = cpP f g := by
  funext j; simp only [upd, cpP, zcp]; grind
/-- rows: sets at 0, numbers at 24; one row leads, those ahead of i have taken it -/
def redI (f : Nat → Int32) (a : Nat) (own : Int32) (i : Nat) : Nat → Int32 := fun j =>
  if j < i then (if j ≠ a ∧ ¬ f j &&& own = 0 then f j ^^^ f a else f j)
  else if 24 ≤ j ∧ j < 24 + i then (if j ≠ 24 + a ∧ ¬ f (j - 24) &&& own = 0 then f j ^^^ f (24 + a) else f j) else f j
def red1 (f : Nat → Int32) (a : Nat) : Nat → Int32 := redI f a (f a &&& -f a) 24
def redN (f : Nat → Int32) : Nat → Nat → Int32
  | 0 => f
  | k + 1 => red1 (redN f k) k
theorem redI_0 {f : Nat → Int32} {a : Nat} {own : Int32} : redI f a own 0 = f := by
  funext j; simp only [redI]; grind
theorem redI_at {f : Nat → Int32} {a : Nat} {own : Int32} {i : Nat} (ha : a < 24) (hi : i < 24) : redI f a own i a = f a ∧ redI f a own i (24 + a) = f (24 + a) ∧ redI f a own i i = f i ∧ redI f a own i (24 + i) = f (24 + i) := by
  simp only [redI]; grind
theorem redI_s1 {f : Nat → Int32} {a i : Nat} {own : Int32} (hi : i < 24) (h : i = a ∨ f i &&& own = 0) : redI f a own i = redI f a own (i + 1) := by
  funext j; simp only [redI]
  rcases h with h | h <;> grind
theorem redI_s2 {f : Nat → Int32} {a i : Nat} {own : Int32} (ha : a < 24) (hi : i < 24) (h1 : i ≠ a) (h : ¬ f i &&& own = 0) : upd (upd (redI f a own i) i (f i ^^^ f a)) (24 + i) (f (24 + i) ^^^ f (24 + a)) = redI f a own (i + 1) := by
  funext j; simp only [redI, upd]; grind
def isSg (s : Int32) : Bool := decide (zcnt (zb s) 16 = 1)
def lsP (f g : Nat → Int32) : Nat → Nat → Int32
  | 0 => f
  | i + 1 => if isSg (g i) then knowP (lsP f g i) (zlow (g i)) (g (24 + i)) else lsP f g i
/-- rows whose single places can all be learnt -/
def zRW (n : Nat) (ch f g : Nat → Int32) : Prop := (∀ i, i < 24 → zlim n (g i) ∧ (∀ k, zb (f 0) k = true → zb (g i) k = false) ∧ g (24 + i) = xs ch (g i)) ∧
  ∀ i j, i < j → j < 24 → isSg (g i) = true → isSg (g j) = true → g i ≠ g j
theorem sg_one {n : Nat} {s : Int32} (hn : n ≤ 16) (h : zlim n s) (hs : isSg s = true) : s = bt (zlow s) ∧ zlow s < n ∧ zb s (zlow s) = true := by
  have h1 : zcnt (zb s) 16 = 1 := by simpa [isSg] using hs
  refine zone_of hn h (by omega) (fun e => ?_)
  rw [e] at h1
  have : zcnt (zb 0) 16 = 0 := by decide
  omega
theorem lsP_J {n : Nat} {ch f g : Nat → Int32} {m : Nat} (hJ : zCJ n ch f m) (hR : zRW n ch f g) : ∀ i, i ≤ 24 → zCJ n ch (lsP f g i) m ∧ (∀ k, zb (lsP f g i 0) k = true → zb (f 0) k = true ∨ ∃ j, j < i ∧ isSg (g j) = true ∧ g j = bt k ∧ k < n)
  | 0, _ => ⟨hJ, fun k h => Or.inl h⟩
  | i + 1, hi => by
    obtain ⟨h1, h2⟩ := lsP_J hJ hR i (by omega)
    unfold lsP
    cases hs : isSg (g i) with
    | false =>
      simp only [Bool.false_eq_true, if_false]
      refine ⟨h1, fun k hk => ?_⟩
      rcases h2 k hk with h | ⟨j, a, b⟩
      · exact Or.inl h
      · exact Or.inr ⟨j, by omega, b⟩
    | true =>
      simp only [if_true]
      obtain ⟨g1, g2, g3⟩ := hR.1 i (by omega)
      obtain ⟨e1, e2, e3⟩ := sg_one hJ.1 g1 hs
      have hn := hJ.1
      have hv : g (24 + i) = ch (zlow (g i)) := by
        rw [g3]
        conv => lhs; rw [e1]
        exact xs_bt ch (by omega)
      have hno : zb (lsP f g i 0) (zlow (g i)) = false := by
        cases hz : zb (lsP f g i 0) (zlow (g i)) with
        | false => rfl
        | true =>
          rcases h2 _ hz with h | ⟨j, a, b, c, _⟩
          · rw [g2 _ h] at e3; cases e3
          · exact absurd (c.trans e1.symm) (hR.2 j i a (by omega) b hs)
      rw [hv]
      refine ⟨zCJ_know h1 e2 hno, fun k hk => ?_⟩
      rw [(knowP_at (f := lsP f g i) (v := ch (zlow (g i))) (show zlow (g i) < 16 by omega)).1, zb_or, zb_bt (by omega)] at hk
      by_cases e : k = zlow (g i)
      · subst e
        exact Or.inr ⟨i, by omega, hs, e1, e2⟩
      · simp [e] at hk
        rcases h2 k hk with h | ⟨j, a, b⟩
        · exact Or.inl h
        · exact Or.inr ⟨j, by omega, b⟩
