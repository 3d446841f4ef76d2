theorem zsw_in {w : Int32} {N : Nat} (hN : N < 2 ^ 31) (h1 : ¬ w.toInt < 0) (h2 : ¬ (N : Int) < w.toInt) : ∃ k, k ≤ N ∧ w = nI k := by
  refine ⟨w.toInt.toNat, by omega, ?_⟩
  apply Int32.toInt_inj.mp
  rw [nI_toInt (by omega)]
  omega
theorem zsw2 (w : Int32) : w = 0 ∨ w = 1 ∨ w = 2 ∨ (w.toInt < 0 ∨ 2 < w.toInt) := by
  by_cases h1 : w.toInt < 0
  · exact Or.inr (Or.inr (Or.inr (Or.inl h1)))
  by_cases h2 : 2 < w.toInt
  · exact Or.inr (Or.inr (Or.inr (Or.inr h2)))
  obtain ⟨k, hk, rfl⟩ := zsw_in (N := 2) (by decide) h1 h2
  rcases (show k = 0 ∨ k = 1 ∨ k = 2 by omega) with rfl | rfl | rfl
  · exact Or.inl rfl
  · exact Or.inr (Or.inl rfl)
  · exact Or.inr (Or.inr (Or.inl rfl))
theorem zsw6 (w : Int32) : w = 0 ∨ w = 1 ∨ w = 2 ∨ w = 3 ∨ w = 4 ∨ w = 5 ∨ w = 6 ∨ (w.toInt < 0 ∨ 6 < w.toInt) := by
  by_cases h1 : w.toInt < 0
  · simp [h1]
  by_cases h2 : 6 < w.toInt
  · simp [h2]
  obtain ⟨k, hk, rfl⟩ := zsw_in (N := 6) (by decide) h1 h2
  rcases (show k = 0 ∨ k = 1 ∨ k = 2 ∨ k = 3 ∨ k = 4 ∨ k = 5 ∨ k = 6 by omega) with rfl | rfl | rfl | rfl | rfl | rfl | rfl
  · exact Or.inl rfl
  · exact Or.inr (Or.inl rfl)
  · exact Or.inr (Or.inr (Or.inl rfl))
  · exact Or.inr (Or.inr (Or.inr (Or.inl rfl)))
  · exact Or.inr (Or.inr (Or.inr (Or.inr (Or.inl rfl))))
  · exact Or.inr (Or.inr (Or.inr (Or.inr (Or.inr (Or.inl rfl)))))
  · exact Or.inr (Or.inr (Or.inr (Or.inr (Or.inr (Or.inr (Or.inl rfl))))))
theorem zsw7 (w : Int32) : w = 0 ∨ w = 1 ∨ w = 2 ∨ w = 3 ∨ w = 4 ∨ w = 5 ∨ w = 6 ∨ w = 7 ∨ (w.toInt < 0 ∨ 7 < w.toInt) := by
  by_cases h1 : w.toInt < 0
  · simp [h1]
  by_cases h2 : 7 < w.toInt
  · simp [h2]
  obtain ⟨k, hk, rfl⟩ := zsw_in (N := 7) (by decide) h1 h2
  rcases (show k = 0 ∨ k = 1 ∨ k = 2 ∨ k = 3 ∨ k = 4 ∨ k = 5 ∨ k = 6 ∨ k = 7 by omega) with rfl | rfl | rfl | rfl | rfl | rfl | rfl | rfl
  · exact Or.inl rfl
  · exact Or.inr (Or.inl rfl)
  · exact Or.inr (Or.inr (Or.inl rfl))
  · exact Or.inr (Or.inr (Or.inr (Or.inl rfl)))
  · exact Or.inr (Or.inr (Or.inr (Or.inr (Or.inl rfl))))
  · exact Or.inr (Or.inr (Or.inr (Or.inr (Or.inr (Or.inl rfl)))))
  · exact Or.inr (Or.inr (Or.inr (Or.inr (Or.inr (Or.inr (Or.inl rfl))))))
  · exact Or.inr (Or.inr (Or.inr (Or.inr (Or.inr (Or.inr (Or.inr (Or.inl rfl)))))))
def qDrop (r : Nat → Int32) (sd w : Int32) : Int32 := if (zin3 sd 0 65535 && zin3 w 0 3) = false then -2 else if r 2 = 0 then -5 else
  if w = 0 then dPR r sd.toNatClampNeg 1 else if w = 1 then dPR r sd.toNatClampNeg 2 else if w = 2 then dPR r sd.toNatClampNeg 3 else dPR r sd.toNatClampNeg 0
def qOfV (r f : Nat → Int32) (w : Int32) (fol : Int32) : Int32 := if w = 0 then f 0 else if w = 1 then f 1 else if w = 2 then f 2 else if w = 3 then f 3 else if w = 4 then f 4 else if w = 5 then bI (fullB r f) else
  if w = 6 then nI (zcnt (zb (f 0)) 16) + nI (zcnt (zb fol) 16) else -2
noncomputable def qOfCup (r : Nat → Int32) (y w : Int32) : Int32 := match cpI r y with
  | none => -1
  | some i => qOfV r (cupR r i) w (folM (cupR r i))
def qKnown (r : Nat → Int32) (y c : Int32) : Int32 := match cpI r y with
  | none => -1
  | some i => if zin3 c 0 15 = true ∧ c < r 2 then (if zb (cupR r i 0) c.toNatClampNeg then cupR r i (5 + c.toNatClampNeg) else -6) else -1
def qKept (r : Nat → Int32) (y k w : Int32) : Int32 := match cpI r y with
  | none => -1
  | some i => if zin3 k 0 23 = true ∧ k < cupR r i 1 then (if w = 0 then cupR r i (21 + k.toNatClampNeg) else if w = 1 then cupR r i (45 + k.toNatClampNeg) else -2) else -1
def qCount (r : Nat → Int32) (tn hc w : Int32) : Int32 := if w = 0 then r 2 else if w = 1 then r 3 else if w = 2 then fcN r (r 3).toNatClampNeg 3 else if w = 3 then r 4 else if w = 4 then r 0 else if w = 5 then r 1 else if w = 6 then tn else if w = 7 then hc else -2
def qWould (r : Nat → Int32) (y sd : Int32) : Int32 := match cpI r y with
  | none => -1
  | some i => if errD r sd 1 < 0 then errD r sd 1 else if ¬ dPR r sd.toNatClampNeg 0 = 0 then 0 else
    if 0 < recvR (cupR r i) (dPR r sd.toNatClampNeg) then 2 + recvR (cupR r i) (dPR r sd.toNatClampNeg) else
    if cupR r i 4 < recvP (cupR r i) (dPR r sd.toNatClampNeg) 4 then 1 else 2
def ndV (P : Nat → Bool) (N : Nat) : Int32 := match zfind P N with
  | none => -6
  | some k => nI k
theorem ndV_none {P : Nat → Bool} {N : Nat} (h : ∀ k, k < N → P k = false) : ndV P N = -6 := by unfold ndV; rw [zfind_of_none h]
theorem ndV_some {P : Nat → Bool} {N k : Nat} (hk : k < N) (h1 : P k = true) (h : ∀ j, j < k → P j = false) : ndV P N = nI k := by unfold ndV; rw [zfind_of hk h1 h]
def qNeeds (r : Nat → Int32) (y sd : Int32) : Int32 := match cpI r y with
  | none => -1
  | some i => if errD r sd 1 < 0 then errD r sd 1 else ndV (fun k => fullB r (prF r (cupR r i) sd.toNatClampNeg k)) 501
def degB (r : Nat → Int32) (sd : Nat) (dg : Int32) (k : Nat) : Bool := decide (nI (zdeg (r 0).toNatClampNeg (zdw (zdw ((sd + k) % 65536))) (r 2).toNatClampNeg) = dg)
def qDeg (r : Nat → Int32) (sd mn dg : Int32) : Int32 := if (zin3 sd 0 65535 && (zin3 mn 1 999 && zin3 dg 1 16)) = false then -2 else if r 2 = 0 then -5 else nI (zcnt (degB r sd.toNatClampNeg dg) mn.toNatClampNeg)
theorem zSI_CJ {b : Nat} {r : Nat → Int32} {n i : Nat} (h : ∀ i, i < 3 → zCI n (chR r) (cupR r i)) (hi : i < 3) : ∃ m, zCJ n (chR r) (cupR r i) m ∧ zsz (cupR r i) m := h i hi
