theorem lN_t (m : Nat) : (lN m).toUInt64 = UInt64.ofNat m := rfl
theorem lN_f (m : Nat) : (UInt64.ofNat m).toInt64 = lN m := rfl
theorem lN_of (z : Int64) : lN z.toUInt64.toNat = z := by
  rw [← lN_f, UInt64.ofNat_toNat]
  rfl
theorem lN_u {m : Nat} (h : m < 2 ^ 64) : (lN m).toUInt64.toNat = m := by
  rw [lN_t]
  exact UInt64.toNat_ofNat_of_lt h
theorem lN_inj {m k : Nat} (h : m < 2 ^ 64) (hk : k < 2 ^ 64) (e : lN m = lN k) : m = k := by
  rw [← lN_u h, ← lN_u hk, e]
theorem lN_0 {m : Nat} (h : m < 2 ^ 64) : lN m = 0 ↔ m = 0 := by
  constructor
  · intro e
    exact lN_inj h (by decide) (e.trans (by decide +kernel))
  · intro e
    rw [e]
    decide +kernel
theorem lN_shr {m i : Nat} (h : m < 2 ^ 64) (hi : i < 8) : ((lN m).toUInt64 >>> ((nI (8 * i)).toInt64.toUInt64 &&& Int64.toUInt64 63)).toInt64 = lN (m >>> (8 * i)) := by
  have key : (nI (8 * i)).toInt64.toUInt64 &&& Int64.toUInt64 63 = UInt64.ofNat (8 * i) := by
    match i, hi with
    | 0, _ => decide +kernel
    | 1, _ => decide +kernel
    | 2, _ => decide +kernel
    | 3, _ => decide +kernel
    | 4, _ => decide +kernel
    | 5, _ => decide +kernel
    | 6, _ => decide +kernel
    | 7, _ => decide +kernel
  rw [key, lN_t, ← lN_f]
  congr 1
  apply UInt64.toNat_inj.mp
  have hh : ∀ a : Nat, a < 2 ^ 64 → (UInt64.ofNat a).toNat = a := fun a ha => UInt64.toNat_ofNat_of_lt ha
  rw [UInt64.toNat_shiftRight, hh m h, hh _ (by omega), hh _ (Nat.lt_of_le_of_lt (Nat.shiftRight_le _ _) h), Nat.mod_eq_of_lt (show 8 * i < 64 by omega)]
theorem lN_and {m : Nat} (h : m < 2 ^ 64) : (lN m &&& 255).toInt32 = nI (m % 256) := by
  have e : lN m &&& 255 = lN (m % 256) := by
    apply Int64.toBitVec_inj.mp
    apply BitVec.eq_of_toNat_eq
    have h1 : (lN m).toBitVec.toNat = m := Nat.mod_eq_of_lt h
    have h2 : (lN (m % 256)).toBitVec.toNat = m % 256 := Nat.mod_eq_of_lt (by omega)
    rw [Int64.toBitVec_and, BitVec.toNat_and, h1, h2]
    exact Nat.and_two_pow_sub_one_eq_mod m 8
  rw [e, lN_i]
theorem nI_i2c {b : Nat} (h : b < 65536) : ((nI b).toUInt32 % 65536).toInt32 = nI b := by
  rw [pk_char, pk_tn (by omega), Nat.mod_eq_of_lt h]
/-- the text that a long brings: its signs, counted from the last -/
def chB (u i : Nat) : Nat := (u >>> (8 * i)) % 256
def chS (u : Nat) : Nat → Nat → Nat
  | i, 0 => i
  | i, k + 1 => if u >>> (8 * i) = 0 then i else if 33 ≤ chB u i ∧ chB u i ≤ 126 then chS u (i + 1) k else 0
def chN (u : Nat) : Nat := chS u 0 8
theorem chS_le {u : Nat} : ∀ {k i : Nat}, chS u i k ≤ i + k
  | 0, i => Nat.le_refl _
  | k + 1, i => by
    unfold chS
    have := chS_le (u := u) (k := k) (i := i + 1)
    split
    · omega
    · split <;> omega
theorem chS_ok {u : Nat} : ∀ {k i : Nat}, (∀ j, j < i → 33 ≤ chB u j ∧ chB u j ≤ 126) → ∀ j, j < chS u i k → 33 ≤ chB u j ∧ chB u j ≤ 126
  | 0, i, h => h
  | k + 1, i, h => by
    unfold chS
    split
    · exact h
    · split
      · rename_i hc
        refine chS_ok (k := k) (fun j hj => ?_)
        by_cases e : j = i
        · rw [e]; exact hc
        · exact h j (by omega)
      · intro j hj
        omega
theorem chN_le {u : Nat} : chN u ≤ 8 := by have := chS_le (u := u) (k := 8) (i := 0); unfold chN; omega
theorem chN_ok {u j : Nat} (h : j < chN u) : 33 ≤ chB u j ∧ chB u j ≤ 126 := chS_ok (k := 8) (i := 0) (fun j hj => by omega) j h
/-- the text after it, when k signs are still to come -/
def putT (T : Nat → Nat) (n u c k : Nat) : Nat → Nat := fun j => if n ≤ j ∧ j < n + (c - k) then chB u (c - 1 - (j - n)) else T j
def opPut (T : Nat → Nat) (n u : Nat) : Int32 × (Nat → Nat) × Nat :=
  if chN u = 0 then (-2, T, n) else if 80 < n + chN u then (-4, T, n) else (nI (n + chN u), putT T n u (chN u) 0, n + chN u)
theorem putT_0 {T : Nat → Nat} {n u c : Nat} : putT T n u c c = T := by
  funext j
  unfold putT
  rw [if_neg (by omega)]
theorem putT_s {T : Nat → Nat} {n u c k : Nat} (hk : k < c) : putT T n u c k = fun j => if j = n + (c - (k + 1)) then chB u k else putT T n u c (k + 1) j := by
  funext j
  unfold putT
  by_cases e : j = n + (c - (k + 1))
  · rw [if_pos (by omega), if_pos e]
    congr 1
    omega
  · rw [if_neg e]
    by_cases e2 : n ≤ j ∧ j < n + (c - (k + 1))
    · rw [if_pos (by omega), if_pos e2]
    · rw [if_neg (by omega), if_neg e2]
