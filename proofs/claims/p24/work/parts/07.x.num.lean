def zb (z : Int32) (k : Nat) : Bool := z.toBitVec.getLsbD k
theorem zb_and (x y : Int32) (k : Nat) : zb (x &&& y) k = (zb x k && zb y k) := by simp [zb]
theorem zb_or (x y : Int32) (k : Nat) : zb (x ||| y) k = (zb x k || zb y k) := by simp [zb]
theorem zb_xor (x y : Int32) (k : Nat) : zb (x ^^^ y) k = (zb x k ^^ zb y k) := by simp [zb]
theorem zb_zero (k : Nat) : zb 0 k = false := by simp [zb]
theorem zb_hi (x : Int32) {k : Nat} (h : 32 ≤ k) : zb x k = false := by simp [zb, BitVec.getLsbD_of_ge _ _ h]
theorem zb_ext {x y : Int32} (h : ∀ k, k < 32 → zb x k = zb y k) : x = y := by
  apply Int32.toBitVec_inj.mp
  apply BitVec.eq_of_getLsbD_eq
  intro i hi
  exact h i hi
theorem zb_not (x : Int32) {k : Nat} (h : k < 32) : zb (x ^^^ (-1)) k = !zb x k := by
  have e : zb (-1) k = true := by
    have : (-1 : Int32).toBitVec = BitVec.allOnes 32 := by decide
    simp only [zb, this, BitVec.getLsbD_allOnes, h, decide_true]
  rw [zb_xor, e]
  simp
theorem zb_neg (x : Int32) {k : Nat} (h : k < 32) : zb (-x) k = (zb x k ^^ decide (∃ j, j < k ∧ zb x j = true)) := by
  have : (-x).toBitVec = - x.toBitVec := by simp
  unfold zb
  rw [this, BitVec.getLsbD_neg]
  simp [h]
theorem nI_31 {k : Nat} (h : k < 32) : nI k &&& 31 = nI k := by
  have := pk_andN (n := k) (by omega) (m := 31) 5 (by decide)
  rw [this, Nat.mod_eq_of_lt (by omega)]
theorem nI_smod {k : Nat} (h : k < 32) : ((nI k).toBitVec.smod 32).toNat = k := by
  have : ∀ k, k < 32 → ((nI k).toBitVec.smod 32).toNat = k := by decide +kernel
  exact this k h
theorem zb_one {k : Nat} (h : k < 32) (j : Nat) : zb (1 <<< (nI k &&& 31)) j = decide (j = k) := by
  rw [nI_31 h]
  have e : ∀ k, k < 32 → ∀ j, j < 32 → zb (1 <<< nI k) j = decide (j = k) := by decide +kernel
  by_cases hj : j < 32
  · exact e k h j hj
  · rw [zb_hi _ (by omega)]
    simp
    omega
theorem zb_shr (z : Int32) {k : Nat} (h : k < 32) {j : Nat} (hj : j + k < 32) : zb (z >>> (nI k &&& 31)) j = zb z (k + j) := by
  rw [nI_31 h]
  have e : (z >>> nI k).toBitVec = z.toBitVec.sshiftRight k := by
    rw [Int32.toBitVec_shiftRight]
    show BitVec.sshiftRight' _ _ = _
    unfold BitVec.sshiftRight'
    rw [nI_smod h]
  unfold zb
  rw [e, BitVec.getLsbD_sshiftRight]
  have h1 : decide (32 ≤ j) = false := by simp; omega
  have h2 : k + j < 32 := by omega
  simp [h1, h2]
theorem zb_test (z : Int32) {k : Nat} (h : k < 32) : (z >>> (nI k &&& 31)) &&& 1 = bI (zb z k) := by
  apply zb_ext
  intro j hj
  rw [zb_and]
  have e1 : zb 1 j = decide (j = 0) := by
    have := zb_one (k := 0) (by omega) j
    rw [show ((1 : Int32) <<< (nI 0 &&& 31)) = 1 by decide] at this
    exact this
  by_cases h0 : j = 0
  · subst h0
    rw [zb_shr z h (by omega), e1]
    cases hz : zb z (k + 0) <;> simp at hz <;> simp [hz, bI] <;> decide
  · rw [e1]
    have : zb (bI (zb z k)) j = false := by
      cases zb z k
      · simp [bI, zb_zero]
      · simp [bI, e1, h0]
    rw [this]
    simp [h0]
/-- how many places below n -/
def zcnt (f : Nat → Bool) : Nat → Nat
  | 0 => 0
  | k + 1 => zcnt f k + (if f k then 1 else 0)
theorem zcnt_le (f : Nat → Bool) : ∀ n, zcnt f n ≤ n
  | 0 => Nat.le_refl _
  | k + 1 => by
    have := zcnt_le f k
    unfold zcnt
    split <;> omega
theorem zcnt_congr {f g : Nat → Bool} : ∀ {n : Nat}, (∀ k, k < n → f k = g k) → zcnt f n = zcnt g n
  | 0, _ => rfl
  | n + 1, h => by
    have h1 := zcnt_congr (n := n) (f := f) (g := g) (fun k hk => h k (by omega))
    simp only [zcnt, h1, h n (by omega)]
theorem bI_cnt (b : Bool) : bI b = nI (if b then 1 else 0) := by cases b <;> rfl
theorem nI_and (a b : Nat) (ha : a < 2 ^ 32) (hb : b < 2 ^ 32) : nI a &&& nI b = nI (a &&& b) := by
  apply Int32.toBitVec_inj.mp
  apply BitVec.eq_of_toNat_eq
  have hab : a &&& b < 2 ^ 32 := Nat.lt_of_le_of_lt Nat.and_le_left ha
  rw [pk_tn hab, Int32.toBitVec_and, BitVec.toNat_and, pk_tn ha, pk_tn hb]
theorem zb_nI {n : Nat} (h : n < 2 ^ 32) (k : Nat) : zb (nI n) k = n.testBit k := by
  unfold zb
  rw [← BitVec.testBit_toNat, pk_tn h]
/-- the number behind a mask -/
def zm (z : Int32) : Nat := z.toBitVec.toNat
theorem zm_lt (z : Int32) : zm z < 2 ^ 32 := z.toBitVec.isLt
theorem nI_zm (z : Int32) : nI (zm z) = z := by
  apply Int32.toBitVec_inj.mp
  apply BitVec.eq_of_toNat_eq
  rw [pk_tn (zm_lt z)]
  rfl
theorem zb_zm (z : Int32) (k : Nat) : zb z k = (zm z).testBit k := by
  unfold zb zm
  rw [← BitVec.testBit_toNat]
theorem zm_small {z : Int32} (h : ∀ k, 16 ≤ k → zb z k = false) : zm z < 65536 := by
  have : zm z < 2 ^ 16 := by
    apply Nat.lt_pow_two_of_testBit
    intro i hi
    rw [← zb_zm]
    exact h i hi
  exact this
theorem nI_xor (a b : Nat) (ha : a < 2 ^ 32) (hb : b < 2 ^ 32) : nI a ^^^ nI b = nI (a ^^^ b) := by
  apply Int32.toBitVec_inj.mp
  apply BitVec.eq_of_toNat_eq
  have hab : a ^^^ b < 2 ^ 32 := Nat.xor_lt_two_pow ha hb
  rw [pk_tn hab, Int32.toBitVec_xor, BitVec.toNat_xor, pk_tn ha, pk_tn hb]
theorem nI_xor_nn {a b : Nat} (ha : a < 2 ^ 31) (hb : b < 2 ^ 31) : 0 ≤ nI a ^^^ nI b := by
  rw [nI_xor _ _ (by omega) (by omega)]
  exact nI_pos' (Nat.xor_lt_two_pow ha hb)
theorem i32_nlt {x y : Int32} : ¬ x < y ↔ y ≤ x := Int32.not_lt
theorem i32_nle {x y : Int32} : ¬ x ≤ y ↔ y < x := Int32.not_le
def zin3 (x a b : Int32) : Bool := decide (a ≤ x) && decide (x ≤ b)
theorem zin3_f1 {x a b : Int32} (h : x < a) : bI (zin3 x a b) = 0 := by
  have := i32_nle.mpr h
  simp [zin3, this, bI]
theorem zin3_f2 {x a b : Int32} (h : b < x) : bI (zin3 x a b) = 0 := by
  have := i32_nle.mpr h
  simp [zin3, this, bI]
theorem zin3_t {x a b : Int32} (h : ¬ x < a) (h2 : ¬ b < x) : bI (zin3 x a b) = 1 := by
  have := i32_nlt.mp h
  have := i32_nlt.mp h2
  simp [zin3, *, bI]
/-- a whole number by its test: below, above, or in between -/
theorem zin3_iff {x : Int32} {m : Nat} (hm : m < 2 ^ 31) : zin3 x 0 (nI m) = true ↔ ∃ i : Nat, i ≤ m ∧ x = nI i := by
  unfold zin3
  simp only [Bool.and_eq_true, decide_eq_true_eq]
  constructor
  · rintro ⟨h1, h2⟩
    obtain ⟨j, hj, rfl⟩ := nI_of (i32_nlt.mpr h1)
    exact ⟨j, (nI_leI hj hm).mp h2, rfl⟩
  · rintro ⟨i, hi, rfl⟩
    exact ⟨nI_pos' (by omega), nI_le hi hm⟩
theorem zin3_iff2 {x : Int32} {l m : Nat} (hm : m < 2 ^ 31) (hlm : l ≤ m) : zin3 x (nI l) (nI m) = true ↔ ∃ i : Nat, l ≤ i ∧ i ≤ m ∧ x = nI i := by
  unfold zin3
  simp only [Bool.and_eq_true, decide_eq_true_eq]
  constructor
  · rintro ⟨h1, h2⟩
    have h0 : ¬ x < 0 := i32_nlt.mpr (Int32.le_trans (nI_pos' (by omega)) h1)
    obtain ⟨j, hj, rfl⟩ := nI_of h0
    exact ⟨j, (nI_leI (by omega) hj).mp h1, (nI_leI hj hm).mp h2, rfl⟩
  · rintro ⟨i, hl, hi, rfl⟩
    exact ⟨nI_le hl (by omega), nI_le hi hm⟩
