/-! the reference's object: one blob; its row of 228 lies at 18 -/
def mG (g r : Nat → Int32) : Nat → Int32 := fun j => if 18 ≤ j ∧ j < 246 then r (j - 18) else g j
theorem mG_r {g r : Nat → Int32} {k : Nat} (h : k < 228) : mG g r (18 + k) = r k := by
  unfold mG
  rw [if_pos (by omega), show 18 + k - 18 = k by omega]
theorem mG_o {g r : Nat → Int32} {j : Nat} (h : j < 18 ∨ 246 ≤ j) : mG g r j = g j := by
  unfold mG
  rw [if_neg (by omega)]
theorem mG_u {g r : Nat → Int32} {k : Nat} {v : Int32} (h : k < 228) : upd (mG g r) (18 + k) v = mG g (upd r k v) := by
  funext j
  simp only [upd, mG]
  grind
theorem mG_v {g r : Nat → Int32} {j : Nat} {v : Int32} (h : j < 18 ∨ 246 ≤ j) : upd (mG g r) j v = mG (upd g j v) r := by
  funext y
  simp only [upd, mG]
  grind
theorem mG_e {g : Nat → Int32} : mG g (fun k => g (18 + k)) = g := by
  funext j
  unfold mG
  split
  · show g (18 + (j - 18)) = g j
    rw [show 18 + (j - 18) = j by omega]
  · rfl
theorem mG_m {g r r' : Nat → Int32} : mG (mG g r) r' = mG g r' := by
  funext j
  simp only [mG]
  grind
def cpyM (g : Nat → Int32) (a b i : Nat) : Nat → Int32 := fun j => if a ≤ j ∧ j < a + i then g (b + (j - a)) else g j
theorem cpyM_0 {g : Nat → Int32} {a b : Nat} : cpyM g a b 0 = g := by
  funext j
  unfold cpyM
  rw [if_neg (by omega)]
theorem cpyM_r {g : Nat → Int32} {a b i k : Nat} (h : k < a ∨ a + i ≤ k) : cpyM g a b i k = g k := by
  unfold cpyM
  rw [if_neg (by omega)]
theorem cpyM_i {g : Nat → Int32} {a b i k : Nat} (h : k < i) : cpyM g a b i (a + k) = g (b + k) := by
  unfold cpyM
  rw [if_pos (by omega), show a + k - a = k by omega]
theorem cpyM_s {g : Nat → Int32} {a b i : Nat} : upd (cpyM g a b i) (a + i) (g (b + i)) = cpyM g a b (i + 1) := by
  funext j
  simp only [upd, cpyM]
  by_cases e : j = a + i
  · subst e
    rw [if_pos rfl, if_pos (by omega), show a + i - a = i by omega]
  · rw [if_neg e]
    by_cases e2 : a ≤ j ∧ j < a + i
    · rw [if_pos e2, if_pos (by omega)]
    · rw [if_neg e2, if_neg (by omega)]
def zinL (z : Int64) (a b : Int32) : Bool := decide (a.toInt64 ≤ z) && decide (z ≤ b.toInt64)
theorem i64_le {x y : Int32} : x.toInt64 ≤ y.toInt64 ↔ x ≤ y := by
  rw [Int64.le_iff_toInt_le, Int32.le_iff_toInt_le, Int32.toInt_toInt64, Int32.toInt_toInt64]
theorem zinL_3 {x a b : Int32} : zinL x.toInt64 a b = zin3 x a b := by
  unfold zinL zin3
  rw [decide_eq_decide.mpr (i64_le (x := a) (y := x)), decide_eq_decide.mpr (i64_le (x := x) (y := b))]
theorem zinL_f1 {z : Int64} {a b : Int32} (h : lg_cmp z a.toInt64 < 0) : zinL z a b = false := by
  have := (lg_cmp_lt _ _).mp h
  unfold zinL
  rw [decide_eq_false (lg_lt_not_le this)]
  rfl
theorem zinL_f2 {z : Int64} {a b : Int32} (h : 0 < lg_cmp z b.toInt64) : zinL z a b = false := by
  have := (lg_cmp_gt _ _).mp h
  unfold zinL
  rw [decide_eq_false (p := z ≤ b.toInt64) (lg_lt_not_le this), Bool.and_false]
theorem zinL_t {z : Int64} {a b : Int32} (h : ¬ lg_cmp z a.toInt64 < 0) (h2 : lg_cmp z b.toInt64 ≤ 0) : zinL z a b = true := by
  unfold zinL
  rw [decide_eq_true ((lg_cmp_le _ _).mp h2), decide_eq_true ((lg_cmp_ge _ _).mp (Int32.not_lt.mp h))]
  rfl
theorem mIx {i k : Nat} : (21 : Int32) + 69 * nI i + nI k = nI (21 + 69 * i + k) := by
  rw [show (69 : Int32) * nI i = nI (69 * i) from pk_mul 69 i, show (21 : Int32) + nI (69 * i) = nI (21 + 69 * i) from nI_add 21 _, nI_add]
theorem mI2 {s i : Nat} : (228 : Int32) * nI s + nI i = nI (228 * s + i) := by
  rw [show (228 : Int32) * nI s = nI (228 * s) from pk_mul 228 s, nI_add]
theorem cnt_s {z : Int32} {i : Nat} (h : i < 32) : nI (zcnt (zb z) i) + ((z >>> (nI i &&& 31)) &&& 1) = nI (zcnt (zb z) (i + 1)) := by
  rw [zb_test z h, bI_cnt, nI_add]
  rfl
/-- the first sign of a set; 16 if there is none -/
def lowM (z : Int32) : Nat := match zfind (zb z) 16 with
  | some k => k
  | none => 16
theorem isCup_eq {r : Nat → Int32} {cn : Nat} {y : Int32} (h3 : r 3 = nI cn) (hcn : cn ≤ 3) : zin3 y 0 (nI cn - 1) = (cpI r y).isSome := by
  cases hz : cpI r y with
  | some i =>
    obtain ⟨hi, rfl⟩ := cpI_some h3 hcn hz
    rw [show nI cn - 1 = nI (cn - 1) by rw [show (1 : Int32) = nI 1 from rfl]; exact pk_sub (by omega)]
    rw [(zin3_iff (m := cn - 1) (by omega)).mpr ⟨i, by omega, rfl⟩]
    rfl
  | none =>
    have hno := cpI_none h3 hcn hz
    cases hy : zin3 y 0 (nI cn - 1) with
    | false => rfl
    | true =>
      exfalso
      rcases Nat.eq_zero_or_pos cn with h0 | h0
      · subst h0
        unfold zin3 at hy
        rw [Bool.and_eq_true, decide_eq_true_eq, decide_eq_true_eq] at hy
        have h1 := Int32.le_iff_toInt_le.mp hy.1
        have h2 := Int32.le_iff_toInt_le.mp hy.2
        have e1 : (0 : Int32).toInt = 0 := by decide
        have e2 : (nI 0 - 1).toInt = -1 := by decide
        omega
      · rw [show nI cn - 1 = nI (cn - 1) by rw [show (1 : Int32) = nI 1 from rfl]; exact pk_sub (by omega)] at hy
        obtain ⟨i, hi, e⟩ := (zin3_iff (m := cn - 1) (by omega)).mp hy
        exact hno ⟨i, by omega, e⟩
/-- the blob after a state is recorded -/
def recM (g : Nat → Int32) (s : Nat) : Nat → Int32 :=
  if s = 6 then upd (cpyM (upd (cpyM g 246 474 1140) 6 (nI 5)) 1386 1614 228) 6 (nI 6) else upd (cpyM g (246 + 228 * s) 1614 228) 6 (nI (s + 1))
theorem bI_1 {b : Bool} : bI b = 1 ↔ b = true := by cases b <;> decide
/-- the droplet that was made last -/
def mkM (g d : Nat → Int32) : Nat → Int32 := upd (upd (upd (upd g 12 (d 0)) 13 (d 1)) 14 (d 2)) 15 (d 3)
def mkMi (g : Nat → Int32) (a : Int32) (dg n : Nat) (ch : Nat → Int32) (x0 i : Nat) : Nat → Int32 := upd (upd (upd (upd g 12 a) 13 (nI dg)) 14 (mkSet n x0 i)) 15 (mkNum ch n x0 i)
theorem mkMi_s {g : Nat → Int32} {a : Int32} {dg n : Nat} {ch : Nat → Int32} {x0 i : Nat} : upd (upd (mkMi g a dg n ch x0 i) 14 (mkSet n x0 (i + 1))) 15 (mkNum ch n x0 (i + 1)) = mkMi g a dg n ch x0 (i + 1) := by
  funext j; simp only [mkMi, upd]; grind
theorem mkMi_e {g : Nat → Int32} {w : Nat} {loss : Int32} {n : Nat} {ch : Nat → Int32} {sd : Nat} {f : Nat → Int32} : mkMi g (bI (decide (nI (zdw sd % 100) < loss))) (zdeg w (zdw (zdw sd)) n) n ch (zdw (zdw sd)) (zdeg w (zdw (zdw sd)) n) = mkM g (mkP f w loss n ch sd) := rfl
theorem mkMi_o {g : Nat → Int32} {a : Int32} {dg n : Nat} {ch : Nat → Int32} {x0 i j : Nat} (h : j < 12 ∨ 16 ≤ j) : mkMi g a dg n ch x0 i j = g j := by
  simp only [mkMi, upd]; grind
theorem bI_01 (b : Bool) : bI b = 0 ∨ bI b = 1 := by cases b <;> decide
