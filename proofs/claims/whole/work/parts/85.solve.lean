/-- the places of a mask below k -/
def mskL (M : Int32) (k : Nat) : Int32 := mskOf (fun j => zb M j) k
theorem mskL_s {M : Int32} {k : Nat} : mskL M (k + 1) = if zb M k = true then mskL M k ||| bt k else mskL M k := rfl
theorem mskL_0 {M : Int32} : mskL M 0 = 0 := rfl
theorem mskL_16 {n : Nat} {M : Int32} (hn : n ≤ 16) (hM : zlim n M) : mskL M 16 = M := by
  apply zb_ext
  intro k _
  unfold mskL
  rw [zb_mskOf (by omega)]
  by_cases h : k < 16
  · rw [decide_eq_true h, Bool.true_and]
  · rw [decide_eq_false h, Bool.false_and, hM k (by omega)]
theorem mskL_no {M : Int32} {k : Nat} (hk : k ≤ 16) : zb (mskL M k) k = false := by
  unfold mskL
  rw [zb_mskOf (by omega), decide_eq_false (by omega), Bool.false_and]
theorem i32_and_zl (a : Int32) : (0 : Int32) &&& a = 0 := zb_ext (fun k _ => by rw [zb_and, zb_zero]; rfl)
theorem knowAll_1 {f ch : Nat → Int32} {M : Int32} : knowAll f ch M 1 = f 1 := rfl
theorem knowAll_row {f ch : Nat → Int32} {M : Int32} {k : Nat} (hk : k < 24) (h : f (21 + k) = 0) : knowAll f ch M (21 + k) = 0 := by
  simp only [knowAll]
  rw [if_neg (by omega), if_neg (by omega), if_pos (by omega), h, i32_and_zl, i32_xor_self]
theorem zcnt_disj {a b : Int32} (h : ∀ k, zb a k = true → zb b k = false) : ∀ n, zcnt (zb (a ||| b)) n = zcnt (zb a) n + zcnt (zb b) n
  | 0 => rfl
  | n + 1 => by
    unfold zcnt
    rw [zcnt_disj h n, zb_or]
    cases ha : zb a n with
    | true => rw [h n ha]; simp; omega
    | false => cases hb : zb b n <;> simp <;> omega
/-- a single row's number is its chapter's -/
theorem folR_val {n t : Nat} {ch f : Nat → Int32} (hJ : zCJ n ch f t) {k : Nat} (hk : k < 16) (h : zb (folM f) k = true) : folR f t k = bt k ∧ xsR ch (folR f t) k = ch k := by
  rw [← mskF_folM hJ] at h
  unfold mskF at h
  rw [zb_mskOf (by omega), decide_eq_true hk, Bool.true_and, decide_eq_true_eq] at h
  refine ⟨h, ?_⟩
  unfold xsR
  rw [h, xs_bt ch hk]
theorem slv_cnt {n t : Nat} {ch f : Nat → Int32} (hJ : zCJ n ch f t) : nI (zcnt (zb (folM f)) 16) + nI (zcnt (zb (slvP f ch 0)) 16 - zcnt (zb (knowAll f ch (folM f) 0)) 16) = nI (zcnt (zb (slvP f ch 0)) 16) - nI (zcnt (zb (f 0)) 16) := by
  obtain ⟨h1, h2⟩ := folM_lim hJ
  have hg := grows_cnt (grows_peel 24 (knowAll f ch (folM f)))
  have e0 : knowAll f ch (folM f) 0 = f 0 ||| folM f := rfl
  have hd := zcnt_disj (a := f 0) (b := folM f) h2 16
  have e1 : slvP f ch = peelP 24 (knowAll f ch (folM f)) := rfl
  rw [e0, hd] at hg
  rw [e1, e0, hd, nI_add, pk_sub (by omega)]
  congr 1
  omega
