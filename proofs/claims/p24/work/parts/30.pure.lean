theorem zloop {P : Nat → Prop} (N : Nat) (hs : ∀ i, i ≤ N → (i < N → P (i + 1)) → P i) : ∀ i, i ≤ N → P i := by
  have h : ∀ n i, i + n = N → P i := by
    intro n
    induction n with
    | zero => intro i hi; exact hs i (by omega) (fun h => by omega)
    | succ n ih => intro i hi; exact hs i (by omega) (fun _ => ih (i + 1) (by omega))
  exact fun i hi => h (N - i) i (by omega)
theorem zlt_of {N i : Nat} {x : Int32} (hN : N < 2 ^ 31) (hi : i < 2 ^ 31) (hx : x = nI N) (h : ¬ x ≤ nI i) : i < N := by
  subst hx
  rcases Nat.lt_or_ge i N with h1 | h1
  · exact h1
  · exact absurd (nI_le h1 hi) h
theorem zge_of {N i : Nat} {x : Int32} (hN : N < 2 ^ 31) (hi : i < 2 ^ 31) (hx : x = nI N) (h : x ≤ nI i) : N ≤ i := by
  subst hx
  exact (nI_leI hN hi).mp h
def bt (c : Nat) : Int32 := 1 <<< (nI c &&& 31)
theorem zb_bt {c : Nat} (h : c < 32) (j : Nat) : zb (bt c) j = decide (j = c) := zb_one h j
theorem bt_inj {c d : Nat} (hc : c < 32) (hd : d < 32) : bt c = bt d ↔ c = d := by
  constructor
  · intro h
    have := zb_bt hc c
    rw [h, zb_bt hd] at this
    simpa using this
  · rintro rfl; rfl
theorem zb_and_bt (z : Int32) {c : Nat} (h : c < 32) : z &&& bt c = 0 ↔ zb z c = false := by
  constructor
  · intro h1
    have : zb (z &&& bt c) c = false := by rw [h1, zb_zero]
    rw [zb_and, zb_bt h] at this
    simpa using this
  · intro h1
    apply zb_ext
    intro k _
    rw [zb_and, zb_bt h, zb_zero]
    by_cases e : k = c
    · subst e; simp [h1]
    · simp [e]
/-- what a cup knows and keeps while a chapter is learnt: its value laid if c < i1, droplets ahead of i2 reached -/
def knowA (f : Nat → Int32) (c : Nat) (v : Int32) (i1 i2 : Nat) : Nat → Int32 := fun j =>
  if j = 0 then f 0 ||| bt c else if j = 5 + c ∧ c < i1 then v
  else if 21 ≤ j ∧ j < 21 + i2 then (if zb (f j) c then f j ^^^ bt c else f j)
  else if 45 ≤ j ∧ j < 45 + i2 then (if zb (f (j - 24)) c then f j ^^^ v else f j) else f j
def knowP (f : Nat → Int32) (c : Nat) (v : Int32) : Nat → Int32 := knowA f c v 16 24
theorem knowA_s1 {f : Nat → Int32} {c : Nat} {v : Int32} {i : Nat} (h : c = i) : upd (knowA f c v i 0) (5 + i) v = knowA f c v (i + 1) 0 := by
  funext j
  simp only [upd, knowA]
  grind
theorem knowA_s2 {f : Nat → Int32} {c : Nat} {v : Int32} {i : Nat} (h : ¬ c = i) : knowA f c v i 0 = knowA f c v (i + 1) 0 := by
  funext j
  simp only [knowA]
  grind
theorem knowA_t1 {f : Nat → Int32} {c : Nat} {v : Int32} {i : Nat} (hc : c < 16) (hi : i < 24) (h : zb (f (21 + i)) c = true) : upd (upd (knowA f c v 16 i) (21 + i) (f (21 + i) ^^^ bt c)) (45 + i) (f (45 + i) ^^^ v) = knowA f c v 16 (i + 1) := by
  funext j
  simp only [upd, knowA]
  grind
theorem knowA_t2 {f : Nat → Int32} {c : Nat} {v : Int32} {i : Nat} (hc : c < 16) (hi : i < 24) (h : zb (f (21 + i)) c = false) : knowA f c v 16 i = knowA f c v 16 (i + 1) := by
  funext j
  simp only [knowA]
  grind
theorem knowA_r1 {f : Nat → Int32} {c : Nat} {v : Int32} {i : Nat} (hc : c < 16) (hi : i < 24) : knowA f c v 16 i (21 + i) = f (21 + i) ∧ knowA f c v 16 i (45 + i) = f (45 + i) := by
  simp only [knowA]
  grind
theorem knowA_0 {f : Nat → Int32} {c : Nat} {v : Int32} : upd f 0 (f 0 ||| bt c) = knowA f c v 0 0 := by
  funext j
  simp only [upd, knowA]
  grind
/-- a droplet that is kept is taken away: those behind it move up; all ahead of i have moved -/
def takeA (f : Nat → Int32) (r i : Nat) : Nat → Int32 := fun j =>
  if 21 + r ≤ j ∧ j < 21 + i then f (j + 1) else if 45 + r ≤ j ∧ j < 45 + i then f (j + 1) else f j
def takeP (f : Nat → Int32) (r : Nat) : Nat → Int32 := fun j =>
  if j = 1 then f 1 - 1 else if j = 44 ∨ j = 68 then 0 else takeA f r 23 j
theorem takeA_0 {f : Nat → Int32} {r : Nat} : takeA f r 0 = f := by
  funext j
  simp only [takeA]
  grind
theorem takeA_s1 {f : Nat → Int32} {r i : Nat} (hi : i < 23) (h : r ≤ i) : upd (upd (takeA f r i) (21 + i) (takeA f r i (21 + (i + 1)))) (45 + i) (upd (takeA f r i) (21 + i) (takeA f r i (21 + (i + 1))) (45 + (i + 1))) = takeA f r (i + 1) := by
  funext j
  simp only [upd, takeA]
  grind
theorem takeA_s2 {f : Nat → Int32} {r i : Nat} (h : i < r) : takeA f r i = takeA f r (i + 1) := by
  funext j
  simp only [takeA]
  grind
theorem takeP_e {f : Nat → Int32} {r : Nat} : upd (upd (upd (takeA f r 23) (21 + 23) 0) (45 + 23) 0) 1 (upd (upd (takeA f r 23) (21 + 23) 0) (45 + 23) 0 1 - 1) = takeP f r := by
  funext j
  simp only [upd, takeP, takeA]
  grind
/-- the first place below n -/
def zfind (P : Nat → Bool) : Nat → Option Nat
  | 0 => none
  | n + 1 => match zfind P n with
    | some j => some j
    | none => if P n then some n else none
theorem zfind_none {P : Nat → Bool} : ∀ {n : Nat}, zfind P n = none → ∀ k, k < n → P k = false
  | 0, _, k, hk => by omega
  | n + 1, h, k, hk => by
    unfold zfind at h
    cases e : zfind P n with
    | some i => rw [e] at h; simp at h
    | none =>
      rw [e] at h
      simp at h
      rcases Nat.lt_or_ge k n with h1 | h1
      · exact zfind_none e k h1
      · rw [show k = n by omega]; simpa using h
theorem zfind_some {P : Nat → Bool} : ∀ {n j : Nat}, zfind P n = some j → j < n ∧ P j = true ∧ ∀ k, k < j → P k = false
  | 0, j, h => by simp [zfind] at h
  | n + 1, j, h => by
    unfold zfind at h
    cases e : zfind P n with
    | some i =>
      rw [e] at h
      simp at h
      subst h
      obtain ⟨h1, h2, h3⟩ := zfind_some e
      exact ⟨by omega, h2, h3⟩
    | none =>
      rw [e] at h
      simp at h
      obtain ⟨h1, rfl⟩ := h
      refine ⟨by omega, h1, fun k hk => ?_⟩
      exact zfind_none e k hk
theorem zfind_of {P : Nat → Bool} {n j : Nat} (hj : j < n) (h1 : P j = true) (h2 : ∀ k, k < j → P k = false) : zfind P n = some j := by
  cases e : zfind P n with
  | none => rw [zfind_none e j hj] at h1; cases h1
  | some i =>
    obtain ⟨g1, g2, g3⟩ := zfind_some e
    rcases Nat.lt_trichotomy i j with h | h | h
    · rw [h2 i h] at g2; cases g2
    · rw [h]
    · rw [g3 j h] at h1; cases h1
theorem zfind_of_none {P : Nat → Bool} {n : Nat} (h : ∀ k, k < n → P k = false) : zfind P n = none := by
  cases e : zfind P n with
  | none => rfl
  | some i =>
    obtain ⟨g1, g2, -⟩ := zfind_some e
    rw [h i g1] at g2; cases g2
theorem zfind_congr {P P' : Nat → Bool} {n : Nat} (h : ∀ k, k < n → P k = P' k) : zfind P n = zfind P' n := by
  cases e : zfind P' n with
  | none => exact zfind_of_none (fun k hk => by rw [h k hk]; exact zfind_none e k hk)
  | some j =>
    obtain ⟨g1, g2, g3⟩ := zfind_some e
    exact zfind_of g1 (by rw [h j g1]; exact g2) (fun k hk => by rw [h k (by omega)]; exact g3 k hk)
