/-! the law's sets: what is left of each is what the cup keeps, in order; a set that is taken away is 0 -/
def nzS (g : Nat → Int32) : Nat → Bool := fun k => decide (g k ≠ 0)
def lft (g : Nat → Int32) (a : Int32) (k : Nat) : Int32 := g k &&& (a ^^^ (-1))
def Rl (g f : Nat → Int32) (m : Nat) : Prop := g 24 = 0 ∧ zcnt (nzS g) 24 = m ∧ ∀ k, k < 24 → g k ≠ 0 → f (21 + zcnt (nzS g) k) = lft g (f 0) k
theorem zcnt_lt {p : Nat → Bool} {k : Nat} (hp : p k = true) : ∀ {n : Nat}, k < n → zcnt p k < zcnt p n
  | 0, h => by omega
  | n + 1, h => by
    show zcnt p k < zcnt p n + (if p n = true then 1 else 0)
    rcases Nat.lt_or_ge k n with g | g
    · have := zcnt_lt hp g
      omega
    · have e : k = n := by omega
      subst e
      rw [if_pos hp]
      omega
theorem zcnt_surj {p : Nat → Bool} : ∀ {n r : Nat}, r < zcnt p n → ∃ k, k < n ∧ p k = true ∧ zcnt p k = r
  | 0, r, h => by simp [zcnt] at h
  | n + 1, r, h => by
    have h' : r < zcnt p n + (if p n = true then 1 else 0) := h
    rcases Nat.lt_or_ge r (zcnt p n) with g | g
    · obtain ⟨k, h1, h2, h3⟩ := zcnt_surj g
      exact ⟨k, by omega, h2, h3⟩
    · by_cases e : p n = true
      · rw [if_pos e] at h'
        exact ⟨n, by omega, e, by omega⟩
      · rw [if_neg e] at h'
        omega
theorem zcnt_rem {p q : Nat → Bool} {k0 : Nat} (h0 : p k0 = true) (h1 : q k0 = false) (h : ∀ k, k ≠ k0 → q k = p k) : ∀ n, zcnt q n = zcnt p n - (if k0 < n then 1 else 0) ∧ (k0 < n → 1 ≤ zcnt p n)
  | 0 => ⟨rfl, fun h => by omega⟩
  | n + 1 => by
    obtain ⟨ih1, ih2⟩ := zcnt_rem h0 h1 h n
    show zcnt q n + (if q n = true then 1 else 0) = zcnt p n + (if p n = true then 1 else 0) - (if k0 < n + 1 then 1 else 0) ∧ (k0 < n + 1 → 1 ≤ zcnt p n + (if p n = true then 1 else 0))
    rcases Nat.lt_trichotomy k0 n with g | g | g
    · rw [if_pos g] at ih1
      have := ih2 g
      rw [if_pos (show k0 < n + 1 by omega), h n (by omega), ih1]
      exact ⟨by split <;> omega, fun _ => by omega⟩
    · subst g
      rw [if_neg (by omega)] at ih1
      rw [if_pos (show k0 < k0 + 1 by omega), h1, h0, ih1]
      exact ⟨by simp, fun _ => by simp⟩
    · rw [if_neg (by omega)] at ih1
      rw [if_neg (show ¬ k0 < n + 1 by omega), h n (by omega), ih1]
      exact ⟨by omega, fun h => by omega⟩
theorem Rl_row {g f : Nat → Int32} {m r : Nat} (hR : Rl g f m) (hr : r < m) : ∃ k, k < 24 ∧ g k ≠ 0 ∧ zcnt (nzS g) k = r ∧ f (21 + r) = lft g (f 0) k := by
  obtain ⟨-, h1, h2⟩ := hR
  obtain ⟨k, a, b, c⟩ := zcnt_surj (p := nzS g) (n := 24) (r := r) (by omega)
  have b' : g k ≠ 0 := by simpa [nzS] using b
  exact ⟨k, a, b', c, by rw [← c]; exact h2 k a b'⟩
theorem Rl_none {g f : Nat → Int32} {m : Nat} (hR : Rl g f m) (h : ∀ k, k < 24 → g k ≠ 0 → ¬ zcnt (zb (lft g (f 0) k)) 16 < 2) : zfind (zsmall f) m = none := by
  refine zfind_of_none (fun r hr => ?_)
  obtain ⟨k, a, b, -, e⟩ := Rl_row hR hr
  have := h k a b
  rw [← e] at this
  simpa [zsmall] using this
theorem Rl_some {g f : Nat → Int32} {m k0 : Nat} (hR : Rl g f m) (hk : k0 < 24) (hg : g k0 ≠ 0) (hs : zcnt (zb (lft g (f 0) k0)) 16 < 2) (h : ∀ k, k < k0 → g k ≠ 0 → ¬ zcnt (zb (lft g (f 0) k)) 16 < 2) : zfind (zsmall f) m = some (zcnt (nzS g) k0) := by
  have hz : nzS g k0 = true := by simp [nzS, hg]
  refine zfind_of ?_ ?_ (fun r hr => ?_)
  · rw [← hR.2.1]
    exact zcnt_lt hz hk
  · have := hR.2.2 k0 hk hg
    simp only [zsmall, decide_eq_true_eq]
    rw [this]
    exact hs
  · obtain ⟨k, a, b, c⟩ := zcnt_surj (p := nzS g) hr
    have b' : g k ≠ 0 := by simpa [nzS] using b
    have := h k a b'
    rw [← hR.2.2 k (by omega) b', c] at this
    simpa [zsmall] using this
theorem Rl_step {n : Nat} {ch g f : Nat → Int32} {m k0 : Nat} (hJ : zCJ n ch f m) (hR : Rl g f m) (hk : k0 < 24) (hg : g k0 ≠ 0) (hfd : zfind (zsmall f) m = some (zcnt (nzS g) k0)) :
    Rl (upd g k0 0) (peelS f (zcnt (nzS g) k0)) (m - 1) ∧ peelS f (zcnt (nzS g) k0) 0 = f 0 ||| lft g (f 0) k0 := by
  obtain ⟨R0, R1, R2⟩ := id hR
  have hrow := R2 k0 hk hg
  generalize hr : zcnt (nzS g) k0 = r at hrow hfd ⊢
  have hrm := (zfind_some hfd).1
  have hm := hJ.2.1
  have hn := hJ.1
  have hkey := (zCJ_peelS hJ hfd).2
  have hz : nzS g k0 = true := by simp [nzS, hg]
  have e0 : takeP f r 0 = f 0 := by simp only [takeP, takeA]; grind
  have hrem := zcnt_rem (p := nzS g) (q := nzS (upd g k0 0)) (k0 := k0) hz (by simp [nzS, upd]) (fun k hk => by simp [nzS, upd, hk])
  have h0 : peelS f r 0 = f 0 ||| lft g (f 0) k0 := by
    rw [← hrow]
    unfold peelS
    by_cases hz0 : f (21 + r) = 0
    · rw [if_pos hz0, e0, hz0]
      apply zb_ext; intro k _; rw [zb_or, zb_zero]; simp
    · rw [if_neg hz0]
      obtain ⟨e1, e2, e3, e4⟩ := hkey hz0
      rw [(knowP_at (f := takeP f r) (v := f (45 + r)) (show zlow (f (21 + r)) < 16 by omega)).1, e0, ← e1]
  refine ⟨⟨?_, ?_, ?_⟩, h0⟩
  · simp only [upd]; rw [if_neg (by omega)]; exact R0
  · rw [(hrem 24).1, if_pos hk, R1]
  · intro k hk24 hgk
    have hkk : k ≠ k0 := fun e => hgk (by simp [upd, e])
    have hgk' : g k ≠ 0 := by simpa [upd, hkk] using hgk
    have hzk : nzS g k = true := by simp [nzS, hgk']
    have hrk := R2 k hk24 hgk'
    have hle : zcnt (nzS g) k ≤ k := zcnt_le _ _
    have hrank : takeP f r (21 + zcnt (nzS (upd g k0 0)) k) = lft g (f 0) k := by
      rw [(hrem k).1, ← hrk]
      rcases Nat.lt_or_ge k0 k with h | h
      · have h2 := zcnt_lt hz h
        rw [hr] at h2
        rw [if_pos h]
        simp only [takeP, takeA]
        rw [if_neg (by omega), if_neg (by omega), if_pos (by omega)]
        congr 1
        omega
      · have h2 := zcnt_lt hzk (show k < k0 by omega)
        rw [hr] at h2
        rw [if_neg (by omega)]
        simp only [takeP, takeA]
        rw [if_neg (by omega), if_neg (by omega), if_neg (by omega), if_neg (by omega)]
        rfl
    have hlt : zcnt (nzS (upd g k0 0)) k < 24 := by
      have := zcnt_le (nzS (upd g k0 0)) k
      omega
    have hlf : lft (upd g k0 0) (peelS f r 0) k = g k &&& ((f 0 ||| lft g (f 0) k0) ^^^ (-1)) := by
      unfold lft
      rw [h0]
      simp only [upd]
      rw [if_neg hkk]
      rfl
    rw [hlf]
    unfold peelS
    by_cases hz0 : f (21 + r) = 0
    · rw [if_pos hz0, hrank, ← hrow, hz0]
      unfold lft
      apply zb_ext
      intro j hj
      simp only [zb_and, zb_not _ hj, zb_or, zb_zero, Bool.or_false]
    · rw [if_neg hz0]
      obtain ⟨e1, e2, e3, e4⟩ := hkey hz0
      rw [((knowP_at (f := takeP f r) (v := f (45 + r)) (show zlow (f (21 + r)) < 16 by omega)).2.2.2.2 _ hlt).1, hrank, ← hrow]
      generalize hc : zlow (f (21 + r)) = c at e1 e2 ⊢
      rw [e1]
      unfold lft
      apply zb_ext
      intro j hj
      cases hb : zb (g k &&& (f 0 ^^^ (-1))) c with
      | true =>
        rw [if_pos rfl]
        simp only [zb_xor, zb_and, zb_not _ hj, zb_or, zb_bt (show c < 32 by omega)]
        by_cases e : j = c
        · subst e
          simp only [zb_and, zb_not _ hj] at hb
          simp [hb]
        · simp [e]
      | false =>
        rw [if_neg (by simp)]
        simp only [zb_and, zb_not _ hj, zb_or, zb_bt (show c < 32 by omega)]
        by_cases e : j = c
        · subst e
          simp only [zb_and, zb_not _ hj] at hb
          simp [hb]
        · simp [e]
theorem zst_eta {G : zG} {p : Nat} : zst G p (G p) = G := by
  funext y
  simp only [zst]
  split
  · rename_i h; rw [h]
  · rfl
/-- what the law lays for a cup before it peels -/
theorem Rl_kept {n : Nat} {ch g f : Nat → Int32} {m : Nat} (hJ : zCJ n ch f m) (hs : zsz f m) (hg : ∀ k, k < 25 → g k = if k < m then f (21 + k) else 0) : Rl g f m := by
  have hm := hJ.2.1
  have hne : ∀ k, k < m → g k ≠ 0 := fun k hk e => by
    rw [hg k (by omega), if_pos hk] at e
    have := hs k hk
    rw [e] at this
    have h0 : zcnt (zb 0) 16 = 0 := by decide
    omega
  have hcnt : ∀ k, k ≤ 24 → zcnt (nzS g) k = if k < m then k else m := by
    intro k
    induction k with
    | zero => intro _; show 0 = _; split <;> omega
    | succ k ih =>
      intro hk
      show zcnt (nzS g) k + (if nzS g k = true then 1 else 0) = _
      rw [ih (by omega)]
      by_cases e : k < m
      · have : nzS g k = true := by simp [nzS, hne k e]
        rw [if_pos e, if_pos this]
        split <;> omega
      · have : ¬ nzS g k = true := by simp [nzS, hg k (by omega), e]
        rw [if_neg e, if_neg this, if_neg (by omega)]
        omega
  refine ⟨by rw [hg 24 (by omega), if_neg (by omega)], by rw [hcnt 24 (by omega)]; split <;> omega, fun k hk hgk => ?_⟩
  have hkm : k < m := by
    rcases Nat.lt_or_ge k m with h | h
    · exact h
    · exact absurd (by rw [hg k (by omega), if_neg (by omega)]) hgk
  rw [hcnt k (by omega), if_pos hkm]
  unfold lft
  rw [hg k (by omega), if_pos hkm]
  apply zb_ext
  intro j hj
  rw [zb_and, zb_not _ hj]
  cases h1 : zb (f 0) j with
  | false => simp
  | true => rw [(hJ.2.2.2.2.2 k (by omega)).2.1 j h1]; rfl
/-- the same sets against a cup that has learnt more, with what it keeps less that -/
theorem Rl_know {n : Nat} {ch g f : Nat → Int32} {m c : Nat} {v : Int32} (hJ : zCJ n ch f m) (hR : Rl g f m) (hc : c < n) : Rl g (knowP f c v) m := by
  obtain ⟨R0, R1, R2⟩ := hR
  have hn := hJ.1
  obtain ⟨a1, -, -, -, a5⟩ := knowP_at (f := f) (v := v) (show c < 16 by omega)
  refine ⟨R0, R1, fun k hk hgk => ?_⟩
  have hle : zcnt (nzS g) k ≤ k := zcnt_le _ _
  rw [(a5 _ (by omega)).1, R2 k hk hgk, a1]
  unfold lft
  apply zb_ext
  intro j hj
  cases hb : zb (g k &&& (f 0 ^^^ (-1))) c with
  | true =>
    rw [if_pos rfl]
    simp only [zb_xor, zb_and, zb_not _ hj, zb_or, zb_bt (show c < 32 by omega)]
    by_cases e : j = c
    · subst e
      simp only [zb_and, zb_not _ hj] at hb
      simp [hb]
    · simp [e]
  | false =>
    rw [if_neg (by simp)]
    simp only [zb_and, zb_not _ hj, zb_or, zb_bt (show c < 32 by omega)]
    by_cases e : j = c
    · subst e
      simp only [zb_and, zb_not _ hj] at hb
      simp [hb]
    · simp [e]
theorem Rl_congr {g f f' : Nat → Int32} {m : Nat} (hR : Rl g f m) (h0 : f' 0 = f 0) (hv : ∀ j, 21 ≤ j → j < 45 → f' j = f j) : Rl g f' m := by
  obtain ⟨R0, R1, R2⟩ := hR
  refine ⟨R0, R1, fun k hk hgk => ?_⟩
  have hle : zcnt (nzS g) k ≤ k := zcnt_le _ _
  rw [hv _ (by omega) (by omega), h0]
  exact R2 k hk hgk
