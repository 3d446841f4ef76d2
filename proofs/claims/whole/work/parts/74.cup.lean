/-- the reference's heap, one cup of it in sight -/
def mS (G : zG) (m : Nat) (g r : Nat → Int32) (i : Nat) (f : Nat → Int32) : zG := zst G m (mG g (putC r i f))
theorem putC_at {r f : Nat → Int32} {i k : Nat} (h : k < 69) : putC r i f (21 + 69 * i + k) = f k := by
  simp only [putC]
  rw [if_pos (by omega), show 21 + 69 * i + k - (21 + 69 * i) = k by omega]
theorem putC_u {r f : Nat → Int32} {i k : Nat} {v : Int32} (h : k < 69) : upd (putC r i f) (21 + 69 * i + k) v = putC r i (upd f k v) := by
  funext j
  simp only [upd, putC]
  grind
theorem putC_cup {r : Nat → Int32} {i : Nat} : putC r i (cupR r i) = r := by
  funext j
  simp only [putC, cupR]
  grind
theorem putC_putC {r f f' : Nat → Int32} {i : Nat} : putC (putC r i f) i f' = putC r i f' := by
  funext j
  simp only [putC]
  grind
theorem mS_at {G : zG} {m i k : Nat} {g r f : Nat → Int32} (hi : i < 3) (h : k < 69) : mS G m g r i f m (18 + (21 + 69 * i + k)) = f k := by
  unfold mS
  rw [zst_same, mG_r (by omega), putC_at h]
theorem mS_u {G : zG} {m i k : Nat} {g r f : Nat → Int32} {v : Int32} (hi : i < 3) (h : k < 69) : zst (mS G m g r i f) m (upd (mS G m g r i f m) (18 + (21 + 69 * i + k)) v) = mS G m g r i (upd f k v) := by
  unfold mS
  rw [zst_same, zst_zst, mG_u (by omega), putC_u h]
theorem mS_o {G : zG} {m i j : Nat} {g r f : Nat → Int32} (h : j < 18 ∨ 246 ≤ j) : mS G m g r i f m j = g j := by
  unfold mS
  rw [zst_same, mG_o h]
theorem mS_hd {G : zG} {m i k : Nat} {g r f : Nat → Int32} (h : k < 21) : mS G m g r i f m (18 + k) = r k := by
  unfold mS
  rw [zst_same, mG_r (by omega)]
  simp only [putC]
  rw [if_neg (by omega)]
theorem m_its (l : Launch) (D : zD) (B : Nat) {L : zL} {nx : Nat} {G : zG} {m i k : Nat} {g r f : Nat → Int32} (hm : (m, 8) ∈ L) (hi : i < 3) (hk : k < 69) : zMet l D B yX7_its cX7_its 3 (some .int) 0 0 0 0 [.ref m, .int (nI i), .int (nI k)] L nx (mS G m g r i f) (zE (some (.int (f k))) L nx (mS G m g r i f)) := by
  have := m_X7_its l D B (nx := nx) (G := mS G m g r i f) hm (i := i) (k := k) (by omega)
  rw [mS_at hi hk] at this
  exact this
theorem m_lay (l : Launch) (D : zD) (B : Nat) {L : zL} {nx : Nat} {G : zG} {m i k : Nat} {v : Int32} {g r f : Nat → Int32} (hm : (m, 8) ∈ L) (hi : i < 3) (hk : k < 69) : zMet l D B yX7_lay cX7_lay 4 none 0 0 0 0 [.ref m, .int (nI i), .int (nI k), .int v] L nx (mS G m g r i f) (zE none L nx (mS G m g r i (upd f k v))) := by
  have := m_X7_lay l D B (nx := nx) (G := mS G m g r i f) hm (i := i) (k := k) (v := v) (by omega)
  rw [mS_u hi hk] at this
  exact this
/-- a chapter is known; the droplets ahead of t have been reached -/
theorem knowA_v {f : Nat → Int32} {c : Nat} {v : Int32} (hc : c < 16) : upd (upd f 0 (f 0 ||| bt c)) (5 + c) v = knowA f c v 16 0 := by
  funext j
  simp only [upd, knowA]
  grind
theorem zb_clear {z : Int32} {c : Nat} (hc : c < 32) (h : zb z c = true) : z &&& (bt c ^^^ (-1)) = z ^^^ bt c := by
  apply zb_ext
  intro k hk
  rw [zb_and, zb_not _ hk, zb_xor, zb_bt hc]
  by_cases e : k = c
  · subst e; simp [h]
  · simp [e]
theorem knowA_1 {f : Nat → Int32} {c : Nat} {v : Int32} {i : Nat} (hc : c < 16) : knowA f c v 16 i 1 = f 1 := by
  simp only [knowA]
  grind
/-- sets behind those that are kept are empty -/
theorem knowA_end {f : Nat → Int32} {c : Nat} {v : Int32} {m : Nat} (hc : c < 16) (hm : m ≤ 24) (h : ∀ k, m ≤ k → k < 24 → zb (f (21 + k)) c = false) : knowA f c v 16 m = knowP f c v := by
  unfold knowP
  have : ∀ t, m + t ≤ 24 → knowA f c v 16 m = knowA f c v 16 (m + t) := by
    intro t
    induction t with
    | zero => intro _; rfl
    | succ t ih =>
      intro ht
      rw [ih (by omega), knowA_t2 hc (by omega) (h _ (by omega) (by omega))]
      rfl
  have := this (24 - m) (by omega)
  rwa [show m + (24 - m) = 24 by omega] at this
theorem ix21 {k : Nat} : (21 : Int32) + nI k = nI (21 + k) := nI_add 21 k
theorem ix45 {k : Nat} : (45 : Int32) + nI k = nI (45 + k) := nI_add 45 k
theorem ix5 {k : Nat} : (5 : Int32) + nI k = nI (5 + k) := nI_add 5 k
theorem takeP_ref {f : Nat → Int32} {r t : Nat} (hr : r < t) (ht : t ≤ 24) (h1 : f 1 = nI t) (hz : ∀ k, t ≤ k → k < 24 → f (21 + k) = 0 ∧ f (45 + k) = 0) : upd (upd (upd (takeA f r (t - 1)) (21 + (t - 1)) 0) (45 + (t - 1)) 0) 1 (nI (t - 1)) = takeP f r := by
  funext j
  simp only [upd, takeP, takeA]
  by_cases e1 : j = 1
  · subst e1
    rw [if_pos rfl, if_pos rfl, h1, show (1 : Int32) = nI 1 from rfl, pk_sub (by omega)]
  · rw [if_neg e1, if_neg e1]
    by_cases a1 : 21 + r ≤ j ∧ j < 45
    · by_cases a2 : j < 21 + (t - 1)
      · rw [if_neg (by omega), if_neg (by omega), if_pos (by omega), if_neg (by omega), if_pos (by omega)]
      · have hj0 : 21 + t ≤ j → f j = 0 := fun h => by have := (hz (j - 21) (by omega) (by omega)).1; rwa [show 21 + (j - 21) = j by omega] at this
        have hj1 : j < 44 → f (j + 1) = 0 := fun h => by have := (hz (j + 1 - 21) (by omega) (by omega)).1; rwa [show 21 + (j + 1 - 21) = j + 1 by omega] at this
        have lhs0 : (if j = 45 + (t - 1) then (0 : Int32) else if j = 21 + (t - 1) then 0 else if 21 + r ≤ j ∧ j < 21 + (t - 1) then f (j + 1) else if 45 + r ≤ j ∧ j < 45 + (t - 1) then f (j + 1) else f j) = 0 := by
          rw [if_neg (by omega)]
          by_cases e : j = 21 + (t - 1)
          · rw [if_pos e]
          · rw [if_neg e, if_neg (by omega), if_neg (by omega)]; exact hj0 (by omega)
        rw [lhs0]
        by_cases e : j = 44
        · rw [if_pos (Or.inl e)]
        · rw [if_neg (by omega), if_pos (by omega)]; exact (hj1 (by omega)).symm
    · by_cases b1 : 45 + r ≤ j ∧ j < 69
      · by_cases a2 : j < 45 + (t - 1)
        · rw [if_neg (by omega), if_neg (by omega), if_neg (by omega), if_pos (by omega), if_neg (by omega), if_neg (by omega), if_pos (by omega)]
        · have hj0 : 45 + t ≤ j → f j = 0 := fun h => by have := (hz (j - 45) (by omega) (by omega)).2; rwa [show 45 + (j - 45) = j by omega] at this
          have hj1 : j < 68 → f (j + 1) = 0 := fun h => by have := (hz (j + 1 - 45) (by omega) (by omega)).2; rwa [show 45 + (j + 1 - 45) = j + 1 by omega] at this
          have lhs0 : (if j = 45 + (t - 1) then (0 : Int32) else if j = 21 + (t - 1) then 0 else if 21 + r ≤ j ∧ j < 21 + (t - 1) then f (j + 1) else if 45 + r ≤ j ∧ j < 45 + (t - 1) then f (j + 1) else f j) = 0 := by
            by_cases e : j = 45 + (t - 1)
            · rw [if_pos e]
            · rw [if_neg e, if_neg (by omega), if_neg (by omega), if_neg (by omega)]; exact hj0 (by omega)
          rw [lhs0]
          by_cases e : j = 68
          · rw [if_pos (Or.inr e)]
          · rw [if_neg (by omega), if_neg (by omega), if_pos (by omega)]; exact (hj1 (by omega)).symm
      · rw [if_neg (by omega), if_neg (by omega), if_neg (by omega), if_neg (by omega), if_neg (by omega), if_neg (by omega), if_neg (by omega)]
theorem takeA_r {f : Nat → Int32} {r : Nat} : takeA f r r = f := by
  funext j
  simp only [takeA]
  grind
theorem lowM_z {z : Int32} : lowM z = zlow z := by
  unfold lowM zlow
  cases zfind (zb z) 16 <;> rfl
