/-- the chapters of a set added bit by bit, up to the k-th -/
def xsN (ch : Nat → Int32) (s : Int32) : Nat → Int32
  | 0 => 0
  | k + 1 => xsN ch s k ^^^ (if zb s k then ch k else 0)
def xs (ch : Nat → Int32) (s : Int32) : Int32 := xsN ch s 16
theorem i32_xor_self (a : Int32) : a ^^^ a = 0 := by
  apply zb_ext; intro k _; rw [zb_xor, zb_zero]; simp
theorem i32_xor_zero (a : Int32) : a ^^^ 0 = a := by
  apply zb_ext; intro k _; rw [zb_xor, zb_zero]; simp
theorem i32_zero_xor (a : Int32) : 0 ^^^ a = a := by
  apply zb_ext; intro k _; rw [zb_xor, zb_zero]; simp
theorem i32_xor_comm (a b : Int32) : a ^^^ b = b ^^^ a := by
  apply zb_ext; intro k _; rw [zb_xor, zb_xor, Bool.xor_comm]
theorem i32_xor_assoc (a b c : Int32) : a ^^^ b ^^^ c = a ^^^ (b ^^^ c) := by
  apply zb_ext; intro k _; simp only [zb_xor, Bool.xor_assoc]
theorem xsN_xor (ch : Nat → Int32) (a b : Int32) : ∀ k, xsN ch (a ^^^ b) k = xsN ch a k ^^^ xsN ch b k
  | 0 => by simp [xsN, i32_xor_self]
  | k + 1 => by
    simp only [xsN, xsN_xor ch a b k, zb_xor]
    apply zb_ext
    intro j _
    cases zb a k <;> cases zb b k <;> simp [zb_xor, zb_zero] <;> cases zb (xsN ch a k) j <;> cases zb (xsN ch b k) j <;> cases zb (ch k) j <;> rfl
theorem xs_xor (ch : Nat → Int32) (a b : Int32) : xs ch (a ^^^ b) = xs ch a ^^^ xs ch b := xsN_xor ch a b 16
theorem xsN_zero (ch : Nat → Int32) : ∀ k, xsN ch 0 k = 0
  | 0 => rfl
  | k + 1 => by simp [xsN, xsN_zero ch k, zb_zero]
theorem xs_zero (ch : Nat → Int32) : xs ch 0 = 0 := xsN_zero ch 16
theorem xsN_bt (ch : Nat → Int32) {c : Nat} (hc : c < 32) : ∀ k, xsN ch (bt c) k = if c < k then ch c else 0
  | 0 => by simp [xsN]
  | k + 1 => by
    simp only [xsN, xsN_bt ch hc k, zb_bt hc]
    rcases Nat.lt_trichotomy c k with h | h | h
    · rw [if_pos h, if_neg (by simp; omega), if_pos (by omega), i32_xor_zero]
    · subst h
      rw [if_neg (by omega), if_pos (by simp), if_pos (by omega), i32_zero_xor]
    · rw [if_neg (by omega), if_neg (by simp; omega), if_neg (by omega), i32_xor_zero]
theorem xs_bt (ch : Nat → Int32) {c : Nat} (hc : c < 16) : xs ch (bt c) = ch c := by
  unfold xs
  rw [xsN_bt ch (by omega), if_pos hc]
def zlow (s : Int32) : Nat := (zfind (zb s) 16).getD 16
/-- a mask with fewer than two places, and not empty, is one place -/
theorem zcnt_pos {f : Nat → Bool} : ∀ {n k : Nat}, k < n → f k = true → 1 ≤ zcnt f n
  | 0, k, h, _ => by omega
  | n + 1, k, h, hk => by
    unfold zcnt
    rcases Nat.lt_or_ge k n with h1 | h1
    · have := zcnt_pos h1 hk; omega
    · rw [show n = k by omega, hk]; simp
theorem zcnt_two {f : Nat → Bool} : ∀ {n j k : Nat}, j < k → k < n → f j = true → f k = true → 2 ≤ zcnt f n
  | 0, j, k, _, h, _, _ => by omega
  | n + 1, j, k, hjk, h, hj, hk => by
    unfold zcnt
    rcases Nat.lt_or_ge k n with h1 | h1
    · have := zcnt_two hjk h1 hj hk; omega
    · have := zcnt_pos (n := n) (k := j) (by omega) hj
      have hn : f n = true := by rw [show n = k by omega]; exact hk
      rw [hn]
      simp; omega
theorem zcnt_zero {f : Nat → Bool} : ∀ {n : Nat}, zcnt f n = 0 → ∀ k, k < n → f k = false
  | 0, _, k, h => by omega
  | n + 1, h, k, hk => by
    unfold zcnt at h
    cases e : f n with
    | true => rw [e] at h; simp at h
    | false =>
      rw [e] at h
      rcases Nat.lt_or_ge k n with h1 | h1
      · exact zcnt_zero (by simpa using h) k h1
      · rw [show k = n by omega, e]
/-- nothing stands at n and above -/
def zlim (n : Nat) (s : Int32) : Prop := ∀ k, n ≤ k → zb s k = false
theorem zlim_zm {n : Nat} {s : Int32} (hn : n ≤ 16) (h : zlim n s) : zm s < 65536 := zm_small (fun k hk => h k (by omega))
theorem zone_of {n : Nat} {s : Int32} (hn : n ≤ 16) (h : zlim n s) (h2 : zcnt (zb s) 16 < 2) (h0 : s ≠ 0) : s = bt (zlow s) ∧ zlow s < n ∧ zb s (zlow s) = true := by
  cases e : zfind (zb s) 16 with
  | none =>
    exfalso
    apply h0
    apply zb_ext
    intro k _
    rw [zb_zero]
    rcases Nat.lt_or_ge k 16 with h1 | h1
    · exact zfind_none e k h1
    · exact h k (by omega)
  | some c =>
    obtain ⟨h3, h4, h5⟩ := zfind_some e
    have hl : zlow s = c := by simp [zlow, e]
    rw [hl]
    have hcn : c < n := by
      rcases Nat.lt_or_ge c n with h6 | h6
      · exact h6
      · rw [h c h6] at h4; cases h4
    refine ⟨?_, hcn, h4⟩
    apply zb_ext
    intro k _
    rw [zb_bt (by omega)]
    rcases Nat.lt_trichotomy k c with h6 | h6 | h6
    · rw [h5 k h6]; simp; omega
    · subst h6; simp [h4]
    · rw [show decide (k = c) = false by simp; omega]
      cases e2 : zb s k with
      | false => rfl
      | true =>
        rcases Nat.lt_or_ge k 16 with h7 | h7
        · have := zcnt_two h6 h7 h4 e2; omega
        · rw [h k (by omega)] at e2; cases e2
theorem zcnt_bt {c : Nat} (hc : c < 16) : zcnt (zb (bt c)) 16 = 1 := by
  have : ∀ c, c < 16 → zcnt (zb (bt c)) 16 = 1 := by decide +kernel
  exact this c hc
theorem zlow_bt {c : Nat} (hc : c < 16) : zlow (bt c) = c := by
  unfold zlow
  rw [zfind_of (n := 16) (j := c) hc (by rw [zb_bt (by omega)]; simp) (fun k hk => by rw [zb_bt (by omega)]; simp; omega)]
  rfl
/-- what always holds of a cup, as to numbers: chapters n, the book's numbers ch -/
def zCJ (n : Nat) (ch f : Nat → Int32) (m : Nat) : Prop :=
  n ≤ 16 ∧ m ≤ 24 ∧ f 1 = nI m ∧ zlim n (f 0) ∧ (∀ k, k < n → zb (f 0) k = true → f (5 + k) = ch k) ∧
  ∀ r, r < 24 → zlim n (f (21 + r)) ∧ (∀ k, zb (f 0) k = true → zb (f (21 + r)) k = false) ∧ f (45 + r) = xs ch (f (21 + r)) ∧ (m ≤ r → f (21 + r) = 0)
theorem zlim_zero (n : Nat) : zlim n 0 := fun k _ => zb_zero k
theorem zlim_xor {n : Nat} {a b : Int32} (ha : zlim n a) (hb : zlim n b) : zlim n (a ^^^ b) := fun k hk => by rw [zb_xor, ha k hk, hb k hk]; rfl
theorem zlim_or {n : Nat} {a b : Int32} (ha : zlim n a) (hb : zlim n b) : zlim n (a ||| b) := fun k hk => by rw [zb_or, ha k hk, hb k hk]; rfl
theorem zlim_bt {n c : Nat} (hn : n ≤ 16) (h : c < n) : zlim n (bt c) := fun k hk => by rw [zb_bt (by omega)]; simp; omega
theorem zCJ_take {n : Nat} {ch f : Nat → Int32} {m r : Nat} (h : zCJ n ch f m) (hr : r < m) : zCJ n ch (takeP f r) (m - 1) := by
  obtain ⟨h1, h2, h3, h4, h5, h6⟩ := h
  refine ⟨h1, by omega, ?_, ?_, ?_, ?_⟩
  · simp only [takeP, if_pos, h3]
    exact pk_sub (b := 1) (by omega)
  · have : takeP f r 0 = f 0 := by simp only [takeP, takeA]; grind
    rw [this]; exact h4
  · intro k hk hz
    have e0 : takeP f r 0 = f 0 := by simp only [takeP, takeA]; grind
    have e1 : takeP f r (5 + k) = f (5 + k) := by simp only [takeP, takeA]; grind
    rw [e1]; rw [e0] at hz
    exact h5 k hk hz
  · intro j hj
    have e0 : takeP f r 0 = f 0 := by simp only [takeP, takeA]; grind
    rw [e0]
    by_cases hj3 : j = 23
    · subst hj3
      have e1 : takeP f r (21 + 23) = 0 := by simp only [takeP]; grind
      have e2 : takeP f r (45 + 23) = 0 := by simp only [takeP]; grind
      rw [e1, e2]
      exact ⟨zlim_zero n, fun k _ => zb_zero k, (xs_zero ch).symm, fun _ => rfl⟩
    · by_cases hjr : r ≤ j
      · have e1 : takeP f r (21 + j) = f (21 + (j + 1)) := by simp only [takeP, takeA]; grind
        have e2 : takeP f r (45 + j) = f (45 + (j + 1)) := by simp only [takeP, takeA]; grind
        rw [e1, e2]
        obtain ⟨g1, g2, g3, g4⟩ := h6 (j + 1) (by omega)
        exact ⟨g1, g2, g3, fun h => g4 (by omega)⟩
      · have e1 : takeP f r (21 + j) = f (21 + j) := by simp only [takeP, takeA]; grind
        have e2 : takeP f r (45 + j) = f (45 + j) := by simp only [takeP, takeA]; grind
        rw [e1, e2]
        obtain ⟨g1, g2, g3, g4⟩ := h6 j hj
        exact ⟨g1, g2, g3, fun h => by omega⟩
theorem knowP_at {f : Nat → Int32} {c : Nat} {v : Int32} (hc : c < 16) : knowP f c v 0 = f 0 ||| bt c ∧ knowP f c v 1 = f 1 ∧ knowP f c v (5 + c) = v ∧ (∀ k, k < 16 → k ≠ c → knowP f c v (5 + k) = f (5 + k)) ∧
    ∀ r, r < 24 → knowP f c v (21 + r) = (if zb (f (21 + r)) c then f (21 + r) ^^^ bt c else f (21 + r)) ∧ knowP f c v (45 + r) = (if zb (f (21 + r)) c then f (45 + r) ^^^ v else f (45 + r)) := by
  simp only [knowP, knowA]
  refine ⟨by grind, by grind, by grind, by grind, ?_⟩
  intro r hr
  refine ⟨by grind, ?_⟩
  rw [if_neg (by omega), if_neg (by omega), if_neg (by omega), if_pos (by omega), show 45 + r - 24 = 21 + r by omega]
theorem zCJ_know {n : Nat} {ch f : Nat → Int32} {m c : Nat} (h : zCJ n ch f m) (hc : c < n) (h0 : zb (f 0) c = false) : zCJ n ch (knowP f c (ch c)) m := by
  obtain ⟨h1, h2, h3, h4, h5, h6⟩ := h
  obtain ⟨a1, a2, a3, a4, a5⟩ := knowP_at (f := f) (v := ch c) (show c < 16 by omega)
  refine ⟨h1, h2, by rw [a2]; exact h3, by rw [a1]; exact zlim_or h4 (zlim_bt h1 hc), ?_, ?_⟩
  · intro k hk hz
    by_cases e : k = c
    · subst e; exact a3
    · rw [a4 k (by omega) e]
      rw [a1, zb_or, zb_bt (by omega)] at hz
      exact h5 k hk (by simpa [e] using hz)
  · intro r hr
    obtain ⟨b1, b2⟩ := a5 r hr
    obtain ⟨g1, g2, g3, g4⟩ := h6 r hr
    rw [a1, b1, b2]
    cases hz : zb (f (21 + r)) c with
    | true =>
      simp only [if_true]
      refine ⟨zlim_xor g1 (zlim_bt h1 hc), ?_, ?_, fun h => ?_⟩
      · intro k hk
        rw [zb_xor, zb_bt (by omega)]
        rw [zb_or, zb_bt (by omega)] at hk
        by_cases e : k = c
        · subst e; simp [hz]
        · simp [e] at hk ⊢; exact g2 k hk
      · rw [xs_xor, xs_bt ch (by omega), g3]
      · rw [g4 h, zb_zero] at hz; cases hz
    | false =>
      simp only [Bool.false_eq_true, if_false]
      refine ⟨g1, ?_, g3, g4⟩
      intro k hk
      rw [zb_or, zb_bt (by omega)] at hk
      by_cases e : k = c
      · subst e; exact hz
      · simp [e] at hk; exact g2 k hk
/-- droplets with fewer than two chapters are taken away, the first one first -/
def peelS (f : Nat → Int32) (r : Nat) : Nat → Int32 := if f (21 + r) = 0 then takeP f r else knowP (takeP f r) (zlow (f (21 + r))) (f (45 + r))
def peelP : Nat → (Nat → Int32) → (Nat → Int32)
  | 0, f => f
  | k + 1, f => match zfind (zsmall f) (f 1).toNatClampNeg with
    | none => f
    | some r => peelP k (peelS f r)
theorem zCJ_peelS {n : Nat} {ch f : Nat → Int32} {m r : Nat} (h : zCJ n ch f m) (hr : zfind (zsmall f) m = some r) : zCJ n ch (peelS f r) (m - 1) ∧ (f (21 + r) ≠ 0 → f (21 + r) = bt (zlow (f (21 + r))) ∧ zlow (f (21 + r)) < n ∧ zb (f 0) (zlow (f (21 + r))) = false ∧ f (45 + r) = ch (zlow (f (21 + r)))) := by
  obtain ⟨h1, h2, h3, h4, h5, h6⟩ := id h
  obtain ⟨g1, g2, -⟩ := zfind_some hr
  have hsm : zcnt (zb (f (21 + r))) 16 < 2 := by simpa [zsmall] using g2
  obtain ⟨k1, k2, k3, -⟩ := h6 r (by omega)
  have key : f (21 + r) ≠ 0 → f (21 + r) = bt (zlow (f (21 + r))) ∧ zlow (f (21 + r)) < n ∧ zb (f 0) (zlow (f (21 + r))) = false ∧ f (45 + r) = ch (zlow (f (21 + r))) := by
    intro h0
    obtain ⟨e1, e2, e3⟩ := zone_of h1 k1 hsm h0
    refine ⟨e1, e2, ?_, ?_⟩
    · cases e4 : zb (f 0) (zlow (f (21 + r))) with
      | false => rfl
      | true => rw [k2 _ e4] at e3; cases e3
    · rw [k3]
      conv => lhs; rw [e1]
      exact xs_bt ch (by omega)
  refine ⟨?_, key⟩
  unfold peelS
  by_cases h0 : f (21 + r) = 0
  · rw [if_pos h0]; exact zCJ_take h g1
  · rw [if_neg h0]
    obtain ⟨e1, e2, e3, e4⟩ := key h0
    rw [e4]
    refine zCJ_know (zCJ_take h g1) e2 ?_
    have : takeP f r 0 = f 0 := by simp only [takeP, takeA]; grind
    rw [this]; exact e3
