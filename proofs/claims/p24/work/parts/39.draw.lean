def zdw (x : Nat) : Nat := (75 * x + 74) % 65537
theorem zdw_lt (x : Nat) : zdw x < 65537 := Nat.mod_lt _ (by omega)
theorem zdw_eq {x : Nat} (h : x < 65537) : (75 * nI x + 74) - (75 * nI x + 74) / 65537 * 65537 = nI (zdw x) := by
  rw [show (75 : Int32) = nI 75 from rfl, show (74 : Int32) = nI 74 from rfl, show (65537 : Int32) = nI 65537 from rfl, pk_mul, nI_add, pk_rem (by omega) (by omega) (by omega)]
  rfl
theorem m_nextDraw (l : Launch) (D : zD) (B : Nat) {L : zL} {nx : Nat} {G : zG} {x : Nat} (h : x < 65537) : zMet l D B yX1_nextDraw cX1_nextDraw 1 (some .int) 0 0 0 0 [.int (nI x)] L nx G (zE (some (.int (nI (zdw x)))) L nx G) := by
  rw [← zdw_eq h]
  exact m_X1_nextDraw l D B (nI x)
def cdeg (y : Nat) : Nat := if y < 4 then 1 else if y < 16 then 2 else if y < 20 then 3 else 4
def zdeg (w x n : Nat) : Nat := if w = 1 then (if cdeg (x % 24) ≤ n then cdeg (x % 24) else n) else if w = 2 then (if x % 4 = 0 then 1 else n) else 1 + x % n
theorem cdeg_b (y : Nat) : 1 ≤ cdeg y ∧ cdeg y ≤ 4 := by
  unfold cdeg
  split <;> (try split) <;> (try split) <;> omega
theorem zdeg_b {w x n : Nat} (hn : 0 < n) : 1 ≤ zdeg w x n ∧ zdeg w x n ≤ n := by
  have := cdeg_b (x % 24)
  have := Nat.mod_lt x hn
  unfold zdeg
  split
  · split <;> omega
  · split
    · split <;> omega
    · omega
/-- the next chapter from a place on that is free -/
def nf (s : Int32) (n : Nat) : Nat → Nat → Nat
  | c, 0 => c
  | c, f + 1 => if zb s c then nf s n (if c + 1 < n then c + 1 else 0) f else c
theorem nf_lt {s : Int32} {n : Nat} : ∀ {f c : Nat}, c < n → nf s n c f < n
  | 0, c, h => h
  | f + 1, c, h => by
    unfold nf
    split
    · apply nf_lt
      split <;> omega
    · exact h
theorem nf_free {s : Int32} {n t : Nat} (ht : t < n) (hf : zb s t = false) : ∀ {f c : Nat}, c < n → (if c ≤ t then t - c else n - c + t) ≤ f → zb s (nf s n c f) = false
  | 0, c, hc, h => by
    unfold nf
    have : c = t := by split at h <;> omega
    rw [this]; exact hf
  | f + 1, c, hc, h => by
    unfold nf
    cases hz : zb s c with
    | false => simp [hz]
    | true =>
      simp only [if_true]
      have hct : c ≠ t := fun e => by rw [e, hf] at hz; cases hz
      apply nf_free ht hf
      · split <;> omega
      · by_cases h1 : c + 1 < n
        · simp only [h1, if_true]
          split <;> split at h <;> omega
        · simp only [h1, if_false]
          split <;> split at h <;> omega
def mkX (x0 : Nat) : Nat → Nat
  | 0 => x0
  | i + 1 => zdw (mkX x0 i)
theorem mkX_lt {x0 : Nat} (h : x0 < 65537) : ∀ i, mkX x0 i < 65537
  | 0 => h
  | i + 1 => zdw_lt _
def mkSet (n x0 : Nat) : Nat → Int32
  | 0 => 0
  | i + 1 => mkSet n x0 i ||| bt (nf (mkSet n x0 i) n (mkX x0 (i + 1) % n) 16)
def mkC (n x0 i : Nat) : Nat := nf (mkSet n x0 i) n (mkX x0 (i + 1) % n) 16
def mkNum (ch : Nat → Int32) (n x0 : Nat) : Nat → Int32
  | 0 => 0
  | i + 1 => mkNum ch n x0 i ^^^ ch (mkC n x0 i)
theorem mkC_lt {n x0 i : Nat} (hn : 0 < n) : mkC n x0 i < n := nf_lt (Nat.mod_lt _ hn)
theorem zcnt_or_bt {s : Int32} {c : Nat} (hc : c < 16) (h : zb s c = false) : zcnt (zb (s ||| bt c)) 16 = zcnt (zb s) 16 + 1 := by
  have key : ∀ n, n ≤ 16 → zcnt (zb (s ||| bt c)) n = zcnt (zb s) n + (if c < n then 1 else 0) := by
    intro n
    induction n with
    | zero => intro _; simp [zcnt]
    | succ n ih =>
      intro hn
      simp only [zcnt]
      rw [ih (by omega), zb_or, zb_bt (by omega)]
      rcases Nat.lt_trichotomy c n with g | g | g
      · have e : decide (n = c) = false := by simp; omega
        rw [e, Bool.or_false, if_pos g, if_pos (show c < n + 1 by omega)]
        omega
      · subst g
        rw [h]
        simp
      · have e : decide (n = c) = false := by simp; omega
        rw [e, Bool.or_false, if_neg (show ¬ c < n by omega), if_neg (show ¬ c < n + 1 by omega)]
        omega
  rw [key 16 (Nat.le_refl _), if_pos hc]
theorem zcnt_full {f : Nat → Bool} : ∀ {n : Nat}, (∀ k, k < n → f k = true) → zcnt f n = n
  | 0, _ => rfl
  | n + 1, h => by
    simp only [zcnt, h n (by omega), if_true]
    rw [zcnt_full (n := n) (fun k hk => h k (by omega))]
theorem zcnt_mono {f : Nat → Bool} {a b : Nat} (h : a ≤ b) : zcnt f a ≤ zcnt f b := by
  induction b with
  | zero => rw [show a = 0 by omega]; exact Nat.le_refl _
  | succ b ih =>
    rcases Nat.lt_or_ge a (b + 1) with g | g
    · have := ih (by omega)
      simp only [zcnt]
      split <;> omega
    · rw [show a = b + 1 by omega]; exact Nat.le_refl _
theorem zcnt_free {s : Int32} {n : Nat} (hn : n ≤ 16) (h : zcnt (zb s) 16 < n) : ∃ t, t < n ∧ zb s t = false := by
  apply Classical.byContradiction
  intro hno
  have h1 : ∀ k, k < n → zb s k = true := by
    intro k hk
    cases hz : zb s k with
    | true => rfl
    | false => exact absurd ⟨k, hk, hz⟩ hno
  have h2 := zcnt_full h1
  have h3 := zcnt_mono (f := zb s) hn
  omega
theorem mk_inv {n x0 : Nat} (hn : 0 < n) (hn16 : n ≤ 16) : ∀ i, i ≤ n → zlim n (mkSet n x0 i) ∧ zcnt (zb (mkSet n x0 i)) 16 = i ∧ (i < n → zb (mkSet n x0 i) (mkC n x0 i) = false)
  | 0, _ => by
    have hfr : zb (mkSet n x0 0) (mkC n x0 0) = false := zb_zero _
    exact ⟨zlim_zero n, (show zcnt (zb 0) 16 = 0 by decide), fun _ => hfr⟩
  | i + 1, hi => by
    obtain ⟨h1, h2, h3⟩ := mk_inv hn hn16 i (by omega)
    have hf := h3 (by omega)
    have hc := mkC_lt (n := n) (x0 := x0) (i := i) hn
    have e : mkSet n x0 (i + 1) = mkSet n x0 i ||| bt (mkC n x0 i) := rfl
    have g1 : zlim n (mkSet n x0 (i + 1)) := by rw [e]; exact zlim_or h1 (zlim_bt hn16 hc)
    have g2 : zcnt (zb (mkSet n x0 (i + 1))) 16 = i + 1 := by rw [e, zcnt_or_bt (by omega) hf, h2]
    refine ⟨g1, g2, fun hlt => ?_⟩
    obtain ⟨t, ht, hz⟩ := zcnt_free hn16 (show zcnt (zb (mkSet n x0 (i + 1))) 16 < n by omega)
    refine nf_free ht hz (Nat.mod_lt _ hn) ?_
    have := Nat.mod_lt (mkX x0 (i + 1 + 1)) hn
    split <;> omega
theorem mkNum_xs {ch : Nat → Int32} {n x0 : Nat} (hn : 0 < n) (hn16 : n ≤ 16) : ∀ i, i ≤ n → mkNum ch n x0 i = xs ch (mkSet n x0 i)
  | 0, _ => (xs_zero ch).symm
  | i + 1, hi => by
    obtain ⟨h1, h2, h3⟩ := mk_inv (x0 := x0) hn hn16 i (by omega)
    have hf := h3 (by omega)
    have hc := mkC_lt (n := n) (x0 := x0) (i := i) hn
    have e : mkSet n x0 (i + 1) = mkSet n x0 i ^^^ bt (mkC n x0 i) := by
      show mkSet n x0 i ||| bt (mkC n x0 i) = _
      apply zb_ext
      intro k _
      rw [zb_or, zb_xor, zb_bt (by omega)]
      by_cases e : k = mkC n x0 i
      · subst e; simp [hf]
      · simp [e]
    rw [e, xs_xor, xs_bt ch (by omega)]
    simp only [mkNum]
    rw [mkNum_xs hn hn16 i (by omega)]
/-- the droplet of a seed: lost, degree, set, number -/
def mkP (f : Nat → Int32) (w : Nat) (loss : Int32) (n : Nat) (ch : Nat → Int32) (sd : Nat) : Nat → Int32 :=
  upd (upd (upd (upd f 0 (bI (decide (nI (zdw sd % 100) < loss)))) 1 (nI (zdeg w (zdw (zdw sd)) n))) 2 (mkSet n (zdw (zdw sd)) (zdeg w (zdw (zdw sd)) n))) 3 (mkNum ch n (zdw (zdw sd)) (zdeg w (zdw (zdw sd)) n))
theorem mkP_at {f : Nat → Int32} {w : Nat} {loss : Int32} {n : Nat} {ch : Nat → Int32} {sd : Nat} : mkP f w loss n ch sd 0 = bI (decide (nI (zdw sd % 100) < loss)) ∧ mkP f w loss n ch sd 1 = nI (zdeg w (zdw (zdw sd)) n) ∧ mkP f w loss n ch sd 2 = mkSet n (zdw (zdw sd)) (zdeg w (zdw (zdw sd)) n) ∧ mkP f w loss n ch sd 3 = mkNum ch n (zdw (zdw sd)) (zdeg w (zdw (zdw sd)) n) := ⟨rfl, rfl, rfl, rfl⟩
theorem mkP_DO {f : Nat → Int32} {w : Nat} {loss : Int32} {n : Nat} {ch : Nat → Int32} {sd : Nat} (hn : 0 < n) (hn16 : n ≤ 16) : zDO n ch (mkP f w loss n ch sd) := by
  obtain ⟨h0, h1, h2, h3⟩ := mkP_at (f := f) (w := w) (loss := loss) (n := n) (ch := ch) (sd := sd)
  have hb := zdeg_b (w := w) (x := zdw (zdw sd)) hn
  refine ⟨?_, ?_, ?_⟩
  · rw [h0]
    cases decide (nI (zdw sd % 100) < loss)
    · exact Or.inl rfl
    · exact Or.inr rfl
  · rw [h2]; exact (mk_inv hn hn16 _ hb.2).1
  · rw [h2, h3]; exact mkNum_xs hn hn16 _ hb.2
