/-! the reference's rows: sixteen places, a row at its first chapter -/
def rdS (R : Nat → Int32) (s : Int32) : Nat → Int32
  | 0 => s
  | k + 1 => if zb (rdS R s k) k = true ∧ R k ≠ 0 then rdS R s k ^^^ R k else rdS R s k
def insR (R : Nat → Int32) (s : Int32) (p i : Nat) : Nat → Int32 := fun k => if k < i then (if zb (R k) p then R k ^^^ s else R k) else R k
def insE (R : Nat → Int32) (s : Int32) (p : Nat) : Nat → Int32 := upd (insR R s p 16) p s
def folR (f : Nat → Int32) : Nat → (Nat → Int32)
  | 0 => fun _ => 0
  | d + 1 => if rdS (folR f d) (f (21 + d)) 16 = 0 then folR f d else insE (folR f d) (rdS (folR f d) (f (21 + d)) 16) (zlow (rdS (folR f d) (f (21 + d)) 16))
def piv (R : Nat → Int32) : Prop := ∀ k, k < 16 → R k ≠ 0 → zb (R k) k = true ∧ ∀ j, j < 16 → j ≠ k → zb (R j) k = false
theorem rdS_lim {n : Nat} {R : Nat → Int32} {s : Int32} (hR : ∀ k, k < 16 → zlim n (R k)) (hs : zlim n s) : ∀ k, k ≤ 16 → zlim n (rdS R s k)
  | 0, _ => hs
  | k + 1, hk => by
    unfold rdS
    split
    · exact zlim_xor (rdS_lim hR hs k (by omega)) (hR k (by omega))
    · exact rdS_lim hR hs k (by omega)
theorem rdS_piv {R : Nat → Int32} {s : Int32} (hR : piv R) : ∀ k, k ≤ 16 → ∀ j, j < k → R j ≠ 0 → zb (rdS R s k) j = false
  | 0, _, j, hj, _ => by omega
  | k + 1, hk, j, hj, hj0 => by
    unfold rdS
    by_cases e : j = k
    · subst e
      split
      · rename_i h
        rw [zb_xor, h.1, (hR j (by omega) hj0).1]
        rfl
      · rename_i h
        cases hz : zb (rdS R s j) j with
        | false => rfl
        | true => exact absurd ⟨hz, hj0⟩ h
    · have ih := rdS_piv (s := s) hR k (by omega) j (by omega) hj0
      split
      · rw [zb_xor, ih, (hR j (by omega) hj0).2 k (by omega) (fun h => e h.symm)]
        rfl
      · exact ih
theorem rdS_sp {R : Nat → Int32} {s : Int32} : ∀ k, k ≤ 16 → inSp R 16 (rdS R s k ^^^ s)
  | 0, _ => by unfold rdS; rw [i32_xor_self]; exact inSp_zero
  | k + 1, hk => by
    have ih := rdS_sp (R := R) (s := s) k (by omega)
    unfold rdS
    split
    · have := inSp_xor ih (inSp_row (g := R) (N := 16) (i := k) (by omega))
      rwa [i32_xor_assoc, i32_xor_comm s (R k), ← i32_xor_assoc] at this
    · exact ih
theorem zlow_at {n : Nat} {s : Int32} (hn : n ≤ 16) (hs : zlim n s) (h0 : s ≠ 0) : zlow s < 16 ∧ zb s (zlow s) = true := by
  unfold zlow
  cases hz : zfind (zb s) 16 with
  | some p =>
    obtain ⟨h1, h2, -⟩ := zfind_some hz
    exact ⟨h1, h2⟩
  | none =>
    exfalso
    apply h0
    apply zb_ext
    intro k _
    rw [zb_zero]
    by_cases hk : k < 16
    · exact zfind_none hz k hk
    · exact hs k (by omega)
theorem insE_at {R : Nat → Int32} {s : Int32} {p k : Nat} (hk : k < 16) : insE R s p k = if k = p then s else if zb (R k) p then R k ^^^ s else R k := by
  simp only [insE, upd, insR]
  by_cases e : k = p
  · rw [if_pos e, if_pos e]
  · rw [if_neg e, if_neg e, if_pos hk]
theorem insE_piv {R : Nat → Int32} {s : Int32} {p : Nat} (hR : piv R) (hp : p < 16) (hsp : zb s p = true) (hs : ∀ j, j < 16 → R j ≠ 0 → zb s j = false) : piv (insE R s p) := by
  have hRp : R p = 0 := by
    by_cases h : R p = 0
    · exact h
    · rw [hs p hp h] at hsp; cases hsp
  intro k hk h0
  rw [insE_at hk] at h0 ⊢
  by_cases e : k = p
  · subst e
    rw [if_pos rfl]
    refine ⟨hsp, fun j hj hjk => ?_⟩
    rw [insE_at hj, if_neg hjk]
    cases hz : zb (R j) k with
    | true => rw [if_pos rfl, zb_xor, hz, hsp]; rfl
    | false => rw [if_neg (by simp)]; exact hz
  · rw [if_neg e] at h0 ⊢
    have hk0 : R k ≠ 0 := by
      intro h
      rw [h, zb_zero, if_neg (by simp)] at h0
      exact h0 rfl
    obtain ⟨g1, g2⟩ := hR k hk hk0
    have hsk := hs k hk hk0
    refine ⟨?_, fun j hj hjk => ?_⟩
    · split
      · rw [zb_xor, g1, hsk]; rfl
      · exact g1
    · rw [insE_at hj]
      by_cases e2 : j = p
      · rw [if_pos e2]; exact hsk
      · rw [if_neg e2]
        split
        · rw [zb_xor, g2 j hj hjk, hsk]; rfl
        · exact g2 j hj hjk
theorem insE_lim {n : Nat} {R : Nat → Int32} {s : Int32} {p : Nat} (hR : ∀ k, k < 16 → zlim n (R k)) (hs : zlim n s) : ∀ k, k < 16 → zlim n (insE R s p k) := fun k hk => by
  rw [insE_at hk]
  split
  · exact hs
  · split
    · exact zlim_xor (hR k hk) hs
    · exact hR k hk
theorem folR_inv {n : Nat} {f : Nat → Int32} (hn : n ≤ 16) (hf : ∀ d, d < 24 → zlim n (f (21 + d))) : ∀ d, d ≤ 24 → piv (folR f d) ∧ (∀ k, k < 16 → zlim n (folR f d k)) ∧ ∀ s, inSp (folR f d) 16 s ↔ inSp (fun i => f (21 + i)) d s
  | 0, _ => by
    refine ⟨fun k _ h => absurd rfl h, fun k _ => zlim_zero n, fun s => ⟨fun h => h _ inSp_zero (fun _ _ => inSp_xor) (fun i _ => inSp_zero), fun h => h _ inSp_zero (fun _ _ => inSp_xor) (fun i hi => by omega)⟩⟩
  | d + 1, hd => by
    obtain ⟨i1, i2, i3⟩ := folR_inv hn hf d (by omega)
    have hl := rdS_lim i2 (hf d (by omega)) 16 (by omega)
    have hp := rdS_piv (s := f (21 + d)) i1 16 (by omega)
    have hsp := rdS_sp (R := folR f d) (s := f (21 + d)) 16 (by omega)
    have hmono : ∀ s, inSp (fun i => f (21 + i)) d s → inSp (fun i => f (21 + i)) (d + 1) s := fun s h => inSp_of (fun i hi => inSp_row (g := fun i => f (21 + i)) (by omega)) h
    have hnew : inSp (fun i => f (21 + i)) (d + 1) (rdS (folR f d) (f (21 + d)) 16) := by
      have a := hmono _ ((i3 _).mp hsp)
      have b := inSp_xor a (inSp_row (g := fun i => f (21 + i)) (N := d + 1) (i := d) (by omega))
      rwa [i32_xor_assoc, i32_xor_self, i32_xor_zero] at b
    unfold folR
    by_cases h0 : rdS (folR f d) (f (21 + d)) 16 = 0
    · rw [if_pos h0]
      refine ⟨i1, i2, fun s => ⟨fun h => hmono s ((i3 s).mp h), fun h => ?_⟩⟩
      refine inSp_of (fun i hi => ?_) h
      by_cases e : i = d
      · subst e
        rw [h0, i32_zero_xor] at hsp
        exact hsp
      · exact (i3 _).mpr (inSp_row (g := fun i => f (21 + i)) (by omega))
    · rw [if_neg h0]
      obtain ⟨z1, z2⟩ := zlow_at hn hl h0
      refine ⟨insE_piv i1 z1 z2 (fun j hj h => hp j hj h), insE_lim i2 hl, fun s => ⟨fun h => ?_, fun h => ?_⟩⟩
      · refine inSp_of (fun k hk => ?_) h
        rw [insE_at hk]
        split
        · exact hnew
        · split
          · exact inSp_xor (hmono _ ((i3 _).mp (inSp_row hk))) hnew
          · exact hmono _ ((i3 _).mp (inSp_row hk))
      · have hRp : folR f d (zlow (rdS (folR f d) (f (21 + d)) 16)) = 0 := by
          by_cases g : folR f d (zlow (rdS (folR f d) (f (21 + d)) 16)) = 0
          · exact g
          · have := hp _ z1 g
            rw [z2] at this
            cases this
        have hS : inSp (insE (folR f d) (rdS (folR f d) (f (21 + d)) 16) (zlow (rdS (folR f d) (f (21 + d)) 16))) 16 (rdS (folR f d) (f (21 + d)) 16) := by
          have := inSp_row (g := insE (folR f d) (rdS (folR f d) (f (21 + d)) 16) (zlow (rdS (folR f d) (f (21 + d)) 16))) z1
          rwa [insE_at z1, if_pos rfl] at this
        have hold : ∀ k, k < 16 → inSp (insE (folR f d) (rdS (folR f d) (f (21 + d)) 16) (zlow (rdS (folR f d) (f (21 + d)) 16))) 16 (folR f d k) := fun k hk => by
          have := inSp_row (g := insE (folR f d) (rdS (folR f d) (f (21 + d)) 16) (zlow (rdS (folR f d) (f (21 + d)) 16))) hk
          rw [insE_at hk] at this
          by_cases e : k = zlow (rdS (folR f d) (f (21 + d)) 16)
          · rw [e, hRp]; exact inSp_zero
          · rw [if_neg e] at this
            split at this
            · have h2 := inSp_xor this hS
              rwa [i32_xor_assoc, i32_xor_self, i32_xor_zero] at h2
            · exact this
        refine inSp_of (fun i hi => ?_) h
        by_cases e : i = d
        · subst e
          have a := inSp_of hold hsp
          have b := inSp_xor a hS
          rwa [i32_xor_comm, ← i32_xor_assoc, i32_xor_self, i32_zero_xor] at b
        · exact inSp_of hold ((i3 _).mpr (inSp_row (g := fun i => f (21 + i)) (by omega)))
def mskF (R : Nat → Int32) : Nat → Int32 := mskOf (fun k => decide (R k = bt k))
theorem mskF_folM {n t : Nat} {ch f : Nat → Int32} (hJ : zCJ n ch f t) : mskF (folR f t) 16 = folM f := by
  obtain ⟨i1, i2, i3⟩ := folR_inv (f := f) hJ.1 (fun d hd => (hJ.2.2.2.2.2 d hd).1) t hJ.2.1
  have hsp : ∀ s, inSp (folR f t) 16 s ↔ inSp (fun i => f (21 + i)) 24 s := fun s => (i3 s).trans ⟨fun h => inSp_of (fun i hi => inSp_row (g := fun i => f (21 + i)) (by have := hJ.2.1; omega)) h, fun h => inSp_of (fun i hi => by
    by_cases e : i < t
    · exact inSp_row (g := fun i => f (21 + i)) e
    · show inSp _ _ (f (21 + i))
      rw [(hJ.2.2.2.2.2 i hi).2.2.2 (by omega)]
      exact inSp_zero) h⟩
  unfold mskF folM
  apply zb_ext
  intro k hk
  rw [zb_mskOf (by omega), zb_mskOf (by omega)]
  cases hk16 : decide (k < 16) with
  | false => rfl
  | true =>
    have hk16' : k < 16 := by simpa using hk16
    congr 1
    cases hB : folB f k with
    | true =>
      have hown : ownR (folR f t) 16 (fun a => a) := fun a ha h0 => i1 a ha h0
      obtain ⟨a, ha, e⟩ := unit_row hown (by omega) ((hsp _).mpr (folB_iff.mp hB))
      have h0 : folR f t a ≠ 0 := fun h => by
        have h2 := zb_bt (c := k) (by omega) k
        rw [← e, h, zb_zero] at h2
        simp at h2
      have h1 := (i1 a ha h0).1
      rw [e, zb_bt (by omega)] at h1
      have : a = k := by simpa using h1
      rw [decide_eq_true_eq, ← this]
      rw [this] at e ⊢
      exact e
    | false =>
      rw [decide_eq_false_iff_not]
      intro e
      have := folB_iff.mpr ((hsp _).mp (by rw [← e]; exact inSp_row hk16'))
      rw [hB] at this
      cases this
/-- the reference's blob, its rows in sight -/
def gR (g R V : Nat → Int32) : Nat → Int32 := fun j => if 2619 ≤ j ∧ j < 2635 then R (j - 2619) else if 2635 ≤ j ∧ j < 2651 then V (j - 2635) else g j
theorem gR_s {g R V : Nat → Int32} {k : Nat} (h : k < 16) : gR g R V (2619 + k) = R k := by
  unfold gR
  rw [if_pos (by omega), show 2619 + k - 2619 = k by omega]
theorem gR_v {g R V : Nat → Int32} {k : Nat} (h : k < 16) : gR g R V (2635 + k) = V k := by
  unfold gR
  rw [if_neg (by omega), if_pos (by omega), show 2635 + k - 2635 = k by omega]
theorem gR_us {g R V : Nat → Int32} {k : Nat} {x : Int32} (h : k < 16) : upd (gR g R V) (2619 + k) x = gR g (upd R k x) V := by
  funext j
  simp only [upd, gR]
  grind
theorem gR_uv {g R V : Nat → Int32} {k : Nat} {x : Int32} (h : k < 16) : upd (gR g R V) (2635 + k) x = gR g R (upd V k x) := by
  funext j
  simp only [upd, gR]
  grind
theorem gR_F {g R V : Nat → Int32} : gF g (gR g R V) := fun j h1 h2 => by
  unfold gR
  rw [if_neg (by omega), if_neg (by omega)]
theorem gR_cg {g R V R' V' : Nat → Int32} (h : ∀ k, k < 16 → R k = R' k ∧ V k = V' k) : gR g R V = gR g R' V' := by
  funext j
  unfold gR
  split
  · exact (h _ (by omega)).1
  · split
    · exact (h _ (by omega)).2
    · rfl
theorem gR_e {g : Nat → Int32} : gR g (fun k => g (2619 + k)) (fun k => g (2635 + k)) = g := by
  funext j
  unfold gR
  split
  · show g (2619 + (j - 2619)) = g j
    rw [show 2619 + (j - 2619) = j by omega]
  · split
    · show g (2635 + (j - 2635)) = g j
      rw [show 2635 + (j - 2635) = j by omega]
    · rfl
def xsR (ch R : Nat → Int32) : Nat → Int32 := fun k => xs ch (R k)
theorem xsR_u {ch R : Nat → Int32} {k : Nat} {x : Int32} : upd (xsR ch R) k (xs ch x) = xsR ch (upd R k x) := by
  funext j
  simp only [upd, xsR]
  by_cases e : j = k <;> simp [e]
theorem insR_s1 {R : Nat → Int32} {s : Int32} {p k : Nat} (h : zb (R k) p = true) : upd (insR R s p k) k (R k ^^^ s) = insR R s p (k + 1) := by
  funext j
  simp only [upd, insR]
  by_cases e : j = k
  · subst e; rw [if_pos rfl, if_pos (by omega), if_pos h]
  · rw [if_neg e]
    by_cases e2 : j < k
    · simp only [if_pos e2, if_pos (show j < k + 1 by omega)]
    · simp only [if_neg e2, if_neg (show ¬ j < k + 1 by omega)]
theorem insR_s2 {R : Nat → Int32} {s : Int32} {p k : Nat} (h : zb (R k) p = false) : insR R s p k = insR R s p (k + 1) := by
  funext j
  simp only [insR]
  by_cases e : j = k
  · subst e; rw [if_neg (by omega), if_pos (by omega), if_neg (by rw [h]; simp)]
  · by_cases e2 : j < k
    · simp only [if_pos e2, if_pos (show j < k + 1 by omega)]
    · simp only [if_neg e2, if_neg (show ¬ j < k + 1 by omega)]
theorem insR_0 {R : Nat → Int32} {s : Int32} {p : Nat} : insR R s p 0 = R := by
  funext j
  simp only [insR]
  rw [if_neg (by omega)]
theorem insR_k {R : Nat → Int32} {s : Int32} {p k : Nat} : insR R s p k k = R k := by
  simp only [insR]
  rw [if_neg (by omega)]
