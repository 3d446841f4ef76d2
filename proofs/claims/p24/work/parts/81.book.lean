/-! the book before the first act -/
def LC (c cn : Nat) (bk r : Nat → Int32) : Prop := r 0 = nI 1 ∧ r 1 = nI 0 ∧ r 2 = nI c ∧ r 3 = nI cn ∧ r 4 = nI 0 ∧ (∀ i, i < 3 → cupR r i = fun _ => 0) ∧ ∀ k, k < c → chR r k = bk k
theorem LC_init {bk : Nat → Int32} : LC 0 0 bk initR := by
  refine ⟨rfl, rfl, rfl, rfl, rfl, fun i hi => ?_, fun k hk => by omega⟩
  funext k
  unfold cupR
  split
  · exact if_neg (by omega)
  · rfl
theorem LC_SI {c cn : Nat} {bk r : Nat → Int32} (h : LC c cn bk r) (hc : c ≤ 16) (hcn : cn ≤ 3) : SI 0 r := by
  obtain ⟨h0, h1, h2, h3, h4, h5, h6⟩ := h
  exact ⟨1, 0, c, cn, h0, by omega, h1, by omega, h2, hc, h3, hcn, fun i hi => by rw [h5 i hi]; exact zCI_zero hc, fun i _ hi => h5 i hi, fun i hi => ⟨0, by rw [h5 i hi]; rfl, Nat.le_refl _⟩⟩
theorem LC_LQ {c cn : Nat} {bk r : Nat → Int32} (h : LC c cn bk r) (hc0 : 0 < c) (hc : c ≤ 16) (hn0 : 0 < cn) (hcn : cn ≤ 3) : LQ 0 c cn bk r := by
  obtain ⟨h0, h1, h2, h3, h4, h5, h6⟩ := h
  exact ⟨1, 0, 0, h0, by omega, h1, by omega, h2, hc0, hc, h3, hn0, hcn, h4, Nat.le_refl _, fun i hi => by rw [h5 i hi]; exact zCI_zero hc, fun i _ hi => h5 i hi, h6, fun i hi => ⟨0, 0, 0, by rw [h5 i hi]; rfl, by rw [h5 i hi]; rfl, by rw [h5 i hi]; rfl, Nat.le_refl _, Nat.le_refl _⟩⟩
theorem LC_bk {c cn : Nat} {bk bk' r : Nat → Int32} (h : LC c cn bk r) (hb : ∀ k, k < c → bk' k = bk k) : LC c cn bk' r := by
  obtain ⟨h0, h1, h2, h3, h4, h5, h6⟩ := h
  exact ⟨h0, h1, h2, h3, h4, h5, fun k hk => (h6 k hk).trans (hb k hk).symm⟩
theorem opChapter_at {c v : Nat} {bk r : Nat → Int32} (h : LC c 0 bk r) (hc : c < 16) (hv : v < 65536) : opChapter r (nI v) = (nI c, upd (upd r (5 + c) (nI v)) 2 (nI c + 1)) := by
  obtain ⟨h0, h1, h2, h3, h4, h5, h6⟩ := h
  unfold opChapter
  rw [if_neg (by rw [show zin3 (nI v) 0 65535 = true from zin3_nI (m := 65535) (by omega) (by decide)]; simp), if_neg (by rw [h3]; decide), if_neg (fun e => by
    rw [h2] at e
    have := (nI_eq (b := 16) (by omega) (by decide)).mp e
    omega), h2, nI_clamp (by omega)]
theorem LC_chapter {c v : Nat} {bk r : Nat → Int32} (h : LC c 0 bk r) (hc : c < 16) : LC (c + 1) 0 (upd bk c (nI v)) (upd (upd r (5 + c) (nI v)) 2 (nI c + 1)) := by
  obtain ⟨h0, h1, h2, h3, h4, h5, h6⟩ := h
  have e : ∀ j, j < 5 → j ≠ 2 → upd (upd r (5 + c) (nI v)) 2 (nI c + 1) j = r j := fun j hj hn => by
    simp only [upd]
    rw [if_neg hn, if_neg (by omega)]
  refine ⟨by rw [e 0 (by omega) (by omega)]; exact h0, by rw [e 1 (by omega) (by omega)]; exact h1, ?_, by rw [e 3 (by omega) (by omega)]; exact h3, by rw [e 4 (by omega) (by omega)]; exact h4, fun i hi => ?_, fun k hk => ?_⟩
  · simp only [upd, if_true]
    exact nI_1 _
  · rw [cupR_upd (by omega), cupR_upd (by omega)]; exact h5 i hi
  · rw [chR_upd (by omega)]
    simp only [chR, hdR, upd]
    rw [if_pos (by omega)]
    by_cases ek : k = c
    · subst ek
      rw [if_pos rfl, if_pos rfl]
    · rw [if_neg (by omega), if_neg ek]
      have := h6 k (by omega)
      simp only [chR, hdR] at this
      rw [if_pos (by omega)] at this
      exact this
theorem opChapter_late {c cn : Nat} {bk r : Nat → Int32} (h : LC c cn bk r) (hc0 : 0 < cn) (hc : cn ≤ 3) : opChapter r 1 = (-5, r) := by
  obtain ⟨h0, h1, h2, h3, h4, h5, h6⟩ := h
  unfold opChapter
  rw [if_neg (by decide), h3, if_pos (show (0 : Int32) < nI cn from nI_lt (a := 0) hc0 (by omega))]
theorem opCup_at {c cn : Nat} {bk r : Nat → Int32} (h : LC c cn bk r) (hc : cn < 3) : opCup r = (nI cn, upd r 3 (nI cn + 1)) := by
  obtain ⟨h0, h1, h2, h3, h4, h5, h6⟩ := h
  unfold opCup
  rw [h3, if_neg (fun e => by
    have := (nI_eq (b := 3) (by omega) (by decide)).mp e
    omega)]
theorem LC_cup {c cn : Nat} {bk r : Nat → Int32} (h : LC c cn bk r) : LC c (cn + 1) bk (upd r 3 (nI cn + 1)) := by
  obtain ⟨h0, h1, h2, h3, h4, h5, h6⟩ := h
  refine ⟨h0, h1, h2, ?_, h4, fun i hi => ?_, fun k hk => ?_⟩
  · simp only [upd, if_true]
    exact nI_1 _
  · rw [cupR_upd (by omega)]; exact h5 i hi
  · rw [chR_upd (by omega)]; exact h6 k hk
/-! what is refused at the end -/
theorem opPour_n1 {r : Nat → Int32} {cn : Nat} (h3 : r 3 = nI cn) (hc : cn ≤ 3) : opPour r 3 0 1 = (-1, r) := by
  unfold opPour
  have : cpI r 3 = none := by
    unfold cpI
    rw [h3, nI_clamp (by omega)]
    refine zfind_of_none (fun k hk => ?_)
    simp only [decide_eq_false_iff_not]
    intro e
    have := (nI_eq (a := 3) (by decide) (by omega)).mp e
    omega
  rw [this]
theorem opPour_n2 {r : Nat → Int32} {cn : Nat} (h3 : r 3 = nI cn) (hc0 : 0 < cn) (hc : cn ≤ 3) : opPour r 0 65536 1 = (-2, r) := by
  unfold opPour
  rw [show cpI r 0 = some 0 from cpI_at (i := 0) h3 hc hc0]
  dsimp only
  have : errD r 65536 1 = -2 := by
    unfold errD
    rw [if_pos (by decide)]
  rw [this, if_pos (by decide)]
theorem opPour_n3 {r : Nat → Int32} {cn : Nat} (h3 : r 3 = nI cn) (hc0 : 0 < cn) (hc : cn ≤ 3) : opPour r 0 0 100 = (-2, r) := by
  unfold opPour
  rw [show cpI r 0 = some 0 from cpI_at (i := 0) h3 hc hc0]
  dsimp only
  have : errD r 0 100 = -2 := by
    unfold errD
    rw [if_pos (by decide)]
  rw [this, if_pos (by decide)]
theorem opSet_n1 {r : Nat → Int32} : opSet r 0 3 = (-2, r) := by
  unfold opSet
  rw [if_neg (by decide), if_neg (by decide)]
theorem opSet_n2 {r : Nat → Int32} : opSet r 1 100 = (-2, r) := by
  unfold opSet
  rw [if_neg (by decide), if_neg (by decide)]
theorem qDrop_n1 {r : Nat → Int32} : qDrop r (-1) 0 = -2 := by
  unfold qDrop
  rw [if_pos (by decide)]
theorem qDrop_n2 {r : Nat → Int32} : qDrop r 0 4 = -2 := by
  unfold qDrop
  rw [if_pos (by decide)]
theorem qDeg_n {r : Nat → Int32} : qDeg r 0 1 17 = -2 := by
  unfold qDeg
  rw [if_pos (by decide)]
theorem sub_app {L1 L2 L : zL} (h : ∀ b ∈ L1, b ∈ L) (h2 : ∀ b ∈ L, b ∈ L2) : ∀ b ∈ L1, b ∈ L2 := fun b hb => h2 b (h b hb)
