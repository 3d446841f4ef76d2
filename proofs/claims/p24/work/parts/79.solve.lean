/-! solving learns all that could be known, and a second time nothing -/
theorem slv_in {n : Nat} {ch f : Nat → Int32} {m : Nat} (hJ : zCJ n ch f m) : ∀ (k : Nat) (g : Nat → Int32) (m' : Nat), zCJ n ch g m' → g 0 = f 0 ||| folM f → (∀ r, r < 24 → inSp (fun i => f (21 + i)) 24 (g (21 + r))) →
    (peelP k g) 0 = f 0 ||| folM f ∧ ∀ r, r < 24 → inSp (fun i => f (21 + i)) 24 (peelP k g (21 + r))
  | 0, g, m', _, h0, hs => ⟨h0, hs⟩
  | k + 1, g, m', hg, h0, hs => by
    have hc : (g 1).toNatClampNeg = m' := by rw [hg.2.2.1, nI_clamp (by have := hg.2.1; omega)]
    unfold peelP
    rw [hc]
    cases hz : zfind (zsmall g) m' with
    | none => exact ⟨h0, hs⟩
    | some r =>
      obtain ⟨s1, s2⟩ := zCJ_peelS hg hz
      have hr := (zfind_some hz).1
      have hm := hg.2.1
      have hn := hg.1
      have hrow : g (21 + r) = 0 := by
        apply Classical.byContradiction
        intro hne
        obtain ⟨e1, e2, e3, -⟩ := s2 hne
        have hsp := hs r (by omega)
        rw [e1] at hsp
        have hb := folB_iff.mpr hsp
        rw [h0, zb_or, folM_b, hb, decide_eq_true (show zlow (g (21 + r)) < 16 by omega)] at e3
        simp at e3
      have eS : peelS g r = takeP g r := by unfold peelS; rw [if_pos hrow]
      dsimp only
      rw [eS] at s1 ⊢
      refine slv_in hJ k (takeP g r) (m' - 1) s1 ?_ (fun j hj => ?_)
      · rw [← h0]; simp only [takeP, takeA]; grind
      · by_cases hj3 : j = 23
        · subst hj3
          have e1 : takeP g r (21 + 23) = 0 := by simp only [takeP]; grind
          rw [e1]
          exact inSp_zero
        · by_cases hjr : r ≤ j
          · have e1 : takeP g r (21 + j) = g (21 + (j + 1)) := by simp only [takeP, takeA]; grind
            rw [e1]
            exact hs (j + 1) (by omega)
          · have e1 : takeP g r (21 + j) = g (21 + j) := by simp only [takeP, takeA]; grind
            rw [e1]
            exact hs j hj
/-- a sum of the sets without what follows from them follows from them, too -/
theorem mask_sp {f : Nat → Int32} {s : Int32} (hs : ∀ k, 16 ≤ k → zb s k = false) : inSp (fun i => f (21 + i)) 24 (s &&& folM f) := by
  have key : ∀ n, n ≤ 16 → inSp (fun i => f (21 + i)) 24 (mskOf (fun k => zb s k && folB f k) n) := by
    intro n
    induction n with
    | zero => intro _; exact inSp_zero
    | succ n ih =>
      intro hn
      unfold mskOf
      split
      · rename_i h
        simp only [Bool.and_eq_true] at h
        have e : mskOf (fun k => zb s k && folB f k) n ||| bt n = mskOf (fun k => zb s k && folB f k) n ^^^ bt n := by
          apply zb_ext
          intro k hk
          rw [zb_or, zb_xor, zb_bt (by omega), zb_mskOf (by omega)]
          by_cases ek : k = n
          · subst ek; simp
          · simp [ek]
        rw [e]
        exact inSp_xor (ih (by omega)) (folB_iff.mp h.2)
      · exact ih (by omega)
  have e : s &&& folM f = mskOf (fun k => zb s k && folB f k) 16 := by
    apply zb_ext
    intro k hk
    rw [zb_and, folM_b, zb_mskOf (by omega)]
    rcases Nat.lt_or_ge k 16 with h | h
    · simp [h]
    · rw [hs k h]; simp
  rw [e]
  exact key 16 (Nat.le_refl _)
theorem slv_all {n : Nat} {ch f : Nat → Int32} {m : Nat} (hJ : zCJ n ch f m) : slvP f ch 0 = f 0 ||| folM f ∧ ∀ r, r < 24 → inSp (fun i => f (21 + i)) 24 (slvP f ch (21 + r)) := by
  unfold slvP
  refine slv_in hJ 24 _ m (zCJ_all hJ).1 rfl (fun r hr => ?_)
  have e : knowAll f ch (folM f) (21 + r) = f (21 + r) ^^^ (f (21 + r) &&& folM f) := by
    simp only [knowAll]
    rw [if_neg (by omega), if_neg (by omega), if_pos (by omega)]
  rw [e]
  have hn := hJ.1
  exact inSp_xor (inSp_row (g := fun i => f (21 + i)) hr) (mask_sp (fun k hk => (hJ.2.2.2.2.2 r hr).1 k (by omega)))
theorem slv_cn {n : Nat} {ch f : Nat → Int32} {m : Nat} (hJ : zCJ n ch f m) : zcnt (zb (slvP f ch 0)) 16 = zcnt (zb (f 0)) 16 + zcnt (zb (folM f)) 16 := by
  rw [(slv_all hJ).1, ← zcnt_disj (p := zb (f 0)) (q := zb (folM f)) (fun k _ h => (folM_lim hJ).2 k h)]
  exact zcnt_congr (fun k _ => zb_or _ _ _)
theorem slv_no {n : Nat} {ch f : Nat → Int32} {m : Nat} (hJ : zCJ n ch f m) : folM (slvP f ch) = 0 := by
  obtain ⟨m2, hJ2, hs2⟩ := (zCJ_all hJ).2
  obtain ⟨h0, hsp⟩ := slv_all hJ
  apply zb_ext
  intro k hk
  rw [folM_b, zb_zero]
  cases hb : folB (slvP f ch) k with
  | false => simp
  | true =>
    by_cases h16 : k < 16
    · exfalso
      have h1 := (fol_lim hJ2 k hb h16).1
      have h2 := inSp_of hsp (folB_iff.mp hb)
      have h3 := folB_iff.mpr h2
      rw [h0, zb_or, folM_b, h3, decide_eq_true h16] at h1
      simp at h1
    · simp [h16]
theorem peelP_id {n : Nat} {ch f : Nat → Int32} {m : Nat} (hJ : zCJ n ch f m) (hs : zsz f m) : ∀ k, peelP k f = f
  | 0 => rfl
  | k + 1 => by
    have hc : (f 1).toNatClampNeg = m := by rw [hJ.2.2.1, nI_clamp (by have := hJ.2.1; omega)]
    unfold peelP
    rw [hc, zfind_of_none (fun r hr => by
      have := hs r hr
      simp only [zsmall, decide_eq_false_iff_not]
      show ¬ zcnt (zb (f (21 + r))) 16 < 2
      omega)]
theorem slv_id {n : Nat} {ch f : Nat → Int32} {m : Nat} (hJ : zCJ n ch f m) (hs : zsz f m) (h0 : folM f = 0) : slvP f ch = f := by
  unfold slvP
  rw [h0, knowAll_0]
  exact peelP_id hJ hs 24
theorem slv_4 {f ch : Nat → Int32} {k : Nat} (h2 : 2 ≤ k) (h5 : k < 5) : slvP f ch k = f k := by
  unfold slvP
  rw [peelP_4 ⟨h2, h5⟩]
  simp only [knowAll]
  rw [if_neg (by omega), if_neg (by omega), if_neg (by omega), if_neg (by omega)]
/-! the law's state over the other acts -/
theorem LQ_mono {t n cn : Nat} {bk r : Nat → Int32} (h : LQ t n cn bk r) : LQ (t + 1) n cn bk r := by
  obtain ⟨w, ls, p, h0, hw, h1, hl, h2, hn0, hn, h3, hc0, hc, h4, hp, hI, hz, hb, hk⟩ := h
  refine ⟨w, ls, p, h0, hw, h1, hl, h2, hn0, hn, h3, hc0, hc, h4, by omega, hI, hz, hb, fun i hi => ?_⟩
  obtain ⟨a, b, d, g1, g2, g3, g4, g5⟩ := hk i hi
  exact ⟨a, b, d, g1, g2, g3, g4, by omega⟩
theorem LQ_put {t n cn : Nat} {bk r f : Nat → Int32} {i : Nat} (h : LQ t n cn bk r) (hi : i < cn) (hf : ∀ j, 69 ≤ j → f j = 0) (hC : zCI n (chR r) f) (hc : ∃ a b d : Nat, f 2 = nI a ∧ f 3 = nI b ∧ f 4 = nI d ∧ b + d ≤ a ∧ a ≤ t) : LQ t n cn bk (putC r i f) := by
  obtain ⟨w, ls, p, h0, hw, h1, hl, h2, hn0, hn, h3, hc0, hc3, h4, hp, hI, hz, hb, hk⟩ := h
  refine ⟨w, ls, p, by rw [putC_lo (by omega)]; exact h0, hw, by rw [putC_lo (by omega)]; exact h1, hl, by rw [putC_lo (by omega)]; exact h2, hn0, hn, by rw [putC_lo (by omega)]; exact h3, hc0, hc3, by rw [putC_lo (by omega)]; exact h4, hp, ?_, ?_, ?_, ?_⟩
  · intro k hk3
    rw [chR_putC]
    by_cases e : k = i
    · subst e; rw [cupR_putC hf]; exact hC
    · rw [cupR_putC_ne e]; exact hI k hk3
  · intro k g1 g2
    rw [cupR_putC_ne (by omega)]; exact hz k g1 g2
  · rw [chR_putC]; exact hb
  · intro k hk3
    by_cases e : k = i
    · subst e; rw [cupR_putC hf]; exact hc
    · rw [cupR_putC_ne e]; exact hk k hk3
theorem opEmpty_at {r : Nat → Int32} {cn i : Nat} (h3 : r 3 = nI cn) (hc : cn ≤ 3) (hi : i < cn) : opEmpty r (nI i) = (nI (zcnt (zb (cupR r i 0)) 16), putC r i (fun _ => 0)) := by
  unfold opEmpty
  rw [cpI_at h3 hc hi]
theorem opSolve_at {r : Nat → Int32} {cn i : Nat} (h3 : r 3 = nI cn) (hc : cn ≤ 3) (hi : i < cn) : opSolve r (nI i) = (nI (zcnt (zb (slvP (cupR r i) (chR r) 0)) 16) - nI (zcnt (zb (cupR r i 0)) 16), putC r i (slvP (cupR r i) (chR r))) := by
  unfold opSolve
  rw [cpI_at h3 hc hi]
theorem LQ_empty {t n cn : Nat} {bk r : Nat → Int32} {i : Nat} (h : LQ t n cn bk r) (hi : i < cn) : LQ t n cn bk (putC r i (fun _ => 0)) :=
  LQ_put h hi (fun _ _ => rfl) (by
    obtain ⟨w, ls, p, h0, hw, h1, hl, h2, hn0, hn, -⟩ := h
    exact zCI_zero hn) ⟨0, 0, 0, rfl, rfl, rfl, Nat.le_refl _, Nat.zero_le _⟩
theorem LQ_solve {t n cn : Nat} {bk r : Nat → Int32} {i : Nat} (h : LQ t n cn bk r) (hi : i < cn) : LQ t n cn bk (putC r i (slvP (cupR r i) (chR r))) := by
  obtain ⟨w, ls, p, h0, hw, h1, hl, h2, hn0, hn, h3, hc0, hc3, h4, hp, hI, hz, hb, hk⟩ := id h
  obtain ⟨m, hJ, hs⟩ := hI i (by omega)
  obtain ⟨a, b, d, g1, g2, g3, g4, g5⟩ := hk i (by omega)
  exact LQ_put h hi (fun j hj => (slvP_hi hJ j hj).trans (cupR_hi r i j hj)) (zCJ_all hJ).2 ⟨a, b, d, by rw [slv_4 (by omega) (by omega)]; exact g1, by rw [slv_4 (by omega) (by omega)]; exact g2, by rw [slv_4 (by omega) (by omega)]; exact g3, g4, g5⟩
theorem opSet_0 {r : Nat → Int32} {v : Nat} (hv : v ≤ 2) : opSet r 0 (nI v) = (r 0, upd r 0 (nI v)) := by
  unfold opSet
  rw [if_pos ⟨rfl, zin3_nI (m := 2) hv (by decide)⟩]
theorem opSet_1 {r : Nat → Int32} {v : Nat} (hv : v ≤ 99) : opSet r 1 (nI v) = (r 1, upd r 1 (nI v)) := by
  unfold opSet
  rw [if_neg (fun h => absurd h.1 (by decide)), if_pos ⟨rfl, zin3_nI (m := 99) hv (by decide)⟩]
theorem LQ_set0 {t n cn : Nat} {bk r : Nat → Int32} {v : Nat} (h : LQ t n cn bk r) (hv : v ≤ 2) : LQ t n cn bk (upd r 0 (nI v)) := by
  obtain ⟨w, ls, p, h0, hw, h1, hl, h2, hn0, hn, h3, hc0, hc3, h4, hp, hI, hz, hb, hk⟩ := h
  refine ⟨v, ls, p, rfl, hv, h1, hl, h2, hn0, hn, h3, hc0, hc3, h4, hp, ?_, ?_, ?_, ?_⟩
  · intro i hi; rw [cupR_upd (by omega), chR_upd (by omega)]; exact hI i hi
  · intro i g1 g2; rw [cupR_upd (by omega)]; exact hz i g1 g2
  · rw [chR_upd (by omega)]; exact hb
  · intro i hi; rw [cupR_upd (by omega)]; exact hk i hi
theorem LQ_set1 {t n cn : Nat} {bk r : Nat → Int32} {v : Nat} (h : LQ t n cn bk r) (hv : v ≤ 99) : LQ t n cn bk (upd r 1 (nI v)) := by
  obtain ⟨w, ls, p, h0, hw, h1, hl, h2, hn0, hn, h3, hc0, hc3, h4, hp, hI, hz, hb, hk⟩ := h
  refine ⟨w, v, p, h0, hw, rfl, hv, h2, hn0, hn, h3, hc0, hc3, h4, hp, ?_, ?_, ?_, ?_⟩
  · intro i hi; rw [cupR_upd (by omega), chR_upd (by omega)]; exact hI i hi
  · intro i g1 g2; rw [cupR_upd (by omega)]; exact hz i g1 g2
  · rw [chR_upd (by omega)]; exact hb
  · intro i hi; rw [cupR_upd (by omega)]; exact hk i hi
