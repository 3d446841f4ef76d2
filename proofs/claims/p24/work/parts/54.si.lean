theorem SI_mono {b b' : Nat} {r : Nat → Int32} (h : SI b r) (hb : b ≤ b') : SI b' r := by
  obtain ⟨w, ls, n, cn, i0, iw, i1, il, i2, i3, i4, i5, i6, i7, i8⟩ := h
  exact ⟨w, ls, n, cn, i0, iw, i1, il, i2, i3, i4, i5, i6, i7, fun i hi => by obtain ⟨u, h1, h2⟩ := i8 i hi; exact ⟨u, h1, by omega⟩⟩
theorem chR_upd {r : Nat → Int32} {k : Nat} {v : Int32} (h : k < 5) : chR (upd r k v) = chR r := by
  funext j
  simp only [chR, hdR, upd]
  split
  · rw [if_neg (by omega)]
  · rfl
theorem chR_putC {r f : Nat → Int32} {i : Nat} : chR (putC r i f) = chR r := by
  unfold chR
  rw [hdR_putC]
theorem putC_lo {r f : Nat → Int32} {i j : Nat} (h : j < 21) : putC r i f j = r j := by simp only [putC]; rw [if_neg (by omega)]
theorem zCI_zero {n : Nat} {ch : Nat → Int32} (hn : n ≤ 16) : zCI n ch (fun _ => 0) := by
  refine ⟨0, ⟨hn, by omega, rfl, zlim_zero n, fun k _ h => ?_, fun r _ => ⟨zlim_zero n, fun k h => ?_, (xs_zero ch).symm, fun _ => rfl⟩⟩, fun r hr => by omega⟩
  · have h' : zb 0 k = true := h
    rw [zb_zero] at h'; cases h'
  · have h' : zb 0 k = true := h
    rw [zb_zero] at h'; cases h'
theorem SI_set {b : Nat} {r : Nat → Int32} {s v : Int32} (h : SI b r) : SI b (opSet r s v).2 := by
  obtain ⟨w, ls, n, cn, i0, iw, i1, il, i2, i3, i4, i5, i6, i7, i8⟩ := id h
  unfold opSet
  split
  · rename_i hc
    obtain ⟨k, hk, rfl⟩ := (zin3_iff (m := 2) (by decide)).mp hc.2
    refine ⟨k, ls, n, cn, rfl, hk, i1, il, i2, i3, i4, i5, ?_, ?_, ?_⟩
    · intro i hi; rw [cupR_upd (by omega), chR_upd (by omega)]; exact i6 i hi
    · intro i h1 h2; rw [cupR_upd (by omega)]; exact i7 i h1 h2
    · intro i hi; rw [cupR_upd (by omega)]; exact i8 i hi
  · split
    · rename_i hc
      obtain ⟨k, hk, rfl⟩ := (zin3_iff (m := 99) (by decide)).mp hc.2
      refine ⟨w, k, n, cn, i0, iw, rfl, hk, i2, i3, i4, i5, ?_, ?_, ?_⟩
      · intro i hi; rw [cupR_upd (by omega), chR_upd (by omega)]; exact i6 i hi
      · intro i h1 h2; rw [cupR_upd (by omega)]; exact i7 i h1 h2
      · intro i hi; rw [cupR_upd (by omega)]; exact i8 i hi
    · exact h
theorem SI_chapter {b : Nat} {r : Nat → Int32} {v : Int32} (h : SI b r) : SI b (opChapter r v).2 := by
  obtain ⟨w, ls, n, cn, i0, iw, i1, il, i2, i3, i4, i5, i6, i7, i8⟩ := id h
  unfold opChapter
  split
  · exact h
  · split
    · exact h
    · rename_i h3
      split
      · exact h
      · rename_i h2
        have hcn : cn = 0 := by
          rcases Nat.eq_zero_or_pos cn with g | g
          · exact g
          · exact absurd (by rw [i4]; exact nI_lt (a := 0) g (by omega)) h3
        have hn : n < 16 := by
          rcases Nat.lt_or_ge n 16 with g | g
          · exact g
          · exact absurd (by rw [i2, show n = 16 by omega]; rfl) h2
        have hcu : ∀ i, cupR (upd (upd r (5 + (r 2).toNatClampNeg) v) 2 (r 2 + 1)) i = cupR r i := fun i => by
          rw [cupR_upd (by omega), cupR_upd (by rw [i2, nI_clamp (by omega)]; omega)]
        refine ⟨w, ls, n + 1, cn, ?_, iw, ?_, il, ?_, by omega, ?_, i5, ?_, ?_, ?_⟩
        · show (upd (upd r (5 + (r 2).toNatClampNeg) v) 2 (r 2 + 1)) 0 = nI w
          simp only [upd]; rw [if_neg (by omega), if_neg (by omega)]; exact i0
        · show (upd (upd r (5 + (r 2).toNatClampNeg) v) 2 (r 2 + 1)) 1 = nI ls
          simp only [upd]; rw [if_neg (by omega), if_neg (by omega)]; exact i1
        · show (upd (upd r (5 + (r 2).toNatClampNeg) v) 2 (r 2 + 1)) 2 = nI (n + 1)
          simp only [upd, if_true]; rw [i2, nI_1]
        · show (upd (upd r (5 + (r 2).toNatClampNeg) v) 2 (r 2 + 1)) 3 = nI cn
          simp only [upd]; rw [if_neg (by omega), if_neg (by omega)]; exact i4
        · intro i hi; rw [hcu, i7 i (by omega) hi]; exact zCI_zero (by omega)
        · intro i h1 h2; rw [hcu]; exact i7 i h1 h2
        · intro i hi; rw [hcu]; exact i8 i hi
theorem SI_cup {b : Nat} {r : Nat → Int32} (h : SI b r) : SI b (opCup r).2 := by
  obtain ⟨w, ls, n, cn, i0, iw, i1, il, i2, i3, i4, i5, i6, i7, i8⟩ := id h
  unfold opCup
  split
  · exact h
  · rename_i h3
    have hcn : cn < 3 := by
      rcases Nat.lt_or_ge cn 3 with g | g
      · exact g
      · exact absurd (by rw [i4, show cn = 3 by omega]; rfl) h3
    refine ⟨w, ls, n, cn + 1, i0, iw, i1, il, i2, i3, ?_, by omega, ?_, ?_, ?_⟩
    · show upd r 3 (r 3 + 1) 3 = nI (cn + 1)
      simp only [upd, if_true]; rw [i4, nI_1]
    · intro i hi; rw [cupR_upd (by omega), chR_upd (by omega)]; exact i6 i hi
    · intro i h1 h2; rw [cupR_upd (by omega)]; exact i7 i (by omega) h2
    · intro i hi; rw [cupR_upd (by omega)]; exact i8 i hi
theorem SI_putC {b b' : Nat} {r f : Nat → Int32} {i cn n : Nat} (h : SI b r) (hb : b ≤ b') (i2 : r 2 = nI n) (i3 : n ≤ 16) (i4 : r 3 = nI cn) (i5 : cn ≤ 3) (hi : i < cn) (hf : ∀ j, 69 ≤ j → f j = 0) (hC : zCI n (chR r) f) (hu : ∃ u, f 4 = nI u ∧ u ≤ b') : SI b' (putC r i f) := by
  obtain ⟨w, ls, n', cn', i0, iw, i1, il, j2, j3, j4, j5, i6, i7, i8⟩ := id h
  have e1 : n' = n := (nI_eq (by omega) (by omega)).mp (j2.symm.trans i2)
  have e2 : cn' = cn := (nI_eq (by omega) (by omega)).mp (j4.symm.trans i4)
  subst e1; subst e2
  refine ⟨w, ls, n', cn', by rw [putC_lo (by omega)]; exact i0, iw, by rw [putC_lo (by omega)]; exact i1, il, by rw [putC_lo (by omega)]; exact i2, i3, by rw [putC_lo (by omega)]; exact i4, i5, ?_, ?_, ?_⟩
  · intro k hk
    rw [chR_putC]
    by_cases e : k = i
    · subst e; rw [cupR_putC hf]; exact hC
    · rw [cupR_putC_ne e]; exact i6 k hk
  · intro k h1 h2
    rw [cupR_putC_ne (by omega)]; exact i7 k h1 h2
  · intro k hk
    by_cases e : k = i
    · subst e; rw [cupR_putC hf]; exact hu
    · rw [cupR_putC_ne e]; obtain ⟨u, g1, g2⟩ := i8 k hk; exact ⟨u, g1, by omega⟩
theorem SI_empty {b : Nat} {r : Nat → Int32} {y : Int32} (h : SI b r) : SI b (opEmpty r y).2 := by
  obtain ⟨w, ls, n, cn, i0, iw, i1, il, i2, i3, i4, i5, i6, i7, i8⟩ := id h
  unfold opEmpty
  cases hz : cpI r y with
  | none => exact h
  | some i =>
    obtain ⟨hi, -⟩ := cpI_some i4 i5 hz
    exact SI_putC h (Nat.le_refl _) i2 i3 i4 i5 hi (fun _ _ => rfl) (zCI_zero i3) ⟨0, rfl, by omega⟩
theorem knowP_4 {f : Nat → Int32} {c : Nat} {v : Int32} (k : Nat) (hk : 1 ≤ k ∧ k < 5) : knowP f c v k = f k := by simp only [knowP, knowA]; grind
theorem takeP_4 {f : Nat → Int32} {r k : Nat} (hk : 2 ≤ k ∧ k < 5) : takeP f r k = f k := by simp only [takeP, takeA]; grind
theorem peelP_4 {k : Nat} (hk : 2 ≤ k ∧ k < 5) : ∀ (t : Nat) (f : Nat → Int32), peelP t f k = f k
  | 0, f => rfl
  | t + 1, f => by
    unfold peelP
    cases zfind (zsmall f) (f 1).toNatClampNeg with
    | none => rfl
    | some r =>
      refine (peelP_4 hk t (peelS f r)).trans ?_
      unfold peelS
      split
      · exact takeP_4 hk
      · rw [knowP_4 k (by omega), takeP_4 hk]
theorem recvP_4 {n : Nat} {ch f d : Nat → Int32} (h : zCI n ch f) : recvP f d 4 = f 4 ∨ recvP f d 4 = f 4 + 1 := by
  obtain ⟨m, hJ, hs⟩ := h
  have hm := hJ.2.1
  unfold recvP
  split
  · left; simp only [upd]; rw [if_neg (by omega), if_neg (by omega)]
  · split
    · left; rw [peelP_4 (by omega), knowP_4 4 (by omega)]; simp only [upd]; rw [if_neg (by omega)]
    · split
      · right; simp only [upd, if_true]
      · left
        rw [hJ.2.2.1, nI_clamp (by omega)]
        simp only [keepP]
        simp only [upd]
        rw [if_neg (by omega), if_neg (by omega), if_neg (by omega), if_neg (by omega)]
theorem prF_4 {r f : Nat → Int32} {n sd u : Nat} (hn : r 2 = nI n) (hn0 : 0 < n) (hn16 : n ≤ 16) (h : zCI n (chR r) f) (hu : f 4 = nI u) : ∀ k, ∃ u', prF r f sd k 4 = nI u' ∧ u' ≤ u + k
  | 0 => ⟨u, hu, Nat.le_refl _⟩
  | k + 1 => by
    obtain ⟨u', g1, g2⟩ := prF_4 (sd := sd) hn hn0 hn16 h hu k
    rcases recvP_4 (d := dPR r ((sd + k) % 65536)) (prF_CI (sd := sd) hn hn0 hn16 h k) with e | e
    · exact ⟨u', by rw [← g1]; exact e, by omega⟩
    · exact ⟨u' + 1, by rw [← nI_1, ← g1]; exact e, by omega⟩
theorem SI_pour {b : Nat} {r : Nat → Int32} {y sd mn : Int32} (h : SI b r) : SI (b + 99) (opPour r y sd mn).2 := by
  obtain ⟨w, ls, n, cn, i0, iw, i1, il, i2, i3, i4, i5, i6, i7, i8⟩ := id h
  unfold opPour
  cases hz : cpI r y with
  | none => exact SI_mono h (by omega)
  | some i =>
    obtain ⟨hi, -⟩ := cpI_some i4 i5 hz
    dsimp only
    split
    · exact SI_mono h (by omega)
    · rename_i he
      obtain ⟨s0, m0, hs, hm0, hm, rfl, rfl, hn0⟩ := errD_ok i2 i3 he
      rw [nI_clamp (by omega), nI_clamp (by omega)]
      obtain ⟨u, u1, u2⟩ := i8 i (by omega)
      obtain ⟨u', v1, v2⟩ := prF_4 (sd := s0) i2 hn0 i3 (i6 i (by omega)) u1 m0
      have h1 : SI (b + 99) (putC r i (prF r (cupR r i) s0 m0)) := SI_putC h (by omega) i2 i3 i4 i5 hi (prF_hi i2 hn0 i3 (i6 i (by omega)) (cupR_hi r i) m0) (prF_CI i2 hn0 i3 (i6 i (by omega)) m0) ⟨u', v1, by omega⟩
      obtain ⟨w', ls', n', cn', k0, kw, k1, kl, k2, k3, k4, k5, k6, k7, k8⟩ := h1
      refine ⟨w', ls', n', cn', k0, kw, k1, kl, k2, k3, k4, k5, ?_, ?_, ?_⟩
      · intro i hi; rw [cupR_upd (by omega), chR_upd (by omega)]; exact k6 i hi
      · intro i h1 h2; rw [cupR_upd (by omega)]; exact k7 i h1 h2
      · intro i hi; rw [cupR_upd (by omega)]; exact k8 i hi
theorem SI_solve {b : Nat} {r : Nat → Int32} {y : Int32} (h : SI b r) : SI b (opSolve r y).2 := by
  obtain ⟨w, ls, n, cn, i0, iw, i1, il, i2, i3, i4, i5, i6, i7, i8⟩ := id h
  unfold opSolve
  cases hz : cpI r y with
  | none => exact h
  | some i =>
    obtain ⟨hi, -⟩ := cpI_some i4 i5 hz
    obtain ⟨m, hJ, hs⟩ := i6 i (by omega)
    obtain ⟨u, u1, u2⟩ := i8 i (by omega)
    refine SI_putC h (Nat.le_refl _) i2 i3 i4 i5 hi (fun j hj => (slvP_hi hJ j hj).trans (cupR_hi r i j hj)) (zCJ_all hJ).2 ⟨u, ?_, u2⟩
    unfold slvP
    rw [peelP_4 (by omega), ← u1]
    rfl
/-- an order of a text carried out -/
noncomputable def opOrd (r : Nat → Int32) (T : Nat → Nat) (n p : Nat) : Int32 × (Nat → Int32) :=
  if sg T n p = 99 then opChapter r (nI (rdO T n p).2.2.2.1) else if sg T n p = 117 then opCup r
  else if sg T n p = 112 then opPour r (nI (rdO T n p).2.2.1) (nI (rdO T n p).2.2.2.1) (nI (rdO T n p).2.2.2.2) else opSolve r (nI (rdO T n p).2.2.1)
theorem SI_ord {b : Nat} {r : Nat → Int32} {T : Nat → Nat} {n p : Nat} (h : SI b r) : SI (b + 99) (opOrd r T n p).2 := by
  unfold opOrd
  split
  · exact SI_mono (SI_chapter h) (by omega)
  · split
    · exact SI_mono (SI_cup h) (by omega)
    · split
      · exact SI_pour h
      · exact SI_mono (SI_solve h) (by omega)
/-- an error changes nothing -/
theorem opSet_neg {b : Nat} {r : Nat → Int32} {s v : Int32} (h : SI b r) (hn : (opSet r s v).1 < 0) : (opSet r s v).2 = r := by
  obtain ⟨w, ls, n, cn, i0, iw, i1, il, -⟩ := h
  unfold opSet at hn ⊢
  split
  · rename_i hc
    rw [if_pos hc] at hn
    exact absurd hn (by show ¬ r 0 < 0; rw [i0]; exact nI_pos (by omega))
  · rename_i hc
    rw [if_neg hc] at hn
    split
    · rename_i hc2
      rw [if_pos hc2] at hn
      exact absurd hn (by show ¬ r 1 < 0; rw [i1]; exact nI_pos (by omega))
    · rfl
theorem opChapter_neg {b : Nat} {r : Nat → Int32} {v : Int32} (h : SI b r) (hn : (opChapter r v).1 < 0) : (opChapter r v).2 = r := by
  obtain ⟨w, ls, n, cn, i0, iw, i1, il, i2, i3, -⟩ := h
  unfold opChapter at hn ⊢
  by_cases h1 : zin3 v 0 65535 = false
  · rw [if_pos h1]
  · rw [if_neg h1] at hn ⊢
    by_cases h2 : 0 < r 3
    · rw [if_pos h2]
    · rw [if_neg h2] at hn ⊢
      by_cases h3 : r 2 = 16
      · rw [if_pos h3]
      · rw [if_neg h3] at hn
        exact absurd hn (by show ¬ r 2 < 0; rw [i2]; exact nI_pos (by omega))
theorem opCup_neg {b : Nat} {r : Nat → Int32} (h : SI b r) (hn : (opCup r).1 < 0) : (opCup r).2 = r := by
  obtain ⟨w, ls, n, cn, i0, iw, i1, il, i2, i3, i4, i5, -⟩ := h
  unfold opCup at hn ⊢
  by_cases h1 : r 3 = 3
  · rw [if_pos h1]
  · rw [if_neg h1] at hn
    exact absurd hn (by show ¬ r 3 < 0; rw [i4]; exact nI_pos (by omega))
theorem opEmpty_neg {r : Nat → Int32} {y : Int32} (hn : (opEmpty r y).1 < 0) : (opEmpty r y).2 = r := by
  unfold opEmpty at hn ⊢
  cases hz : cpI r y with
  | none => rfl
  | some i =>
    rw [hz] at hn
    have := zcnt_le (zb (cupR r i 0)) 16
    exact absurd hn (nI_pos (by omega))
