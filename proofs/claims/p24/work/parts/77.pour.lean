/-! one droplet poured: what the cup holds then, and what the law has laid of it -/
theorem zRC_to {L L' : zL} {x nx nx' : Nat} {G G' : zG} {r : Nat → Int32} {h : Nat → (Nat → Int32)} {c : Nat} {sl : Nat → Option (Nat → Int32)} {T : Nat → Nat} {tn : Nat} (hR : zRC L x nx G r h c sl T tn) (hsl : ∀ j, j < 2 → sl j = none) (hL : ∀ b ∈ L, b ∈ L') (hG : ∀ y, y < x + 134 → G' y = G y) : zRC L' x nx' G' r h c sl T tn := by
  obtain ⟨⟨g1, g2, g3, g4, g5, g6, g7, g8⟩, ⟨⟨c1, c2⟩, c3, c4⟩, ⟨f, b1, b2, b3, b4, b5, b6⟩, ⟨ad, a4⟩, a5⟩ := hR
  have hSt : ∀ s, zSt L s → zSt L' s := fun s hs => ⟨hL _ hs.1, fun i hi => hL _ (hs.2 i hi)⟩
  refine ⟨⟨hL _ g1, hSt _ g2, ⟨hL _ g3.1, fun j hj => hSt _ (g3.2 j hj)⟩, hL _ g4, hL _ g5, hL _ g6, hL _ g7, hL _ g8⟩,
    ⟨⟨by rw [hG _ (by omega)]; exact c1, fun k hk => by rw [hG _ (by omega)]; exact c2 k hk⟩, fun j hj => by rw [hG _ (by omega)]; exact c3 j hj, fun j hj => by rw [hG _ (by omega)]; exact c4 j hj⟩,
    ⟨f, b1, by rw [hG _ (by omega)]; exact b2, by rw [hG _ (by omega)]; exact b3, b4, fun j hj => ?_, fun k hk => ?_⟩, ⟨ad, fun j hj => Or.inl ⟨hsl j hj, ?_⟩, fun r0 r1 e0 => ?_⟩, ?_⟩
  · obtain ⟨q, hq⟩ := b5 j hj
    exact ⟨q, stOK_of hq (fun y g1 g2 => hG _ (by omega))⟩
  · exact stOK_of (b6 k hk) (fun y g1 g2 => hG _ (by omega))
  · rw [hG _ (by omega)]
    rcases a4.1 j hj with ⟨-, e⟩ | ⟨r', e, -⟩
    · exact e
    · rw [hsl j hj] at e; cases e
  · rw [hsl 0 (by omega)] at e0; cases e0
  · obtain ⟨p1, p2, p3, p4⟩ := a5
    exact ⟨hL _ p1, p2, by rw [hG _ (by omega)]; exact p3, fun i hi => by rw [hG _ (by omega)]; exact p4 i hi⟩
theorem errD_0 {r : Nat → Int32} {n sd : Nat} (h2 : r 2 = nI n) (hn0 : 0 < n) (hn : n ≤ 16) (hsd : sd < 65536) : errD r (nI sd) 1 = 0 := by
  unfold errD
  rw [show zin3 (nI sd) 0 65535 = true from zin3_nI (m := 65535) (show sd ≤ 65535 by omega) (by decide), show zin3 1 1 99 = true by decide, h2]
  rw [if_neg (by simp), if_neg (nI_ne0 hn0 (by omega))]
theorem opPour_1 {r : Nat → Int32} {n cn i sd : Nat} (h2 : r 2 = nI n) (hn0 : 0 < n) (hn : n ≤ 16) (h3 : r 3 = nI cn) (hc : cn ≤ 3) (hi : i < cn) (hsd : sd < 65536) : opPour r (nI i) (nI sd) 1 = (recvR (cupR r i) (dPR r sd), upd (putC r i (recvP (cupR r i) (dPR r sd))) 4 (r 4 + 1)) := by
  unfold opPour
  rw [cpI_at h3 hc hi]
  dsimp only
  rw [errD_0 h2 hn0 hn hsd, if_neg (by decide), nI_clamp (by omega), show (1 : Int32).toNatClampNeg = 0 + 1 by decide]
  have e : (sd + 0) % 65536 = sd := by omega
  simp only [prR, prF, e]
  rw [Int32.zero_add]
theorem qWould_at {r : Nat → Int32} {n cn i sd : Nat} (h2 : r 2 = nI n) (hn0 : 0 < n) (hn : n ≤ 16) (h3 : r 3 = nI cn) (hc : cn ≤ 3) (hi : i < cn) (hsd : sd < 65536) : qWould r (nI i) (nI sd) = if ¬ dPR r sd 0 = 0 then 0 else if 0 < recvR (cupR r i) (dPR r sd) then 2 + recvR (cupR r i) (dPR r sd) else if cupR r i 4 < recvP (cupR r i) (dPR r sd) 4 then 1 else 2 := by
  unfold qWould
  rw [cpI_at h3 hc hi]
  dsimp only
  rw [errD_0 h2 hn0 hn hsd, if_neg (by decide), nI_clamp (by omega)]
def wouldV (f d : Nat → Int32) : Int32 := if ¬ d 0 = 0 then 0 else if 0 < recvR f d then 2 + recvR f d else if f 4 < recvP f d 4 then 1 else 2
/-- all that the law looks at behind a pour -/
def PO (n : Nat) (ch f d g : Nat → Int32) (m' : Nat) (V LO : Int32) : Prop :=
  zCJ n ch (recvP f d) m' ∧ zsz (recvP f d) m' ∧ Rl g (recvP f d) m' ∧ recvR f d = nI (zcnt (zb (recvP f d 0)) 16) - nI (zcnt (zb (f 0)) 16) ∧ zcnt (zb (f 0)) 16 ≤ zcnt (zb (recvP f d 0)) 16 ∧
  wouldV f d = V ∧ recvP f d 2 = f 2 + 1 ∧ recvP f d 3 = f 3 + LO ∧ recvP f d 4 = f 4 + (if V = 1 then 1 else 0) ∧ (LO = 0 ∨ LO = 1) ∧ (LO = 1 → V ≠ 1)
theorem zcnt_sb {p q : Nat → Bool} : ∀ {n : Nat}, (∀ k, k < n → p k = true → q k = true) → zcnt p n ≤ zcnt q n
  | 0, _ => Nat.le_refl _
  | n + 1, h => by
    have ih := zcnt_sb (p := p) (q := q) (n := n) (fun k hk => h k (by omega))
    show zcnt p n + (if p n = true then 1 else 0) ≤ zcnt q n + (if q n = true then 1 else 0)
    by_cases e : p n = true
    · rw [if_pos e, if_pos (h n (by omega) e)]; omega
    · rw [if_neg e]; omega
theorem peelS_0 {f : Nat → Int32} {r j : Nat} (h : zb (f 0) j = true) : zb (peelS f r 0) j = true := by
  have e0 : takeP f r 0 = f 0 := by simp only [takeP, takeA]; grind
  unfold peelS
  split
  · rw [e0]; exact h
  · have e1 : knowP (takeP f r) (zlow (f (21 + r))) (f (45 + r)) 0 = takeP f r 0 ||| bt (zlow (f (21 + r))) := by simp only [knowP, knowA]; simp
    rw [e1, zb_or, e0, h]
    rfl
theorem peelP_0 {j : Nat} : ∀ (k : Nat) (f : Nat → Int32), zb (f 0) j = true → zb (peelP k f 0) j = true
  | 0, f, h => h
  | k + 1, f, h => by
    unfold peelP
    cases zfind (zsmall f) (f 1).toNatClampNeg with
    | none => exact h
    | some r => exact peelP_0 k _ (peelS_0 h)
theorem PO_A {n : Nat} {ch f d g : Nat → Int32} {m : Nat} (hJ : zCJ n ch f m) (hs : zsz f m) (hd : d 0 = 1) (hg : ∀ k, k < 25 → g k = if k < m then f (21 + k) else 0) : PO n ch f d g m 0 1 ∧ recvP f d 0 = f 0 := by
  have hd0 : ¬ d 0 = 0 := by rw [hd]; decide
  have e : recvP f d = upd (upd f 2 (f 2 + 1)) 3 (f 3 + 1) := by unfold recvP; rw [if_pos hd0]
  have e0 : recvP f d 0 = f 0 := by rw [e]; rfl
  have ej : ∀ j, 5 ≤ j → recvP f d j = f j := fun j hj => by rw [e]; simp only [upd]; rw [if_neg (by omega), if_neg (by omega)]
  have e1 : recvP f d 1 = f 1 := by rw [e]; rfl
  refine ⟨⟨zCJ_congr hJ e0 e1 (fun j h1 _ => ej j h1), fun r hr => by rw [ej _ (by omega)]; exact hs r hr, Rl_congr (Rl_kept hJ hs hg) e0 (fun j h1 _ => ej j (by omega)), ?_, by rw [e0]; exact Nat.le_refl _, ?_, by rw [e]; rfl, by rw [e]; rfl, ?_, Or.inr rfl, fun _ => by decide⟩, e0⟩
  · rw [e0, Int32.sub_self]
    unfold recvR
    rw [if_pos hd0]
  · unfold wouldV
    rw [if_pos hd0]
  · rw [if_neg (by decide), Int32.add_zero, e]
    rfl
theorem PO_D {n : Nat} {ch f d g : Nat → Int32} {m u : Nat} (hJ : zCJ n ch f m) (hs : zsz f m) (hd : d 0 = 0) (h1 : ¬ zcnt (zb (recvS f d)) 16 = 1) (h2 : zcnt (zb (recvS f d)) 16 = 0 ∨ m = 24) (hu : f 4 = nI u) (hu2 : u < 2 ^ 30) (hg : ∀ k, k < 25 → g k = if k < m then f (21 + k) else 0) : PO n ch f d g m 1 0 ∧ recvP f d 0 = f 0 := by
  have hd0 : ¬ ¬ d 0 = 0 := fun h => h hd
  have e : recvP f d = upd (upd f 2 (f 2 + 1)) 4 (f 4 + 1) := by
    unfold recvP
    rw [if_neg hd0, if_neg h1, if_pos (h2.imp id (fun h => by rw [hJ.2.2.1, h]; rfl))]
  have e0 : recvP f d 0 = f 0 := by rw [e]; rfl
  have e1 : recvP f d 1 = f 1 := by rw [e]; rfl
  have e4 : recvP f d 4 = f 4 + 1 := by rw [e]; rfl
  have ej : ∀ j, 5 ≤ j → recvP f d j = f j := fun j hj => by rw [e]; simp only [upd]; rw [if_neg (by omega), if_neg (by omega)]
  have er : recvR f d = nI (zcnt (zb (recvP f d 0)) 16) - nI (zcnt (zb (f 0)) 16) := by unfold recvR; rw [if_neg hd0]
  refine ⟨⟨zCJ_congr hJ e0 e1 (fun j h1 _ => ej j h1), fun r hr => by rw [ej _ (by omega)]; exact hs r hr, Rl_congr (Rl_kept hJ hs hg) e0 (fun j h1 _ => ej j (by omega)), er, by rw [e0]; exact Nat.le_refl _, ?_, by rw [e]; rfl, ?_, ?_, Or.inl rfl, fun h => by cases h⟩, e0⟩
  · unfold wouldV
    rw [if_neg hd0, er, e0, Int32.sub_self, if_neg (by decide), e4, hu, nI_1, if_pos (nI_lt (by omega) (by omega))]
  · rw [Int32.add_zero, e]; rfl
  · rw [if_pos rfl]; exact e4
theorem PO_C {n : Nat} {ch f d g : Nat → Int32} {m : Nat} (hJ : zCJ n ch f m) (hs : zsz f m) (hD : zDO n ch d) (hd : d 0 = 0) (h1 : ¬ zcnt (zb (recvS f d)) 16 = 1) (h2 : ¬ zcnt (zb (recvS f d)) 16 = 0) (hm : m < 24) (hg : ∀ k, k < 25 → g k = if k < m then f (21 + k) else if k = m then recvS f d else 0) : PO n ch f d g (m + 1) 2 0 ∧ recvP f d 0 = f 0 := by
  have hd0 : ¬ ¬ d 0 = 0 := fun h => h hd
  have h24 : ¬ (zcnt (zb (recvS f d)) 16 = 0 ∨ f 1 = 24) := fun h => h.elim h2 (fun h => by
    rw [hJ.2.2.1] at h
    have := (nI_eq (b := 24) (by omega) (by decide)).mp h
    omega)
  have e : recvP f d = keepP (upd f 2 (f 2 + 1)) m (recvS f d) (recvV f d) := by
    unfold recvP
    rw [if_neg hd0, if_neg h1, if_neg h24, hJ.2.2.1, nI_clamp (by omega)]
  have hI : zCI n ch (recvP f d) := zCI_recv ⟨m, hJ, hs⟩ hD
  obtain ⟨m2, hJ2, hs2⟩ := hI
  have e0 : recvP f d 0 = f 0 := by rw [e]; simp only [keepP, upd]; grind
  have e1 : recvP f d 1 = nI (m + 1) := by rw [e]; simp [keepP, upd]
  have em : m2 = m + 1 := (nI_eq (by have := hJ2.2.1; omega) (by omega)).mp (hJ2.2.2.1.symm.trans e1)
  subst em
  have er : recvR f d = nI (zcnt (zb (recvP f d 0)) 16) - nI (zcnt (zb (f 0)) 16) := by unfold recvR; rw [if_neg hd0]
  have e21 : ∀ r, r < 24 → recvP f d (21 + r) = if r = m then recvS f d else f (21 + r) := fun r hr => by rw [e]; simp only [keepP, upd]; grind
  have hgs : ∀ k, k < 25 → g k = if k < m + 1 then recvP f d (21 + k) else 0 := fun k hk => by
    rw [hg k hk]
    by_cases e1 : k < m
    · rw [if_pos e1, if_pos (by omega), e21 k (by omega), if_neg (by omega)]
    · rw [if_neg e1]
      by_cases e2 : k = m
      · rw [if_pos e2, if_pos (by omega), e21 k (by omega), if_pos e2]
      · rw [if_neg e2, if_neg (by omega)]
  have e4 : recvP f d 4 = f 4 := by rw [e]; simp only [keepP, upd]; grind
  have hnl : ¬ f 4 < f 4 := i32_nlt.mpr (Int32.le_refl _)
  refine ⟨⟨hJ2, hs2, Rl_kept hJ2 hs2 hgs, er, by rw [e0]; exact Nat.le_refl _, ?_, ?_, ?_, ?_, Or.inl rfl, fun h => by cases h⟩, e0⟩
  · unfold wouldV
    rw [if_neg hd0, er, e0, Int32.sub_self, if_neg (by decide), e4, if_neg hnl]
  · rw [e]; simp only [keepP, upd]; grind
  · rw [Int32.add_zero, e]; simp only [keepP, upd]; grind
  · rw [if_neg (by decide), Int32.add_zero]; exact e4
theorem PO_B {n : Nat} {ch f d g : Nat → Int32} {m m' : Nat} (hJ : zCJ n ch f m) (hs : zsz f m) (hD : zDO n ch d) (hd : d 0 = 0) (h1 : zcnt (zb (recvS f d)) 16 = 1)
    (hJ' : zCJ n ch (peelP 24 (knowP (upd f 2 (f 2 + 1)) (zlow (recvS f d)) (recvV f d))) m') (hR : Rl g (peelP 24 (knowP (upd f 2 (f 2 + 1)) (zlow (recvS f d)) (recvV f d))) m') :
    PO n ch f d g m' (2 + nI (zcnt (zb (recvP f d 0)) 16) - nI (zcnt (zb (f 0)) 16)) 0 ∧ recvP f d = peelP 24 (knowP (upd f 2 (f 2 + 1)) (zlow (recvS f d)) (recvV f d)) := by
  have hd0 : ¬ ¬ d 0 = 0 := fun h => h hd
  obtain ⟨c1, c2, c3, c4⟩ := recv_one hJ hD h1
  have hn := hJ.1
  have e : recvP f d = peelP 24 (knowP (upd f 2 (f 2 + 1)) (zlow (recvS f d)) (recvV f d)) := by
    unfold recvP
    rw [if_neg hd0, if_pos h1]
  rw [← e] at hJ' hR
  have hI : zCI n ch (recvP f d) := zCI_recv ⟨m, hJ, hs⟩ hD
  obtain ⟨m2, hJ2, hs2⟩ := hI
  have em : m2 = m' := (nI_eq (by have := hJ2.2.1; omega) (by have := hJ'.2.1; omega)).mp (hJ2.2.2.1.symm.trans hJ'.2.2.1)
  subst em
  have er : recvR f d = nI (zcnt (zb (recvP f d 0)) 16) - nI (zcnt (zb (f 0)) 16) := by unfold recvR; rw [if_neg hd0]
  have h0 : knowP (upd f 2 (f 2 + 1)) (zlow (recvS f d)) (recvV f d) 0 = f 0 ||| bt (zlow (recvS f d)) := (knowP_at (f := upd f 2 (f 2 + 1)) (v := recvV f d) (show zlow (recvS f d) < 16 by omega)).1
  have hlt : zcnt (zb (f 0)) 16 + 1 ≤ zcnt (zb (recvP f d 0)) 16 := by
    rw [← zcnt_or_bt (show zlow (recvS f d) < 16 by omega) c3, ← h0, e]
    exact zcnt_sb (fun k _ hk => peelP_0 24 _ hk)
  have hA := zcnt_le (zb (recvP f d 0)) 16
  have e24 : ∀ k, 2 ≤ k → k < 5 → recvP f d k = upd f 2 (f 2 + 1) k := fun k a b => by
    rw [e, peelP_4 ⟨a, b⟩, knowP_4 k ⟨by omega, b⟩]
  have hV : (2 : Int32) + nI (zcnt (zb (recvP f d 0)) 16) - nI (zcnt (zb (f 0)) 16) = nI (2 + zcnt (zb (recvP f d 0)) 16 - zcnt (zb (f 0)) 16) := by
    rw [show (2 : Int32) = nI 2 from rfl, nI_add, pk_sub (by omega)]
  have hV1 : ¬ (2 : Int32) + nI (zcnt (zb (recvP f d 0)) 16) - nI (zcnt (zb (f 0)) 16) = 1 := fun h => by
    rw [hV] at h
    have := (nI_eq (b := 1) (by omega) (by decide)).mp h
    omega
  refine ⟨⟨hJ2, hs2, hR, er, by omega, ?_, by rw [e24 2 (by omega) (by omega)]; rfl, by rw [e24 3 (by omega) (by omega), Int32.add_zero]; rfl, ?_, Or.inl rfl, fun h => by cases h⟩, e⟩
  · unfold wouldV
    rw [if_neg hd0, er, pk_sub (by omega), if_pos (show (0 : Int32) < nI (zcnt (zb (recvP f d 0)) 16 - zcnt (zb (f 0)) 16) from nI_lt (a := 0) (by omega) (by omega)), hV, show (2 : Int32) = nI 2 from rfl, nI_add]
    congr 1
    omega
  · rw [if_neg hV1, Int32.add_zero, e24 4 (by omega) (by omega)]
    rfl
theorem cupR_up4 {r f : Nat → Int32} {i : Nat} {v : Int32} (hf : ∀ j, 69 ≤ j → f j = 0) : cupR (upd (putC r i f) 4 v) i = f := by
  rw [cupR_upd (by omega), cupR_putC hf]
theorem LQ_pour {t n cn : Nat} {bk r g : Nat → Int32} {i sd m' : Nat} {V LO : Int32} (hQ : LQ t n cn bk r) (ht : t < 2 ^ 29) (hi : i < cn) (hPO : PO n (chR r) (cupR r i) (dPR r sd) g m' V LO) : LQ (t + 1) n cn bk (upd (putC r i (recvP (cupR r i) (dPR r sd))) 4 (r 4 + 1)) := by
  obtain ⟨w, ls, p, h0, hw, h1, hl, h2, hn0, hn, h3, hc0, hc, h4, hp, hI, hz, hbk, hk⟩ := id hQ
  have hD : zDO n (chR r) (dPR r sd) := dPR_DO h2 hn0 hn
  have hhi : ∀ j, 69 ≤ j → recvP (cupR r i) (dPR r sd) j = 0 := fun j hj => (recvP_hi (hI i (by omega)) hD j hj).trans (cupR_hi r i j hj)
  have hup : ∀ j, j < 21 → j ≠ 4 → upd (putC r i (recvP (cupR r i) (dPR r sd))) 4 (r 4 + 1) j = r j := fun j hj h => by
    simp only [upd]
    rw [if_neg h, putC_lo hj]
  have hch : chR (upd (putC r i (recvP (cupR r i) (dPR r sd))) 4 (r 4 + 1)) = chR r := by rw [chR_upd (by omega), chR_putC]
  obtain ⟨a1, a2, a3, a4, a5, a6, a7, a8, a9, a10, a11⟩ := hPO
  refine ⟨w, ls, p + 1, by rw [hup 0 (by omega) (by omega)]; exact h0, hw, by rw [hup 1 (by omega) (by omega)]; exact h1, hl, by rw [hup 2 (by omega) (by omega)]; exact h2, hn0, hn, by rw [hup 3 (by omega) (by omega)]; exact h3, hc0, hc, ?_, by omega, ?_, ?_, ?_, ?_⟩
  · simp only [upd, if_true]
    rw [h4, nI_1]
  · intro k hk3
    rw [hch]
    by_cases e : k = i
    · subst e; rw [cupR_up4 hhi]; exact ⟨m', a1, a2⟩
    · rw [cupR_upd (by omega), cupR_putC_ne e]; exact hI k hk3
  · intro k g1 g2
    rw [cupR_upd (by omega), cupR_putC_ne (by omega)]; exact hz k g1 g2
  · rw [hch]; exact hbk
  · intro k hk3
    by_cases e : k = i
    · subst e
      rw [cupR_up4 hhi]
      obtain ⟨a, b, d, g1, g2, g3, g4, g5⟩ := hk k hk3
      rw [a7, a8, a9, g1, g2, g3, nI_1]
      rcases a10 with e | e
      · subst e
        rw [Int32.add_zero]
        by_cases eV : V = 1
        · rw [if_pos eV, nI_1]
          exact ⟨a + 1, b, d + 1, rfl, rfl, rfl, by omega, by omega⟩
        · rw [if_neg eV, Int32.add_zero]
          exact ⟨a + 1, b, d, rfl, rfl, rfl, by omega, by omega⟩
      · have := a11 e
        subst e
        rw [if_neg this, Int32.add_zero, nI_1]
        exact ⟨a + 1, b + 1, d, rfl, rfl, rfl, by omega, by omega⟩
    · rw [cupR_upd (by omega), cupR_putC_ne e]
      obtain ⟨a, b, d, g1, g2, g3, g4, g5⟩ := hk k hk3
      exact ⟨a, b, d, g1, g2, g3, g4, by omega⟩
theorem zcnt_s0 {p : Nat → Bool} {k : Nat} (h : p k = false) : zcnt p (k + 1) = zcnt p k := by
  show zcnt p k + (if p k = true then 1 else 0) = zcnt p k
  rw [h]; simp
theorem zcnt_s1 {p : Nat → Bool} {k : Nat} (h : p k = true) : zcnt p (k + 1) = zcnt p k + 1 := by
  show zcnt p k + (if p k = true then 1 else 0) = zcnt p k + 1
  rw [h]; simp
theorem nz_on {g f : Nat → Int32} {m k : Nat} (hR : Rl g f m) (hk : k < 25) (h : ¬ lft g (f 0) k = 0) : nzS g k = true ∧ k < 24 ∧ zcnt (nzS g) k < m ∧ f (21 + zcnt (nzS g) k) = lft g (f 0) k := by
  have hg : g k ≠ 0 := fun e => h (by unfold lft; rw [e]; apply zb_ext; intro j _; rw [zb_and, zb_zero]; rfl)
  have hz : nzS g k = true := by simp [nzS, hg]
  have h24 : k < 24 := by
    rcases Nat.lt_or_ge k 24 with g1 | g1
    · exact g1
    · exact absurd (by rw [show k = 24 by omega]; exact hR.1) hg
  exact ⟨hz, h24, by rw [← hR.2.1]; exact zcnt_lt hz h24, hR.2.2 k h24 hg⟩
theorem nz_off {g f : Nat → Int32} {m k : Nat} (hR : Rl g f m) (hs : zsz f m) (hk : k < 25) (h : lft g (f 0) k = 0) : nzS g k = false := by
  cases hz : nzS g k with
  | false => rfl
  | true =>
    exfalso
    have hg : g k ≠ 0 := by simpa [nzS] using hz
    have h24 : k < 24 := by
      rcases Nat.lt_or_ge k 24 with g1 | g1
      · exact g1
      · exact absurd (by rw [show k = 24 by omega]; exact hR.1) hg
    have h1 := hR.2.2 k h24 hg
    have h2 := hs (zcnt (nzS g) k) (by rw [← hR.2.1]; exact zcnt_lt hz h24)
    rw [h1, h] at h2
    have h0 : zcnt (zb 0) 16 = 0 := by decide
    omega
theorem nz_all {g f : Nat → Int32} {m : Nat} (hR : Rl g f m) : zcnt (nzS g) 25 = m := by
  have : nzS g 24 = false := by simp [nzS, hR.1]
  rw [zcnt_s0 this, hR.2.1]
theorem frP {x p : Nat} {G0 G G1 : zG} (h : ∀ y, x + 134 ≤ y → y ≠ p → G y = G0 y) (h1 : zFr x G G1) : ∀ y, x + 134 ≤ y → y ≠ p → G1 y = G0 y := fun y hy hn => (h1 y (by omega)).trans (h y hy hn)
theorem frG {x p : Nat} {G G1 : zG} {g : Nat → Int32} (hx : x + 135 ≤ p) (h : G p = g) (h1 : zFr x G G1) : G1 p = g := (h1 p (by omega)).trans h
