/-- the reference's object holds: row, past, slots, pad -/
def zRM (L : zL) (m : Nat) (G : zG) (r : Nat → Int32) (h : Nat → (Nat → Int32)) (c : Nat) (sl : Nat → Option (Nat → Int32)) (T : Nat → Nat) (tn : Nat) : Prop :=
  (m, 8) ∈ L ∧ (∀ k, k < 228 → G m (18 + k) = r k) ∧ G m 6 = nI c ∧ c ≤ 6 ∧ (∀ k, k < c → ∀ j, j < 228 → G m (246 + 228 * k + j) = h k j) ∧
  (∀ j, j < 2 → (sl j = none ∧ G m (2526 + j) = 0) ∨ ∃ r', sl j = some r' ∧ G m (2526 + j) = 1 ∧ ∀ k, k < 228 → G m (2070 + 228 * j + k) = r' k) ∧
  tn ≤ 80 ∧ G m 8 = nI tn ∧ ∀ i, i < tn → G m (2528 + i) = nI (T i) ∧ T i < 128
theorem zRM_T {G : zG} {m : Nat} {r : Nat → Int32} (h : ∀ k, k < 228 → G m (18 + k) = r k) : mT G m (G m) r = G := by
  unfold mT
  rw [show mG (G m) r = G m from ?_, zst_self]
  funext j
  unfold mG
  split
  · rw [← h _ (by omega), show 18 + (j - 18) = j by omega]
  · rfl
/-- only scratch is touched: row told anew -/
theorem zRM_fr {L : zL} {m : Nat} {G G' : zG} {r r' : Nat → Int32} {h : Nat → (Nat → Int32)} {c : Nat} {sl : Nat → Option (Nat → Int32)} {T : Nat → Nat} {tn : Nat} (hR : zRM L m G r h c sl T tn) (h1 : ∀ k, k < 228 → G' m (18 + k) = r' k) (h2 : ∀ j, (j = 6 ∨ j = 8 ∨ (246 ≤ j ∧ j < 1614) ∨ (2070 ≤ j ∧ j < 2608)) → G' m j = G m j) : zRM L m G' r' h c sl T tn := by
  obtain ⟨a1, a2, a3, a4, a5, a6, a7, a8, a9⟩ := hR
  refine ⟨a1, h1, by rw [h2 _ (by omega)]; exact a3, a4, fun k hk j hj => by rw [h2 _ (by omega)]; exact a5 k hk j hj, fun j hj => ?_, a7, by rw [h2 _ (by omega)]; exact a8, fun i hi => by rw [h2 _ (by omega)]; exact a9 i hi⟩
  rcases a6 j hj with ⟨b1, b2⟩ | ⟨q, b1, b2, b3⟩
  · exact Or.inl ⟨b1, by rw [h2 _ (by omega)]; exact b2⟩
  · exact Or.inr ⟨q, b1, by rw [h2 _ (by omega)]; exact b2, fun k hk => by rw [h2 _ (by omega)]; exact b3 k hk⟩
/-- a state is recorded -/
theorem zRM_rec {L : zL} {m : Nat} {G : zG} {r r0 : Nat → Int32} {h : Nat → (Nat → Int32)} {c : Nat} {sl : Nat → Option (Nat → Int32)} {T : Nat → Nat} {tn : Nat} (hR : zRM L m G r h c sl T tn) (hb : ∀ k, k < 228 → G m (1614 + k) = r0 k) : zRM L m (zst G m (recM (G m) c)) r (pushH h c r0).1 (pushH h c r0).2 sl T tn := by
  obtain ⟨a1, a2, a3, a4, a5, a6, a7, a8, a9⟩ := hR
  have hq : ∀ j, (j ≠ 6 ∧ (j < 246 ∨ 1614 ≤ j)) → recM (G m) c j = G m j := fun j hj => by
    unfold recM
    split
    · simp only [upd]
      rw [if_neg hj.1, cpyM_r (by omega)]
      simp only [upd]
      rw [if_neg hj.1, cpyM_r (by omega)]
    · simp only [upd]
      rw [if_neg hj.1, cpyM_r (by omega)]
  have hs : ∀ j, zst G m (recM (G m) c) m j = recM (G m) c j := fun j => by rw [zst_same]
  have hpast : (recM (G m) c) 6 = nI (pushH h c r0).2 ∧ (pushH h c r0).2 ≤ 6 ∧ ∀ k, k < (pushH h c r0).2 → ∀ j, j < 228 → recM (G m) c (246 + 228 * k + j) = (pushH h c r0).1 k j := by
    by_cases e : c = 6
    · subst e
      have e1 : pushH h 6 r0 = (fun k => if k = 5 then r0 else h (k + 1), 6) := rfl
      have e2 : recM (G m) 6 = upd (cpyM (upd (cpyM (G m) 246 474 1140) 6 (nI 5)) 1386 1614 228) 6 (nI 6) := rfl
      rw [e1, e2]
      refine ⟨if_pos rfl, Nat.le_refl _, fun k hk j hj => ?_⟩
      have hk' : k < 6 := hk
      show upd _ 6 (nI 6) (246 + 228 * k + j) = (if k = 5 then r0 else h (k + 1)) j
      simp only [upd]
      rw [if_neg (by omega)]
      by_cases ek : k = 5
      · subst ek
        rw [if_pos rfl, show 246 + 228 * 5 + j = 1386 + j by omega, cpyM_i hj]
        simp only [upd]
        rw [if_neg (by omega), cpyM_r (by omega)]
        exact hb j hj
      · rw [if_neg ek, cpyM_r (by omega)]
        simp only [upd]
        rw [if_neg (by omega), show 246 + 228 * k + j = 246 + (228 * k + j) by omega, cpyM_i (by omega), show 474 + (228 * k + j) = 246 + 228 * (k + 1) + j by omega]
        exact a5 (k + 1) (by omega) j hj
    · have e1 : pushH h c r0 = (fun k => if k = c then r0 else h k, c + 1) := by unfold pushH; rw [if_pos (by omega)]
      have e2 : recM (G m) c = upd (cpyM (G m) (246 + 228 * c) 1614 228) 6 (nI (c + 1)) := if_neg e
      rw [e1, e2]
      refine ⟨if_pos rfl, by show c + 1 ≤ 6; omega, fun k hk j hj => ?_⟩
      have hk' : k < c + 1 := hk
      show upd _ 6 (nI (c + 1)) (246 + 228 * k + j) = (if k = c then r0 else h k) j
      simp only [upd]
      rw [if_neg (by omega)]
      by_cases ek : k = c
      · subst ek
        rw [if_pos rfl, cpyM_i hj]
        exact hb j hj
      · rw [if_neg ek, cpyM_r (by omega)]
        exact a5 k (by omega) j hj
  refine ⟨a1, fun k hk => by rw [hs, hq _ (by omega)]; exact a2 k hk, by rw [hs]; exact hpast.1, hpast.2.1, fun k hk j hj => by rw [hs]; exact hpast.2.2 k hk j hj, fun j hj => ?_, a7, by rw [hs, hq _ (by omega)]; exact a8, fun i hi => by rw [hs, hq _ (by omega)]; exact a9 i hi⟩
  rcases a6 j hj with ⟨b1, b2⟩ | ⟨q, b1, b2, b3⟩
  · exact Or.inl ⟨b1, by rw [hs, hq _ (by omega)]; exact b2⟩
  · exact Or.inr ⟨q, b1, by rw [hs, hq _ (by omega)]; exact b2, fun k hk => by rw [hs, hq _ (by omega)]; exact b3 k hk⟩
def remM (g : Nat → Int32) : Nat → Int32 := cpyM g 1614 18 228
theorem remM_T {G : zG} {m : Nat} {r : Nat → Int32} (h : ∀ k, k < 228 → G m (18 + k) = r k) : zst G m (cpyM (G m) 1614 18 228) = mT G m (remM (G m)) r := by
  unfold mT
  congr 1
  funext j
  unfold mG remM
  split
  · rw [cpyM_r (by omega), ← h _ (by omega), show 18 + (j - 18) = j by omega]
  · rfl
theorem rm_fr {L : zL} {m : Nat} {G : zG} {r r' g2 : Nat → Int32} {h : Nat → (Nat → Int32)} {c : Nat} {sl : Nat → Option (Nat → Int32)} {T : Nat → Nat} {tn : Nat} (hR : zRM L m G r h c sl T tn) (hg : gF (remM (G m)) g2) : zRM L m (mT G m g2 r') r' h c sl T tn := by
  refine zRM_fr hR (fun k hk => mT_at hk) (fun j hj => ?_)
  rw [mT_o (by omega), hg j (by omega) (by omega)]
  exact cpyM_r (by omega)
theorem rm_rec {L : zL} {m : Nat} {G : zG} {r r' g2 : Nat → Int32} {h : Nat → (Nat → Int32)} {c : Nat} {sl : Nat → Option (Nat → Int32)} {T : Nat → Nat} {tn : Nat} (hR : zRM L m G r h c sl T tn) (hg : gF (remM (G m)) g2) : zRM L m (zst (mT G m g2 r') m (recM (mT G m g2 r' m) c)) r' (pushH h c r).1 (pushH h c r).2 sl T tn := by
  refine zRM_rec (rm_fr hR hg) (fun k hk => ?_)
  rw [mT_o (by omega), hg _ (by omega) (by omega), ← hR.2.1 k hk]
  exact cpyM_i hk
theorem mT_ne {G : zG} {m y : Nat} {g r : Nat → Int32} (h : y ≠ m) : mT G m g r y = G y := zst_ne _ _ h
theorem mT_6 {L : zL} {m : Nat} {G : zG} {r r' g2 : Nat → Int32} {h : Nat → (Nat → Int32)} {c : Nat} {sl : Nat → Option (Nat → Int32)} {T : Nat → Nat} {tn : Nat} (hR : zRM L m G r h c sl T tn) (hg : gF (remM (G m)) g2) : mT G m g2 r' m 6 = nI c := (rm_fr (r' := r') hR hg).2.2.1
theorem zin_lt {c : Int32} {n : Nat} (hn : n < 2 ^ 31) : zin3 c 0 (nI n - 1) = true ↔ ∃ j, j < n ∧ c = nI j := by
  rcases Nat.eq_zero_or_pos n with h0 | h0
  · subst h0
    constructor
    · intro hy
      exfalso
      unfold zin3 at hy
      rw [Bool.and_eq_true, decide_eq_true_eq, decide_eq_true_eq] at hy
      have h1 := Int32.le_iff_toInt_le.mp hy.1
      have h2 := Int32.le_iff_toInt_le.mp hy.2
      have e1 : (0 : Int32).toInt = 0 := by decide
      have e2 : (nI 0 - 1).toInt = -1 := by decide
      omega
    · rintro ⟨j, hj, -⟩
      omega
  · rw [show nI n - 1 = nI (n - 1) by rw [show (1 : Int32) = nI 1 from rfl]; exact pk_sub (by omega), zin3_iff (m := n - 1) (by omega)]
    constructor
    · rintro ⟨j, hj, e⟩; exact ⟨j, by omega, e⟩
    · rintro ⟨j, hj, e⟩; exact ⟨j, by omega, e⟩
theorem kn_iff {c : Int32} {n : Nat} (hn : n ≤ 16) : (zin3 c 0 15 = true ∧ c < nI n) ↔ ∃ j, j < n ∧ c = nI j := by
  constructor
  · rintro ⟨h1, h2⟩
    obtain ⟨j, hj, e⟩ := (zin3_iff (m := 15) (by decide)).mp h1
    subst e
    exact ⟨j, (nI_ltI (by omega) (by omega)).mp h2, rfl⟩
  · rintro ⟨j, hj, rfl⟩
    exact ⟨(zin3_iff (m := 15) (by decide)).mpr ⟨j, by omega, rfl⟩, nI_lt hj (by omega)⟩
theorem kp_iff {c : Int32} {n : Nat} (hn : n ≤ 24) : (zin3 c 0 23 = true ∧ c < nI n) ↔ ∃ j, j < n ∧ c = nI j := by
  constructor
  · rintro ⟨h1, h2⟩
    obtain ⟨j, hj, e⟩ := (zin3_iff (m := 23) (by decide)).mp h1
    subst e
    exact ⟨j, (nI_ltI (by omega) (by omega)).mp h2, rfl⟩
  · rintro ⟨j, hj, rfl⟩
    exact ⟨(zin3_iff (m := 23) (by decide)).mpr ⟨j, by omega, rfl⟩, nI_lt hj (by omega)⟩
theorem cupR_at {r : Nat → Int32} {i k : Nat} (h : k < 69) : cupR r i k = r (21 + 69 * i + k) := if_pos h
theorem mkM_o {g d : Nat → Int32} {j : Nat} (h : j < 12 ∨ 16 ≤ j) : mkM g d j = g j := by
  simp only [mkM, upd]
  rw [if_neg (by omega), if_neg (by omega), if_neg (by omega), if_neg (by omega)]
theorem zRM_undo {L : zL} {m : Nat} {G : zG} {r : Nat → Int32} {h : Nat → (Nat → Int32)} {c : Nat} {sl : Nat → Option (Nat → Int32)} {T : Nat → Nat} {tn : Nat} (hR : zRM L m G r h c sl T tn) (hc : 0 < c) : zRM L m (zst G m (cpyM (upd (G m) 6 (nI (c - 1))) 18 (246 + 228 * (c - 1)) 228)) (h (c - 1)) h (c - 1) sl T tn := by
  obtain ⟨a1, a2, a3, a4, a5, a6, a7, a8, a9⟩ := hR
  have hs : ∀ j, j ≠ 6 → (j < 18 ∨ 246 ≤ j) → zst G m (cpyM (upd (G m) 6 (nI (c - 1))) 18 (246 + 228 * (c - 1)) 228) m j = G m j := fun j h1 h2 => by
    rw [zst_same, cpyM_r (by omega)]
    simp only [upd]
    rw [if_neg h1]
  refine ⟨a1, fun k hk => ?_, by rw [zst_same, cpyM_r (by omega)]; exact if_pos rfl, by omega, fun k hk j hj => by rw [hs _ (by omega) (by omega)]; exact a5 k (by omega) j hj, fun j hj => ?_, a7, by rw [hs _ (by omega) (by omega)]; exact a8, fun i hi => by rw [hs _ (by omega) (by omega)]; exact a9 i hi⟩
  · rw [zst_same, cpyM_i hk]
    simp only [upd]
    rw [if_neg (by omega)]
    exact a5 (c - 1) (by omega) k hk
  · rcases a6 j hj with ⟨b1, b2⟩ | ⟨q, b1, b2, b3⟩
    · exact Or.inl ⟨b1, by rw [hs _ (by omega) (by omega)]; exact b2⟩
    · exact Or.inr ⟨q, b1, by rw [hs _ (by omega) (by omega)]; exact b2, fun k hk => by rw [hs _ (by omega) (by omega)]; exact b3 k hk⟩
theorem zRM_save {L : zL} {m j : Nat} {G : zG} {r : Nat → Int32} {h : Nat → (Nat → Int32)} {c : Nat} {sl : Nat → Option (Nat → Int32)} {T : Nat → Nat} {tn : Nat} (hR : zRM L m G r h c sl T tn) (hj : j < 2) : zRM L m (zst G m (upd (cpyM (G m) (2070 + 228 * j) 18 228) (2526 + j) 1)) r h c (setO sl j (some r)) T tn := by
  obtain ⟨a1, a2, a3, a4, a5, a6, a7, a8, a9⟩ := hR
  have hs : ∀ y, y ≠ 2526 + j → (y < 2070 + 228 * j ∨ 2070 + 228 * j + 228 ≤ y) → zst G m (upd (cpyM (G m) (2070 + 228 * j) 18 228) (2526 + j) 1) m y = G m y := fun y h1 h2 => by
    rw [zst_same]
    simp only [upd]
    rw [if_neg h1, cpyM_r h2]
  refine ⟨a1, fun k hk => by rw [hs _ (by omega) (by omega)]; exact a2 k hk, by rw [hs _ (by omega) (by omega)]; exact a3, a4, fun k hk y hy => by rw [hs _ (by omega) (by omega)]; exact a5 k hk y hy, fun k hk => ?_, a7, by rw [hs _ (by omega) (by omega)]; exact a8, fun i hi => by rw [hs _ (by omega) (by omega)]; exact a9 i hi⟩
  by_cases e : k = j
  · subst e
    rw [setO_s]
    refine Or.inr ⟨r, rfl, by rw [zst_same]; exact if_pos rfl, fun y hy => ?_⟩
    rw [zst_same]
    simp only [upd]
    rw [if_neg (by omega), cpyM_i hy]
    exact a2 y hy
  · rw [setO_n e]
    rcases a6 k hk with ⟨b1, b2⟩ | ⟨q, b1, b2, b3⟩
    · exact Or.inl ⟨b1, by rw [hs _ (by omega) (by omega)]; exact b2⟩
    · exact Or.inr ⟨q, b1, by rw [hs _ (by omega) (by omega)]; exact b2, fun y hy => by rw [hs _ (by omega) (by omega)]; exact b3 y hy⟩
