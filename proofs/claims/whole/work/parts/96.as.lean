theorem knowP_u2 {f : Nat → Int32} {c : Nat} {v u : Int32} : knowP (upd f 2 u) c v = upd (knowP f c v) 2 u := by
  funext j
  simp only [knowP, knowA, upd]
  grind
theorem takeP_u2 {f : Nat → Int32} {r : Nat} {u : Int32} : takeP (upd f 2 u) r = upd (takeP f r) 2 u := by
  funext j
  simp only [takeP, takeA, upd]
  grind
theorem upd_n2 {f : Nat → Int32} {j : Nat} {u : Int32} (h : j ≠ 2) : upd f 2 u j = f j := if_neg h
theorem peelS_u2 {f : Nat → Int32} {r : Nat} {u : Int32} : peelS (upd f 2 u) r = upd (peelS f r) 2 u := by
  unfold peelS
  rw [upd_n2 (by omega), upd_n2 (by omega), takeP_u2, knowP_u2]
  split <;> rfl
theorem zsmall_u2 {f : Nat → Int32} {u : Int32} : zsmall (upd f 2 u) = zsmall f := by
  funext k
  unfold zsmall
  simp only [upd_n2 (show 21 + k ≠ 2 by omega)]
theorem peelP_u2 {u : Int32} : ∀ (t : Nat) (f : Nat → Int32), peelP t (upd f 2 u) = upd (peelP t f) 2 u
  | 0, f => rfl
  | t + 1, f => by
    have e1 : upd f 2 u 1 = f 1 := rfl
    unfold peelP
    rw [zsmall_u2, e1]
    cases zfind (zsmall f) (f 1).toNatClampNeg with
    | none => rfl
    | some k =>
      show peelP t (peelS (upd f 2 u) k) = upd (peelP t (peelS f k)) 2 u
      rw [peelS_u2, peelP_u2 t]
/-- what is told of a droplet that would come -/
theorem would_pure {n t b u : Nat} {ch f d : Nat → Int32} (hJ : zCJ n ch f t) (hD : zDO n ch d) (h0 : d 0 = 0) (h4 : f 4 = nI u) (hu : u ≤ b) (hb : b < 2 ^ 31 - 1) : 1 + comV f d = (if 0 < recvR f d then 2 + recvR f d else if f 4 < recvP f d 4 then 1 else 2) := by
  obtain ⟨p1, p2⟩ := drop_pure hJ hD h0
  by_cases c1 : zcnt (zb (recvS f d)) 16 = 1
  · obtain ⟨g1, g2, g3, g4⟩ := recv_one hJ hD c1
    have hn := hJ.1
    have hk : zcnt (zb (knowP f (zlow (recvS f d)) (recvV f d) 0)) 16 = zcnt (zb (f 0)) 16 + 1 := zcnt_know (by omega) g3
    have hg := grows_cnt (grows_peel 24 (knowP f (zlow (recvS f d)) (recvV f d)))
    have hC : comP f d = peelP 24 (knowP f (zlow (recvS f d)) (recvV f d)) := by unfold comP; rw [if_pos c1]
    have hP : recvP f d = upd (comP f d) 2 (f 2 + 1) := by
      unfold recvP
      rw [if_neg (by simp [h0]), if_pos c1, knowP_u2, peelP_u2, ← hC]
    have hP0 : recvP f d 0 = comP f d 0 := by rw [hP]; rfl
    rw [← hC, hk] at hg
    have hcl := zcnt_le (zb (comP f d 0)) 16
    have hV : comV f d = nI (2 + (zcnt (zb (comP f d 0)) 16 - (zcnt (zb (f 0)) 16 + 1))) := by
      unfold comV
      rw [if_pos c1]
      exact nI_add 2 _
    have hR := recvR_eq (f := f) (d := d)
    rw [hP0] at hR
    rw [if_pos (by rw [hR]; exact nI_lt (a := 0) (by omega) (by omega)), hV, hR, show (1 : Int32) = nI 1 from rfl, show (2 : Int32) = nI 2 from rfl, nI_add, nI_add]
    congr 1
    omega
  · have hz : recvR f d = 0 := by
      have hR := recvR_eq (f := f) (d := d)
      rw [hR]
      have : recvP f d 0 = f 0 := by
        unfold recvP
        rw [if_neg (by simp [h0]), if_neg c1]
        split
        · rfl
        · rw [keepP_0]; rfl
      rw [this, Nat.sub_self]
      rfl
    rw [hz, if_neg (by decide)]
    by_cases c2 : zcnt (zb (recvS f d)) 16 = 0 ∨ f 1 = 24
    · have hV : comV f d = 0 := by unfold comV; rw [if_neg c1, if_pos c2]
      have hP : recvP f d 4 = f 4 + 1 := by
        unfold recvP
        rw [if_neg (by simp [h0]), if_neg c1, if_pos c2]
        rfl
      rw [hV, hP, h4, show (1 : Int32) = nI 1 from rfl, nI_add, if_pos (nI_lt (by omega) (by omega))]
      rfl
    · have hV : comV f d = 1 := by unfold comV; rw [if_neg c1, if_neg c2]
      have hm := hJ.2.1
      have hc1 : (f 1).toNatClampNeg = t := by rw [hJ.2.2.1, nI_clamp (by omega)]
      have hP : recvP f d 4 = f 4 := by
        unfold recvP
        rw [if_neg (by simp [h0]), if_neg c1, if_neg c2, hc1]
        simp only [keepP, upd]
        rw [if_neg (by omega), if_neg (by omega), if_neg (by omega), if_neg (by omega)]
      rw [hV, hP, if_neg (by rw [h4]; exact fun h => absurd ((nI_ltI (by omega) (by omega)).mp h) (by omega))]
      rfl
def asM (g : Nat → Int32) : Nat → Int32 := cpyM g 1842 18 228
theorem asM_T {G : zG} {m : Nat} {r : Nat → Int32} (h : ∀ k, k < 228 → G m (18 + k) = r k) : zst G m (cpyM (G m) 1842 18 228) = mT G m (asM (G m)) r := by
  unfold mT
  congr 1
  funext j
  unfold mG asM
  split
  · rw [cpyM_r (by omega), ← h _ (by omega), show 18 + (j - 18) = j by omega]
  · rfl
theorem as_fr {L : zL} {m : Nat} {G : zG} {r r' g2 : Nat → Int32} {h : Nat → (Nat → Int32)} {c : Nat} {sl : Nat → Option (Nat → Int32)} {T : Nat → Nat} {tn : Nat} (hR : zRM L m G r h c sl T tn) (hg : gF (asM (G m)) g2) : zRM L m (mT G m g2 r') r' h c sl T tn := by
  refine zRM_fr hR (fun k hk => mT_at hk) (fun j hj => ?_)
  rw [mT_o (by omega), hg j (by omega) (by omega)]
  exact cpyM_r (by omega)
theorem as_back {L : zL} {m : Nat} {G : zG} {r r' g2 : Nat → Int32} {h : Nat → (Nat → Int32)} {c : Nat} {sl : Nat → Option (Nat → Int32)} {T : Nat → Nat} {tn : Nat} (hR : zRM L m G r h c sl T tn) (hg : gF (asM (G m)) g2) : zst (mT G m g2 r') m (cpyM (mT G m g2 r' m) 18 1842 228) = mT G m g2 r := by
  unfold mT
  rw [zst_same, zst_zst]
  congr 1
  funext j
  by_cases e : 18 ≤ j ∧ j < 246
  · rw [show j = 18 + (j - 18) by omega, cpyM_i (by omega), mG_o (by omega), mG_r (by omega), hg _ (by omega) (by omega), ← hR.2.1 _ (by omega)]
    exact cpyM_i (by omega)
  · rw [cpyM_r (by omega), mG_o (by omega), mG_o (by omega)]
