theorem zCJ_congr {n : Nat} {ch f g : Nat → Int32} {m : Nat} (h : zCJ n ch f m) (h0 : g 0 = f 0) (h1 : g 1 = f 1) (hv : ∀ j, 5 ≤ j → j < 69 → g j = f j) : zCJ n ch g m := by
  obtain ⟨a1, a2, a3, a4, a5, a6⟩ := h
  refine ⟨a1, a2, by rw [h1]; exact a3, by rw [h0]; exact a4, fun k hk hz => ?_, fun r hr => ?_⟩
  · rw [hv _ (by omega) (by omega)]
    rw [h0] at hz
    exact a5 k hk hz
  · rw [h0, hv _ (by omega) (by omega), hv _ (by omega) (by omega)]
    exact a6 r hr
/-- all that a cup keeps has two chapters and more -/
def zsz (f : Nat → Int32) (m : Nat) : Prop := ∀ r, r < m → 2 ≤ zcnt (zb (f (21 + r))) 16
def zCI (n : Nat) (ch f : Nat → Int32) : Prop := ∃ m, zCJ n ch f m ∧ zsz f m
theorem zCI_congr {n : Nat} {ch f g : Nat → Int32} (h : zCI n ch f) (h0 : g 0 = f 0) (h1 : g 1 = f 1) (hv : ∀ j, 5 ≤ j → j < 69 → g j = f j) : zCI n ch g := by
  obtain ⟨m, hJ, hs⟩ := h
  exact ⟨m, zCJ_congr hJ h0 h1 hv, fun r hr => by rw [hv _ (by omega) (by have := hJ.2.1; omega)]; exact hs r hr⟩
theorem zCI_peelP {n : Nat} {ch : Nat → Int32} : ∀ (k : Nat) (f : Nat → Int32) (m : Nat), m ≤ k → zCJ n ch f m → zCI n ch (peelP k f)
  | 0, f, m, hk, h => ⟨m, h, fun r hr => by omega⟩
  | k + 1, f, m, hk, h => by
    have hc : (f 1).toNatClampNeg = m := by rw [h.2.2.1, nI_clamp (by have := h.2.1; omega)]
    unfold peelP
    rw [hc]
    cases hz : zfind (zsmall f) m with
    | none =>
      refine ⟨m, h, fun r hr => ?_⟩
      have := zfind_none hz r hr
      simp only [zsmall, decide_eq_false_iff_not] at this
      show 2 ≤ zcnt (zb (f (21 + r))) 16
      omega
    | some r => exact zCI_peelP k (peelS f r) (m - 1) (by have := (zfind_some hz).1; omega) (zCJ_peelS h hz).1
def recvV (f d : Nat → Int32) : Int32 := d 3 ^^^ xs (fun k => f (5 + k)) (d 2 &&& f 0)
def recvS (f d : Nat → Int32) : Int32 := d 2 &&& (f 0 ^^^ (-1))
def recvP (f d : Nat → Int32) : Nat → Int32 :=
  if ¬ d 0 = 0 then upd (upd f 2 (f 2 + 1)) 3 (f 3 + 1)
  else if zcnt (zb (recvS f d)) 16 = 1 then peelP 24 (knowP (upd f 2 (f 2 + 1)) (zlow (recvS f d)) (recvV f d))
  else if zcnt (zb (recvS f d)) 16 = 0 ∨ f 1 = 24 then upd (upd f 2 (f 2 + 1)) 4 (f 4 + 1)
  else keepP (upd f 2 (f 2 + 1)) (f 1).toNatClampNeg (recvS f d) (recvV f d)
def recvR (f d : Nat → Int32) : Int32 := if ¬ d 0 = 0 then 0 else nI (zcnt (zb (recvP f d 0)) 16) - nI (zcnt (zb (f 0)) 16)
/-- a droplet that the book could make -/
def zDO (n : Nat) (ch d : Nat → Int32) : Prop := (d 0 = 0 ∨ d 0 = 1) ∧ zlim n (d 2) ∧ d 3 = xs ch (d 2)
theorem xsN_congr {ch c2 : Nat → Int32} {s : Int32} : ∀ {k : Nat}, (∀ j, j < k → zb s j = true → ch j = c2 j) → xsN ch s k = xsN c2 s k
  | 0, _ => rfl
  | k + 1, h => by
    simp only [xsN]
    rw [xsN_congr (k := k) (fun j hj => h j (by omega))]
    cases hz : zb s k with
    | false => simp
    | true => simp [h k (by omega) hz]
theorem recvS_b {f d : Nat → Int32} {k : Nat} (hk : k < 32) : zb (recvS f d) k = (zb (d 2) k && !zb (f 0) k) := by
  unfold recvS
  rw [zb_and, zb_not _ hk]
theorem recvS_lim {n : Nat} {ch f d : Nat → Int32} (hD : zDO n ch d) : zlim n (recvS f d) := fun k hk => by
  rcases Nat.lt_or_ge k 32 with h | h
  · rw [recvS_b h, hD.2.1 k hk]; rfl
  · exact zb_hi _ h
theorem recvV_eq {n : Nat} {ch f d : Nat → Int32} {m : Nat} (hJ : zCJ n ch f m) (hD : zDO n ch d) : recvV f d = xs ch (recvS f d) := by
  have e1 : xs (fun k => f (5 + k)) (d 2 &&& f 0) = xs ch (d 2 &&& f 0) := by
    refine xsN_congr (fun j hj hz => ?_)
    rw [zb_and] at hz
    simp at hz
    refine hJ.2.2.2.2.1 j ?_ hz.2
    rcases Nat.lt_or_ge j n with h | h
    · exact h
    · rw [hJ.2.2.2.1 j h] at hz; simp at hz
  unfold recvV
  rw [e1, hD.2.2, ← xs_xor]
  congr 1
  apply zb_ext
  intro k hk
  rw [zb_xor, zb_and, recvS_b hk]
  cases zb (d 2) k <;> cases zb (f 0) k <;> rfl
theorem recv_one {n : Nat} {ch f d : Nat → Int32} {m : Nat} (hJ : zCJ n ch f m) (hD : zDO n ch d) (h1 : zcnt (zb (recvS f d)) 16 = 1) :
    recvS f d = bt (zlow (recvS f d)) ∧ zlow (recvS f d) < n ∧ zb (f 0) (zlow (recvS f d)) = false ∧ recvV f d = ch (zlow (recvS f d)) := by
  have h0 : recvS f d ≠ 0 := by
    intro h
    rw [h] at h1
    have : zcnt (zb 0) 16 = 0 := by decide
    omega
  obtain ⟨e1, e2, e3⟩ := zone_of hJ.1 (recvS_lim (f := f) hD) (by omega) h0
  have hn := hJ.1
  refine ⟨e1, e2, ?_, ?_⟩
  · rw [recvS_b (by omega)] at e3
    simp at e3
    exact e3.2
  · rw [recvV_eq hJ hD]
    conv => lhs; rw [e1]
    exact xs_bt ch (by omega)
theorem zCI_keep {n : Nat} {ch f : Nat → Int32} {m : Nat} {s v : Int32} (hJ : zCJ n ch f m) (hs : zsz f m) (hm : m < 24) (h1 : zlim n s) (h2 : ∀ k, zb (f 0) k = true → zb s k = false) (h3 : v = xs ch s) (h4 : 2 ≤ zcnt (zb s) 16) : zCI n ch (keepP f m s v) := by
  obtain ⟨a1, a2, a3, a4, a5, a6⟩ := hJ
  refine ⟨m + 1, ⟨a1, by omega, ?_, ?_, ?_, ?_⟩, ?_⟩
  · simp [keepP, upd]
  · have : keepP f m s v 0 = f 0 := by simp only [keepP, upd]; grind
    rw [this]; exact a4
  · intro k hk hz
    have e0 : keepP f m s v 0 = f 0 := by simp only [keepP, upd]; grind
    have e1 : keepP f m s v (5 + k) = f (5 + k) := by simp only [keepP, upd]; grind
    rw [e1]; rw [e0] at hz
    exact a5 k hk hz
  · intro r hr
    have e0 : keepP f m s v 0 = f 0 := by simp only [keepP, upd]; grind
    rw [e0]
    by_cases e : r = m
    · subst e
      have e1 : keepP f r s v (21 + r) = s := by simp only [keepP, upd]; grind
      have e2 : keepP f r s v (45 + r) = v := by simp only [keepP, upd]; grind
      rw [e1, e2]
      exact ⟨h1, h2, h3, fun h => by omega⟩
    · have e1 : keepP f m s v (21 + r) = f (21 + r) := by simp only [keepP, upd]; grind
      have e2 : keepP f m s v (45 + r) = f (45 + r) := by simp only [keepP, upd]; grind
      rw [e1, e2]
      obtain ⟨g1, g2, g3, g4⟩ := a6 r hr
      exact ⟨g1, g2, g3, fun h => g4 (by omega)⟩
  · intro r hr
    by_cases e : r = m
    · subst e
      have e1 : keepP f r s v (21 + r) = s := by simp only [keepP, upd]; grind
      rw [e1]; exact h4
    · have e1 : keepP f m s v (21 + r) = f (21 + r) := by simp only [keepP, upd]; grind
      rw [e1]; exact hs r (by omega)
theorem zCI_recv {n : Nat} {ch f d : Nat → Int32} (h : zCI n ch f) (hD : zDO n ch d) : zCI n ch (recvP f d) := by
  obtain ⟨m, hJ, hs⟩ := id h
  have hJ1 : zCJ n ch (upd f 2 (f 2 + 1)) m := zCJ_congr hJ rfl rfl (fun j h1 h2 => by simp only [upd]; rw [if_neg (by omega)])
  have hs1 : zsz (upd f 2 (f 2 + 1)) m := fun r hr => by simp only [upd]; rw [if_neg (by omega)]; exact hs r hr
  unfold recvP
  by_cases h0 : d 0 = 0
  · rw [if_neg (by simp [h0])]
    by_cases h1 : zcnt (zb (recvS f d)) 16 = 1
    · rw [if_pos h1]
      obtain ⟨e1, e2, e3, e4⟩ := recv_one hJ hD h1
      rw [e4]
      exact zCI_peelP 24 _ m hJ.2.1 (zCJ_know hJ1 e2 e3)
    · rw [if_neg h1]
      by_cases h2 : zcnt (zb (recvS f d)) 16 = 0 ∨ f 1 = 24
      · rw [if_pos h2]
        exact zCI_congr ⟨m, hJ1, hs1⟩ rfl rfl (fun j g1 g2 => by simp only [upd]; rw [if_neg (by omega)])
      · rw [if_neg h2]
        have hm : m < 24 := by
          rcases Nat.lt_or_ge m 24 with g | g
          · exact g
          · exfalso
            apply h2
            right
            rw [hJ.2.2.1, show m = 24 by have := hJ.2.1; omega]
            rfl
        rw [hJ.2.2.1, nI_clamp (by omega)]
        refine zCI_keep hJ1 hs1 hm (recvS_lim hD) (fun k hk => ?_) (recvV_eq hJ hD) (by omega)
        rcases Nat.lt_or_ge k 32 with g | g
        · rw [recvS_b g]
          have : zb (f 0) k = true := hk
          rw [this]; simp
        · exact zb_hi _ g
  · rw [if_pos h0]
    exact zCI_congr h rfl rfl (fun j g1 g2 => by simp only [upd]; rw [if_neg (by omega), if_neg (by omega)])

section ZBC
variable {l : Launch} {D : zD} {B : Nat} {L : zL} {nx : Nat} {G : zG}
theorem zcnt_zm (x : Int32) : zcnt (zm x).testBit 16 = zcnt (zb x) 16 := zcnt_congr (fun k _ => (zb_zm _ _).symm)
theorem m_bitCount (l : Launch) (D : zD) (B : Nat) {L : zL} {nx : Nat} {G : zG} {x : Int32} (h : zm x < 65536) : zMet l D B yJ6_bitCount_0f7a4 cJ6_bitCount_0f7a4 1 (some .int) 0 0 0 0 [.int x] L nx G (zE (some (.int (nI (zcnt (zb x) 16)))) L nx G) := by
  rw [← zcnt_zm]
  exact m_J6_bitCount_0f7a4 l D B (zm x) h (nI_zm x).symm
theorem m_knownCount (l : Launch) (D : zD) (B : Nat) {L : zL} {nx : Nat} {G : zG} {q : Nat} (hq : (q, 3) ∈ L) (h : zm (G q 0) < 65536) : zMet l D B yX0_knownCount cX0_knownCount 1 (some .int) 1 20 0 0 [.ref q] L nx G (zE (some (.int (nI (zcnt (zb (G q 0)) 16)))) L nx G) := by
  rw [← zcnt_zm]
  exact m_X0_knownCount l D B hq (zm (G q 0)) h (nI_zm _).symm
end ZBC
