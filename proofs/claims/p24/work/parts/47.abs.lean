def putC (r : Nat → Int32) (i : Nat) (f : Nat → Int32) : Nat → Int32 := fun j => if 21 + 69 * i ≤ j ∧ j < 21 + 69 * i + 69 then f (j - (21 + 69 * i)) else r j
theorem hdR_upd {r : Nat → Int32} {k : Nat} {v : Int32} (hk : k < 21) : hdR (upd r k v) = upd (hdR r) k v := by
  funext j; simp only [hdR, upd]; grind
theorem cupR_upd {r : Nat → Int32} {k i : Nat} {v : Int32} (hk : k < 21) : cupR (upd r k v) i = cupR r i := by
  funext j
  simp only [cupR, upd]
  split
  · rw [if_neg (by omega)]
  · rfl
theorem hdR_putC {r f : Nat → Int32} {i : Nat} : hdR (putC r i f) = hdR r := by
  funext j
  simp only [hdR, putC]
  split
  · rw [if_neg (by omega)]
  · rfl
theorem cupR_putC {r f : Nat → Int32} {i : Nat} (hf : ∀ j, 69 ≤ j → f j = 0) : cupR (putC r i f) i = f := by
  funext j
  simp only [cupR, putC]
  split
  · rw [if_pos (by omega)]
    congr 1
    omega
  · exact (hf j (by omega)).symm
theorem cupR_putC_ne {r f : Nat → Int32} {i k : Nat} (h : k ≠ i) : cupR (putC r i f) k = cupR r k := by
  funext j
  simp only [cupR, putC]
  split
  · rw [if_neg (by omega)]
  · rfl
theorem cupR_hi (r : Nat → Int32) (i : Nat) : ∀ j, 69 ≤ j → cupR r i j = 0 := fun j hj => by simp only [cupR]; rw [if_neg (by omega)]
/-- the class's object, with all that it holds -/
def zBD (L : zL) (x : Nat) : Prop := (x, 1) ∈ L ∧ zSt L (x + 1) ∧ zHi L (x + 16) ∧ (x + 123, 30102) ∈ L ∧ (x + 124, 7) ∈ L ∧ (x + 126, 4) ∈ L ∧ (x + 127, 3) ∈ L ∧ (x + 131, 5) ∈ L
/-- the state that is now, and what is tried on -/
def CR (x : Nat) (r : Nat → Int32) (G : zG) : Prop := stOK G (x + 1) r ∧ (∀ j, 69 ≤ j → G (x + 127) j = 0) ∧ ∀ j, 48 ≤ j → G (x + 131) j = 0
/-- what a change leaves -/
def zFr (x : Nat) (G G' : zG) : Prop := ∀ y, (y < x + 1 ∨ (x + 16 ≤ y ∧ y < x + 126) ∨ x + 134 ≤ y) → G' y = G y
theorem zFr_rf {x : Nat} {G : zG} : zFr x G G := fun _ _ => rfl
theorem zFr_tr {x : Nat} {G G1 G2 : zG} (h1 : zFr x G G1) (h2 : zFr x G1 G2) : zFr x G G2 := fun y hy => (h2 y hy).trans (h1 y hy)
theorem zFr_zst {x q : Nat} {G : zG} {f : Nat → Int32} (h : (x + 1 ≤ q ∧ q < x + 16) ∨ (x + 126 ≤ q ∧ q < x + 134)) : zFr x G (zst G q f) := fun y hy => zst_ne _ _ (by omega)
theorem CR_head {x k : Nat} {r : Nat → Int32} {G : zG} {v : Int32} (h : CR x r G) (hk : k < 21) : CR x (upd r k v) (zst G (x + 1) (upd (G (x + 1)) k v)) := by
  obtain ⟨⟨h1, h2⟩, h3, h4⟩ := h
  refine ⟨⟨by rw [zst_same, h1, hdR_upd hk], fun i hi => ?_⟩, fun j hj => ?_, fun j hj => ?_⟩
  · rw [zst_ne _ _ (by omega), cupR_upd hk]; exact h2 i hi
  · rw [zst_ne _ _ (by omega)]; exact h3 j hj
  · rw [zst_ne _ _ (by omega)]; exact h4 j hj
theorem CR_cup {x i : Nat} {r f : Nat → Int32} {G : zG} (h : CR x r G) (hi : i < 3) (hf : ∀ j, 69 ≤ j → f j = 0) : CR x (putC r i f) (zst G (x + 1 + (3 + 4 * i)) f) := by
  obtain ⟨⟨h1, h2⟩, h3, h4⟩ := h
  refine ⟨⟨by rw [zst_ne _ _ (by omega), hdR_putC]; exact h1, fun k hk => ?_⟩, fun j hj => ?_, fun j hj => ?_⟩
  · by_cases e : k = i
    · subst e; rw [zst_same, cupR_putC hf]
    · rw [zst_ne _ _ (by omega), cupR_putC_ne e]; exact h2 k hk
  · rw [zst_ne _ _ (by omega)]; exact h3 j hj
  · rw [zst_ne _ _ (by omega)]; exact h4 j hj
theorem CR_fal {x : Nat} {r d : Nat → Int32} {G : zG} (h : CR x r G) : CR x r (zst G (x + 126) d) := by
  obtain ⟨⟨h1, h2⟩, h3, h4⟩ := h
  exact ⟨⟨by rw [zst_ne _ _ (by omega)]; exact h1, fun k hk => by rw [zst_ne _ _ (by omega)]; exact h2 k hk⟩, fun j hj => by rw [zst_ne _ _ (by omega)]; exact h3 j hj, fun j hj => by rw [zst_ne _ _ (by omega)]; exact h4 j hj⟩
theorem CR_tri {x : Nat} {r d : Nat → Int32} {G : zG} (h : CR x r G) (hd : ∀ j, 69 ≤ j → d j = 0) : CR x r (zst G (x + 127) d) := by
  obtain ⟨⟨h1, h2⟩, h3, h4⟩ := h
  exact ⟨⟨by rw [zst_ne _ _ (by omega)]; exact h1, fun k hk => by rw [zst_ne _ _ (by omega)]; exact h2 k hk⟩, fun j hj => by rw [zst_same]; exact hd j hj, fun j hj => by rw [zst_ne _ _ (by omega)]; exact h4 j hj⟩
theorem CR_row {x : Nat} {r d : Nat → Int32} {G : zG} (h : CR x r G) (hd : ∀ j, 48 ≤ j → d j = 0) : CR x r (zst G (x + 131) d) := by
  obtain ⟨⟨h1, h2⟩, h3, h4⟩ := h
  exact ⟨⟨by rw [zst_ne _ _ (by omega)]; exact h1, fun k hk => by rw [zst_ne _ _ (by omega)]; exact h2 k hk⟩, fun j hj => by rw [zst_ne _ _ (by omega)]; exact h3 j hj, fun j hj => by rw [zst_same]; exact hd j hj⟩
/-- the book's numbers -/
def chR (r : Nat → Int32) : Nat → Int32 := fun k => hdR r (5 + k)
/-- what holds of every state: b bounds the useless droplets -/
def SI (b : Nat) (r : Nat → Int32) : Prop := ∃ w ls n cn : Nat, r 0 = nI w ∧ w ≤ 2 ∧ r 1 = nI ls ∧ ls ≤ 99 ∧ r 2 = nI n ∧ n ≤ 16 ∧ r 3 = nI cn ∧ cn ≤ 3 ∧
  (∀ i, i < 3 → zCI n (chR r) (cupR r i)) ∧ (∀ i, cn ≤ i → i < 3 → cupR r i = fun _ => 0) ∧ ∀ i, i < 3 → ∃ u, cupR r i 4 = nI u ∧ u ≤ b
/-- the cup of a number -/
def cpI (r : Nat → Int32) (x : Int32) : Option Nat := zfind (fun i => decide (x = nI i)) (r 3).toNatClampNeg
theorem cpI_some {r : Nat → Int32} {x : Int32} {cn i : Nat} (h3 : r 3 = nI cn) (hcn : cn ≤ 3) (h : cpI r x = some i) : i < cn ∧ x = nI i := by
  unfold cpI at h
  rw [h3, nI_clamp (by omega)] at h
  obtain ⟨h1, h2, -⟩ := zfind_some h
  exact ⟨h1, by simpa using h2⟩
theorem cpI_none {r : Nat → Int32} {x : Int32} {cn : Nat} (h3 : r 3 = nI cn) (hcn : cn ≤ 3) (h : cpI r x = none) : ¬ ∃ i, i < cn ∧ x = nI i := by
  unfold cpI at h
  rw [h3, nI_clamp (by omega)] at h
  rintro ⟨i, hi, e⟩
  have := zfind_none h i hi
  simp [e] at this
def opSet (r : Nat → Int32) (s v : Int32) : Int32 × (Nat → Int32) := if s = 0 ∧ zin3 v 0 2 = true then (r 0, upd r 0 v) else if s = 1 ∧ zin3 v 0 99 = true then (r 1, upd r 1 v) else (-2, r)
def opChapter (r : Nat → Int32) (v : Int32) : Int32 × (Nat → Int32) := if zin3 v 0 65535 = false then (-2, r) else if 0 < r 3 then (-5, r) else if r 2 = 16 then (-4, r) else (r 2, upd (upd r (5 + (r 2).toNatClampNeg) v) 2 (r 2 + 1))
def opCup (r : Nat → Int32) : Int32 × (Nat → Int32) := if r 3 = 3 then (-4, r) else (r 3, upd r 3 (r 3 + 1))
def opEmpty (r : Nat → Int32) (x : Int32) : Int32 × (Nat → Int32) := match cpI r x with
  | none => (-1, r)
  | some i => (nI (zcnt (zb (cupR r i 0)) 16), putC r i (fun _ => 0))
def errD (r : Nat → Int32) (sd mn : Int32) : Int32 := if (zin3 sd 0 65535 && zin3 mn 1 99) = false then -2 else if r 2 = 0 then -5 else 0
/-- the droplet of a seed, by a row -/
def dPR (r : Nat → Int32) (sd : Nat) : Nat → Int32 := mkP (fun _ => 0) (r 0).toNatClampNeg (r 1) (r 2).toNatClampNeg (chR r) sd
def prF (r : Nat → Int32) (f : Nat → Int32) (sd : Nat) : Nat → (Nat → Int32)
  | 0 => f
  | k + 1 => recvP (prF r f sd k) (dPR r ((sd + k) % 65536))
def prR (r : Nat → Int32) (f : Nat → Int32) (sd : Nat) : Nat → Int32
  | 0 => 0
  | k + 1 => prR r f sd k + recvR (prF r f sd k) (dPR r ((sd + k) % 65536))
def opPour (r : Nat → Int32) (x sd mn : Int32) : Int32 × (Nat → Int32) := match cpI r x with
  | none => (-1, r)
  | some i => if errD r sd mn < 0 then (errD r sd mn, r) else (prR r (cupR r i) sd.toNatClampNeg mn.toNatClampNeg, upd (putC r i (prF r (cupR r i) sd.toNatClampNeg mn.toNatClampNeg)) 4 (r 4 + mn))
/-- sums of rows -/
def inSp (g : Nat → Int32) (N : Nat) (s : Int32) : Prop := ∀ P : Int32 → Prop, P 0 → (∀ a b, P a → P b → P (a ^^^ b)) → (∀ i, i < N → P (g i)) → P s
noncomputable def folB (f : Nat → Int32) (k : Nat) : Bool := @decide (inSp (fun i => f (21 + i)) 24 (bt k)) (Classical.propDecidable _)
/-- a mask of the places below n that hold -/
def mskOf (p : Nat → Bool) : Nat → Int32
  | 0 => 0
  | k + 1 => if p k then mskOf p k ||| bt k else mskOf p k
/-- chapters of a mask known, all at once -/
def knowAll (f ch : Nat → Int32) (M : Int32) : Nat → Int32 := fun j =>
  if j = 0 then f 0 ||| M else if 5 ≤ j ∧ j < 21 then (if zb M (j - 5) then ch (j - 5) else f j)
  else if 21 ≤ j ∧ j < 45 then f j ^^^ (f j &&& M) else if 45 ≤ j ∧ j < 69 then f j ^^^ xs ch (f (j - 24) &&& M) else f j
noncomputable def folM (f : Nat → Int32) : Int32 := mskOf (folB f) 16
noncomputable def slvP (f ch : Nat → Int32) : Nat → Int32 := peelP 24 (knowAll f ch (folM f))
noncomputable def opSolve (r : Nat → Int32) (x : Int32) : Int32 × (Nat → Int32) := match cpI r x with
  | none => (-1, r)
  | some i => (nI (zcnt (zb (slvP (cupR r i) (chR r) 0)) 16) - nI (zcnt (zb (cupR r i 0)) 16), putC r i (slvP (cupR r i) (chR r)))
theorem recvP_congr {f d e : Nat → Int32} (h0 : d 0 = e 0) (h2 : d 2 = e 2) (h3 : d 3 = e 3) : recvP f d = recvP f e ∧ recvR f d = recvR f e := by
  have hS : recvS f d = recvS f e := by unfold recvS; rw [h2]
  have hV : recvV f d = recvV f e := by unfold recvV; rw [h2, h3]
  have hP : recvP f d = recvP f e := by unfold recvP; rw [h0, hS, hV]
  exact ⟨hP, by unfold recvR; rw [h0, hP]⟩
theorem knowP_hi {f : Nat → Int32} {c : Nat} {v : Int32} (hc : c < 16) : ∀ j, 69 ≤ j → knowP f c v j = f j := fun j hj => by simp only [knowP, knowA]; grind
theorem takeP_hi {f : Nat → Int32} {r : Nat} : ∀ j, 69 ≤ j → takeP f r j = f j := fun j hj => by simp only [takeP, takeA]; grind
theorem peelS_hi {n : Nat} {ch f : Nat → Int32} {m r : Nat} (h : zCJ n ch f m) (hr : zfind (zsmall f) m = some r) : ∀ j, 69 ≤ j → peelS f r j = f j := fun j hj => by
  unfold peelS
  split
  · exact takeP_hi j hj
  · rename_i h0
    obtain ⟨e1, e2, -⟩ := (zCJ_peelS h hr).2 h0
    have := h.1
    rw [knowP_hi (by omega) j hj, takeP_hi j hj]
theorem peelP_hi {n : Nat} {ch : Nat → Int32} : ∀ (k : Nat) (f : Nat → Int32) (m : Nat), zCJ n ch f m → ∀ j, 69 ≤ j → peelP k f j = f j
  | 0, f, m, h, j, hj => rfl
  | k + 1, f, m, h, j, hj => by
    have hc : (f 1).toNatClampNeg = m := by rw [h.2.2.1, nI_clamp (by have := h.2.1; omega)]
    unfold peelP
    rw [hc]
    cases hz : zfind (zsmall f) m with
    | none => rfl
    | some r => exact (peelP_hi k (peelS f r) (m - 1) (zCJ_peelS h hz).1 j hj).trans (peelS_hi h hz j hj)
theorem recvP_hi {n : Nat} {ch f d : Nat → Int32} (h : zCI n ch f) (hD : zDO n ch d) : ∀ j, 69 ≤ j → recvP f d j = f j := by
  obtain ⟨m, hJ, hs⟩ := h
  intro j hj
  have hJ1 : zCJ n ch (upd f 2 (f 2 + 1)) m := zCJ_congr hJ rfl rfl (fun j h1 h2 => by simp only [upd]; rw [if_neg (by omega)])
  have hn := hJ.1
  have hm := hJ.2.1
  have e2 : upd f 2 (f 2 + 1) j = f j := by simp only [upd]; rw [if_neg (by omega)]
  unfold recvP
  split
  · simp only [upd]; rw [if_neg (by omega), if_neg (by omega)]
  · split
    · rename_i h1
      obtain ⟨e1, e3, e4, e5⟩ := recv_one hJ hD h1
      rw [e5, peelP_hi 24 _ m (zCJ_know hJ1 e3 e4) j hj, knowP_hi (by omega) j hj, e2]
    · split
      · simp only [upd]; rw [if_neg (by omega), if_neg (by omega)]
      · rename_i h2
        have hm24 : m < 24 := by
          rcases Nat.lt_or_ge m 24 with g | g
          · exact g
          · exfalso
            apply h2
            right
            rw [hJ.2.2.1, show m = 24 by omega]
            rfl
        rw [hJ.2.2.1, nI_clamp (by omega)]
        simp only [keepP]
        simp only [upd]
        rw [if_neg (by omega), if_neg (by omega), if_neg (by omega), if_neg (by omega)]

theorem dPR_DO {r : Nat → Int32} {n sd : Nat} (hn : r 2 = nI n) (hn0 : 0 < n) (hn16 : n ≤ 16) : zDO n (chR r) (dPR r sd) := by
  unfold dPR
  rw [hn, nI_clamp (by omega)]
  exact mkP_DO hn0 hn16
theorem prF_CI {r f : Nat → Int32} {n sd : Nat} (hn : r 2 = nI n) (hn0 : 0 < n) (hn16 : n ≤ 16) (h : zCI n (chR r) f) : ∀ k, zCI n (chR r) (prF r f sd k)
  | 0 => h
  | k + 1 => zCI_recv (prF_CI hn hn0 hn16 h k) (dPR_DO hn hn0 hn16)
theorem prF_hi {r f : Nat → Int32} {n sd : Nat} (hn : r 2 = nI n) (hn0 : 0 < n) (hn16 : n ≤ 16) (h : zCI n (chR r) f) (hf : ∀ j, 69 ≤ j → f j = 0) : ∀ k j, 69 ≤ j → prF r f sd k j = 0
  | 0, j, hj => hf j hj
  | k + 1, j, hj => (recvP_hi (prF_CI hn hn0 hn16 h k) (dPR_DO hn hn0 hn16) j hj).trans (prF_hi hn hn0 hn16 h hf k j hj)
def fullB (r f : Nat → Int32) : Bool := decide (f 0 = 1 <<< (r 2 &&& 31) - 1)
def fcN (r : Nat → Int32) (cn : Nat) : Nat → Int32
  | 0 => 0
  | i + 1 => if i < cn ∧ fullB r (cupR r i) = true then fcN r cn i ||| bt i else fcN r cn i
