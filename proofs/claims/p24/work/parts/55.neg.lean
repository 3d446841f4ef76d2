theorem zcnt_sub {f g : Nat → Bool} : ∀ {n : Nat}, (∀ k, k < n → f k = true → g k = true) → zcnt f n ≤ zcnt g n
  | 0, _ => Nat.le_refl _
  | n + 1, h => by
    have h1 := zcnt_sub (n := n) (fun k hk => h k (by omega))
    simp only [zcnt]
    cases hf : f n with
    | true => rw [h n (by omega) hf]; simp; exact h1
    | false => simp; omega
def grows (f g : Nat → Int32) : Prop := ∀ k, zb (f 0) k = true → zb (g 0) k = true
theorem grows_cnt {f g : Nat → Int32} (h : grows f g) : zcnt (zb (f 0)) 16 ≤ zcnt (zb (g 0)) 16 := zcnt_sub (fun k _ => h k)
theorem grows_know {f : Nat → Int32} {c : Nat} {v : Int32} : grows f (knowP f c v) := fun k hk => by
  have : knowP f c v 0 = f 0 ||| bt c := by simp only [knowP, knowA]; grind
  rw [this, zb_or, hk]; rfl
theorem takeP_0 {f : Nat → Int32} {r : Nat} : takeP f r 0 = f 0 := by simp only [takeP, takeA]; grind
theorem grows_peel : ∀ (t : Nat) (f : Nat → Int32), grows f (peelP t f)
  | 0, f => fun _ h => h
  | t + 1, f => fun k hk => by
    unfold peelP
    cases zfind (zsmall f) (f 1).toNatClampNeg with
    | none => exact hk
    | some r =>
      refine grows_peel t (peelS f r) k ?_
      unfold peelS
      split
      · rw [takeP_0]; exact hk
      · exact grows_know k (by rw [takeP_0]; exact hk)
theorem keepP_0 {f : Nat → Int32} {m : Nat} {s v : Int32} : keepP f m s v 0 = f 0 := by simp only [keepP, upd]; grind
theorem grows_recv {f d : Nat → Int32} : grows f (recvP f d) := fun k hk => by
  have e0 : ∀ v, (upd f 2 v) 0 = f 0 := fun v => by simp only [upd]; rw [if_neg (by omega)]
  unfold recvP
  split
  · exact hk
  · split
    · exact grows_peel 24 _ k (grows_know k (by rw [e0]; exact hk))
    · split
      · exact hk
      · rw [keepP_0, e0]; exact hk
theorem recvR_eq {f d : Nat → Int32} : recvR f d = nI (zcnt (zb (recvP f d 0)) 16 - zcnt (zb (f 0)) 16) := by
  have h := grows_cnt (grows_recv (f := f) (d := d))
  unfold recvR
  split
  · rename_i h0
    have : recvP f d 0 = f 0 := by
      unfold recvP
      rw [if_pos h0]
      simp only [upd]
      rw [if_neg (by omega), if_neg (by omega)]
    rw [this, Nat.sub_self]
    rfl
  · exact pk_sub h
theorem grows_prF {r f : Nat → Int32} {sd : Nat} : ∀ k, grows f (prF r f sd k)
  | 0 => fun _ h => h
  | k + 1 => fun j hj => grows_recv j (grows_prF k j hj)
theorem prR_eq {r f : Nat → Int32} {sd : Nat} : ∀ k, prR r f sd k = nI (zcnt (zb (prF r f sd k 0)) 16 - zcnt (zb (f 0)) 16)
  | 0 => by simp only [prR, prF, Nat.sub_self]; rfl
  | k + 1 => by
    have h1 := grows_cnt (grows_prF (r := r) (f := f) (sd := sd) k)
    have h2 := grows_cnt (grows_recv (f := prF r f sd k) (d := dPR r ((sd + k) % 65536)))
    simp only [prR, prF]
    rw [prR_eq k, recvR_eq, nI_add]
    congr 1
    omega
theorem grows_all {f ch : Nat → Int32} : grows f (slvP f ch) := fun k hk => by
  unfold slvP
  refine grows_peel 24 _ k ?_
  show zb (f 0 ||| folM f) k = true
  rw [zb_or, hk]; rfl
theorem opPour_neg {b : Nat} {r : Nat → Int32} {y sd mn : Int32} (h : SI b r) (hn : (opPour r y sd mn).1 < 0) : (opPour r y sd mn).2 = r := by
  obtain ⟨w, ls, n, cn, i0, iw, i1, il, i2, i3, i4, i5, i6, i7, i8⟩ := id h
  unfold opPour at hn ⊢
  cases hz : cpI r y with
  | none => rfl
  | some i =>
    rw [hz] at hn
    dsimp only at hn ⊢
    by_cases he : errD r sd mn < 0
    · rw [if_pos he]
    · rw [if_neg he] at hn
      rw [prR_eq] at hn
      have := zcnt_le (zb (prF r (cupR r i) sd.toNatClampNeg mn.toNatClampNeg 0)) 16
      exact absurd hn (nI_pos (by omega))
theorem opSolve_neg {r : Nat → Int32} {y : Int32} (hn : (opSolve r y).1 < 0) : (opSolve r y).2 = r := by
  unfold opSolve at hn ⊢
  cases hz : cpI r y with
  | none => rfl
  | some i =>
    rw [hz] at hn
    have h1 := grows_cnt (grows_all (f := cupR r i) (ch := chR r))
    have := zcnt_le (zb (slvP (cupR r i) (chR r) 0)) 16
    dsimp only at hn
    rw [pk_sub h1] at hn
    exact absurd hn (nI_pos (by omega))
theorem opOrd_neg {b : Nat} {r : Nat → Int32} {T : Nat → Nat} {n p : Nat} (h : SI b r) (hn : (opOrd r T n p).1 < 0) : (opOrd r T n p).2 = r := by
  unfold opOrd at hn ⊢
  split
  · rename_i h1; rw [if_pos h1] at hn; exact opChapter_neg h hn
  · rename_i h1
    rw [if_neg h1] at hn
    split
    · rename_i h2; rw [if_pos h2] at hn; exact opCup_neg h hn
    · rename_i h2
      rw [if_neg h2] at hn
      split
      · rename_i h3; rw [if_pos h3] at hn; exact opPour_neg h hn
      · rename_i h3; rw [if_neg h3] at hn; exact opSolve_neg hn
/-- the orders of a text carried out: how many, and the row then -/
noncomputable def exL (T : Nat → Nat) (n : Nat) : Nat → Nat → (Nat → Int32) → Nat → Nat × (Nat → Int32)
  | 0, _, r, c => (c, r)
  | k + 1, p, r, c => if (rdO T n p).1 = false then (c, r) else if (opOrd r T n p).1 < 0 then (c, r) else
    exL T n k ((rdO T n p).2.1 + (if sg T n (rdO T n p).2.1 = 59 then 1 else 0)) (opOrd r T n p).2 (c + 1)
theorem exL_SI {T : Nat → Nat} {n : Nat} : ∀ (k p : Nat) (r : Nat → Int32) (c b : Nat), SI b r → SI (b + 99 * k) (exL T n k p r c).2 ∧ c ≤ (exL T n k p r c).1 ∧ (exL T n k p r c).1 ≤ c + k
  | 0, p, r, c, b, h => ⟨h, Nat.le_refl _, Nat.le_refl _⟩
  | k + 1, p, r, c, b, h => by
    unfold exL
    split
    · exact ⟨SI_mono h (by omega), Nat.le_refl _, by omega⟩
    · split
      · exact ⟨SI_mono h (by omega), Nat.le_refl _, by omega⟩
      · obtain ⟨g1, g2, g3⟩ := exL_SI k ((rdO T n p).2.1 + (if sg T n (rdO T n p).2.1 = 59 then 1 else 0)) (opOrd r T n p).2 (c + 1) (b + 99) (SI_ord h)
        exact ⟨SI_mono g1 (by omega), by omega, by omega⟩
