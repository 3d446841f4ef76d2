/-- what a droplet that is not lost does to a cup, and what is told of it -/
def comP (f d : Nat → Int32) : Nat → Int32 :=
  if zcnt (zb (recvS f d)) 16 = 1 then peelP 24 (knowP f (zlow (recvS f d)) (recvV f d))
  else if zcnt (zb (recvS f d)) 16 = 0 ∨ f 1 = 24 then f else keepP f (f 1).toNatClampNeg (recvS f d) (recvV f d)
def comV (f d : Nat → Int32) : Int32 :=
  if zcnt (zb (recvS f d)) 16 = 1 then 2 + nI (zcnt (zb (comP f d 0)) 16 - (zcnt (zb (f 0)) 16 + 1))
  else if zcnt (zb (recvS f d)) 16 = 0 ∨ f 1 = 24 then 0 else 1
theorem mG_mk {g R d : Nat → Int32} : mkM (mG g R) d = mG (mkM g d) R := by
  unfold mkM
  rw [mG_v (by omega), mG_v (by omega), mG_v (by omega), mG_v (by omega)]
theorem mS_mk {G : zG} {m i : Nat} {g r f d : Nat → Int32} : zst (mS G m g r i f) m (mkM (mS G m g r i f m) d) = mS G m (mkM g d) r i f := by
  unfold mS
  rw [zst_same, zst_zst, mG_mk]
theorem mS_r {G : zG} {m i k : Nat} {g r f : Nat → Int32} {v : Int32} (h : k < 21) : zst (mS G m g r i f) m (upd (mS G m g r i f m) (18 + k) v) = mS G m g (upd r k v) i f := by
  unfold mS
  rw [zst_same, zst_zst, mG_u (by omega)]
  congr 2
  funext j
  simp only [upd, putC]
  grind
theorem mS_f {G : zG} {m i j : Nat} {g r f : Nat → Int32} {v : Int32} (h : j < 18 ∨ 246 ≤ j) : zst (mS G m g r i f) m (upd (mS G m g r i f m) j v) = mS G m (upd g j v) r i f := by
  unfold mS
  rw [zst_same, zst_zst, mG_v h]
theorem zcnt_lim0 {n : Nat} {s : Int32} (hn : n ≤ 16) (h : zlim n s) : zcnt (zb s) 16 = 0 ↔ s = 0 := by
  constructor
  · intro h0
    apply zb_ext
    intro k _
    rw [zb_zero]
    by_cases hk : k < 16
    · exact zcnt_zero h0 k hk
    · exact h k (by omega)
  · intro h0
    subst h0
    have : ∀ t, zcnt (zb 0) t = 0 := by
      intro t
      induction t with
      | zero => rfl
      | succ t ih => unfold zcnt; rw [ih, zb_zero]; rfl
    exact this 16
