def mT (G : zG) (m : Nat) (g r : Nat → Int32) : zG := zst G m (mG g r)
theorem mT_at {G : zG} {m k : Nat} {g r : Nat → Int32} (h : k < 228) : mT G m g r m (18 + k) = r k := by
  unfold mT
  rw [zst_same, mG_r h]
theorem mT_o {G : zG} {m j : Nat} {g r : Nat → Int32} (h : j < 18 ∨ 246 ≤ j) : mT G m g r m j = g j := by
  unfold mT
  rw [zst_same, mG_o h]
theorem mT_u {G : zG} {m k : Nat} {g r : Nat → Int32} {v : Int32} (h : k < 228) : zst (mT G m g r) m (upd (mT G m g r m) (18 + k) v) = mT G m g (upd r k v) := by
  unfold mT
  rw [zst_same, zst_zst, mG_u h]
theorem mT_f {G : zG} {m j : Nat} {g r : Nat → Int32} {v : Int32} (h : j < 18 ∨ 246 ≤ j) : zst (mT G m g r) m (upd (mT G m g r m) j v) = mT G m (upd g j v) r := by
  unfold mT
  rw [zst_same, zst_zst, mG_v h]
theorem mT_S {G : zG} {m i : Nat} {g r : Nat → Int32} : mT G m g r = mS G m g r i (cupR r i) := by
  unfold mT mS
  rw [putC_cup]
theorem mT_e {G : zG} {m : Nat} : mT G m (G m) (fun k => G m (18 + k)) = G := by
  unfold mT
  rw [mG_e, zst_self]
/-- what the changes leave of the rest -/
def gF (g g' : Nat → Int32) : Prop := ∀ j, ¬ (12 ≤ j ∧ j < 16) → ¬ 2619 ≤ j → g' j = g j
theorem gF_rf {g : Nat → Int32} : gF g g := fun _ _ _ => rfl
theorem gF_tr {g g1 g2 : Nat → Int32} (h1 : gF g g1) (h2 : gF g1 g2) : gF g g2 := fun j a b => (h2 j a b).trans (h1 j a b)
theorem gF_mk {g d : Nat → Int32} : gF g (mkM g d) := fun j h1 h2 => by
  simp only [mkM, upd]
  rw [if_neg (by omega), if_neg (by omega), if_neg (by omega), if_neg (by omega)]
theorem dPR_4 {r : Nat → Int32} {v : Int32} {sd : Nat} : dPR (upd r 4 v) sd = dPR r sd := by
  unfold dPR
  rw [chR_upd (by decide)]
  rfl
theorem chR_4 {r : Nat → Int32} {v : Int32} : chR (upd r 4 v) = chR r := chR_upd (by decide)
theorem upd_upd {r : Nat → Int32} {k : Nat} {u v : Int32} : upd (upd r k u) k v = upd r k v := by
  funext j
  simp only [upd]
  by_cases e : j = k <;> simp [e]
theorem upd_putC {r f : Nat → Int32} {i k : Nat} {v : Int32} (h : k < 21) : putC (upd r k v) i f = upd (putC r i f) k v := by
  funext j
  simp only [upd, putC]
  grind
