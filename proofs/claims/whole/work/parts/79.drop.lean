def hadP (f : Nat → Int32) : Nat → Int32 := upd f 2 (f 2 + 1)
theorem hadP_J {n t : Nat} {ch f : Nat → Int32} (hJ : zCJ n ch f t) : zCJ n ch (hadP f) t := zCJ_congr hJ rfl rfl (fun j h1 h2 => by simp only [hadP, upd]; rw [if_neg (by omega)])
theorem hadP_S {f d : Nat → Int32} : recvS (hadP f) d = recvS f d := rfl
theorem hadP_V {f d : Nat → Int32} : recvV (hadP f) d = recvV f d := by
  unfold recvV
  congr 2
  funext k
  simp only [hadP, upd]
  rw [if_neg (by omega)]
theorem upd_same {f : Nat → Int32} {j : Nat} : upd f j (f j) = f := by
  funext k
  simp only [upd]
  by_cases e : k = j
  · rw [if_pos e, e]
  · rw [if_neg e]
theorem i32_add0 (x : Int32) : x + 0 = x := by simp
theorem drop_pure {n t : Nat} {ch f d : Nat → Int32} (hJ : zCJ n ch f t) (hD : zDO n ch d) (h0 : d 0 = 0) : recvP f d = upd (comP (hadP f) d) 4 (comP (hadP f) d 4 + (if comV (hadP f) d = 0 then 1 else 0)) ∧ recvR f d = (if 2 ≤ comV (hadP f) d then comV (hadP f) d - 1 else 0) := by
  have hJ1 := hadP_J hJ
  have hR := recvR_eq (f := f) (d := d)
  have hcl := zcnt_le (zb (recvP f d 0)) 16
  have e1 : hadP f 1 = f 1 := rfl
  have e0 : hadP f 0 = f 0 := rfl
  by_cases c1 : zcnt (zb (recvS f d)) 16 = 1
  · have hC : comP (hadP f) d = peelP 24 (knowP (hadP f) (zlow (recvS f d)) (recvV f d)) := by unfold comP; rw [hadP_S, hadP_V, if_pos c1]
    have hP : recvP f d = comP (hadP f) d := by rw [hC]; unfold recvP; rw [if_neg (by simp [h0]), if_pos c1]; rfl
    obtain ⟨g1, g2, g3, g4⟩ := recv_one hJ hD c1
    have hn := hJ.1
    have hk : zcnt (zb (knowP (hadP f) (zlow (recvS f d)) (recvV f d) 0)) 16 = zcnt (zb (f 0)) 16 + 1 := zcnt_know (by omega) g3
    have hg := grows_cnt (grows_peel 24 (knowP (hadP f) (zlow (recvS f d)) (recvV f d)))
    have hV : comV (hadP f) d = nI (2 + (zcnt (zb (recvP f d 0)) 16 - (zcnt (zb (f 0)) 16 + 1))) := by
      unfold comV
      rw [hadP_S, if_pos c1, e0, ← hP]
      exact nI_add 2 _
    rw [hk, ← hC, ← hP] at hg
    have hne : ¬ comV (hadP f) d = 0 := by rw [hV]; exact nI_ne0 (by omega) (by omega)
    have h2 : (2 : Int32) ≤ comV (hadP f) d := by rw [hV]; exact nI_le (a := 2) (by omega) (by omega)
    refine ⟨by rw [if_neg hne, i32_add0, upd_same, hP], ?_⟩
    rw [if_pos h2, hV, hR, show (1 : Int32) = nI 1 from rfl, pk_sub (by omega)]
    congr 1
    omega
  · by_cases c2 : zcnt (zb (recvS f d)) 16 = 0 ∨ f 1 = 24
    · have hC : comP (hadP f) d = hadP f := by unfold comP; rw [hadP_S, if_neg c1, e1, if_pos c2]
      have hV : comV (hadP f) d = 0 := by unfold comV; rw [hadP_S, if_neg c1, e1, if_pos c2]
      have hP : recvP f d = upd (hadP f) 4 (hadP f 4 + 1) := by unfold recvP; rw [if_neg (by simp [h0]), if_neg c1, if_pos c2]; rfl
      refine ⟨by rw [hP, hC, hV, if_pos rfl], ?_⟩
      rw [hV, if_neg (by decide), hR, hP, show upd (hadP f) 4 (hadP f 4 + 1) 0 = f 0 from rfl, Nat.sub_self]
      rfl
    · have hC : comP (hadP f) d = keepP (hadP f) (f 1).toNatClampNeg (recvS f d) (recvV f d) := by unfold comP; rw [hadP_S, hadP_V, if_neg c1, e1, if_neg c2]
      have hV : comV (hadP f) d = 1 := by unfold comV; rw [hadP_S, if_neg c1, e1, if_neg c2]
      have hP : recvP f d = comP (hadP f) d := by rw [hC]; unfold recvP; rw [if_neg (by simp [h0]), if_neg c1, if_neg c2]; rfl
      refine ⟨by rw [hV, if_neg (by decide), i32_add0, upd_same, hP], ?_⟩
      rw [hV, if_neg (by decide), hR, hP, hC, keepP_0, e0, Nat.sub_self]
      rfl
theorem recvP_lost {f d : Nat → Int32} (h : ¬ d 0 = 0) : recvP f d = upd (hadP f) 3 (hadP f 3 + 1) ∧ recvR f d = 0 := by
  constructor
  · unfold recvP
    rw [if_pos h]
    rfl
  · unfold recvR
    rw [if_pos h]
theorem mkM_14 {g d : Nat → Int32} : mkM g d 12 = d 0 ∧ mkM g d 14 = d 2 ∧ mkM g d 15 = d 3 := ⟨rfl, rfl, rfl⟩
