set_option maxRecDepth 100000 in
set_option maxHeartbeats 4000000 in
theorem lp_X0_peel (l : Launch) (D : zD) (B : Nat) {L : zL} {nx : Nat} {G : zG} {q n : Nat} {ch : Nat → Int32} (hq : (q, 3) ∈ L) : ∀ i : Nat, i ≤ 24 → ∀ (f : Nat → Int32) (m : Nat) (a b c : Option Value), zCJ n ch f m → peelP (24 - i) f = peelP 24 (G q) → zV l (fun _ => True) D B RX0 "peel" cX0_peel 5 none (zrm 2 41 0 0) (zN (zE none L nx (zst G q (peelP 24 (G q))))) 0 0 L nx 2 [some (.ref q), some (.int (nI i)), a, b, c] [] (zst G q f) := by
  refine zloop 24 (fun i hi ih f m a b c hJ hp => ?_)
  refine zv_iload_n dX0_peel_2 rfl ?_
  refine zv_bipush (v := 24) dX0_peel_3 (by decide) ?_
  refine zv_icmp_ge (tgt := 61) dX0_peel_5 (by decide) (fun c5 => ?_) (fun c5 => ?_)
  · have e : i = 24 := by have := zge_of (N := 24) (by decide) (by omega) rfl c5; omega
    subst e
    refine zv_vretE dX0_peel_61 rfl ?_
    rw [← hp]; rfl
  · have hlt : i < 24 := zlt_of (N := 24) (by decide) (by omega) rfl c5
    obtain ⟨j1, j2, j3, j4, j5, j6⟩ := id hJ
    refine zv_aload_n dX0_peel_8 rfl ?_
    refine zv_callV (m_X0_firstPeelable l D B hq j2 (by rw [zst_same]; exact j3) (fun r hr => by rw [zst_same]; exact zlim_zm j1 (j6 r (by omega)).1)) ml_X0_87 in_X0_firstPeelable sel_X0_firstPeelable hq rfl rfl rfl rfl (Nat.le_of_ble_eq_true rfl) dX0_peel_9 ⟨Nat.le_of_ble_eq_true rfl, Nat.le_of_ble_eq_true rfl⟩ ⟨Nat.le_refl _, Nat.le_refl _⟩ (zk_i ?_)
    rw [zst_same]
    rcases hz : zfind (zsmall f) m with _ | r
    · have hzf : zfs f = -6 := by unfold zfs; rw [j3, nI_clamp (by omega), hz]
      rw [hzf]
      refine zv_istore_n dX0_peel_12 (by decide) rfl ?_
      refine zv_iload_n dX0_peel_13 rfl ?_
      refine zv_iconst (v := 0) dX0_peel_14 (by decide) ?_
      refine zv_bipush (v := 23) dX0_peel_15 (by decide) ?_
      refine zv_callSN (m_X6_isWithin l D B _ 0 23) ml_X0_83 st_X6_isWithin rfl rfl (Nat.le_of_ble_eq_true rfl) dX0_peel_17 ⟨Nat.le_of_ble_eq_true rfl, Nat.le_of_ble_eq_true rfl⟩ ⟨Nat.le_refl _, Nat.le_refl _⟩ (zk_i ?_)
      refine zv_if_ne (tgt := 24) dX0_peel_20 (by decide) (fun h => absurd (by decide) h) (fun _ => ?_)
      refine zv_vretE dX0_peel_23 rfl ?_
      rw [← hp, show 24 - i = (23 - i) + 1 by omega]
      unfold peelP
      rw [j3, nI_clamp (by omega), hz]
    · have hzf : zfs f = nI r := by unfold zfs; rw [j3, nI_clamp (by omega), hz]
      rw [hzf]
      obtain ⟨hrm, -, -⟩ := zfind_some hz
      obtain ⟨hJ2, hkey⟩ := zCJ_peelS hJ hz
      have hstep : peelP (24 - i) f = peelP (24 - (i + 1)) (peelS f r) := by
        rw [show 24 - i = (24 - (i + 1)) + 1 by omega]
        conv => lhs; unfold peelP
        rw [j3, nI_clamp (by omega), hz]
      refine zv_istore_n dX0_peel_12 (by decide) rfl ?_
      refine zv_iload_n dX0_peel_13 rfl ?_
      refine zv_iconst (v := 0) dX0_peel_14 (by decide) ?_
      refine zv_bipush (v := 23) dX0_peel_15 (by decide) ?_
      refine zv_callSN (m_X6_isWithin l D B _ 0 23) ml_X0_83 st_X6_isWithin rfl rfl (Nat.le_of_ble_eq_true rfl) dX0_peel_17 ⟨Nat.le_of_ble_eq_true rfl, Nat.le_of_ble_eq_true rfl⟩ ⟨Nat.le_refl _, Nat.le_refl _⟩ (zk_i ?_)
      refine zv_if_ne (tgt := 24) dX0_peel_20 (by decide) (fun _ => ?_) (fun h => absurd h (by rw [show zin3 (nI r) 0 23 = true from (zin3_iff (m := 23) (by decide)).mpr ⟨r, by omega, rfl⟩]; decide))
      refine zv_aload_n dX0_peel_24 rfl ?_
      refine zv_getS (r := 2) hq rfl fl_X0_15 rfl dX0_peel_25 ?_
      refine zv_iload_n dX0_peel_28 rfl ?_
      refine zv_iald (i := 2) hq rfl (zix_nI (by omega) (by decide)) dX0_peel_29 ?_
      rw [zst_same]
      refine zv_istore_n dX0_peel_30 (by decide) rfl ?_
      refine zv_aload_n dX0_peel_31 rfl ?_
      refine zv_getS (r := 3) hq rfl fl_X0_18 rfl dX0_peel_32 ?_
      refine zv_iload_n dX0_peel_35 rfl ?_
      refine zv_iald (i := 3) hq rfl (zix_nI (by omega) (by decide)) dX0_peel_36 ?_
      rw [zst_same]
      refine zv_istore dX0_peel_37 (by decide) rfl ?_
      refine zv_aload_n dX0_peel_39 rfl ?_
      refine zv_iload_n dX0_peel_40 rfl ?_
      refine zv_callV (m_X0_removeKept l D B hq (show r < 24 by omega) rfl) ml_X0_90 in_X0_removeKept sel_X0_removeKept hq rfl rfl rfl rfl (Nat.le_of_ble_eq_true rfl) dX0_peel_41 ⟨Nat.le_of_ble_eq_true rfl, Nat.le_of_ble_eq_true rfl⟩ ⟨Nat.le_refl _, Nat.le_refl _⟩ (zk_v ?_)
      rw [zst_same, zst_zst]
      refine zv_iload_n dX0_peel_44 rfl ?_
      refine zv_if_eq (tgt := 55) dX0_peel_45 (by decide) (fun c45 => ?_) (fun c45 => ?_)
      · have hs0 : peelS f r = takeP f r := by unfold peelS; rw [if_pos c45]
        refine zv_iinc1 dX0_peel_55 rfl (by decide) rfl ?_
        refine zv_goto (tgt := 2) dX0_peel_58 (by decide) ?_
        rw [nI_1]
        refine zv_eqG ?_ (ih hlt (peelS f r) (m - 1) _ _ _ hJ2 (hstep.symm.trans hp))
        first
          | (rw [hs0]; done)
          | (rw [hs0]; simp only [zst_same, zst_zst])
      · have hs0 : peelS f r = knowP (takeP f r) (zlow (f (21 + r))) (f (45 + r)) := by unfold peelS; rw [if_neg c45]
        obtain ⟨e1, e2, e3, e4⟩ := hkey c45
        refine zv_aload_n dX0_peel_48 rfl ?_
        refine zv_iload_n dX0_peel_49 rfl ?_
        refine zv_iload dX0_peel_50 rfl ?_
        refine zv_callV (m_X0_learn l D B hq (show zlow (f (21 + r)) < 16 by omega) e1) ml_X0_64 in_X0_learn sel_X0_learn hq rfl rfl rfl rfl (Nat.le_of_ble_eq_true rfl) dX0_peel_52 ⟨Nat.le_of_ble_eq_true rfl, Nat.le_of_ble_eq_true rfl⟩ ⟨Nat.le_refl _, Nat.le_refl _⟩ (zk_v ?_)
        refine zv_iinc1 dX0_peel_55 rfl (by decide) rfl ?_
        refine zv_goto (tgt := 2) dX0_peel_58 (by decide) ?_
        rw [nI_1]
        refine zv_eqG ?_ (ih hlt (peelS f r) (m - 1) _ _ _ hJ2 (hstep.symm.trans hp))
        first
          | (rw [hs0]; done)
          | (rw [hs0]; simp only [zst_same, zst_zst])

set_option maxRecDepth 100000 in
set_option maxHeartbeats 4000000 in
theorem m_X0_peel (l : Launch) (D : zD) (B : Nat) {L : zL} {nx : Nat} {G : zG} {q n m : Nat} {ch : Nat → Int32} (hq : (q, 3) ∈ L) (hJ : zCJ n ch (G q) m) : zMet l D B yX0_peel cX0_peel 5 none 2 41 0 0 [.ref q] L nx G (zE none L nx (zst G q (peelP 24 (G q)))) := by
  refine zMet_of (own := RX0) (mn := "peel") [some (.ref q), none, none, none, none] (by decide +kernel) rfl rfl rfl (Nat.le_of_ble_eq_true rfl) ?_
  show zV l (fun _ => True) D B RX0 "peel" cX0_peel 5 none (zrm 2 41 0 0) (zN (zE none L nx (zst G q (peelP 24 (G q))))) 0 0 L nx 0 [some (.ref q), none, none, none, none] [] (G)
  refine zv_iconst (v := 0) dX0_peel_0 (by decide) ?_
  refine zv_istore_n dX0_peel_1 (by decide) rfl ?_
  exact zv_eqG (zst_self G q).symm (lp_X0_peel l D B (n := n) (ch := ch) hq 0 (by omega) (G q) m _ _ _ hJ rfl)
