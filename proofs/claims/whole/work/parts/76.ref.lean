theorem zcnt_know {f : Nat → Int32} {c : Nat} {v : Int32} (hc : c < 16) (h : zb (f 0) c = false) : zcnt (zb (knowP f c v 0)) 16 = zcnt (zb (f 0)) 16 + 1 := by
  rw [show knowP f c v 0 = f 0 ||| bt c from rfl]
  exact zcnt_or_bt hc h

set_option maxRecDepth 100000 in
set_option maxHeartbeats 4000000 in
theorem lp_X7_firstSmall (l : Launch) (D : zD) (B : Nat) {L : zL} {nx : Nat} {G : zG} {m i : Nat} {g r : Nat → Int32} (hm : (m, 8) ∈ L) (hi : i < 3) {f : Nat → Int32} {t : Nat} (ht : t ≤ 24) (h1 : f 1 = nI t) : ∀ k : Nat, k ≤ t → (∀ j, j < k → zsmall f j = false) → zV l (fun _ => True) D B RX7 "firstSmall" cX7_firstSmall 3 (some .int) (zrm 1 22 0 0) (zN (zE (some (.int (zfs f))) L nx (mS G m g r i (f)))) 0 0 L nx 2 [some (.ref m), some (.int (nI i)), some (.int (nI k))] [] ((mS G m g r i (f))) := by
  refine zloop t (fun k hkt ih hno => ?_)
  refine zv_iload_n dX7_firstSmall_2 rfl ?_
  refine zv_aload_n dX7_firstSmall_3 rfl ?_
  refine zv_iload_n dX7_firstSmall_4 rfl ?_
  refine zv_iconst (v := 1) dX7_firstSmall_5 (by decide) ?_
  refine zv_callV (m_its l D B (k := 1) hm hi (by omega)) ml_X7_48 in_X7_its sel_X7_its hm rfl rfl rfl rfl (Nat.le_of_ble_eq_true rfl) dX7_firstSmall_6 ⟨Nat.le_of_ble_eq_true rfl, Nat.le_of_ble_eq_true rfl⟩ ⟨Nat.le_refl _, Nat.le_refl _⟩ (zk_i ?_)
  rw [h1]
  refine zv_icmp_ge (tgt := 36) dX7_firstSmall_9 (by decide) (fun c9 => ?_) (fun c9 => ?_)
  · have e : k = t := by have := (nI_leI (by omega) (by omega)).mp c9; omega
    subst e
    have hv : zfs f = -6 := by unfold zfs; rw [h1, nI_clamp (by omega), zfind_of_none hno]
    refine zv_bipush (v := (-6)) dX7_firstSmall_36 (by decide) ?_
    refine zv_iretE dX7_firstSmall_38 rfl (rfl) ?_ ?_
    · exact hv.symm
    · rfl
  · have hlt : k < t := by
      rcases Nat.lt_or_ge k t with h | h
      · exact h
      · exact absurd (nI_le h (by omega)) c9
    refine zv_aload_n dX7_firstSmall_12 rfl ?_
    refine zv_iload_n dX7_firstSmall_13 rfl ?_
    refine zv_bipush (v := 21) dX7_firstSmall_14 (by decide) ?_
    refine zv_iload_n dX7_firstSmall_16 rfl ?_
    refine zv_iadd dX7_firstSmall_17 ?_
    rw [ix21]
    refine zv_callV (m_its l D B (k := 21 + k) hm hi (by omega)) ml_X7_48 in_X7_its sel_X7_its hm rfl rfl rfl rfl (Nat.le_of_ble_eq_true rfl) dX7_firstSmall_18 ⟨Nat.le_of_ble_eq_true rfl, Nat.le_of_ble_eq_true rfl⟩ ⟨Nat.le_refl _, Nat.le_refl _⟩ (zk_i ?_)
    refine zv_callS (m_X7_size l D B (f (21 + k))) ml_X7_91 st_X7_size rfl rfl (Nat.le_of_ble_eq_true rfl) dX7_firstSmall_21 ⟨Nat.le_of_ble_eq_true rfl, Nat.le_of_ble_eq_true rfl⟩ ⟨Nat.le_refl _, Nat.le_refl _⟩ (zk_i ?_)
    have hcb := zcnt_le (zb (f (21 + k))) 16
    refine zv_iconst (v := 2) dX7_firstSmall_24 (by decide) ?_
    refine zv_icmp_ge (tgt := 30) dX7_firstSmall_25 (by decide) (fun c25 => ?_) (fun c25 => ?_)
    · have h2 : zsmall f k = false := by
        have := (nI_leI (a := 2) (b := zcnt (zb (f (21 + k))) 16) (by omega) (by omega)).mp c25
        simp only [zsmall, decide_eq_false_iff_not]
        omega
      refine zv_iinc1 dX7_firstSmall_30 rfl (by decide) rfl ?_
      refine zv_goto (tgt := 2) dX7_firstSmall_33 (by decide) ?_
      rw [nI_1]
      refine ih hlt (fun j hj => ?_)
      rcases Nat.lt_or_ge j k with h | h
      · exact hno j h
      · rw [show j = k by omega]; exact h2
    · have h2 : zsmall f k = true := by
        simp only [zsmall, decide_eq_true_eq]
        rcases Nat.lt_or_ge (zcnt (zb (f (21 + k))) 16) 2 with h | h
        · exact h
        · exact absurd (nI_le h (by omega)) c25
      have hv : zfs f = nI k := by unfold zfs; rw [h1, nI_clamp (by omega), zfind_of hlt h2 hno]
      refine zv_iload_n dX7_firstSmall_28 rfl ?_
      refine zv_iretE dX7_firstSmall_29 rfl (rfl) ?_ ?_
      · exact hv.symm
      · rfl

set_option maxRecDepth 100000 in
set_option maxHeartbeats 4000000 in
theorem m_X7_firstSmall (l : Launch) (D : zD) (B : Nat) {L : zL} {nx : Nat} {G : zG} {m i : Nat} {g r : Nat → Int32} (hm : (m, 8) ∈ L) (hi : i < 3) {f : Nat → Int32} {t : Nat} (ht : t ≤ 24) (h1 : f 1 = nI t) : zMet l D B yX7_firstSmall cX7_firstSmall 3 (some .int) 1 22 0 0 [.ref m, .int (nI i)] L nx (mS G m g r i (f)) (zE (some (.int (zfs f))) L nx (mS G m g r i (f))) := by
  refine zMet_of (own := RX7) (mn := "firstSmall") [some (.ref m), some (.int (nI i)), none] (by decide +kernel) rfl rfl rfl (Nat.le_of_ble_eq_true rfl) ?_
  show zV l (fun _ => True) D B RX7 "firstSmall" cX7_firstSmall 3 (some .int) (zrm 1 22 0 0) (zN (zE (some (.int (zfs f))) L nx (mS G m g r i (f)))) 0 0 L nx 0 [some (.ref m), some (.int (nI i)), none] [] ((mS G m g r i (f)))
  refine zv_iconst (v := 0) dX7_firstSmall_0 (by decide) ?_
  refine zv_istore_n dX7_firstSmall_1 (by decide) rfl ?_
  exact lp_X7_firstSmall l D B hm hi ht h1 0 (by omega) (fun j hj => by omega)

set_option maxRecDepth 100000 in
set_option maxHeartbeats 4000000 in
theorem lp_X7_peel (l : Launch) (D : zD) (B : Nat) {L : zL} {nx : Nat} {G : zG} {m i : Nat} {g r : Nat → Int32} (hm : (m, 8) ∈ L) (hi : i < 3) {n c0 : Nat} {ch R : Nat → Int32} : ∀ s : Nat, s ≤ 24 → ∀ (f : Nat → Int32) (t : Nat) (x y : Option Value), zCJ n ch f t → t + s ≤ 24 → peelP (24 - s) f = R → c0 ≤ zcnt (zb (f 0)) 16 → zV l (fun _ => True) D B RX7 "peel" cX7_peel 6 (some .int) (zrm 2 47 0 0) (zN (zE (some (.int (nI (zcnt (zb (R 0)) 16 - c0)))) L nx (mS G m g r i (R)))) 0 0 L nx 8 [some (.ref m), some (.int (nI i)), some (.int (nI (zcnt (zb (f 0)) 16 - c0))), some (.int (zfs f)), x, y] [] ((mS G m g r i (f))) := by
  refine zloop 24 (fun s hs24 ih f t x y hJ hts hR hc0 => ?_)
  obtain ⟨j1, j2, j3, j4, j5, j6⟩ := id hJ
  refine zv_iload_n dX7_peel_8 rfl ?_
  refine zv_bipush (v := (-6)) dX7_peel_9 (by decide) ?_
  rcases hz : zfind (zsmall f) t with _ | k
  · have hzf : zfs f = -6 := by unfold zfs; rw [j3, nI_clamp (by omega), hz]
    rw [hzf]
    have hfR : f = R := by
      rw [← hR]
      cases hs : 24 - s with
      | zero => rfl
      | succ u => unfold peelP; rw [j3, nI_clamp (by omega), hz]
    refine zv_icmp_eq (tgt := 71) dX7_peel_11 (by decide) (fun _ => ?_) (fun h => absurd (rfl) h)
    refine zv_iload_n dX7_peel_71 rfl ?_
    refine zv_iretE dX7_peel_72 rfl rfl ?_ ?_
    · rw [hfR]
    · rw [hfR]
  · have hzf : zfs f = nI k := by unfold zfs; rw [j3, nI_clamp (by omega), hz]
    obtain ⟨hrm, -, -⟩ := zfind_some hz
    obtain ⟨hJ2, hkey⟩ := zCJ_peelS hJ hz
    have hstep : peelP (24 - s) f = peelP (24 - (s + 1)) (peelS f k) := by
      rw [show 24 - s = (24 - (s + 1)) + 1 by omega]
      conv => lhs; unfold peelP
      rw [j3, nI_clamp (by omega), hz]
    rw [hzf]
    refine zv_icmp_eq (tgt := 71) dX7_peel_11 (by decide) (fun h => absurd h (fun e => absurd (show nI k < 0 by rw [e]; decide) (nI_pos (by omega)))) (fun _ => ?_)
    refine zv_aload_n dX7_peel_14 rfl ?_
    refine zv_iload_n dX7_peel_15 rfl ?_
    refine zv_bipush (v := 21) dX7_peel_16 (by decide) ?_
    refine zv_iload_n dX7_peel_18 rfl ?_
    refine zv_iadd dX7_peel_19 ?_
    rw [ix21]
    refine zv_callV (m_its l D B (k := 21 + k) hm hi (by omega)) ml_X7_48 in_X7_its sel_X7_its hm rfl rfl rfl rfl (Nat.le_of_ble_eq_true rfl) dX7_peel_20 ⟨Nat.le_of_ble_eq_true rfl, Nat.le_of_ble_eq_true rfl⟩ ⟨Nat.le_refl _, Nat.le_refl _⟩ (zk_i ?_)
    refine zv_istore dX7_peel_23 (by decide) rfl ?_
    refine zv_aload_n dX7_peel_25 rfl ?_
    refine zv_iload_n dX7_peel_26 rfl ?_
    refine zv_bipush (v := 45) dX7_peel_27 (by decide) ?_
    refine zv_iload_n dX7_peel_29 rfl ?_
    refine zv_iadd dX7_peel_30 ?_
    rw [ix45]
    refine zv_callV (m_its l D B (k := 45 + k) hm hi (by omega)) ml_X7_48 in_X7_its sel_X7_its hm rfl rfl rfl rfl (Nat.le_of_ble_eq_true rfl) dX7_peel_31 ⟨Nat.le_of_ble_eq_true rfl, Nat.le_of_ble_eq_true rfl⟩ ⟨Nat.le_refl _, Nat.le_refl _⟩ (zk_i ?_)
    refine zv_istore dX7_peel_34 (by decide) rfl ?_
    refine zv_aload_n dX7_peel_36 rfl ?_
    refine zv_iload_n dX7_peel_37 rfl ?_
    refine zv_iload_n dX7_peel_38 rfl ?_
    refine zv_callV (m_X7_takeAway l D B hm hi hrm j2 j3 (fun k hk1 hk2 => by have := (hJ.2.2.2.2.2 k hk2).2.2.2 hk1; have h3 := (hJ.2.2.2.2.2 k hk2).2.2.1; rw [this] at h3; exact ⟨this, by rw [h3, xs_zero]⟩)) ml_X7_97 in_X7_takeAway sel_X7_takeAway hm rfl rfl rfl rfl (Nat.le_of_ble_eq_true rfl) dX7_peel_39 ⟨Nat.le_of_ble_eq_true rfl, Nat.le_of_ble_eq_true rfl⟩ ⟨Nat.le_refl _, Nat.le_refl _⟩ (zk_v ?_)
    refine zv_iload dX7_peel_42 rfl ?_
    refine zv_if_eq (tgt := 62) dX7_peel_44 (by decide) (fun c44 => ?_) (fun c44 => ?_)
    · have hs0 : peelS f k = takeP f k := by unfold peelS; rw [if_pos c44]
      have hcn : zcnt (zb (peelS f k 0)) 16 = zcnt (zb (f 0)) 16 := by rw [hs0, takeP_0]
      refine zv_aload_n dX7_peel_62 rfl ?_
      refine zv_iload_n dX7_peel_63 rfl ?_
      rw [← hs0]
      refine zv_callV (m_X7_firstSmall l D B hm hi (show t - 1 ≤ 24 by omega) hJ2.2.2.1) ml_X7_94 in_X7_firstSmall sel_X7_firstSmall hm rfl rfl rfl rfl (Nat.le_of_ble_eq_true rfl) dX7_peel_64 ⟨Nat.le_of_ble_eq_true rfl, Nat.le_of_ble_eq_true rfl⟩ ⟨Nat.le_refl _, Nat.le_refl _⟩ (zk_i ?_)
      refine zv_istore_n dX7_peel_67 (by decide) rfl ?_
      refine zv_goto (tgt := 8) dX7_peel_68 (by decide) ?_
      first
        | (rw [nI_1, show zcnt (zb (f 0)) 16 - c0 + 1 = zcnt (zb (peelS f k 0)) 16 - c0 by rw [hcn]; omega]
           exact ih (by omega) (peelS f k) (t - 1) _ _ hJ2 (by omega) (hstep.symm.trans hR) (by rw [hcn]; omega))
        | (rw [show zcnt (zb (f 0)) 16 - c0 = zcnt (zb (peelS f k 0)) 16 - c0 by rw [hcn]]
           exact ih (by omega) (peelS f k) (t - 1) _ _ hJ2 (by omega) (hstep.symm.trans hR) (by rw [hcn]; omega))
    · have hs0 : peelS f k = knowP (takeP f k) (zlow (f (21 + k))) (f (45 + k)) := by unfold peelS; rw [if_neg c44]
      obtain ⟨e1, e2, e3, e4⟩ := hkey c44
      have hJt := zCJ_take hJ hrm
      have hcn : zcnt (zb (peelS f k 0)) 16 = zcnt (zb (f 0)) 16 + 1 := by rw [hs0, zcnt_know (by omega) (by rw [takeP_0]; exact e3), takeP_0]
      refine zv_aload_n dX7_peel_47 rfl ?_
      refine zv_iload_n dX7_peel_48 rfl ?_
      refine zv_iload dX7_peel_49 rfl ?_
      refine zv_callS (m_X7_lowest l D B _) ml_X7_101 st_X7_lowest rfl rfl (Nat.le_of_ble_eq_true rfl) dX7_peel_51 ⟨Nat.le_of_ble_eq_true rfl, Nat.le_of_ble_eq_true rfl⟩ ⟨Nat.le_refl _, Nat.le_refl _⟩ (zk_i ?_)
      rw [lowM_z]
      refine zv_iload dX7_peel_54 rfl ?_
      refine zv_callV (m_X7_knows l D B hm hi (t := t - 1) (show zlow (f (21 + k)) < 16 by omega) (by omega) hJt.2.2.1 (fun k2 hk1 hk2 => by rw [(hJt.2.2.2.2.2 k2 hk2).2.2.2 hk1]; exact zb_zero _)) ml_X7_104 in_X7_knows sel_X7_knows hm rfl rfl rfl rfl (Nat.le_of_ble_eq_true rfl) dX7_peel_56 ⟨Nat.le_of_ble_eq_true rfl, Nat.le_of_ble_eq_true rfl⟩ ⟨Nat.le_refl _, Nat.le_refl _⟩ (zk_v ?_)
      refine zv_iinc1 dX7_peel_59 rfl (by decide) rfl ?_
      refine zv_aload_n dX7_peel_62 rfl ?_
      refine zv_iload_n dX7_peel_63 rfl ?_
      rw [← hs0]
      refine zv_callV (m_X7_firstSmall l D B hm hi (show t - 1 ≤ 24 by omega) hJ2.2.2.1) ml_X7_94 in_X7_firstSmall sel_X7_firstSmall hm rfl rfl rfl rfl (Nat.le_of_ble_eq_true rfl) dX7_peel_64 ⟨Nat.le_of_ble_eq_true rfl, Nat.le_of_ble_eq_true rfl⟩ ⟨Nat.le_refl _, Nat.le_refl _⟩ (zk_i ?_)
      refine zv_istore_n dX7_peel_67 (by decide) rfl ?_
      refine zv_goto (tgt := 8) dX7_peel_68 (by decide) ?_
      first
        | (rw [nI_1, show zcnt (zb (f 0)) 16 - c0 + 1 = zcnt (zb (peelS f k 0)) 16 - c0 by rw [hcn]; omega]
           exact ih (by omega) (peelS f k) (t - 1) _ _ hJ2 (by omega) (hstep.symm.trans hR) (by rw [hcn]; omega))
        | (rw [show zcnt (zb (f 0)) 16 - c0 = zcnt (zb (peelS f k 0)) 16 - c0 by rw [hcn]]
           exact ih (by omega) (peelS f k) (t - 1) _ _ hJ2 (by omega) (hstep.symm.trans hR) (by rw [hcn]; omega))

set_option maxRecDepth 100000 in
set_option maxHeartbeats 4000000 in
theorem m_X7_peel (l : Launch) (D : zD) (B : Nat) {L : zL} {nx : Nat} {G : zG} {m i : Nat} {g r : Nat → Int32} (hm : (m, 8) ∈ L) (hi : i < 3) {n t : Nat} {ch f : Nat → Int32} (hJ : zCJ n ch f t) : zMet l D B yX7_peel cX7_peel 6 (some .int) 2 47 0 0 [.ref m, .int (nI i)] L nx (mS G m g r i (f)) (zE (some (.int (nI (zcnt (zb (peelP 24 f 0)) 16 - zcnt (zb (f 0)) 16)))) L nx (mS G m g r i (peelP 24 f))) := by
  refine zMet_of (own := RX7) (mn := "peel") [some (.ref m), some (.int (nI i)), none, none, none, none] (by decide +kernel) rfl rfl rfl (Nat.le_of_ble_eq_true rfl) ?_
  show zV l (fun _ => True) D B RX7 "peel" cX7_peel 6 (some .int) (zrm 2 47 0 0) (zN (zE (some (.int (nI (zcnt (zb (peelP 24 f 0)) 16 - zcnt (zb (f 0)) 16)))) L nx (mS G m g r i (peelP 24 f)))) 0 0 L nx 0 [some (.ref m), some (.int (nI i)), none, none, none, none] [] ((mS G m g r i (f)))
  refine zv_iconst (v := 0) dX7_peel_0 (by decide) ?_
  refine zv_istore_n dX7_peel_1 (by decide) rfl ?_
  refine zv_aload_n dX7_peel_2 rfl ?_
  refine zv_iload_n dX7_peel_3 rfl ?_
  refine zv_callV (m_X7_firstSmall l D B hm hi hJ.2.1 hJ.2.2.1) ml_X7_94 in_X7_firstSmall sel_X7_firstSmall hm rfl rfl rfl rfl (Nat.le_of_ble_eq_true rfl) dX7_peel_4 ⟨Nat.le_of_ble_eq_true rfl, Nat.le_of_ble_eq_true rfl⟩ ⟨Nat.le_refl _, Nat.le_refl _⟩ (zk_i ?_)
  refine zv_istore_n dX7_peel_7 (by decide) rfl ?_
  have := lp_X7_peel l D B (G := G) (nx := nx) (g := g) (r := r) (n := n) (c0 := zcnt (zb (f 0)) 16) (ch := ch) (R := peelP 24 f) hm hi 0 (by omega) f t none none hJ hJ.2.1 rfl (Nat.le_refl _)
  rw [Nat.sub_self] at this
  exact this
