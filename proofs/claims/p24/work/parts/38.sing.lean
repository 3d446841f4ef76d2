def solP (f g : Nat → Int32) : Nat → Int32 := peelP 24 (lsP f g 24)

set_option maxRecDepth 100000 in
set_option maxHeartbeats 4000000 in
theorem lp_X0_learnSingles (l : Launch) (D : zD) (B : Nat) {L : zL} {nx : Nat} {G : zG} {q r n m : Nat} {ch : Nat → Int32} (hq : (q, 3) ∈ L) (hr : (r, 5) ∈ L) (hrq : r ≠ q) (hJ : zCJ n ch (G q) m) (hR : zRW n ch (G q) (G r)) : ∀ i : Nat, i ≤ 24 → zV l (fun _ => True) D B RX0 "learnSingles" cX0_learnSingles 4 (some .int) (zrm 3 65 0 0) (zN (zE (some (.int (nI (zcnt (zb (solP (G q) (G r) 0)) 16) - nI (zcnt (zb (G q 0)) 16)))) L nx (zst G q (solP (G q) (G r))))) 0 0 L nx 7 [some (.ref q), some (.ref r), some (.int (nI (zcnt (zb (G q 0)) 16))), some (.int (nI i))] [] (zst G q (lsP (G q) (G r) i)) := by
  refine zloop 24 (fun i hi ih => ?_)
  refine zv_iload_n dX0_learnSingles_7 rfl ?_
  refine zv_bipush (v := 24) dX0_learnSingles_8 (by decide) ?_
  refine zv_icmp_ge (tgt := 43) dX0_learnSingles_10 (by decide) (fun c10 => ?_) (fun c10 => ?_)
  · have e : i = 24 := by have := zge_of (N := 24) (by decide) (by omega) rfl c10; omega
    subst e
    have hJ2 := (lsP_J hJ hR 24 (by omega)).1
    obtain ⟨m3, hJ3, -⟩ := zCI_peelP 24 _ m hJ.2.1 hJ2
    refine zv_aload_n dX0_learnSingles_43 rfl ?_
    refine zv_callV (m_X0_peel l D B (n := n) (ch := ch) (m := m) hq (by rw [zst_same]; exact hJ2)) ml_X0_68 in_X0_peel sel_X0_peel hq rfl rfl rfl rfl (Nat.le_of_ble_eq_true rfl) dX0_learnSingles_44 ⟨Nat.le_of_ble_eq_true rfl, Nat.le_of_ble_eq_true rfl⟩ ⟨Nat.le_refl _, Nat.le_refl _⟩ (zk_v ?_)
    rw [zst_same, zst_zst, show peelP 24 (lsP (G q) (G r) 24) = solP (G q) (G r) from rfl]
    refine zv_aload_n dX0_learnSingles_47 rfl ?_
    refine zv_callV (m_knownCount l D B hq (by rw [zst_same]; exact zlim_zm hJ3.1 hJ3.2.2.2.1)) ml_X0_54 in_X0_knownCount sel_X0_knownCount hq rfl rfl rfl rfl (Nat.le_of_ble_eq_true rfl) dX0_learnSingles_48 ⟨Nat.le_of_ble_eq_true rfl, Nat.le_of_ble_eq_true rfl⟩ ⟨Nat.le_refl _, Nat.le_refl _⟩ (zk_i ?_)
    rw [zst_same]
    refine zv_iload_n dX0_learnSingles_51 rfl ?_
    refine zv_isub dX0_learnSingles_52 ?_
    refine zv_iretE dX0_learnSingles_53 rfl (rfl) ?_ ?_
    · rfl
    · rfl
  · have hlt : i < 24 := zlt_of (N := 24) (by decide) (by omega) rfl c10
    obtain ⟨g1, g2, g3⟩ := hR.1 i hlt
    refine zv_aload_n dX0_learnSingles_13 rfl ?_
    refine zv_iload_n dX0_learnSingles_14 rfl ?_
    refine zv_callV (m_X4_isSingle l D B hr hlt rfl (by rw [zst_ne _ _ hrq]; exact zlim_zm hJ.1 g1)) ml_X0_75 in_X4_isSingle sel_X4_isSingle hr rfl rfl rfl rfl (Nat.le_of_ble_eq_true rfl) dX0_learnSingles_15 ⟨Nat.le_of_ble_eq_true rfl, Nat.le_of_ble_eq_true rfl⟩ ⟨Nat.le_refl _, Nat.le_refl _⟩ (zk_i ?_)
    rw [zst_ne _ _ hrq]
    refine zv_if_eq (tgt := 37) dX0_learnSingles_18 (by decide) (fun c18 => ?_) (fun c18 => ?_)
    · have hs := bI_eq0.mp c18
      have hl : lsP (G q) (G r) (i + 1) = lsP (G q) (G r) i := by
        conv => lhs; unfold lsP
        rw [hs]
        simp
      refine zv_iinc1 dX0_learnSingles_37 rfl (by decide) rfl ?_
      refine zv_goto (tgt := 7) dX0_learnSingles_40 (by decide) ?_
      rw [nI_1]
      refine zv_eqG ?_ (ih hlt)
      rw [hl]
      try simp only [zst_same, zst_zst]
    · have hs := bI_ne0.mp c18
      obtain ⟨e1, e2, e3⟩ := sg_one hJ.1 g1 hs
      have hl : lsP (G q) (G r) (i + 1) = knowP (lsP (G q) (G r) i) (zlow (G r i)) (G r (24 + i)) := by
        conv => lhs; unfold lsP
        rw [hs]
        simp
      refine zv_aload_n dX0_learnSingles_21 rfl ?_
      refine zv_aload_n dX0_learnSingles_22 rfl ?_
      refine zv_getS (r := 1) hr rfl fl_X0_81 rfl dX0_learnSingles_23 ?_
      refine zv_iload_n dX0_learnSingles_26 rfl ?_
      refine zv_iald (i := 1) hr rfl (zix_nI (by omega) (by decide)) dX0_learnSingles_27 ?_
      refine zv_aload_n dX0_learnSingles_28 rfl ?_
      refine zv_getS (r := 2) hr rfl fl_X0_82 rfl dX0_learnSingles_29 ?_
      refine zv_iload_n dX0_learnSingles_32 rfl ?_
      refine zv_iald (i := 2) hr rfl (zix_nI (by omega) (by decide)) dX0_learnSingles_33 ?_
      simp only [zst_ne _ _ hrq, Nat.zero_add i]
      refine zv_callV (m_X0_learn l D B hq (show zlow (G r i) < 16 by have := hJ.1; omega) e1) ml_X0_64 in_X0_learn sel_X0_learn hq rfl rfl rfl rfl (Nat.le_of_ble_eq_true rfl) dX0_learnSingles_34 ⟨Nat.le_of_ble_eq_true rfl, Nat.le_of_ble_eq_true rfl⟩ ⟨Nat.le_refl _, Nat.le_refl _⟩ (zk_v ?_)
      refine zv_iinc1 dX0_learnSingles_37 rfl (by decide) rfl ?_
      refine zv_goto (tgt := 7) dX0_learnSingles_40 (by decide) ?_
      rw [nI_1]
      refine zv_eqG ?_ (ih hlt)
      rw [hl]
      try simp only [zst_same, zst_zst]

set_option maxRecDepth 100000 in
set_option maxHeartbeats 4000000 in
theorem m_X0_learnSingles (l : Launch) (D : zD) (B : Nat) {L : zL} {nx : Nat} {G : zG} {q r n m : Nat} {ch : Nat → Int32} (hq : (q, 3) ∈ L) (hr : (r, 5) ∈ L) (hrq : r ≠ q) (hJ : zCJ n ch (G q) m) (hR : zRW n ch (G q) (G r)) : zMet l D B yX0_learnSingles cX0_learnSingles 4 (some .int) 3 65 0 0 [.ref q, .ref r] L nx G (zE (some (.int (nI (zcnt (zb (solP (G q) (G r) 0)) 16) - nI (zcnt (zb (G q 0)) 16)))) L nx (zst G q (solP (G q) (G r)))) := by
  refine zMet_of (own := RX0) (mn := "learnSingles") [some (.ref q), some (.ref r), none, none] (by decide +kernel) rfl rfl rfl (Nat.le_of_ble_eq_true rfl) ?_
  show zV l (fun _ => True) D B RX0 "learnSingles" cX0_learnSingles 4 (some .int) (zrm 3 65 0 0) (zN (zE (some (.int (nI (zcnt (zb (solP (G q) (G r) 0)) 16) - nI (zcnt (zb (G q 0)) 16)))) L nx (zst G q (solP (G q) (G r))))) 0 0 L nx 0 [some (.ref q), some (.ref r), none, none] [] (G)
  refine zv_aload_n dX0_learnSingles_0 rfl ?_
  refine zv_callV (m_knownCount l D B hq (zlim_zm hJ.1 hJ.2.2.2.1)) ml_X0_54 in_X0_knownCount sel_X0_knownCount hq rfl rfl rfl rfl (Nat.le_of_ble_eq_true rfl) dX0_learnSingles_1 ⟨Nat.le_of_ble_eq_true rfl, Nat.le_of_ble_eq_true rfl⟩ ⟨Nat.le_refl _, Nat.le_refl _⟩ (zk_i ?_)
  refine zv_istore_n dX0_learnSingles_4 (by decide) rfl ?_
  refine zv_iconst (v := 0) dX0_learnSingles_5 (by decide) ?_
  refine zv_istore_n dX0_learnSingles_6 (by decide) rfl ?_
  refine zv_eqG ?_ (lp_X0_learnSingles l D B hq hr hrq hJ hR 0 (by omega))
  exact (zst_self _ _).symm
