set_option maxRecDepth 100000 in
set_option maxHeartbeats 4000000 in
theorem m_X6_solveCup (l : Launch) (D : zD) (B : Nat) {L : zL} {nx : Nat} {G : zG} {x b : Nat} {r : Nat → Int32} (hb : zBD L x) (hC : CR x r G) (hS : SI b r) (y : Int32) : zMet l D B yX6_solveCup cX6_solveCup 3 (some .int) 4 88 0 0 [.ref x, .int y] L nx G (zI (opSolve r y).1 L nx (fun G1 => CR x ((opSolve r y).2) G1 ∧ zFr x G G1)) := by
  refine zMet_of (own := RX6) (mn := "solveCup") [some (.ref x), some (.int y), none] (by decide +kernel) rfl rfl rfl (Nat.le_of_ble_eq_true rfl) ?_
  show zV l (fun _ => True) D B RX6 "solveCup" cX6_solveCup 3 (some .int) (zrm 4 88 0 0) (zN (zI (opSolve r y).1 L nx (fun G1 => CR x ((opSolve r y).2) G1 ∧ zFr x G G1))) 0 0 L nx 0 [some (.ref x), some (.int y), none] [] (G)
  obtain ⟨w, ls, n, cn, i0, iw, i1, il, i2, i3, i4, i5, i6, i7, i8⟩ := id hS
  have e3 : G (x + 1) 3 = nI cn := by rw [hC.1.1]; exact i4
  have e2 : G (x + 1) 2 = nI n := by rw [hC.1.1]; exact i2
  have e0 : G (x + 1) 0 = nI w := by rw [hC.1.1]; exact i0
  have e1 : G (x + 1) 1 = nI ls := by rw [hC.1.1]; exact i1
  refine zv_aload_n dX6_solveCup_0 rfl ?_
  refine zv_getS (r := 1) hb.1 rfl fl_X6_10 rfl dX6_solveCup_1 ?_
  refine zv_iload_n dX6_solveCup_4 rfl ?_
  rcases hz : cpI r y with _ | i
  · have hno := cpI_none i4 i5 hz
    have hop : opSolve r y = (-1, r) := by unfold opSolve; rw [hz]
    refine zv_callV (m_X5_cupAt_no l D B hb.2.1 e3 i5 hno) ml_X6_110 in_X5_cupAt sel_X5_cupAt hb.2.1.1 rfl rfl rfl rfl (Nat.le_of_ble_eq_true rfl) dX6_solveCup_5 ⟨Nat.le_of_ble_eq_true rfl, Nat.le_of_ble_eq_true rfl⟩ ⟨Nat.le_refl _, Nat.le_refl _⟩ (zk_w ?_)
    refine zv_astore_nN dX6_solveCup_8 (by decide) rfl ?_
    refine zv_aload_nN dX6_solveCup_9 rfl ?_
    refine zv_ifnonnull_n dX6_solveCup_10 ?_
    refine zv_iconst (v := (-1)) dX6_solveCup_13 (by decide) ?_
    rw [hop]
    exact zv_iretI dX6_solveCup_14 rfl rfl rfl ⟨hC, zFr_rf⟩
  · obtain ⟨hi, rfl⟩ := cpI_some i4 i5 hz
    have hi3 : i < 3 := by omega
    have hci := hC.1.2 i hi3
    obtain ⟨m, hJ, hsz⟩ := i6 i hi3
    obtain ⟨hRW, hsol, -⟩ := class_solve hJ
    have hop : opSolve r (nI i) = (nI (zcnt (zb (slvP (cupR r i) (chR r) 0)) 16) - nI (zcnt (zb (cupR r i 0)) 16), putC r i (slvP (cupR r i) (chR r))) := by unfold opSolve; rw [hz]
    refine zv_callV (m_X5_cupAt l D B hb.2.1 e3 i5 hi) ml_X6_110 in_X5_cupAt sel_X5_cupAt hb.2.1.1 rfl rfl rfl rfl (Nat.le_of_ble_eq_true rfl) dX6_solveCup_5 ⟨Nat.le_of_ble_eq_true rfl, Nat.le_of_ble_eq_true rfl⟩ ⟨Nat.le_refl _, Nat.le_refl _⟩ (zk_r ?_)
    refine zv_astore_n dX6_solveCup_8 (by decide) rfl ?_
    refine zv_aload_n dX6_solveCup_9 rfl ?_
    refine zv_ifnonnull_r (tgt := 15) dX6_solveCup_10 (by decide) ?_
    refine zv_aload_n dX6_solveCup_15 rfl ?_
    refine zv_getS (r := 131) hb.1 rfl fl_X6_51 rfl dX6_solveCup_16 ?_
    refine zv_aload_n dX6_solveCup_19 rfl ?_
    refine zv_callV (m_X4_reduce l D B (q := x + 131) (p := x + 1 + (3 + 4 * i)) hb.2.2.2.2.2.2.2 (hb.2.1.2 i hi3) (by omega) hC.2.2) ml_X6_132 in_X4_reduce sel_X4_reduce hb.2.2.2.2.2.2.2 rfl rfl rfl rfl (Nat.le_of_ble_eq_true rfl) dX6_solveCup_20 ⟨Nat.le_of_ble_eq_true rfl, Nat.le_of_ble_eq_true rfl⟩ ⟨Nat.le_refl _, Nat.le_refl _⟩ (zk_v ?_)
    rw [show redN (fun j => if j < 48 then G (x + 1 + (3 + 4 * i)) (21 + j) else 0) 24 = redF (cupR r i) by rw [hci]; rfl]
    have hC2 : CR x r (zst G (x + 131) (redF (cupR r i))) := CR_row hC (fun j hj => (redN_hi 24 j hj).trans (by simp only [rowsOf]; rw [if_neg (by omega)]))
    have hg1 : (zst G (x + 131) (redF (cupR r i))) (x + 1 + (3 + 4 * i)) = cupR r i := by rw [zst_ne _ _ (by omega)]; exact hci
    refine zv_aload_n dX6_solveCup_23 rfl ?_
    refine zv_aload_n dX6_solveCup_24 rfl ?_
    refine zv_getS (r := 131) hb.1 rfl fl_X6_51 rfl dX6_solveCup_25 ?_
    refine zv_callV (m_X0_learnSingles l D B (q := x + 1 + (3 + 4 * i)) (r := x + 131) (n := n) (m := m) (ch := chR r) (hb.2.1.2 i hi3) hb.2.2.2.2.2.2.2 (by omega) (by rw [hg1]; exact hJ) (by rw [hg1, zst_same]; exact hRW)) ml_X6_226 in_X0_learnSingles sel_X0_learnSingles (hb.2.1.2 i hi3) rfl rfl rfl rfl (Nat.le_of_ble_eq_true rfl) dX6_solveCup_28 ⟨Nat.le_of_ble_eq_true rfl, Nat.le_of_ble_eq_true rfl⟩ ⟨Nat.le_refl _, Nat.le_refl _⟩ (zk_i ?_)
    rw [hg1, zst_same, hsol]
    rw [hop]
    exact zv_iretI dX6_solveCup_31 rfl rfl rfl ⟨CR_cup hC2 hi3 (fun j hj => (slvP_hi hJ j hj).trans (cupR_hi r i j hj)), zFr_tr (zFr_zst (by omega)) (zFr_zst (by omega))⟩

set_option maxRecDepth 100000 in
set_option maxHeartbeats 4000000 in
theorem m_X6_droplet (l : Launch) (D : zD) (B : Nat) {L : zL} {nx : Nat} {G : zG} {x b : Nat} {r : Nat → Int32} (hb : zBD L x) (hC : CR x r G) (hS : SI b r) (sd v : Int32) : zMet l D B yX6_droplet cX6_droplet 3 (some .int) 3 71 0 0 [.ref x, .int sd, .int v] L nx G (zI (qDrop r sd v) L nx (fun G1 => CR x (r) G1 ∧ zFr x G G1)) := by
  refine zMet_of (own := RX6) (mn := "droplet") [some (.ref x), some (.int sd), some (.int v)] (by decide +kernel) rfl rfl rfl (Nat.le_of_ble_eq_true rfl) ?_
  show zV l (fun _ => True) D B RX6 "droplet" cX6_droplet 3 (some .int) (zrm 3 71 0 0) (zN (zI (qDrop r sd v) L nx (fun G1 => CR x (r) G1 ∧ zFr x G G1))) 0 0 L nx 0 [some (.ref x), some (.int sd), some (.int v)] [] (G)
  obtain ⟨w, ls, n, cn, i0, iw, i1, il, i2, i3, i4, i5, i6, i7, i8⟩ := id hS
  have e3 : G (x + 1) 3 = nI cn := by rw [hC.1.1]; exact i4
  have e2 : G (x + 1) 2 = nI n := by rw [hC.1.1]; exact i2
  have e0 : G (x + 1) 0 = nI w := by rw [hC.1.1]; exact i0
  have e1 : G (x + 1) 1 = nI ls := by rw [hC.1.1]; exact i1
  refine zv_iload_n dX6_droplet_0 rfl ?_
  refine zv_iconst (v := 0) dX6_droplet_1 (by decide) ?_
  refine zv_ldc dX6_droplet_2 kc_X6_84 ?_
  refine zv_callS (m_X6_isWithin l D B sd 0 65535) ml_X6_85 st_X6_isWithin rfl rfl (Nat.le_of_ble_eq_true rfl) dX6_droplet_4 ⟨Nat.le_of_ble_eq_true rfl, Nat.le_of_ble_eq_true rfl⟩ ⟨Nat.le_refl _, Nat.le_refl _⟩ (zk_i ?_)
  refine zv_if_eq (tgt := 19) dX6_droplet_7 (by decide) (fun c7 => ?_) (fun c7 => ?_)
  · have h1 := bI_eq0.mp c7
    have hq : qDrop r sd v = -2 := by unfold qDrop; rw [h1, if_pos (by simp)]
    refine zv_bipush (v := (-2)) dX6_droplet_19 (by decide) ?_
    rw [hq]
    exact zv_iretI dX6_droplet_21 rfl rfl rfl ⟨hC, zFr_rf⟩
  · have h1 := bI_ne0.mp c7
    refine zv_iload_n dX6_droplet_10 rfl ?_
    refine zv_iconst (v := 0) dX6_droplet_11 (by decide) ?_
    refine zv_iconst (v := 3) dX6_droplet_12 (by decide) ?_
    refine zv_callS (m_X6_isWithin l D B v 0 3) ml_X6_85 st_X6_isWithin rfl rfl (Nat.le_of_ble_eq_true rfl) dX6_droplet_13 ⟨Nat.le_of_ble_eq_true rfl, Nat.le_of_ble_eq_true rfl⟩ ⟨Nat.le_refl _, Nat.le_refl _⟩ (zk_i ?_)
    refine zv_if_ne (tgt := 22) dX6_droplet_16 (by decide) (fun c16 => ?_) (fun c16 => ?_)
    · have h2 := bI_ne0.mp c16
      refine zv_aload_n dX6_droplet_22 rfl ?_
      refine zv_getS (r := 1) hb.1 rfl fl_X6_10 rfl dX6_droplet_23 ?_
      refine zv_getI hb.2.1.1 rfl fl_X6_89 rfl dX6_droplet_26 ?_
      rw [e2]
      refine zv_if_ne (tgt := 35) dX6_droplet_29 (by decide) (fun c29 => ?_) (fun c29 => ?_)
      · have hn0 : 0 < n := by
          rcases Nat.eq_zero_or_pos n with g | g
          · exact absurd (by rw [g]; rfl) c29
          · exact g
        obtain ⟨s0, hs0, rfl⟩ := (zin3_iff (m := 65535) (by decide)).mp h1
        have hq : qDrop r (nI s0) v = if v = 0 then dPR r s0 1 else if v = 1 then dPR r s0 2 else if v = 2 then dPR r s0 3 else dPR r s0 0 := by
          unfold qDrop
          rw [h1, h2, if_neg (by simp), if_neg (by rw [i2]; exact nI_ne0 hn0 (by omega)), nI_clamp (by omega)]
        rw [hq]
        refine zv_aload_n dX6_droplet_35 rfl ?_
        refine zv_getS (r := 126) hb.1 rfl fl_X6_37 rfl dX6_droplet_36 ?_
        refine zv_aload_n dX6_droplet_39 rfl ?_
        refine zv_getS (r := 1) hb.1 rfl fl_X6_10 rfl dX6_droplet_40 ?_
        refine zv_iload_n dX6_droplet_43 rfl ?_
        refine zv_callV (m_X1_makeFrom l D B (q := x + 126) (s := x + 1) (w := w) (n := n) (sd := s0) hb.2.2.2.2.2.1 hb.2.1.1 (by omega) e2 hn0 i3 e0 iw (by omega)) ml_X6_93 in_X1_makeFrom sel_X1_makeFrom hb.2.2.2.2.2.1 rfl rfl rfl rfl (Nat.le_of_ble_eq_true rfl) dX6_droplet_44 ⟨Nat.le_of_ble_eq_true rfl, Nat.le_of_ble_eq_true rfl⟩ ⟨Nat.le_refl _, Nat.le_refl _⟩ (zk_v ?_)
        have hdd : mkP (G (x + 126)) w (G (x + 1) 1) n (fun k => G (x + 1) (5 + k)) (s0) 0 = dPR r (s0) 0 ∧ mkP (G (x + 126)) w (G (x + 1) 1) n (fun k => G (x + 1) (5 + k)) (s0) 1 = dPR r (s0) 1 ∧ mkP (G (x + 126)) w (G (x + 1) 1) n (fun k => G (x + 1) (5 + k)) (s0) 2 = dPR r (s0) 2 ∧ mkP (G (x + 126)) w (G (x + 1) 1) n (fun k => G (x + 1) (5 + k)) (s0) 3 = dPR r (s0) 3 := by
          unfold dPR
          rw [i0, i2, nI_clamp (by omega), nI_clamp (by omega), hC.1.1]
          exact ⟨rfl, rfl, rfl, rfl⟩
        generalize mkP (G (x + 126)) w (G (x + 1) 1) n (fun k => G (x + 1) (5 + k)) (s0) = d at hdd ⊢
        obtain ⟨d0, d1, d2, d3⟩ := hdd
        refine zv_iload_n dX6_droplet_47 rfl ?_
        rcases zsw2 v with rfl | rfl | rfl | hout
        · refine zv_tableIn (off := 28) (tgt := 76) dX6_droplet_48 (by decide) (by decide) (by first | rfl | decide +kernel) (by decide) ?_
          refine zv_aload_n dX6_droplet_76 rfl ?_
          refine zv_getS (r := 126) hb.1 rfl fl_X6_37 rfl dX6_droplet_77 ?_
          refine zv_getI hb.2.2.2.2.2.1 rfl fl_X6_97 rfl dX6_droplet_80 ?_
          exact zv_iretI dX6_droplet_83 rfl rfl (by rw [zst_same, d1]; rfl) ⟨CR_fal hC, zFr_zst (by omega)⟩
        · refine zv_tableIn (off := 36) (tgt := 84) dX6_droplet_48 (by decide) (by decide) (by first | rfl | decide +kernel) (by decide) ?_
          refine zv_aload_n dX6_droplet_84 rfl ?_
          refine zv_getS (r := 126) hb.1 rfl fl_X6_37 rfl dX6_droplet_85 ?_
          refine zv_getI hb.2.2.2.2.2.1 rfl fl_X6_100 rfl dX6_droplet_88 ?_
          exact zv_iretI dX6_droplet_91 rfl rfl (by rw [zst_same, d2]; rfl) ⟨CR_fal hC, zFr_zst (by omega)⟩
        · refine zv_tableIn (off := 44) (tgt := 92) dX6_droplet_48 (by decide) (by decide) (by first | rfl | decide +kernel) (by decide) ?_
          refine zv_aload_n dX6_droplet_92 rfl ?_
          refine zv_getS (r := 126) hb.1 rfl fl_X6_37 rfl dX6_droplet_93 ?_
          refine zv_getI hb.2.2.2.2.2.1 rfl fl_X6_103 rfl dX6_droplet_96 ?_
          exact zv_iretI dX6_droplet_99 rfl rfl (by rw [zst_same, d3]; rfl) ⟨CR_fal hC, zFr_zst (by omega)⟩
        · have hv : ∀ k : Int32, (k = 0 ∨ k = 1 ∨ k = 2) → ¬ v = k := by
            rintro k hk rfl
            rcases hk with rfl | rfl | rfl <;> (revert hout; decide)
          refine zv_tableOut (tgt := 100) dX6_droplet_48 (hout) (by decide) ?_
          refine zv_aload_n dX6_droplet_100 rfl ?_
          refine zv_getS (r := 126) hb.1 rfl fl_X6_37 rfl dX6_droplet_101 ?_
          refine zv_getI hb.2.2.2.2.2.1 rfl fl_X6_106 rfl dX6_droplet_104 ?_
          rw [zst_same, d0]
          have hD01 := (dPR_DO (sd := s0) i2 hn0 i3).1
          refine zv_if_eq (tgt := 114) dX6_droplet_107 (by decide) (fun c107 => ?_) (fun c107 => ?_)
          · refine zv_iconst (v := 0) dX6_droplet_114 (by decide) ?_
            rw [if_neg (hv 0 (by simp)), if_neg (hv 1 (by simp)), if_neg (hv 2 (by simp))]
            first
              | exact zv_iretI dX6_droplet_115 rfl rfl c107.symm ⟨CR_fal hC, zFr_zst (by omega)⟩
              | exact zv_iretI dX6_droplet_115 rfl rfl (hD01.resolve_left c107).symm ⟨CR_fal hC, zFr_zst (by omega)⟩
          · refine zv_iconst (v := 1) dX6_droplet_110 (by decide) ?_
            refine zv_goto (tgt := 115) dX6_droplet_111 (by decide) ?_
            rw [if_neg (hv 0 (by simp)), if_neg (hv 1 (by simp)), if_neg (hv 2 (by simp))]
            first
              | exact zv_iretI dX6_droplet_115 rfl rfl c107.symm ⟨CR_fal hC, zFr_zst (by omega)⟩
              | exact zv_iretI dX6_droplet_115 rfl rfl (hD01.resolve_left c107).symm ⟨CR_fal hC, zFr_zst (by omega)⟩
      · have hq : qDrop r sd v = -5 := by unfold qDrop; rw [h1, h2, if_neg (by simp), if_pos (by rw [i2]; exact c29)]
        refine zv_bipush (v := (-5)) dX6_droplet_32 (by decide) ?_
        rw [hq]
        exact zv_iretI dX6_droplet_34 rfl rfl rfl ⟨hC, zFr_rf⟩
    · have h2 := bI_eq0.mp c16
      have hq : qDrop r sd v = -2 := by unfold qDrop; rw [h2, if_pos (by simp)]
      refine zv_bipush (v := (-2)) dX6_droplet_19 (by decide) ?_
      rw [hq]
      exact zv_iretI dX6_droplet_21 rfl rfl rfl ⟨hC, zFr_rf⟩

set_option maxRecDepth 100000 in
set_option maxHeartbeats 4000000 in
theorem m_X6_ofCup (l : Launch) (D : zD) (B : Nat) {L : zL} {nx : Nat} {G : zG} {x b : Nat} {r : Nat → Int32} (hb : zBD L x) (hC : CR x r G) (hS : SI b r) (y v : Int32) : zMet l D B yX6_ofCup cX6_ofCup 4 (some .int) 3 64 0 0 [.ref x, .int y, .int v] L nx G (zI (qOfCup r y v) L nx (fun G1 => CR x (r) G1 ∧ zFr x G G1)) := by
  refine zMet_of (own := RX6) (mn := "ofCup") [some (.ref x), some (.int y), some (.int v), none] (by decide +kernel) rfl rfl rfl (Nat.le_of_ble_eq_true rfl) ?_
  show zV l (fun _ => True) D B RX6 "ofCup" cX6_ofCup 4 (some .int) (zrm 3 64 0 0) (zN (zI (qOfCup r y v) L nx (fun G1 => CR x (r) G1 ∧ zFr x G G1))) 0 0 L nx 0 [some (.ref x), some (.int y), some (.int v), none] [] (G)
  obtain ⟨w, ls, n, cn, i0, iw, i1, il, i2, i3, i4, i5, i6, i7, i8⟩ := id hS
  have e3 : G (x + 1) 3 = nI cn := by rw [hC.1.1]; exact i4
  have e2 : G (x + 1) 2 = nI n := by rw [hC.1.1]; exact i2
  have e0 : G (x + 1) 0 = nI w := by rw [hC.1.1]; exact i0
  have e1 : G (x + 1) 1 = nI ls := by rw [hC.1.1]; exact i1
  refine zv_aload_n dX6_ofCup_0 rfl ?_
  refine zv_getS (r := 1) hb.1 rfl fl_X6_10 rfl dX6_ofCup_1 ?_
  refine zv_iload_n dX6_ofCup_4 rfl ?_
  rcases hz : cpI r y with _ | i
  · have hno := cpI_none i4 i5 hz
    have hop : qOfCup r y v = -1 := by unfold qOfCup; rw [hz]
    refine zv_callV (m_X5_cupAt_no l D B hb.2.1 e3 i5 hno) ml_X6_110 in_X5_cupAt sel_X5_cupAt hb.2.1.1 rfl rfl rfl rfl (Nat.le_of_ble_eq_true rfl) dX6_ofCup_5 ⟨Nat.le_of_ble_eq_true rfl, Nat.le_of_ble_eq_true rfl⟩ ⟨Nat.le_refl _, Nat.le_refl _⟩ (zk_w ?_)
    refine zv_astore_nN dX6_ofCup_8 (by decide) rfl ?_
    refine zv_aload_nN dX6_ofCup_9 rfl ?_
    refine zv_ifnonnull_n dX6_ofCup_10 ?_
    refine zv_iconst (v := (-1)) dX6_ofCup_13 (by decide) ?_
    rw [hop]
    exact zv_iretI dX6_ofCup_14 rfl rfl rfl ⟨hC, zFr_rf⟩
  · obtain ⟨hi, rfl⟩ := cpI_some i4 i5 hz
    have hi3 : i < 3 := by omega
    have hci := hC.1.2 i hi3
    obtain ⟨m, hJ, hsz⟩ := i6 i hi3
    obtain ⟨hRW, hsol, hcnt⟩ := class_solve hJ
    refine zv_callV (m_X5_cupAt l D B hb.2.1 e3 i5 hi) ml_X6_110 in_X5_cupAt sel_X5_cupAt hb.2.1.1 rfl rfl rfl rfl (Nat.le_of_ble_eq_true rfl) dX6_ofCup_5 ⟨Nat.le_of_ble_eq_true rfl, Nat.le_of_ble_eq_true rfl⟩ ⟨Nat.le_refl _, Nat.le_refl _⟩ (zk_r ?_)
    refine zv_astore_n dX6_ofCup_8 (by decide) rfl ?_
    refine zv_aload_n dX6_ofCup_9 rfl ?_
    refine zv_ifnonnull_r (tgt := 15) dX6_ofCup_10 (by decide) ?_
    refine zv_iload_n dX6_ofCup_15 rfl ?_
    rcases zsw6 v with rfl | rfl | rfl | rfl | rfl | rfl | rfl | hout
    · have hq : qOfCup r (nI i) 0 = qOfV r (cupR r i) 0 (folM (cupR r i)) := by unfold qOfCup; rw [hz]
      rw [hq]
      refine zv_tableIn (off := 44) (tgt := 60) dX6_ofCup_16 (by decide) (by decide) (by first | rfl | decide +kernel) (by decide) ?_
      refine zv_aload_n dX6_ofCup_60 rfl ?_
      refine zv_getI (hb.2.1.2 i hi3) rfl fl_X6_114 rfl dX6_ofCup_61 ?_
      exact zv_iretI dX6_ofCup_64 rfl rfl (by rw [hci]; rfl) ⟨hC, zFr_rf⟩
    · have hq : qOfCup r (nI i) 1 = qOfV r (cupR r i) 1 (folM (cupR r i)) := by unfold qOfCup; rw [hz]
      rw [hq]
      refine zv_tableIn (off := 49) (tgt := 65) dX6_ofCup_16 (by decide) (by decide) (by first | rfl | decide +kernel) (by decide) ?_
      refine zv_aload_n dX6_ofCup_65 rfl ?_
      refine zv_getI (hb.2.1.2 i hi3) rfl fl_X6_117 rfl dX6_ofCup_66 ?_
      exact zv_iretI dX6_ofCup_69 rfl rfl (by rw [hci]; rfl) ⟨hC, zFr_rf⟩
    · have hq : qOfCup r (nI i) 2 = qOfV r (cupR r i) 2 (folM (cupR r i)) := by unfold qOfCup; rw [hz]
      rw [hq]
      refine zv_tableIn (off := 54) (tgt := 70) dX6_ofCup_16 (by decide) (by decide) (by first | rfl | decide +kernel) (by decide) ?_
      refine zv_aload_n dX6_ofCup_70 rfl ?_
      refine zv_getI (hb.2.1.2 i hi3) rfl fl_X6_120 rfl dX6_ofCup_71 ?_
      exact zv_iretI dX6_ofCup_74 rfl rfl (by rw [hci]; rfl) ⟨hC, zFr_rf⟩
    · have hq : qOfCup r (nI i) 3 = qOfV r (cupR r i) 3 (folM (cupR r i)) := by unfold qOfCup; rw [hz]
      rw [hq]
      refine zv_tableIn (off := 59) (tgt := 75) dX6_ofCup_16 (by decide) (by decide) (by first | rfl | decide +kernel) (by decide) ?_
      refine zv_aload_n dX6_ofCup_75 rfl ?_
      refine zv_getI (hb.2.1.2 i hi3) rfl fl_X6_123 rfl dX6_ofCup_76 ?_
      exact zv_iretI dX6_ofCup_79 rfl rfl (by rw [hci]; rfl) ⟨hC, zFr_rf⟩
    · have hq : qOfCup r (nI i) 4 = qOfV r (cupR r i) 4 (folM (cupR r i)) := by unfold qOfCup; rw [hz]
      rw [hq]
      refine zv_tableIn (off := 64) (tgt := 80) dX6_ofCup_16 (by decide) (by decide) (by first | rfl | decide +kernel) (by decide) ?_
      refine zv_aload_n dX6_ofCup_80 rfl ?_
      refine zv_getI (hb.2.1.2 i hi3) rfl fl_X6_125 rfl dX6_ofCup_81 ?_
      exact zv_iretI dX6_ofCup_84 rfl rfl (by rw [hci]; rfl) ⟨hC, zFr_rf⟩
    · have hq : qOfCup r (nI i) 5 = qOfV r (cupR r i) 5 (folM (cupR r i)) := by unfold qOfCup; rw [hz]
      rw [hq]
      refine zv_tableIn (off := 69) (tgt := 85) dX6_ofCup_16 (by decide) (by decide) (by first | rfl | decide +kernel) (by decide) ?_
      refine zv_aload_n dX6_ofCup_85 rfl ?_
      refine zv_aload_n dX6_ofCup_86 rfl ?_
      refine zv_callV (m_X6_isFull l D B hb hC.1 (hb.2.1.2 i hi3)) ml_X6_128 in_X6_isFull sel_X6_isFull hb.1 rfl rfl rfl rfl (Nat.le_of_ble_eq_true rfl) dX6_ofCup_87 ⟨Nat.le_of_ble_eq_true rfl, Nat.le_of_ble_eq_true rfl⟩ ⟨Nat.le_refl _, Nat.le_refl _⟩ (zk_i ?_)
      rw [hci]
      refine zv_if_eq (tgt := 97) dX6_ofCup_90 (by decide) (fun c90 => ?_) (fun c90 => ?_)
      · refine zv_iconst (v := 0) dX6_ofCup_97 (by decide) ?_
        first
          | exact zv_iretI dX6_ofCup_98 rfl rfl (by rw [show qOfV r (cupR r i) 5 (folM (cupR r i)) = bI (fullB r (cupR r i)) from rfl, bI_eq0.mp c90]; rfl) ⟨hC, zFr_rf⟩
          | exact zv_iretI dX6_ofCup_98 rfl rfl (by rw [show qOfV r (cupR r i) 5 (folM (cupR r i)) = bI (fullB r (cupR r i)) from rfl, bI_ne0.mp c90]; rfl) ⟨hC, zFr_rf⟩
      · refine zv_iconst (v := 1) dX6_ofCup_93 (by decide) ?_
        refine zv_goto (tgt := 98) dX6_ofCup_94 (by decide) ?_
        first
          | exact zv_iretI dX6_ofCup_98 rfl rfl (by rw [show qOfV r (cupR r i) 5 (folM (cupR r i)) = bI (fullB r (cupR r i)) from rfl, bI_eq0.mp c90]; rfl) ⟨hC, zFr_rf⟩
          | exact zv_iretI dX6_ofCup_98 rfl rfl (by rw [show qOfV r (cupR r i) 5 (folM (cupR r i)) = bI (fullB r (cupR r i)) from rfl, bI_ne0.mp c90]; rfl) ⟨hC, zFr_rf⟩
    · have hq : qOfCup r (nI i) 6 = qOfV r (cupR r i) 6 (folM (cupR r i)) := by unfold qOfCup; rw [hz]
      rw [hq]
      refine zv_tableIn (off := 83) (tgt := 99) dX6_ofCup_16 (by decide) (by decide) (by first | rfl | decide +kernel) (by decide) ?_
      refine zv_aload_n dX6_ofCup_99 rfl ?_
      refine zv_getS (r := 131) hb.1 rfl fl_X6_51 rfl dX6_ofCup_100 ?_
      refine zv_aload_n dX6_ofCup_103 rfl ?_
      refine zv_callV (m_X4_reduce l D B (q := x + 131) (p := x + 1 + (3 + 4 * i)) hb.2.2.2.2.2.2.2 (hb.2.1.2 i hi3) (by omega) hC.2.2) ml_X6_132 in_X4_reduce sel_X4_reduce hb.2.2.2.2.2.2.2 rfl rfl rfl rfl (Nat.le_of_ble_eq_true rfl) dX6_ofCup_104 ⟨Nat.le_of_ble_eq_true rfl, Nat.le_of_ble_eq_true rfl⟩ ⟨Nat.le_refl _, Nat.le_refl _⟩ (zk_v ?_)
      rw [show redN (fun j => if j < 48 then G (x + 1 + (3 + 4 * i)) (21 + j) else 0) 24 = redF (cupR r i) by rw [hci]; rfl]
      have hC2 : CR x r (zst G (x + 131) (redF (cupR r i))) := CR_row hC (fun j hj => (redN_hi 24 j hj).trans (by simp only [rowsOf]; rw [if_neg (by omega)]))
      have hg1 : (zst G (x + 131) (redF (cupR r i))) (x + 1 + (3 + 4 * i)) = cupR r i := by rw [zst_ne _ _ (by omega)]; exact hci
      refine zv_aload_n dX6_ofCup_107 rfl ?_
      refine zv_callV (m_knownCount l D B (hb.2.1.2 i hi3) (by rw [hg1]; exact zlim_zm hJ.1 hJ.2.2.2.1)) ml_X6_136 in_X0_knownCount sel_X0_knownCount (hb.2.1.2 i hi3) rfl rfl rfl rfl (Nat.le_of_ble_eq_true rfl) dX6_ofCup_108 ⟨Nat.le_of_ble_eq_true rfl, Nat.le_of_ble_eq_true rfl⟩ ⟨Nat.le_refl _, Nat.le_refl _⟩ (zk_i ?_)
      rw [hg1]
      refine zv_aload_n dX6_ofCup_111 rfl ?_
      refine zv_getS (r := 131) hb.1 rfl fl_X6_51 rfl dX6_ofCup_112 ?_
      refine zv_callV (m_X4_singleCount l D B hb.2.2.2.2.2.2.2 (fun j hj => by rw [zst_same]; exact zlim_zm hJ.1 (hRW.1 j hj).1)) ml_X6_139 in_X4_singleCount sel_X4_singleCount hb.2.2.2.2.2.2.2 rfl rfl rfl rfl (Nat.le_of_ble_eq_true rfl) dX6_ofCup_115 ⟨Nat.le_of_ble_eq_true rfl, Nat.le_of_ble_eq_true rfl⟩ ⟨Nat.le_refl _, Nat.le_refl _⟩ (zk_i ?_)
      rw [zst_same, hcnt]
      refine zv_iadd dX6_ofCup_118 ?_
      exact zv_iretI dX6_ofCup_119 rfl rfl rfl ⟨hC2, zFr_zst (by omega)⟩
    · have hv : ∀ k : Int32, (k = 0 ∨ k = 1 ∨ k = 2 ∨ k = 3 ∨ k = 4 ∨ k = 5 ∨ k = 6) → ¬ v = k := by
        rintro k hk rfl
        rcases hk with rfl | rfl | rfl | rfl | rfl | rfl | rfl <;> (revert hout; decide)
      have hq : qOfCup r (nI i) v = -2 := by
        unfold qOfCup
        rw [hz]
        unfold qOfV
        dsimp only
        rw [if_neg (hv 0 (by simp)), if_neg (hv 1 (by simp)), if_neg (hv 2 (by simp)), if_neg (hv 3 (by simp)), if_neg (hv 4 (by simp)), if_neg (hv 5 (by simp)), if_neg (hv 6 (by simp))]
      refine zv_tableOut (tgt := 120) dX6_ofCup_16 (hout) (by decide) ?_
      refine zv_bipush (v := (-2)) dX6_ofCup_120 (by decide) ?_
      rw [hq]
      exact zv_iretI dX6_ofCup_122 rfl rfl rfl ⟨hC, zFr_rf⟩

set_option maxRecDepth 100000 in
set_option maxHeartbeats 4000000 in
theorem m_X6_known (l : Launch) (D : zD) (B : Nat) {L : zL} {nx : Nat} {G : zG} {x b : Nat} {r : Nat → Int32} (hb : zBD L x) (hC : CR x r G) (hS : SI b r) (y c : Int32) : zMet l D B yX6_known cX6_known 4 (some .int) 1 22 0 0 [.ref x, .int y, .int c] L nx G (zI (qKnown r y c) L nx (fun G1 => CR x (r) G1 ∧ zFr x G G1)) := by
  refine zMet_of (own := RX6) (mn := "known") [some (.ref x), some (.int y), some (.int c), none] (by decide +kernel) rfl rfl rfl (Nat.le_of_ble_eq_true rfl) ?_
  show zV l (fun _ => True) D B RX6 "known" cX6_known 4 (some .int) (zrm 1 22 0 0) (zN (zI (qKnown r y c) L nx (fun G1 => CR x (r) G1 ∧ zFr x G G1))) 0 0 L nx 0 [some (.ref x), some (.int y), some (.int c), none] [] (G)
  obtain ⟨w, ls, n, cn, i0, iw, i1, il, i2, i3, i4, i5, i6, i7, i8⟩ := id hS
  have e3 : G (x + 1) 3 = nI cn := by rw [hC.1.1]; exact i4
  have e2 : G (x + 1) 2 = nI n := by rw [hC.1.1]; exact i2
  have e0 : G (x + 1) 0 = nI w := by rw [hC.1.1]; exact i0
  have e1 : G (x + 1) 1 = nI ls := by rw [hC.1.1]; exact i1
  refine zv_aload_n dX6_known_0 rfl ?_
  refine zv_getS (r := 1) hb.1 rfl fl_X6_10 rfl dX6_known_1 ?_
  refine zv_iload_n dX6_known_4 rfl ?_
  rcases hz : cpI r y with _ | i
  · have hno := cpI_none i4 i5 hz
    have hop : qKnown r y c = -1 := by unfold qKnown; rw [hz]
    refine zv_callV (m_X5_cupAt_no l D B hb.2.1 e3 i5 hno) ml_X6_110 in_X5_cupAt sel_X5_cupAt hb.2.1.1 rfl rfl rfl rfl (Nat.le_of_ble_eq_true rfl) dX6_known_5 ⟨Nat.le_of_ble_eq_true rfl, Nat.le_of_ble_eq_true rfl⟩ ⟨Nat.le_refl _, Nat.le_refl _⟩ (zk_w ?_)
    refine zv_astore_nN dX6_known_8 (by decide) rfl ?_
    refine zv_aload_nN dX6_known_9 rfl ?_
    refine zv_ifnull_n (tgt := 34) dX6_known_10 (by decide) ?_
    refine zv_iconst (v := (-1)) dX6_known_34 (by decide) ?_
    rw [hop]
    exact zv_iretI dX6_known_35 rfl rfl rfl ⟨hC, zFr_rf⟩
  · obtain ⟨hi, rfl⟩ := cpI_some i4 i5 hz
    have hi3 : i < 3 := by omega
    have hci := hC.1.2 i hi3
    refine zv_callV (m_X5_cupAt l D B hb.2.1 e3 i5 hi) ml_X6_110 in_X5_cupAt sel_X5_cupAt hb.2.1.1 rfl rfl rfl rfl (Nat.le_of_ble_eq_true rfl) dX6_known_5 ⟨Nat.le_of_ble_eq_true rfl, Nat.le_of_ble_eq_true rfl⟩ ⟨Nat.le_refl _, Nat.le_refl _⟩ (zk_r ?_)
    refine zv_astore_n dX6_known_8 (by decide) rfl ?_
    refine zv_aload_n dX6_known_9 rfl ?_
    refine zv_ifnull_r dX6_known_10 ?_
    refine zv_iload_n dX6_known_13 rfl ?_
    refine zv_iconst (v := 0) dX6_known_14 (by decide) ?_
    refine zv_bipush (v := 15) dX6_known_15 (by decide) ?_
    refine zv_callS (m_X6_isWithin l D B c 0 15) ml_X6_85 st_X6_isWithin rfl rfl (Nat.le_of_ble_eq_true rfl) dX6_known_17 ⟨Nat.le_of_ble_eq_true rfl, Nat.le_of_ble_eq_true rfl⟩ ⟨Nat.le_refl _, Nat.le_refl _⟩ (zk_i ?_)
    refine zv_if_eq (tgt := 34) dX6_known_20 (by decide) (fun c20 => ?_) (fun c20 => ?_)
    · have h1 := bI_eq0.mp c20
      have hq : qKnown r (nI i) c = -1 := by unfold qKnown; rw [hz]; dsimp only; rw [if_neg (fun h => by rw [h1] at h; cases h.1)]
      refine zv_iconst (v := (-1)) dX6_known_34 (by decide) ?_
      rw [hq]
      exact zv_iretI dX6_known_35 rfl rfl rfl ⟨hC, zFr_rf⟩
    · have h1 := bI_ne0.mp c20
      obtain ⟨k, hk, rfl⟩ := (zin3_iff (m := 15) (by decide)).mp h1
      refine zv_iload_n dX6_known_23 rfl ?_
      refine zv_aload_n dX6_known_24 rfl ?_
      refine zv_getS (r := 1) hb.1 rfl fl_X6_10 rfl dX6_known_25 ?_
      refine zv_getI hb.2.1.1 rfl fl_X6_89 rfl dX6_known_28 ?_
      rw [e2]
      refine zv_icmp_lt (tgt := 36) dX6_known_31 (by decide) (fun c31 => ?_) (fun c31 => ?_)
      · have h2 : nI k < r 2 := by rw [i2]; exact c31
        have hq : qKnown r (nI i) (nI k) = if zb (cupR r i 0) k then cupR r i (5 + k) else -6 := by unfold qKnown; rw [hz]; dsimp only; rw [if_pos ⟨h1, h2⟩, nI_clamp (by omega)]
        refine zv_aload_n dX6_known_36 rfl ?_
        refine zv_getI (hb.2.1.2 i hi3) rfl fl_X6_114 rfl dX6_known_37 ?_
        refine zv_iconst (v := 1) dX6_known_40 (by decide) ?_
        refine zv_iload_n dX6_known_41 rfl ?_
        refine zv_ishl dX6_known_42 ?_
        refine zv_iand dX6_known_43 ?_
        rw [hci]
        refine zv_if_ne (tgt := 52) dX6_known_44 (by decide) (fun c44 => ?_) (fun c44 => ?_)
        · have hb1 : zb (cupR r i 0) k = true := by
            cases h : zb (cupR r i 0) k with
            | true => rfl
            | false => exact absurd ((zb_and_bt _ (show k < 32 by omega)).mpr h) c44
          refine zv_aload_n dX6_known_52 rfl ?_
          refine zv_getS (r := 1) (hb.2.1.2 i hi3) rfl fl_X6_142 rfl dX6_known_53 ?_
          refine zv_iload_n dX6_known_56 rfl ?_
          refine zv_iald (i := 1) (hb.2.1.2 i hi3) rfl (zix_nI (by omega) (by decide)) dX6_known_57 ?_
          rw [hq, hb1]
          first
            | exact zv_iretI dX6_known_58 rfl rfl rfl ⟨hC, zFr_rf⟩
            | exact zv_iretI dX6_known_58 rfl rfl (by rw [hci]; rfl) ⟨hC, zFr_rf⟩
        · have hb1 : zb (cupR r i 0) k = false := (zb_and_bt _ (show k < 32 by omega)).mp c44
          refine zv_bipush (v := (-6)) dX6_known_47 (by decide) ?_
          refine zv_goto (tgt := 58) dX6_known_49 (by decide) ?_
          rw [hq, hb1]
          first
            | exact zv_iretI dX6_known_58 rfl rfl rfl ⟨hC, zFr_rf⟩
            | exact zv_iretI dX6_known_58 rfl rfl (by rw [hci]; rfl) ⟨hC, zFr_rf⟩
      · have hq : qKnown r (nI i) (nI k) = -1 := by unfold qKnown; rw [hz]; dsimp only; rw [if_neg (fun h => c31 (by rw [← i2]; exact h.2))]
        refine zv_iconst (v := (-1)) dX6_known_34 (by decide) ?_
        rw [hq]
        exact zv_iretI dX6_known_35 rfl rfl rfl ⟨hC, zFr_rf⟩

set_option maxRecDepth 100000 in
set_option maxHeartbeats 4000000 in
theorem m_X6_kept (l : Launch) (D : zD) (B : Nat) {L : zL} {nx : Nat} {G : zG} {x b : Nat} {r : Nat → Int32} (hb : zBD L x) (hC : CR x r G) (hS : SI b r) (y c v : Int32) : zMet l D B yX6_kept cX6_kept 5 (some .int) 1 22 0 0 [.ref x, .int y, .int c, .int v] L nx G (zI (qKept r y c v) L nx (fun G1 => CR x (r) G1 ∧ zFr x G G1)) := by
  refine zMet_of (own := RX6) (mn := "kept") [some (.ref x), some (.int y), some (.int c), some (.int v), none] (by decide +kernel) rfl rfl rfl (Nat.le_of_ble_eq_true rfl) ?_
  show zV l (fun _ => True) D B RX6 "kept" cX6_kept 5 (some .int) (zrm 1 22 0 0) (zN (zI (qKept r y c v) L nx (fun G1 => CR x (r) G1 ∧ zFr x G G1))) 0 0 L nx 0 [some (.ref x), some (.int y), some (.int c), some (.int v), none] [] (G)
  obtain ⟨w, ls, n, cn, i0, iw, i1, il, i2, i3, i4, i5, i6, i7, i8⟩ := id hS
  have e3 : G (x + 1) 3 = nI cn := by rw [hC.1.1]; exact i4
  have e2 : G (x + 1) 2 = nI n := by rw [hC.1.1]; exact i2
  have e0 : G (x + 1) 0 = nI w := by rw [hC.1.1]; exact i0
  have e1 : G (x + 1) 1 = nI ls := by rw [hC.1.1]; exact i1
  refine zv_aload_n dX6_kept_0 rfl ?_
  refine zv_getS (r := 1) hb.1 rfl fl_X6_10 rfl dX6_kept_1 ?_
  refine zv_iload_n dX6_kept_4 rfl ?_
  rcases hz : cpI r y with _ | i
  · have hno := cpI_none i4 i5 hz
    have hop : qKept r y c v = -1 := by unfold qKept; rw [hz]
    refine zv_callV (m_X5_cupAt_no l D B hb.2.1 e3 i5 hno) ml_X6_110 in_X5_cupAt sel_X5_cupAt hb.2.1.1 rfl rfl rfl rfl (Nat.le_of_ble_eq_true rfl) dX6_kept_5 ⟨Nat.le_of_ble_eq_true rfl, Nat.le_of_ble_eq_true rfl⟩ ⟨Nat.le_refl _, Nat.le_refl _⟩ (zk_w ?_)
    refine zv_astoreN dX6_kept_8 (by decide) rfl ?_
    refine zv_aloadN dX6_kept_10 rfl ?_
    refine zv_ifnull_n (tgt := 34) dX6_kept_12 (by decide) ?_
    refine zv_iconst (v := (-1)) dX6_kept_34 (by decide) ?_
    rw [hop]
    exact zv_iretI dX6_kept_35 rfl rfl rfl ⟨hC, zFr_rf⟩
  · obtain ⟨hi, rfl⟩ := cpI_some i4 i5 hz
    have hi3 : i < 3 := by omega
    have hci := hC.1.2 i hi3
    obtain ⟨m, hJ, hsz⟩ := i6 i hi3
    refine zv_callV (m_X5_cupAt l D B hb.2.1 e3 i5 hi) ml_X6_110 in_X5_cupAt sel_X5_cupAt hb.2.1.1 rfl rfl rfl rfl (Nat.le_of_ble_eq_true rfl) dX6_kept_5 ⟨Nat.le_of_ble_eq_true rfl, Nat.le_of_ble_eq_true rfl⟩ ⟨Nat.le_refl _, Nat.le_refl _⟩ (zk_r ?_)
    refine zv_astore dX6_kept_8 (by decide) rfl ?_
    refine zv_aload dX6_kept_10 rfl ?_
    refine zv_ifnull_r dX6_kept_12 ?_
    refine zv_iload_n dX6_kept_15 rfl ?_
    refine zv_iconst (v := 0) dX6_kept_16 (by decide) ?_
    refine zv_bipush (v := 23) dX6_kept_17 (by decide) ?_
    refine zv_callS (m_X6_isWithin l D B c 0 23) ml_X6_85 st_X6_isWithin rfl rfl (Nat.le_of_ble_eq_true rfl) dX6_kept_19 ⟨Nat.le_of_ble_eq_true rfl, Nat.le_of_ble_eq_true rfl⟩ ⟨Nat.le_refl _, Nat.le_refl _⟩ (zk_i ?_)
    refine zv_if_eq (tgt := 34) dX6_kept_22 (by decide) (fun c22 => ?_) (fun c22 => ?_)
    · have h1 := bI_eq0.mp c22
      have hq : qKept r (nI i) c v = -1 := by unfold qKept; rw [hz]; dsimp only; rw [if_neg (fun h => by rw [h1] at h; cases h.1)]
      refine zv_iconst (v := (-1)) dX6_kept_34 (by decide) ?_
      rw [hq]
      exact zv_iretI dX6_kept_35 rfl rfl rfl ⟨hC, zFr_rf⟩
    · have h1 := bI_ne0.mp c22
      obtain ⟨k, hk, rfl⟩ := (zin3_iff (m := 23) (by decide)).mp h1
      refine zv_iload_n dX6_kept_25 rfl ?_
      refine zv_aload dX6_kept_26 rfl ?_
      refine zv_getI (hb.2.1.2 i hi3) rfl fl_X6_117 rfl dX6_kept_28 ?_
      rw [hci]
      refine zv_icmp_lt (tgt := 36) dX6_kept_31 (by decide) (fun c31 => ?_) (fun c31 => ?_)
      · have hq : qKept r (nI i) (nI k) v = if v = 0 then cupR r i (21 + k) else if v = 1 then cupR r i (45 + k) else -2 := by unfold qKept; rw [hz]; dsimp only; rw [if_pos ⟨h1, c31⟩, nI_clamp (by omega)]
        refine zv_iload_n dX6_kept_36 rfl ?_
        rcases (show v = 0 ∨ v = 1 ∨ (¬ v = 0 ∧ ¬ v = 1) from by by_cases h0 : v = 0; exact Or.inl h0; by_cases h1 : v = 1; exact Or.inr (Or.inl h1); exact Or.inr (Or.inr ⟨h0, h1⟩)) with rfl | rfl | ⟨v0, v1⟩
        · refine zv_lookup (off := 27) (tgt := 64) dX6_kept_37 (by decide +kernel) (by decide +kernel) (by decide) ?_
          refine zv_aload dX6_kept_64 rfl ?_
          refine zv_getS (r := 2) (hb.2.1.2 i hi3) rfl fl_X6_146 rfl dX6_kept_66 ?_
          refine zv_iload_n dX6_kept_69 rfl ?_
          refine zv_iald (i := 2) (hb.2.1.2 i hi3) rfl (zix_nI (by omega) (by decide)) dX6_kept_70 ?_
          rw [hq]
          exact zv_iretI dX6_kept_71 rfl rfl (by rw [hci]; rfl) ⟨hC, zFr_rf⟩
        · refine zv_lookup (off := 35) (tgt := 72) dX6_kept_37 (by decide +kernel) (by decide +kernel) (by decide) ?_
          refine zv_aload dX6_kept_72 rfl ?_
          refine zv_getS (r := 3) (hb.2.1.2 i hi3) rfl fl_X6_149 rfl dX6_kept_74 ?_
          refine zv_iload_n dX6_kept_77 rfl ?_
          refine zv_iald (i := 3) (hb.2.1.2 i hi3) rfl (zix_nI (by omega) (by decide)) dX6_kept_78 ?_
          rw [hq]
          exact zv_iretI dX6_kept_79 rfl rfl (by rw [hci]; rfl) ⟨hC, zFr_rf⟩
        · refine zv_lookup (off := 43) (tgt := 80) dX6_kept_37 (by decide +kernel) ((lv_osw (k := 0) v0 rfl).trans ((lv_osw (k := 1) v1 rfl).trans rfl)) (by decide) ?_
          refine zv_bipush (v := (-2)) dX6_kept_80 (by decide) ?_
          rw [hq, if_neg v0, if_neg v1]
          exact zv_iretI dX6_kept_82 rfl rfl rfl ⟨hC, zFr_rf⟩
      · have hq : qKept r (nI i) (nI k) v = -1 := by unfold qKept; rw [hz]; dsimp only; rw [if_neg (fun h => c31 h.2)]
        refine zv_iconst (v := (-1)) dX6_kept_34 (by decide) ?_
        rw [hq]
        exact zv_iretI dX6_kept_35 rfl rfl rfl ⟨hC, zFr_rf⟩

set_option maxRecDepth 100000 in
set_option maxHeartbeats 4000000 in
theorem m_X6_count (l : Launch) (D : zD) (B : Nat) {L : zL} {nx : Nat} {G : zG} {x b : Nat} {r : Nat → Int32} (hb : zBD L x) (hC : CR x r G) (hS : SI b r) (v tn hc : Int32) (ht : G (x + 124) 1 = tn) (hh : G (x + 16) 2 = hc) : zMet l D B yX6_count cX6_count 2 (some .int) 3 64 0 0 [.ref x, .int v] L nx G (zI (qCount r tn hc v) L nx (fun G1 => CR x (r) G1 ∧ zFr x G G1)) := by
  refine zMet_of (own := RX6) (mn := "count") [some (.ref x), some (.int v)] (by decide +kernel) rfl rfl rfl (Nat.le_of_ble_eq_true rfl) ?_
  show zV l (fun _ => True) D B RX6 "count" cX6_count 2 (some .int) (zrm 3 64 0 0) (zN (zI (qCount r tn hc v) L nx (fun G1 => CR x (r) G1 ∧ zFr x G G1))) 0 0 L nx 0 [some (.ref x), some (.int v)] [] (G)
  obtain ⟨w, ls, n, cn, i0, iw, i1, il, i2, i3, i4, i5, i6, i7, i8⟩ := id hS
  have e3 : G (x + 1) 3 = nI cn := by rw [hC.1.1]; exact i4
  have e2 : G (x + 1) 2 = nI n := by rw [hC.1.1]; exact i2
  have e0 : G (x + 1) 0 = nI w := by rw [hC.1.1]; exact i0
  have e1 : G (x + 1) 1 = nI ls := by rw [hC.1.1]; exact i1
  refine zv_iload_n dX6_count_0 rfl ?_
  rcases zsw7 v with rfl | rfl | rfl | rfl | rfl | rfl | rfl | rfl | hout
  · refine zv_tableIn (off := 47) (tgt := 48) dX6_count_1 (by decide) (by decide) (by first | rfl | decide +kernel) (by decide) ?_
    refine zv_aload_n dX6_count_48 rfl ?_
    refine zv_getS (r := 1) hb.1 rfl fl_X6_10 rfl dX6_count_49 ?_
    refine zv_getI hb.2.1.1 rfl fl_X6_89 rfl dX6_count_52 ?_
    exact zv_iretI dX6_count_55 rfl rfl (by rw [hC.1.1]; rfl) ⟨hC, zFr_rf⟩
  · refine zv_tableIn (off := 55) (tgt := 56) dX6_count_1 (by decide) (by decide) (by first | rfl | decide +kernel) (by decide) ?_
    refine zv_aload_n dX6_count_56 rfl ?_
    refine zv_getS (r := 1) hb.1 rfl fl_X6_10 rfl dX6_count_57 ?_
    refine zv_getI hb.2.1.1 rfl fl_X6_152 rfl dX6_count_60 ?_
    exact zv_iretI dX6_count_63 rfl rfl (by rw [hC.1.1]; rfl) ⟨hC, zFr_rf⟩
  · refine zv_tableIn (off := 63) (tgt := 64) dX6_count_1 (by decide) (by decide) (by first | rfl | decide +kernel) (by decide) ?_
    refine zv_aload_n dX6_count_64 rfl ?_
    refine zv_callV (m_X6_fullCups l D B hb hC.1 e3 i5) ml_X6_155 in_X6_fullCups sel_X6_fullCups hb.1 rfl rfl rfl rfl (Nat.le_of_ble_eq_true rfl) dX6_count_65 ⟨Nat.le_of_ble_eq_true rfl, Nat.le_of_ble_eq_true rfl⟩ ⟨Nat.le_refl _, Nat.le_refl _⟩ (zk_i ?_)
    exact zv_iretI dX6_count_68 rfl rfl (by rw [show qCount r tn hc 2 = fcN r (r 3).toNatClampNeg 3 from rfl, i4, nI_clamp (by omega)]) ⟨hC, zFr_rf⟩
  · refine zv_tableIn (off := 68) (tgt := 69) dX6_count_1 (by decide) (by decide) (by first | rfl | decide +kernel) (by decide) ?_
    refine zv_aload_n dX6_count_69 rfl ?_
    refine zv_getS (r := 1) hb.1 rfl fl_X6_10 rfl dX6_count_70 ?_
    refine zv_getI hb.2.1.1 rfl fl_X6_158 rfl dX6_count_73 ?_
    exact zv_iretI dX6_count_76 rfl rfl (by rw [hC.1.1]; rfl) ⟨hC, zFr_rf⟩
  · refine zv_tableIn (off := 76) (tgt := 77) dX6_count_1 (by decide) (by decide) (by first | rfl | decide +kernel) (by decide) ?_
    refine zv_aload_n dX6_count_77 rfl ?_
    refine zv_getS (r := 1) hb.1 rfl fl_X6_10 rfl dX6_count_78 ?_
    refine zv_getI hb.2.1.1 rfl fl_X6_159 rfl dX6_count_81 ?_
    exact zv_iretI dX6_count_84 rfl rfl (by rw [hC.1.1]; rfl) ⟨hC, zFr_rf⟩
  · refine zv_tableIn (off := 84) (tgt := 85) dX6_count_1 (by decide) (by decide) (by first | rfl | decide +kernel) (by decide) ?_
    refine zv_aload_n dX6_count_85 rfl ?_
    refine zv_getS (r := 1) hb.1 rfl fl_X6_10 rfl dX6_count_86 ?_
    refine zv_getI hb.2.1.1 rfl fl_X6_162 rfl dX6_count_89 ?_
    exact zv_iretI dX6_count_92 rfl rfl (by rw [hC.1.1]; rfl) ⟨hC, zFr_rf⟩
  · refine zv_tableIn (off := 92) (tgt := 93) dX6_count_1 (by decide) (by decide) (by first | rfl | decide +kernel) (by decide) ?_
    refine zv_aload_n dX6_count_93 rfl ?_
    refine zv_getS (r := 124) hb.1 rfl fl_X6_30 rfl dX6_count_94 ?_
    refine zv_getI hb.2.2.2.2.1 rfl fl_X6_165 rfl dX6_count_97 ?_
    exact zv_iretI dX6_count_100 rfl rfl (ht) ⟨hC, zFr_rf⟩
  · refine zv_tableIn (off := 100) (tgt := 101) dX6_count_1 (by decide) (by decide) (by first | rfl | decide +kernel) (by decide) ?_
    refine zv_aload_n dX6_count_101 rfl ?_
    refine zv_getS (r := 16) hb.1 rfl fl_X6_19 rfl dX6_count_102 ?_
    refine zv_getIN hb.2.2.1.1 rfl fl_X6_168 rfl dX6_count_105 ?_
    exact zv_iretI dX6_count_108 rfl rfl (hh) ⟨hC, zFr_rf⟩
  · have hv : ∀ k : Int32, (k = 0 ∨ k = 1 ∨ k = 2 ∨ k = 3 ∨ k = 4 ∨ k = 5 ∨ k = 6 ∨ k = 7) → ¬ v = k := by
      rintro k hk rfl
      rcases hk with rfl | rfl | rfl | rfl | rfl | rfl | rfl | rfl <;> (revert hout; decide)
    have hq : qCount r tn hc v = -2 := by
      unfold qCount
      rw [if_neg (hv 0 (by simp)), if_neg (hv 1 (by simp)), if_neg (hv 2 (by simp)), if_neg (hv 3 (by simp)), if_neg (hv 4 (by simp)), if_neg (hv 5 (by simp)), if_neg (hv 6 (by simp)), if_neg (hv 7 (by simp))]
    refine zv_tableOut (tgt := 109) dX6_count_1 (hout) (by decide) ?_
    refine zv_bipush (v := (-2)) dX6_count_109 (by decide) ?_
    rw [hq]
    exact zv_iretI dX6_count_111 rfl rfl rfl ⟨hC, zFr_rf⟩
