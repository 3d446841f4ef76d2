set_option maxRecDepth 100000 in
set_option maxHeartbeats 4000000 in
theorem m_X6_would (l : Launch) (D : zD) (B : Nat) {L : zL} {nx : Nat} {G : zG} {x b : Nat} {r : Nat → Int32} (hb : zBD L x) (hC : CR x r G) (hS : SI b r) (y sd : Int32) : zMet l D B yX6_would cX6_would 6 (some .int) 4 90 0 0 [.ref x, .int y, .int sd] L nx G (zI (qWould r y sd) L nx (fun G1 => CR x (r) G1 ∧ zFr x G G1)) := by
  refine zMet_of (own := RX6) (mn := "would") [some (.ref x), some (.int y), some (.int sd), none, none, none] (by decide +kernel) rfl rfl rfl (Nat.le_of_ble_eq_true rfl) ?_
  show zV l (fun _ => True) D B RX6 "would" cX6_would 6 (some .int) (zrm 4 90 0 0) (zN (zI (qWould r y sd) L nx (fun G1 => CR x (r) G1 ∧ zFr x G G1))) 0 0 L nx 0 [some (.ref x), some (.int y), some (.int sd), none, none, none] [] (G)
  obtain ⟨w, ls, n, cn, i0, iw, i1, il, i2, i3, i4, i5, i6, i7, i8⟩ := id hS
  have e3 : G (x + 1) 3 = nI cn := by rw [hC.1.1]; exact i4
  have e2 : G (x + 1) 2 = nI n := by rw [hC.1.1]; exact i2
  have e0 : G (x + 1) 0 = nI w := by rw [hC.1.1]; exact i0
  have e1 : G (x + 1) 1 = nI ls := by rw [hC.1.1]; exact i1
  refine zv_aload_n dX6_would_0 rfl ?_
  refine zv_getS (r := 1) hb.1 rfl fl_X6_10 rfl dX6_would_1 ?_
  refine zv_iload_n dX6_would_4 rfl ?_
  rcases hz : cpI r y with _ | i
  · have hno := cpI_none i4 i5 hz
    have hop : qWould r y sd = -1 := by unfold qWould; rw [hz]
    refine zv_callV (m_X5_cupAt_no l D B hb.2.1 e3 i5 hno) ml_X6_110 in_X5_cupAt sel_X5_cupAt hb.2.1.1 rfl rfl rfl rfl (Nat.le_of_ble_eq_true rfl) dX6_would_5 ⟨Nat.le_of_ble_eq_true rfl, Nat.le_of_ble_eq_true rfl⟩ ⟨Nat.le_refl _, Nat.le_refl _⟩ (zk_w ?_)
    refine zv_astore_nN dX6_would_8 (by decide) rfl ?_
    refine zv_aload_nN dX6_would_9 rfl ?_
    refine zv_ifnonnull_n dX6_would_10 ?_
    refine zv_iconst (v := (-1)) dX6_would_13 (by decide) ?_
    rw [hop]
    exact zv_iretI dX6_would_14 rfl rfl rfl ⟨hC, zFr_rf⟩
  · obtain ⟨hi, rfl⟩ := cpI_some i4 i5 hz
    have hi3 : i < 3 := by omega
    have hci := hC.1.2 i hi3
    have hq : qWould r (nI i) sd = (if errD r sd 1 < 0 then errD r sd 1 else if ¬ dPR r sd.toNatClampNeg 0 = 0 then 0 else if 0 < recvR (cupR r i) (dPR r sd.toNatClampNeg) then 2 + recvR (cupR r i) (dPR r sd.toNatClampNeg) else if cupR r i 4 < recvP (cupR r i) (dPR r sd.toNatClampNeg) 4 then 1 else 2) := by unfold qWould; rw [hz]
    rw [hq]
    obtain ⟨m, hJ, hsz⟩ := i6 i hi3
    refine zv_callV (m_X5_cupAt l D B hb.2.1 e3 i5 hi) ml_X6_110 in_X5_cupAt sel_X5_cupAt hb.2.1.1 rfl rfl rfl rfl (Nat.le_of_ble_eq_true rfl) dX6_would_5 ⟨Nat.le_of_ble_eq_true rfl, Nat.le_of_ble_eq_true rfl⟩ ⟨Nat.le_refl _, Nat.le_refl _⟩ (zk_r ?_)
    refine zv_astore_n dX6_would_8 (by decide) rfl ?_
    refine zv_aload_n dX6_would_9 rfl ?_
    refine zv_ifnonnull_r (tgt := 15) dX6_would_10 (by decide) ?_
    refine zv_aload_n dX6_would_15 rfl ?_
    refine zv_iload_n dX6_would_16 rfl ?_
    refine zv_iconst (v := 1) dX6_would_17 (by decide) ?_
    refine zv_callV (m_X6_errorOfDroplets l D B hb hC.1 sd 1) ml_X6_171 in_X6_errorOfDroplets sel_X6_errorOfDroplets hb.1 rfl rfl rfl rfl (Nat.le_of_ble_eq_true rfl) dX6_would_18 ⟨Nat.le_of_ble_eq_true rfl, Nat.le_of_ble_eq_true rfl⟩ ⟨Nat.le_refl _, Nat.le_refl _⟩ (zk_i ?_)
    refine zv_istore dX6_would_21 (by decide) rfl ?_
    refine zv_iload dX6_would_23 rfl ?_
    refine zv_if_ge (tgt := 31) dX6_would_25 (by decide) (fun c25 => ?_) (fun c25 => ?_)
    · have he : ¬ errD r sd 1 < 0 := i32_nlt.mpr c25
      rw [if_neg he]
      obtain ⟨s0, b0, hs0, -, -, rfl, -, hn0⟩ := errD_ok i2 i3 he
      rw [nI_clamp (by omega)]
      refine zv_aload_n dX6_would_31 rfl ?_
      refine zv_getS (r := 126) hb.1 rfl fl_X6_37 rfl dX6_would_32 ?_
      refine zv_aload_n dX6_would_35 rfl ?_
      refine zv_getS (r := 1) hb.1 rfl fl_X6_10 rfl dX6_would_36 ?_
      refine zv_iload_n dX6_would_39 rfl ?_
      refine zv_callV (m_X1_makeFrom l D B (q := x + 126) (s := x + 1) (w := w) (n := n) (sd := s0) hb.2.2.2.2.2.1 hb.2.1.1 (by omega) e2 hn0 i3 e0 iw (by omega)) ml_X6_93 in_X1_makeFrom sel_X1_makeFrom hb.2.2.2.2.2.1 rfl rfl rfl rfl (Nat.le_of_ble_eq_true rfl) dX6_would_40 ⟨Nat.le_of_ble_eq_true rfl, Nat.le_of_ble_eq_true rfl⟩ ⟨Nat.le_refl _, Nat.le_refl _⟩ (zk_v ?_)
      have hdd : mkP (G (x + 126)) w (G (x + 1) 1) n (fun k => G (x + 1) (5 + k)) (s0) 0 = dPR r (s0) 0 ∧ mkP (G (x + 126)) w (G (x + 1) 1) n (fun k => G (x + 1) (5 + k)) (s0) 1 = dPR r (s0) 1 ∧ mkP (G (x + 126)) w (G (x + 1) 1) n (fun k => G (x + 1) (5 + k)) (s0) 2 = dPR r (s0) 2 ∧ mkP (G (x + 126)) w (G (x + 1) 1) n (fun k => G (x + 1) (5 + k)) (s0) 3 = dPR r (s0) 3 := by
        unfold dPR
        rw [i0, i2, nI_clamp (by omega), nI_clamp (by omega), hC.1.1]
        exact ⟨rfl, rfl, rfl, rfl⟩
      generalize mkP (G (x + 126)) w (G (x + 1) 1) n (fun k => G (x + 1) (5 + k)) (s0) = d at hdd ⊢
      obtain ⟨d0, d1, d2, d3⟩ := hdd
      refine zv_aload_n dX6_would_43 rfl ?_
      refine zv_getS (r := 126) hb.1 rfl fl_X6_37 rfl dX6_would_44 ?_
      refine zv_getI hb.2.2.2.2.2.1 rfl fl_X6_106 rfl dX6_would_47 ?_
      rw [zst_same, d0]
      refine zv_if_eq (tgt := 55) dX6_would_50 (by decide) (fun c50 => ?_) (fun c50 => ?_)
      · rw [if_neg (by rw [c50]; simp)]
        refine zv_aload_n dX6_would_55 rfl ?_
        refine zv_getS (r := 127) hb.1 rfl fl_X6_44 rfl dX6_would_56 ?_
        refine zv_aload_n dX6_would_59 rfl ?_
        have hcp : cpP (G (x + 127)) (cupR r i) = cupR r i := by
          funext j
          simp only [cpP]
          split
          · rfl
          · rw [hC.2.1 j (by omega), cupR_hi r i j (by omega)]
        refine zv_callV (m_X0_copyFrom l D B (q := x + 127) (p := x + 1 + (3 + 4 * i)) hb.2.2.2.2.2.2.1 (hb.2.1.2 i hi3) (by omega)) ml_X6_174 in_X0_copyFrom sel_X0_copyFrom hb.2.2.2.2.2.2.1 rfl rfl rfl rfl (Nat.le_of_ble_eq_true rfl) dX6_would_60 ⟨Nat.le_of_ble_eq_true rfl, Nat.le_of_ble_eq_true rfl⟩ ⟨Nat.le_refl _, Nat.le_refl _⟩ (zk_v ?_)
        rw [zst_ne _ _ (show x + 127 ≠ x + 126 by omega), zst_ne _ _ (show x + 1 + (3 + 4 * i) ≠ x + 126 by omega), hci, hcp]
        have hD : zDO n (chR r) d := by
          have := dPR_DO (sd := s0) i2 hn0 i3
          unfold zDO at this ⊢
          rw [d0, d2, d3]
          exact this
        obtain ⟨hcP, hcR⟩ := recvP_congr (f := cupR r i) d0 d2 d3
        have hg126 : (zst (zst G (x + 126) d) (x + 127) (cupR r i)) (x + 126) = d := by rw [zst_ne _ _ (by omega), zst_same]
        refine zv_aload_n dX6_would_63 rfl ?_
        refine zv_getS (r := 127) hb.1 rfl fl_X6_44 rfl dX6_would_64 ?_
        refine zv_aload_n dX6_would_67 rfl ?_
        refine zv_getS (r := 126) hb.1 rfl fl_X6_37 rfl dX6_would_68 ?_
        refine zv_callV (m_X0_receive l D B (q := x + 127) (r := x + 126) (n := n) (m := m) (ch := chR r) hb.2.2.2.2.2.2.1 hb.2.2.2.2.2.1 (by omega) (by rw [zst_same]; exact hJ) (by rw [zst_same]; exact hsz) (by rw [hg126]; exact hD)) ml_X6_177 in_X0_receive sel_X0_receive hb.2.2.2.2.2.2.1 rfl rfl rfl rfl (Nat.le_of_ble_eq_true rfl) dX6_would_71 ⟨Nat.le_of_ble_eq_true rfl, Nat.le_of_ble_eq_true rfl⟩ ⟨Nat.le_refl _, Nat.le_refl _⟩ (zk_i ?_)
        rw [zst_same, hg126, hcP, hcR, zst_zst]
        have hC3 : CR x r (zst (zst G (x + 126) d) (x + 127) (recvP (cupR r i) (dPR r s0))) := CR_tri (CR_fal hC) (fun j hj => by rw [← hcP]; exact (recvP_hi (i6 i hi3) hD j hj).trans (cupR_hi r i j hj))
        have hF3 : zFr x G (zst (zst G (x + 126) d) (x + 127) (recvP (cupR r i) (dPR r s0))) := zFr_tr (zFr_zst (by omega)) (zFr_zst (by omega))
        refine zv_istore dX6_would_74 (by decide) rfl ?_
        refine zv_iload dX6_would_76 rfl ?_
        refine zv_if_le (tgt := 86) dX6_would_78 (by decide) (fun c78 => ?_) (fun c78 => ?_)
        · rw [if_neg (i32_nlt.mpr c78)]
          refine zv_aload_n dX6_would_86 rfl ?_
          refine zv_getS (r := 127) hb.1 rfl fl_X6_44 rfl dX6_would_87 ?_
          refine zv_getI hb.2.2.2.2.2.2.1 rfl fl_X6_125 rfl dX6_would_90 ?_
          refine zv_aload_n dX6_would_93 rfl ?_
          refine zv_getI (hb.2.1.2 i hi3) rfl fl_X6_125 rfl dX6_would_94 ?_
          rw [zst_same, zst_ne _ _ (show x + 1 + (3 + 4 * i) ≠ x + 127 by omega), zst_ne _ _ (show x + 1 + (3 + 4 * i) ≠ x + 126 by omega), hci]
          refine zv_icmp_le (tgt := 104) dX6_would_97 (by decide) (fun c97 => ?_) (fun c97 => ?_)
          · rw [if_neg (i32_nlt.mpr c97)]
            refine zv_iconst (v := 2) dX6_would_104 (by decide) ?_
            exact zv_iretI dX6_would_105 rfl rfl rfl ⟨hC3, hF3⟩
          · rw [if_pos (i32_nle.mp c97)]
            refine zv_iconst (v := 1) dX6_would_100 (by decide) ?_
            refine zv_goto (tgt := 105) dX6_would_101 (by decide) ?_
            exact zv_iretI dX6_would_105 rfl rfl rfl ⟨hC3, hF3⟩
        · rw [if_pos (i32_nle.mp c78)]
          refine zv_iconst (v := 2) dX6_would_81 (by decide) ?_
          refine zv_iload dX6_would_82 rfl ?_
          refine zv_iadd dX6_would_84 ?_
          exact zv_iretI dX6_would_85 rfl rfl rfl ⟨hC3, hF3⟩
      · rw [if_pos c50]
        refine zv_iconst (v := 0) dX6_would_53 (by decide) ?_
        exact zv_iretI dX6_would_54 rfl rfl rfl ⟨CR_fal hC, zFr_zst (by omega)⟩
    · have he : errD r sd 1 < 0 := i32_nle.mp c25
      rw [if_pos he]
      refine zv_iload dX6_would_28 rfl ?_
      exact zv_iretI dX6_would_30 rfl rfl rfl ⟨hC, zFr_rf⟩

set_option maxRecDepth 100000 in
set_option maxHeartbeats 4000000 in
theorem lp_X6_degrees (l : Launch) (D : zD) (B : Nat) {L : zL} {nx : Nat} {G : zG} {x b : Nat} {r : Nat → Int32} (hb : zBD L x) (hC : CR x r G) (hS : SI b r) {s0 mn n w : Nat} {dg : Int32} (hs0 : s0 < 65536) (hmn : mn < 1000) (i0 : r 0 = nI w) (iw : w ≤ 2) (i2 : r 2 = nI n) (i3 : n ≤ 16) (hn0 : 0 < n) : ∀ k : Nat, k ≤ mn → ∀ d : Nat → Int32, zV l (fun _ => True) D B RX6 "degrees" cX6_degrees 6 (some .int) (zrm 3 71 0 0) (zN (zI (nI (zcnt (degB r s0 dg) mn)) L nx (fun G1 => CR x r G1 ∧ zFr x G G1))) 0 0 L nx 53 [some (.ref x), some (.int (nI s0)), some (.int (nI mn)), some (.int dg), some (.int (nI (zcnt (degB r s0 dg) k))), some (.int (nI k))] [] (zst G (x + 126) d) := by
  refine zloop mn (fun k hk ih d => ?_)
  have hC2 : CR x r (zst G (x + 126) d) := CR_fal hC
  have e2 : (zst G (x + 126) d) (x + 1) 2 = nI n := by rw [hC2.1.1]; exact i2
  have e0 : (zst G (x + 126) d) (x + 1) 0 = nI w := by rw [hC2.1.1]; exact i0
  refine zv_iload dX6_degrees_53 rfl ?_
  refine zv_iload_n dX6_degrees_55 rfl ?_
  refine zv_icmp_ge (tgt := 97) dX6_degrees_56 (by decide) (fun c56 => ?_) (fun c56 => ?_)
  · have e : k = mn := by have := (nI_leI (by omega) (by omega)).mp c56; omega
    subst e
    refine zv_iload dX6_degrees_97 rfl ?_
    exact zv_iretI dX6_degrees_99 rfl rfl rfl ⟨hC2, zFr_zst (by omega)⟩
  · have hlt : k < mn := by
      rcases Nat.lt_or_ge k mn with h | h
      · exact h
      · exact absurd (nI_le h (by omega)) c56
    refine zv_aload_n dX6_degrees_59 rfl ?_
    refine zv_getS (r := 126) hb.1 rfl fl_X6_37 rfl dX6_degrees_60 ?_
    refine zv_aload_n dX6_degrees_63 rfl ?_
    refine zv_getS (r := 1) hb.1 rfl fl_X6_10 rfl dX6_degrees_64 ?_
    refine zv_iload_n dX6_degrees_67 rfl ?_
    refine zv_iload dX6_degrees_68 rfl ?_
    refine zv_iadd dX6_degrees_70 ?_
    refine zv_callS (m_X6_wrappedSeed l D B _) ml_X6_181 st_X6_wrappedSeed rfl rfl (Nat.le_of_ble_eq_true rfl) dX6_degrees_71 ⟨Nat.le_of_ble_eq_true rfl, Nat.le_of_ble_eq_true rfl⟩ ⟨Nat.le_refl _, Nat.le_refl _⟩ (zk_i ?_)
    rw [nI_add, show nI (s0 + k) &&& 65535 = nI ((s0 + k) % 65536) from pk_andN (by omega) 16 (by decide)]
    refine zv_callV (m_X1_makeFrom l D B (q := x + 126) (s := x + 1) (w := w) (n := n) (sd := (s0 + k) % 65536) hb.2.2.2.2.2.1 hb.2.1.1 (by omega) e2 hn0 i3 e0 iw (by omega)) ml_X6_93 in_X1_makeFrom sel_X1_makeFrom hb.2.2.2.2.2.1 rfl rfl rfl rfl (Nat.le_of_ble_eq_true rfl) dX6_degrees_74 ⟨Nat.le_of_ble_eq_true rfl, Nat.le_of_ble_eq_true rfl⟩ ⟨Nat.le_refl _, Nat.le_refl _⟩ (zk_v ?_)
    rw [zst_zst]
    refine zv_aload_n dX6_degrees_77 rfl ?_
    refine zv_getS (r := 126) hb.1 rfl fl_X6_37 rfl dX6_degrees_78 ?_
    refine zv_getI hb.2.2.2.2.2.1 rfl fl_X6_97 rfl dX6_degrees_81 ?_
    refine zv_iload_n dX6_degrees_84 rfl ?_
    rw [zst_same, mkP_at.2.1]
    have hdb : degB r s0 dg k = decide (nI (zdeg w (zdw (zdw ((s0 + k) % 65536))) n) = dg) := by unfold degB; rw [i0, i2, nI_clamp (by omega), nI_clamp (by omega)]
    refine zv_icmp_ne (tgt := 91) dX6_degrees_85 (by decide) (fun c85 => ?_) (fun c85 => ?_)
    · have hcc : zcnt (degB r s0 dg) (k + 1) = zcnt (degB r s0 dg) k := by simp [zcnt, hdb, c85]
      refine zv_iinc1 dX6_degrees_91 rfl (by decide) rfl ?_
      refine zv_goto (tgt := 53) dX6_degrees_94 (by decide) ?_
      have ih1 := ih hlt
      rw [hcc] at ih1
      first
        | (rw [nI_1, nI_1]; exact ih1 _)
        | (rw [nI_1]; exact ih1 _)
    · have hcc : zcnt (degB r s0 dg) (k + 1) = zcnt (degB r s0 dg) k + 1 := by simp [zcnt, hdb, c85]
      refine zv_iinc1 dX6_degrees_88 rfl (by decide) rfl ?_
      refine zv_iinc1 dX6_degrees_91 rfl (by decide) rfl ?_
      refine zv_goto (tgt := 53) dX6_degrees_94 (by decide) ?_
      have ih1 := ih hlt
      rw [hcc] at ih1
      first
        | (rw [nI_1, nI_1]; exact ih1 _)
        | (rw [nI_1]; exact ih1 _)

set_option maxRecDepth 100000 in
set_option maxHeartbeats 4000000 in
theorem m_X6_degrees (l : Launch) (D : zD) (B : Nat) {L : zL} {nx : Nat} {G : zG} {x b : Nat} {r : Nat → Int32} (hb : zBD L x) (hC : CR x r G) (hS : SI b r) (sd mn dg : Int32) : zMet l D B yX6_degrees cX6_degrees 6 (some .int) 3 71 0 0 [.ref x, .int sd, .int mn, .int dg] L nx G (zI (qDeg r sd mn dg) L nx (fun G1 => CR x (r) G1 ∧ zFr x G G1)) := by
  refine zMet_of (own := RX6) (mn := "degrees") [some (.ref x), some (.int sd), some (.int mn), some (.int dg), none, none] (by decide +kernel) rfl rfl rfl (Nat.le_of_ble_eq_true rfl) ?_
  show zV l (fun _ => True) D B RX6 "degrees" cX6_degrees 6 (some .int) (zrm 3 71 0 0) (zN (zI (qDeg r sd mn dg) L nx (fun G1 => CR x (r) G1 ∧ zFr x G G1))) 0 0 L nx 0 [some (.ref x), some (.int sd), some (.int mn), some (.int dg), none, none] [] (G)
  obtain ⟨w, ls, n, cn, i0, iw, i1, il, i2, i3, i4, i5, i6, i7, i8⟩ := id hS
  have e3 : G (x + 1) 3 = nI cn := by rw [hC.1.1]; exact i4
  have e2 : G (x + 1) 2 = nI n := by rw [hC.1.1]; exact i2
  have e0 : G (x + 1) 0 = nI w := by rw [hC.1.1]; exact i0
  have e1 : G (x + 1) 1 = nI ls := by rw [hC.1.1]; exact i1
  refine zv_iload_n dX6_degrees_0 rfl ?_
  refine zv_iconst (v := 0) dX6_degrees_1 (by decide) ?_
  refine zv_ldc dX6_degrees_2 kc_X6_84 ?_
  refine zv_callS (m_X6_isWithin l D B sd 0 65535) ml_X6_85 st_X6_isWithin rfl rfl (Nat.le_of_ble_eq_true rfl) dX6_degrees_4 ⟨Nat.le_of_ble_eq_true rfl, Nat.le_of_ble_eq_true rfl⟩ ⟨Nat.le_refl _, Nat.le_refl _⟩ (zk_i ?_)
  refine zv_if_eq (tgt := 31) dX6_degrees_7 (by decide) (fun c7 => ?_) (fun c7 => ?_)
  · have h1 := bI_eq0.mp c7
    have hq : qDeg r sd mn dg = -2 := by unfold qDeg; rw [h1, if_pos (by simp)]
    refine zv_bipush (v := (-2)) dX6_degrees_31 (by decide) ?_
    rw [hq]
    exact zv_iretI dX6_degrees_33 rfl rfl rfl ⟨hC, zFr_rf⟩
  · have h1 := bI_ne0.mp c7
    refine zv_iload_n dX6_degrees_10 rfl ?_
    refine zv_iconst (v := 1) dX6_degrees_11 (by decide) ?_
    refine zv_sipush (v := 999) dX6_degrees_12 (by decide) ?_
    refine zv_callS (m_X6_isWithin l D B mn 1 999) ml_X6_85 st_X6_isWithin rfl rfl (Nat.le_of_ble_eq_true rfl) dX6_degrees_15 ⟨Nat.le_of_ble_eq_true rfl, Nat.le_of_ble_eq_true rfl⟩ ⟨Nat.le_refl _, Nat.le_refl _⟩ (zk_i ?_)
    refine zv_if_eq (tgt := 31) dX6_degrees_18 (by decide) (fun c18 => ?_) (fun c18 => ?_)
    · have h2 := bI_eq0.mp c18
      have hq : qDeg r sd mn dg = -2 := by unfold qDeg; rw [h2, if_pos (by simp)]
      refine zv_bipush (v := (-2)) dX6_degrees_31 (by decide) ?_
      rw [hq]
      exact zv_iretI dX6_degrees_33 rfl rfl rfl ⟨hC, zFr_rf⟩
    · have h2 := bI_ne0.mp c18
      refine zv_iload_n dX6_degrees_21 rfl ?_
      refine zv_iconst (v := 1) dX6_degrees_22 (by decide) ?_
      refine zv_bipush (v := 16) dX6_degrees_23 (by decide) ?_
      refine zv_callS (m_X6_isWithin l D B dg 1 16) ml_X6_85 st_X6_isWithin rfl rfl (Nat.le_of_ble_eq_true rfl) dX6_degrees_25 ⟨Nat.le_of_ble_eq_true rfl, Nat.le_of_ble_eq_true rfl⟩ ⟨Nat.le_refl _, Nat.le_refl _⟩ (zk_i ?_)
      refine zv_if_ne (tgt := 34) dX6_degrees_28 (by decide) (fun c28 => ?_) (fun c28 => ?_)
      · have h3 := bI_ne0.mp c28
        refine zv_aload_n dX6_degrees_34 rfl ?_
        refine zv_getS (r := 1) hb.1 rfl fl_X6_10 rfl dX6_degrees_35 ?_
        refine zv_getI hb.2.1.1 rfl fl_X6_89 rfl dX6_degrees_38 ?_
        rw [e2]
        refine zv_if_ne (tgt := 47) dX6_degrees_41 (by decide) (fun c41 => ?_) (fun c41 => ?_)
        · have hn0 : 0 < n := by
            rcases Nat.eq_zero_or_pos n with g | g
            · exact absurd (by rw [g]; rfl) c41
            · exact g
          obtain ⟨s0, hs0, rfl⟩ := (zin3_iff (m := 65535) (by decide)).mp h1
          obtain ⟨m0, hm1, hm0, rfl⟩ := (zin3_iff2 (l := 1) (m := 999) (by decide) (by decide)).mp h2
          have hq : qDeg r (nI s0) (nI m0) dg = nI (zcnt (degB r s0 dg) m0) := by unfold qDeg; rw [h1, h2, h3, if_neg (by simp), if_neg (by rw [i2]; exact c41), nI_clamp (by omega), nI_clamp (by omega)]
          rw [hq]
          refine zv_iconst (v := 0) dX6_degrees_47 (by decide) ?_
          refine zv_istore dX6_degrees_48 (by decide) rfl ?_
          refine zv_iconst (v := 0) dX6_degrees_50 (by decide) ?_
          refine zv_istore dX6_degrees_51 (by decide) rfl ?_
          refine zv_eqG ?_ (lp_X6_degrees l D B hb hC hS (by omega) (by omega) i0 iw i2 i3 hn0 0 (by omega) (G (x + 126)))
          rw [zst_self]
        · have hq : qDeg r sd mn dg = -5 := by unfold qDeg; rw [h1, h2, h3, if_neg (by simp), if_pos (by rw [i2]; exact c41)]
          refine zv_bipush (v := (-5)) dX6_degrees_44 (by decide) ?_
          rw [hq]
          exact zv_iretI dX6_degrees_46 rfl rfl rfl ⟨hC, zFr_rf⟩
      · have h3 := bI_eq0.mp c28
        have hq : qDeg r sd mn dg = -2 := by unfold qDeg; rw [h3, if_pos (by simp)]
        refine zv_bipush (v := (-2)) dX6_degrees_31 (by decide) ?_
        rw [hq]
        exact zv_iretI dX6_degrees_33 rfl rfl rfl ⟨hC, zFr_rf⟩
