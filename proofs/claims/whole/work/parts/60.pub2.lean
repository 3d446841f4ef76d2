set_option maxRecDepth 100000 in
set_option maxHeartbeats 4000000 in
theorem m_X6_restoreFrom (l : Launch) (D : zD) (B : Nat) {L : zL} {nx : Nat} {G : zG} {x : Nat} {r : Nat → Int32} {sl : Nat → Option (Nat → Int32)} {ad : Nat → Nat} (hb : zBD L x) (hC : CR x r G) (hs : zSl L x nx G sl ad) (v : Int32) : zMet l D B yX6_restoreFrom cX6_restoreFrom 3 (some .int) 3 85 0 0 [.ref x, .int v] L nx G (zI (opRest r sl v).1 L nx (fun G1 => CR x (opRest r sl v).2 G1 ∧ zFr x G G1)) := by
  refine zMet_of (own := RX6) (mn := "restoreFrom") [some (.ref x), some (.int v), none] (by decide +kernel) rfl rfl rfl (Nat.le_of_ble_eq_true rfl) ?_
  show zV l (fun _ => True) D B RX6 "restoreFrom" cX6_restoreFrom 3 (some .int) (zrm 3 85 0 0) (zN (zI (opRest r sl v).1 L nx (fun G1 => CR x (opRest r sl v).2 G1 ∧ zFr x G G1))) 0 0 L nx 0 [some (.ref x), some (.int v), none] [] (G)
  refine zv_iload_n dX6_restoreFrom_0 rfl ?_
  refine zv_iconst (v := 0) dX6_restoreFrom_1 (by decide) ?_
  refine zv_iconst (v := 1) dX6_restoreFrom_2 (by decide) ?_
  rcases hz : slI v with _ | j
  · have hop : opRest r sl v = (-2, r) := by unfold opRest; rw [hz]
    rw [hop]
    refine zv_callS (m_X6_isWithin l D B _ 0 1) ml_X6_85 st_X6_isWithin rfl rfl (Nat.le_of_ble_eq_true rfl) dX6_restoreFrom_3 ⟨Nat.le_of_ble_eq_true rfl, Nat.le_of_ble_eq_true rfl⟩ ⟨Nat.le_refl _, Nat.le_refl _⟩ (zk_i ?_)
    refine zv_if_ne (tgt := 12) dX6_restoreFrom_6 (by decide) (fun h => absurd (by rw [slI_none hz]; rfl) h) (fun _ => ?_)
    refine zv_bipush (v := (-2)) dX6_restoreFrom_9 (by decide) ?_
    exact zv_iretI dX6_restoreFrom_11 rfl rfl rfl ⟨hC, zFr_rf⟩
  · obtain ⟨hj, rfl⟩ := slI_some hz
    refine zv_callS (m_X6_isWithin l D B _ 0 1) ml_X6_85 st_X6_isWithin rfl rfl (Nat.le_of_ble_eq_true rfl) dX6_restoreFrom_3 ⟨Nat.le_of_ble_eq_true rfl, Nat.le_of_ble_eq_true rfl⟩ ⟨Nat.le_refl _, Nat.le_refl _⟩ (zk_i ?_)
    refine zv_if_ne (tgt := 12) dX6_restoreFrom_6 (by decide) (fun _ => ?_) (fun h => absurd h (by rw [slI_in hj]; decide))
    refine zv_aload_n dX6_restoreFrom_12 rfl ?_
    refine zv_getS (r := 123) hb.1 rfl fl_X6_23 rfl dX6_restoreFrom_13 ?_
    refine zv_iload_n dX6_restoreFrom_16 rfl ?_
    rcases hs.1 j hj with ⟨hn, h0⟩ | ⟨r2, hr2, d1, d2, d3, d4, d5, d6⟩
    · have hop : opRest r sl (nI j) = (-5, r) := by unfold opRest; rw [hz]; dsimp only; rw [hn]
      rw [hop]
      refine zv_aaldN (q := x + 123) (r := 0) (ta := 3) (i := 0) (by decide) (by decide) hb.2.2.2.1 rfl (zix_nI (by omega) (by decide)) (by rw [Nat.zero_add]; exact h0) dX6_restoreFrom_17 ?_
      refine zv_astore_nN dX6_restoreFrom_18 (by decide) rfl ?_
      refine zv_aload_nN dX6_restoreFrom_19 rfl ?_
      refine zv_ifnonnull_n dX6_restoreFrom_20 ?_
      refine zv_bipush (v := (-5)) dX6_restoreFrom_23 (by decide) ?_
      exact zv_iretI dX6_restoreFrom_25 rfl rfl rfl ⟨hC, zFr_rf⟩
    · have hop : opRest r sl (nI j) = (r2 3, r2) := by unfold opRest; rw [hz]; dsimp only; rw [hr2]
      rw [hop]
      refine zv_aaldD (q := x + 123) (r := 0) (ta := 3) (i := 0) (x := ad j) (by decide) (by decide) hb.2.2.2.1 rfl (zix_nI (by omega) (by decide)) (by rw [Nat.zero_add, d4]; exact zdr_nI (by omega) d3) dX6_restoreFrom_17 ?_
      refine zv_astore_n dX6_restoreFrom_18 (by decide) rfl ?_
      refine zv_aload_n dX6_restoreFrom_19 rfl ?_
      refine zv_ifnonnull_r (tgt := 26) dX6_restoreFrom_20 (by decide) ?_
      refine zv_aload_n dX6_restoreFrom_26 rfl ?_
      refine zv_getS (r := 1) hb.1 rfl fl_X6_10 rfl dX6_restoreFrom_27 ?_
      refine zv_aload_n dX6_restoreFrom_30 rfl ?_
      refine zv_callV (m_X5_copyFrom l D B hb.2.1 d5 (by unfold apart; omega) hC.1 d6) ml_X6_215 in_X5_copyFrom sel_X5_copyFrom hb.2.1.1 rfl rfl rfl rfl (Nat.le_of_ble_eq_true rfl) dX6_restoreFrom_31 ⟨Nat.le_of_ble_eq_true rfl, Nat.le_of_ble_eq_true rfl⟩ ⟨Nat.le_refl _, Nat.le_refl _⟩ (zk_v ?_)
      refine zv_aload_n dX6_restoreFrom_34 rfl ?_
      refine zv_getS (r := 1) hb.1 rfl fl_X6_10 rfl dX6_restoreFrom_35 ?_
      refine zv_getI hb.2.1.1 rfl fl_X6_152 rfl dX6_restoreFrom_38 ?_
      exact zv_iretI dX6_restoreFrom_41 rfl rfl (by rw [(stPut_OK G (x + 1) r2).1]; rfl) ⟨CR_put hC, zFr_put⟩

set_option maxRecDepth 100000 in
set_option maxHeartbeats 4000000 in
theorem m_X6_restore (l : Launch) (D : zD) (B : Nat) {L : zL} {nx : Nat} {G : zG} {x c tn : Nat} {r : Nat → Int32} {h : Nat → (Nat → Int32)} {sl : Nat → Option (Nat → Int32)} {T : Nat → Nat} (hR : zRC L x nx G r h c sl T tn) (hn3 : ∀ j r2, sl j = some r2 → ¬ r2 3 < 0) (v : Int32) : zMet l D B yX6_restore cX6_restore 2 (some .int) 4 107 0 0 [.ref x, .int v] L nx G (zI ((opRest r sl v).1) L nx (fun G1 => zRC L x nx G1 ((chg r h c (opRest r sl v)).1) ((chg r h c (opRest r sl v)).2.1) ((chg r h c (opRest r sl v)).2.2) sl (T) (tn) ∧ G1 (x + 134) = G (x + 134))) := by
  refine zMet_of (own := RX6) (mn := "restore") [some (.ref x), some (.int v)] (by decide +kernel) rfl rfl rfl (Nat.le_of_ble_eq_true rfl) ?_
  show zV l (fun _ => True) D B RX6 "restore" cX6_restore 2 (some .int) (zrm 4 107 0 0) (zN (zI ((opRest r sl v).1) L nx (fun G1 => zRC L x nx G1 ((chg r h c (opRest r sl v)).1) ((chg r h c (opRest r sl v)).2.1) ((chg r h c (opRest r sl v)).2.2) sl (T) (tn) ∧ G1 (x + 134) = G (x + 134)))) 0 0 L nx 0 [some (.ref x), some (.int v)] [] (G)
  obtain ⟨hb, hC, ⟨f, hh⟩, hs, hp⟩ := id hR
  have hK : (f + c) % 7 < 7 := by omega
  obtain ⟨f1, f2, f3, f4, f5, f6⟩ := id hh
  obtain ⟨rK, hrK⟩ := f5 _ hK
  refine zv_aload_n dX6_restore_0 rfl ?_
  refine zv_getS (r := 16) hR.1.1 rfl fl_X6_19 rfl dX6_restore_1 ?_
  refine zv_aload_n dX6_restore_4 rfl ?_
  refine zv_getS (r := 1) hR.1.1 rfl fl_X6_10 rfl dX6_restore_5 ?_
  refine zv_callV (m_X2_note l D B (f := f) (c := c) hb.2.2.1 f2 f1 f3 f4 hb.2.1 (by unfold apart; omega) hrK hC.1) ml_X6_55 in_X2_note sel_X2_note hb.2.2.1.1 rfl rfl rfl rfl (Nat.le_of_ble_eq_true rfl) dX6_restore_8 ⟨Nat.le_of_ble_eq_true rfl, Nat.le_of_ble_eq_true rfl⟩ ⟨Nat.le_refl _, Nat.le_refl _⟩ (zk_v ?_)
  have hC1 := CR_note (r0 := r) hC hK
  obtain ⟨ad, hs1⟩ := id hs
  have hs2 : zSl L x nx (stPut G (x + 16 + (2 + 15 * ((f + c) % 7))) r) sl ad := zSl_of hs1 (stPut_ne _ _ (by omega)) (fun y hy => stPut_ne _ _ (by omega))
  refine zv_aload_n dX6_restore_11 rfl ?_
  refine zv_getS (r := 16) hR.1.1 rfl fl_X6_19 rfl dX6_restore_12 ?_
  refine zv_aload_n dX6_restore_15 rfl ?_
  refine zv_iload_n dX6_restore_16 rfl ?_
  refine zv_callV (m_X6_restoreFrom l D B hb hC1 hs2 v) ml_X6_217 in_X6_restoreFrom sel_X6_restoreFrom hR.1.1 rfl rfl rfl rfl (Nat.le_of_ble_eq_true rfl) dX6_restore_17 ⟨Nat.le_of_ble_eq_true rfl, Nat.le_of_ble_eq_true rfl⟩ ⟨Nat.le_refl _, Nat.le_refl _⟩ (zk_p fun G2 hG2 => ?_)
  obtain ⟨hC2, hF2⟩ := hG2
  by_cases hn : (opRest r sl v).1 < 0
  · rw [opRest_neg hn3 hn] at hC2
    refine zv_callV (m_X2_keepUnlessError_e l D B hb.2.2.1.1 hn) ml_X6_63 in_X2_keepUnlessError sel_X2_keepUnlessError hb.2.2.1.1 rfl rfl rfl rfl (Nat.le_of_ble_eq_true rfl) dX6_restore_20 ⟨Nat.le_of_ble_eq_true rfl, Nat.le_of_ble_eq_true rfl⟩ ⟨Nat.le_refl _, Nat.le_refl _⟩ (zk_i ?_)
    rw [chg_neg hn]
    exact zv_iretI dX6_restore_23 rfl rfl rfl (zRC_neg hb hh hs hp hC2 hF2)
  · obtain ⟨g1, g2⟩ := zHs_fr hh hF2
    refine zv_callV (m_X2_keepUnlessError l D B hb.2.2.1 g1 f1 g2 f4 hn) ml_X6_63 in_X2_keepUnlessError sel_X2_keepUnlessError hb.2.2.1.1 rfl rfl rfl rfl (Nat.le_of_ble_eq_true rfl) dX6_restore_20 ⟨Nat.le_of_ble_eq_true rfl, Nat.le_of_ble_eq_true rfl⟩ ⟨Nat.le_refl _, Nat.le_refl _⟩ (zk_i ?_)
    rw [chg_pos hn]
    exact zv_iretI dX6_restore_23 rfl rfl rfl (zRC_pos hb hh hs hp hC2 hF2)

set_option maxRecDepth 100000 in
set_option maxHeartbeats 4000000 in
theorem m_X6_undo (l : Launch) (D : zD) (B : Nat) {L : zL} {nx : Nat} {G : zG} {x c tn : Nat} {r : Nat → Int32} {h : Nat → (Nat → Int32)} {sl : Nat → Option (Nat → Int32)} {T : Nat → Nat} (hR : zRC L x nx G r h c sl T tn) : zMet l D B yX6_undo cX6_undo 1 (some .int) 4 107 0 0 [.ref x] L nx G (zI ((opUndo r h c).1) L nx (fun G1 => zRC L x nx G1 ((opUndo r h c).2.1) (h) ((opUndo r h c).2.2) sl (T) (tn) ∧ G1 (x + 134) = G (x + 134))) := by
  refine zMet_of (own := RX6) (mn := "undo") [some (.ref x)] (by decide +kernel) rfl rfl rfl (Nat.le_of_ble_eq_true rfl) ?_
  show zV l (fun _ => True) D B RX6 "undo" cX6_undo 1 (some .int) (zrm 4 107 0 0) (zN (zI ((opUndo r h c).1) L nx (fun G1 => zRC L x nx G1 ((opUndo r h c).2.1) (h) ((opUndo r h c).2.2) sl (T) (tn) ∧ G1 (x + 134) = G (x + 134)))) 0 0 L nx 0 [some (.ref x)] [] (G)
  obtain ⟨hb, hC, ⟨f, hh⟩, hs, hp⟩ := id hR
  have hK : (f + c) % 7 < 7 := by omega
  obtain ⟨f1, f2, f3, f4, f5, f6⟩ := id hh
  obtain ⟨rK, hrK⟩ := f5 _ hK
  refine zv_aload_n dX6_undo_0 rfl ?_
  refine zv_getS (r := 16) hR.1.1 rfl fl_X6_19 rfl dX6_undo_1 ?_
  refine zv_aload_n dX6_undo_4 rfl ?_
  refine zv_getS (r := 1) hR.1.1 rfl fl_X6_10 rfl dX6_undo_5 ?_
  rcases Nat.eq_zero_or_pos c with hc0 | hc0
  · have hop : opUndo r h c = (-5, r, 0) := if_pos hc0
    rw [hop]
    refine zv_callV (m_X2_takeBackInto_no l D B hb.2.2.1.1 (by rw [f3, hc0]; rfl)) ml_X6_211 in_X2_takeBackInto sel_X2_takeBackInto hb.2.2.1.1 rfl rfl rfl rfl (Nat.le_of_ble_eq_true rfl) dX6_undo_8 ⟨Nat.le_of_ble_eq_true rfl, Nat.le_of_ble_eq_true rfl⟩ ⟨Nat.le_refl _, Nat.le_refl _⟩ (zk_i ?_)
    refine zv_if_eq (tgt := 24) dX6_undo_11 (by decide) (fun _ => ?_) (fun h => absurd (rfl) h)
    refine zv_bipush (v := (-5)) dX6_undo_24 (by decide) ?_
    exact zv_iretI dX6_undo_26 rfl rfl rfl ⟨by subst hc0; exact hR, rfl⟩
  · have hop : opUndo r h c = (nI (c - 1), h (c - 1), c - 1) := if_neg (by omega)
    rw [hop]
    refine zv_callV (m_X2_takeBackInto l D B (f := f) (c := c) hb.2.2.1 f2 f1 f3 f4 hc0 hb.2.1 (by unfold apart; omega) (by omega) hC.1 (f6 (c - 1) (by omega))) ml_X6_211 in_X2_takeBackInto sel_X2_takeBackInto hb.2.2.1.1 rfl rfl rfl rfl (Nat.le_of_ble_eq_true rfl) dX6_undo_8 ⟨Nat.le_of_ble_eq_true rfl, Nat.le_of_ble_eq_true rfl⟩ ⟨Nat.le_refl _, Nat.le_refl _⟩ (zk_i ?_)
    refine zv_if_eq (tgt := 24) dX6_undo_11 (by decide) (fun h => absurd h (by decide)) (fun _ => ?_)
    refine zv_aload_n dX6_undo_14 rfl ?_
    refine zv_getS (r := 16) hR.1.1 rfl fl_X6_19 rfl dX6_undo_15 ?_
    refine zv_getIN hb.2.2.1.1 rfl fl_X6_168 rfl dX6_undo_18 ?_
    refine zv_goto (tgt := 26) dX6_undo_21 (by decide) ?_
    exact zv_iretI dX6_undo_26 rfl rfl (by rw [stPut_ne _ _ (by omega), zst_same]; exact if_pos rfl) (zRC_undo hb hC hh hs hp hc0)

set_option maxRecDepth 100000 in
set_option maxHeartbeats 4000000 in
theorem m_X6_wipe (l : Launch) (D : zD) (B : Nat) {L : zL} {nx : Nat} {G : zG} {x c tn : Nat} {r : Nat → Int32} {h : Nat → (Nat → Int32)} {sl : Nat → Option (Nat → Int32)} {T : Nat → Nat} (hR : zRC L x nx G r h c sl T tn) : zMet l D B yX6_wipe cX6_wipe 2 (some .int) 0 0 0 0 [.ref x] L nx G (zI (nI tn) L nx (fun G1 => zRC L x nx G1 (r) (h) (c) sl (T) (0) ∧ G1 (x + 134) = G (x + 134))) := by
  refine zMet_of (own := RX6) (mn := "wipe") [some (.ref x), none] (by decide +kernel) rfl rfl rfl (Nat.le_of_ble_eq_true rfl) ?_
  show zV l (fun _ => True) D B RX6 "wipe" cX6_wipe 2 (some .int) (zrm 0 0 0 0) (zN (zI (nI tn) L nx (fun G1 => zRC L x nx G1 (r) (h) (c) sl (T) (0) ∧ G1 (x + 134) = G (x + 134)))) 0 0 L nx 0 [some (.ref x), none] [] (G)
  obtain ⟨hb, hC, ⟨f, hh⟩, hs, hp⟩ := id hR
  refine zv_aload_n dX6_wipe_0 rfl ?_
  refine zv_getS (r := 124) hR.1.1 rfl fl_X6_30 rfl dX6_wipe_1 ?_
  refine zv_getI hb.2.2.2.2.1 rfl fl_X6_165 rfl dX6_wipe_4 ?_
  rw [hp.2.2.1]
  refine zv_istore_n dX6_wipe_7 (by decide) rfl ?_
  refine zv_aload_n dX6_wipe_8 rfl ?_
  refine zv_getS (r := 124) hR.1.1 rfl fl_X6_30 rfl dX6_wipe_9 ?_
  refine zv_iconst (v := 0) dX6_wipe_12 (by decide) ?_
  refine zv_putI (t := 7) hb.2.2.2.2.1 rfl fl_X6_165 ft_X3_1 rfl dX6_wipe_13 ?_
  refine zv_iload_n dX6_wipe_16 rfl ?_
  exact zv_iretI dX6_wipe_17 rfl rfl rfl (zRC_pad hR ⟨hp.1, by omega, by rw [zst_same]; exact if_pos rfl, fun i hi => by omega⟩)

set_option maxRecDepth 100000 in
set_option maxHeartbeats 4000000 in
theorem m_X6_fault (l : Launch) (D : zD) (B : Nat) {L : zL} {nx : Nat} {G : zG} {x c tn : Nat} {r : Nat → Int32} {h : Nat → (Nat → Int32)} {sl : Nat → Option (Nat → Int32)} {T : Nat → Nat} (hR : zRC L x nx G r h c sl T tn) : zMet l D B yX6_fault cX6_fault 1 (some .int) 6 126 0 0 [.ref x] L nx G (zI (ffL T tn 0 80) L nx (fun G1 => zRC L x nx G1 (r) (h) (c) sl (T) (tn) ∧ G1 (x + 134) = G (x + 134))) := by
  refine zMet_of (own := RX6) (mn := "fault") [some (.ref x)] (by decide +kernel) rfl rfl rfl (Nat.le_of_ble_eq_true rfl) ?_
  show zV l (fun _ => True) D B RX6 "fault" cX6_fault 1 (some .int) (zrm 6 126 0 0) (zN (zI (ffL T tn 0 80) L nx (fun G1 => zRC L x nx G1 (r) (h) (c) sl (T) (tn) ∧ G1 (x + 134) = G (x + 134)))) 0 0 L nx 0 [some (.ref x)] [] (G)
  obtain ⟨hb, hC, ⟨f, hh⟩, hs, hp⟩ := id hR
  refine zv_aload_n dX6_fault_0 rfl ?_
  refine zv_getS (r := 124) hR.1.1 rfl fl_X6_30 rfl dX6_fault_1 ?_
  refine zv_callV (m_X3_findFault l D B hp) ml_X6_194 in_X3_findFault sel_X3_findFault hb.2.2.2.2.1 rfl rfl rfl rfl (Nat.le_of_ble_eq_true rfl) dX6_fault_4 ⟨Nat.le_of_ble_eq_true rfl, Nat.le_of_ble_eq_true rfl⟩ ⟨Nat.le_refl _, Nat.le_refl _⟩ (zk_p fun G2 hG2 => ?_)
  obtain ⟨g, rfl, hg⟩ := hG2
  exact zv_iretI dX6_fault_7 rfl rfl rfl (zRC_pad hR (zPT_pad hp hg))

set_option maxRecDepth 100000 in
set_option maxHeartbeats 4000000 in
theorem lp_X6_charactersIn (l : Launch) (D : zD) (B : Nat) {L : zL} {nx : Nat} {G : zG} {u : Nat} (hu : u < 2 ^ 64) : ∀ i : Nat, i ≤ 8 → ∀ a : Option Value, chS u i (8 - i) = chN u → zV l (fun _ => True) D B RX6 "charactersIn" cX6_charactersIn 5 (some .int) (zrm 1 22 0 0) (zN (zE (some (.int (nI (chN u)))) L nx G)) 0 0 L nx 2 [some (.long (lN u)), none, some (.int (nI i)), a, none] [] (G) := by
  refine zloop 8 (fun i hi ih a hE => ?_)
  refine zv_iload_n dX6_charactersIn_2 rfl ?_
  refine zv_bipush (v := 8) dX6_charactersIn_3 (by decide) ?_
  refine zv_icmp_ge (tgt := 47) dX6_charactersIn_5 (by decide) (fun c5 => ?_) (fun c5 => ?_)
  · have e : i = 8 := by have := zge_of (N := 8) (by decide) (by omega) rfl c5; omega
    subst e
    refine zv_bipush (v := 8) dX6_charactersIn_47 (by decide) ?_
    refine zv_iretE dX6_charactersIn_49 rfl (rfl) (congrArg nI hE) ?_
    · rfl
  · have hlt : i < 8 := zlt_of (N := 8) (by decide) (by omega) rfl c5
    have hm : u >>> (8 * i) < 2 ^ 64 := Nat.lt_of_le_of_lt (Nat.shiftRight_le _ _) hu
    rw [show 8 - i = (8 - (i + 1)) + 1 by omega] at hE
    unfold chS at hE
    refine zv_lload_n dX6_charactersIn_8 rfl ?_
    refine zv_bipush (v := 8) dX6_charactersIn_9 (by decide) ?_
    refine zv_iload_n dX6_charactersIn_11 rfl ?_
    refine zv_imul dX6_charactersIn_12 ?_
    rw [show (8 : Int32) * nI i = nI (8 * i) from pk_mul 8 i]
    refine zv_lushr dX6_charactersIn_13 ?_
    rw [lN_shr hu hlt]
    refine zv_lstore_n dX6_charactersIn_14 (by decide) rfl ?_
    refine zv_lload_n dX6_charactersIn_15 rfl ?_
    refine zv_lconst (v := 0) dX6_charactersIn_16 rfl ?_
    refine zv_lcmp dX6_charactersIn_17 ?_
    refine zv_if_ne (tgt := 23) dX6_charactersIn_18 (by decide) (fun c18 => ?_) (fun c18 => ?_)
    · have h0 : ¬ u >>> (8 * i) = 0 := fun e => c18 ((lg_cmp_eq _ _).mpr ((lN_0 hm).mpr e))
      rw [if_neg h0] at hE
      refine zv_lload_n dX6_charactersIn_23 rfl ?_
      refine zv_ldc2 dX6_charactersIn_24 kc_X6_188 ?_
      refine zv_land dX6_charactersIn_27 ?_
      refine zv_l2i dX6_charactersIn_28 ?_
      rw [lN_and hm]
      refine zv_bipush (v := 33) dX6_charactersIn_29 (by decide) ?_
      refine zv_bipush (v := 126) dX6_charactersIn_31 (by decide) ?_
      refine zv_callS (m_X6_isWithin l D B _ 33 126) ml_X6_85 st_X6_isWithin rfl rfl (Nat.le_of_ble_eq_true rfl) dX6_charactersIn_33 ⟨Nat.le_of_ble_eq_true rfl, Nat.le_of_ble_eq_true rfl⟩ ⟨Nat.le_refl _, Nat.le_refl _⟩ (zk_i ?_)
      refine zv_if_ne (tgt := 41) dX6_charactersIn_36 (by decide) (fun c36 => ?_) (fun c36 => ?_)
      · have h1 : 33 ≤ chB u i ∧ chB u i ≤ 126 := by
          obtain ⟨b, g1, g2, g3⟩ := (zin3_iff2 (l := 33) (m := 126) (by decide) (by decide)).mp (bI_ne0.mp c36)
          have : chB u i = b := (nI_eq (by unfold chB; omega) (by omega)).mp g3
          omega
        rw [if_pos h1] at hE
        refine zv_iinc1 dX6_charactersIn_41 rfl (by decide) rfl ?_
        refine zv_goto (tgt := 2) dX6_charactersIn_44 (by decide) ?_
        rw [nI_1]
        exact ih hlt _ hE
      · have h1 : ¬ (33 ≤ chB u i ∧ chB u i ≤ 126) := fun h => absurd (bI_eq0.mp c36) (by
          have := (zin3_iff2 (x := nI (u >>> (8 * i) % 256)) (l := 33) (m := 126) (by decide) (by decide)).mpr ⟨_, h.1, h.2, rfl⟩
          rw [show zin3 (nI (u >>> (8 * i) % 256)) 33 126 = true from this]; simp)
        rw [if_neg h1] at hE
        refine zv_iconst (v := 0) dX6_charactersIn_39 (by decide) ?_
        refine zv_iretE dX6_charactersIn_40 rfl (rfl) (congrArg nI hE) ?_
        · rfl
    · have h0 : u >>> (8 * i) = 0 := (lN_0 hm).mp ((lg_cmp_eq _ _).mp (c18))
      rw [if_pos h0] at hE
      refine zv_iload_n dX6_charactersIn_21 rfl ?_
      refine zv_iretE dX6_charactersIn_22 rfl (rfl) (congrArg nI hE) ?_
      · rfl

set_option maxRecDepth 100000 in
set_option maxHeartbeats 4000000 in
theorem m_X6_charactersIn (l : Launch) (D : zD) (B : Nat) {L : zL} {nx : Nat} {G : zG} {u : Nat} (hu : u < 2 ^ 64) : zMet l D B yX6_charactersIn cX6_charactersIn 5 (some .int) 1 22 0 0 [.long (lN u)] L nx G (zE (some (.int (nI (chN u)))) L nx (G)) := by
  refine zMet_of (own := RX6) (mn := "charactersIn") [some (.long (lN u)), none, none, none, none] (by decide +kernel) rfl rfl rfl (Nat.le_of_ble_eq_true rfl) ?_
  show zV l (fun _ => True) D B RX6 "charactersIn" cX6_charactersIn 5 (some .int) (zrm 1 22 0 0) (zN (zE (some (.int (nI (chN u)))) L nx (G))) 0 0 L nx 0 [some (.long (lN u)), none, none, none, none] [] (G)
  refine zv_iconst (v := 0) dX6_charactersIn_0 (by decide) ?_
  refine zv_istore_n dX6_charactersIn_1 (by decide) rfl ?_
  exact lp_X6_charactersIn l D B hu 0 (by omega) _ rfl
