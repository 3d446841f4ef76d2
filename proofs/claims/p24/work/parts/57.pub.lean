set_option maxRecDepth 100000 in
set_option maxHeartbeats 4000000 in
theorem m_X6_set (l : Launch) (D : zD) (B : Nat) {L : zL} {nx : Nat} {G : zG} {x b c tn : Nat} {r : Nat → Int32} {h : Nat → (Nat → Int32)} {sl : Nat → Option (Nat → Int32)} {T : Nat → Nat} (hR : zRC L x nx G r h c sl T tn) (hS : SI b r) (s v : Int32) : zMet l D B yX6_set cX6_set 3 (some .int) 4 107 0 0 [.ref x, .int s, .int v] L nx G (zI (opSet r s v).1 L nx (fun G1 => zRC L x nx G1 (chg r h c (opSet r s v)).1 (chg r h c (opSet r s v)).2.1 (chg r h c (opSet r s v)).2.2 sl T tn ∧ ∀ y, x + 134 ≤ y → G1 y = G y)) := by
  refine zMet_of (own := RX6) (mn := "set") [some (.ref x), some (.int s), some (.int v)] (by decide +kernel) rfl rfl rfl (Nat.le_of_ble_eq_true rfl) ?_
  show zV l (fun _ => True) D B RX6 "set" cX6_set 3 (some .int) (zrm 4 107 0 0) (zN (zI (opSet r s v).1 L nx (fun G1 => zRC L x nx G1 (chg r h c (opSet r s v)).1 (chg r h c (opSet r s v)).2.1 (chg r h c (opSet r s v)).2.2 sl T tn ∧ ∀ y, x + 134 ≤ y → G1 y = G y))) 0 0 L nx 0 [some (.ref x), some (.int s), some (.int v)] [] (G)
  obtain ⟨hb, hC, ⟨f, hh⟩, hs, hp⟩ := id hR
  have hK : (f + c) % 7 < 7 := by omega
  obtain ⟨f1, f2, f3, f4, f5, f6⟩ := id hh
  obtain ⟨rK, hrK⟩ := f5 _ hK
  refine zv_aload_n dX6_set_0 rfl ?_
  refine zv_getS (r := 16) hR.1.1 rfl fl_X6_19 rfl dX6_set_1 ?_
  refine zv_aload_n dX6_set_4 rfl ?_
  refine zv_getS (r := 1) hR.1.1 rfl fl_X6_10 rfl dX6_set_5 ?_
  refine zv_callV (m_X2_note l D B (f := f) (c := c) hb.2.2.1 f2 f1 f3 f4 hb.2.1 (by unfold apart; omega) hrK hC.1) ml_X6_55 in_X2_note sel_X2_note hb.2.2.1.1 rfl rfl rfl rfl (Nat.le_of_ble_eq_true rfl) dX6_set_8 ⟨Nat.le_of_ble_eq_true rfl, Nat.le_of_ble_eq_true rfl⟩ ⟨Nat.le_refl _, Nat.le_refl _⟩ (zk_v ?_)
  have hC1 := CR_note (r0 := r) hC hK
  refine zv_aload_n dX6_set_11 rfl ?_
  refine zv_getS (r := 16) hR.1.1 rfl fl_X6_19 rfl dX6_set_12 ?_
  refine zv_aload_n dX6_set_15 rfl ?_
  refine zv_iload_n dX6_set_16 rfl ?_
  refine zv_iload_n dX6_set_17 rfl ?_
  refine zv_callV (m_X6_changeSetting l D B hb hC1 hS s v) ml_X6_59 in_X6_changeSetting sel_X6_changeSetting hR.1.1 rfl rfl rfl rfl (Nat.le_of_ble_eq_true rfl) dX6_set_18 ⟨Nat.le_of_ble_eq_true rfl, Nat.le_of_ble_eq_true rfl⟩ ⟨Nat.le_refl _, Nat.le_refl _⟩ (zk_p fun G2 hG2 => ?_)
  obtain ⟨hC2, hF2⟩ := hG2
  by_cases hn : (opSet r s v).1 < 0
  · rw [opSet_neg hS hn] at hC2
    refine zv_callV (m_X2_keepUnlessError_e l D B hb.2.2.1.1 hn) ml_X6_63 in_X2_keepUnlessError sel_X2_keepUnlessError hb.2.2.1.1 rfl rfl rfl rfl (Nat.le_of_ble_eq_true rfl) dX6_set_21 ⟨Nat.le_of_ble_eq_true rfl, Nat.le_of_ble_eq_true rfl⟩ ⟨Nat.le_refl _, Nat.le_refl _⟩ (zk_i ?_)
    rw [chg_neg hn]
    exact zv_iretI dX6_set_24 rfl rfl rfl (zRC_neg hb hh hs hp hC2 hF2)
  · obtain ⟨g1, g2⟩ := zHs_fr hh hF2
    refine zv_callV (m_X2_keepUnlessError l D B hb.2.2.1 g1 f1 g2 f4 hn) ml_X6_63 in_X2_keepUnlessError sel_X2_keepUnlessError hb.2.2.1.1 rfl rfl rfl rfl (Nat.le_of_ble_eq_true rfl) dX6_set_21 ⟨Nat.le_of_ble_eq_true rfl, Nat.le_of_ble_eq_true rfl⟩ ⟨Nat.le_refl _, Nat.le_refl _⟩ (zk_i ?_)
    rw [chg_pos hn]
    exact zv_iretI dX6_set_24 rfl rfl rfl (zRC_pos hb hh hs hp hC2 hF2)

set_option maxRecDepth 100000 in
set_option maxHeartbeats 4000000 in
theorem m_X6_chapter (l : Launch) (D : zD) (B : Nat) {L : zL} {nx : Nat} {G : zG} {x b c tn : Nat} {r : Nat → Int32} {h : Nat → (Nat → Int32)} {sl : Nat → Option (Nat → Int32)} {T : Nat → Nat} (hR : zRC L x nx G r h c sl T tn) (hS : SI b r) (v : Int32) : zMet l D B yX6_chapter cX6_chapter 2 (some .int) 4 107 0 0 [.ref x, .int v] L nx G (zI (opChapter r v).1 L nx (fun G1 => zRC L x nx G1 (chg r h c (opChapter r v)).1 (chg r h c (opChapter r v)).2.1 (chg r h c (opChapter r v)).2.2 sl T tn ∧ ∀ y, x + 134 ≤ y → G1 y = G y)) := by
  refine zMet_of (own := RX6) (mn := "chapter") [some (.ref x), some (.int v)] (by decide +kernel) rfl rfl rfl (Nat.le_of_ble_eq_true rfl) ?_
  show zV l (fun _ => True) D B RX6 "chapter" cX6_chapter 2 (some .int) (zrm 4 107 0 0) (zN (zI (opChapter r v).1 L nx (fun G1 => zRC L x nx G1 (chg r h c (opChapter r v)).1 (chg r h c (opChapter r v)).2.1 (chg r h c (opChapter r v)).2.2 sl T tn ∧ ∀ y, x + 134 ≤ y → G1 y = G y))) 0 0 L nx 0 [some (.ref x), some (.int v)] [] (G)
  obtain ⟨hb, hC, ⟨f, hh⟩, hs, hp⟩ := id hR
  have hK : (f + c) % 7 < 7 := by omega
  obtain ⟨f1, f2, f3, f4, f5, f6⟩ := id hh
  obtain ⟨rK, hrK⟩ := f5 _ hK
  refine zv_aload_n dX6_chapter_0 rfl ?_
  refine zv_getS (r := 16) hR.1.1 rfl fl_X6_19 rfl dX6_chapter_1 ?_
  refine zv_aload_n dX6_chapter_4 rfl ?_
  refine zv_getS (r := 1) hR.1.1 rfl fl_X6_10 rfl dX6_chapter_5 ?_
  refine zv_callV (m_X2_note l D B (f := f) (c := c) hb.2.2.1 f2 f1 f3 f4 hb.2.1 (by unfold apart; omega) hrK hC.1) ml_X6_55 in_X2_note sel_X2_note hb.2.2.1.1 rfl rfl rfl rfl (Nat.le_of_ble_eq_true rfl) dX6_chapter_8 ⟨Nat.le_of_ble_eq_true rfl, Nat.le_of_ble_eq_true rfl⟩ ⟨Nat.le_refl _, Nat.le_refl _⟩ (zk_v ?_)
  have hC1 := CR_note (r0 := r) hC hK
  refine zv_aload_n dX6_chapter_11 rfl ?_
  refine zv_getS (r := 16) hR.1.1 rfl fl_X6_19 rfl dX6_chapter_12 ?_
  refine zv_aload_n dX6_chapter_15 rfl ?_
  refine zv_iload_n dX6_chapter_16 rfl ?_
  refine zv_callV (m_X6_addChapter l D B hb hC1 hS v) ml_X6_67 in_X6_addChapter sel_X6_addChapter hR.1.1 rfl rfl rfl rfl (Nat.le_of_ble_eq_true rfl) dX6_chapter_17 ⟨Nat.le_of_ble_eq_true rfl, Nat.le_of_ble_eq_true rfl⟩ ⟨Nat.le_refl _, Nat.le_refl _⟩ (zk_p fun G2 hG2 => ?_)
  obtain ⟨hC2, hF2⟩ := hG2
  by_cases hn : (opChapter r v).1 < 0
  · rw [opChapter_neg hS hn] at hC2
    refine zv_callV (m_X2_keepUnlessError_e l D B hb.2.2.1.1 hn) ml_X6_63 in_X2_keepUnlessError sel_X2_keepUnlessError hb.2.2.1.1 rfl rfl rfl rfl (Nat.le_of_ble_eq_true rfl) dX6_chapter_20 ⟨Nat.le_of_ble_eq_true rfl, Nat.le_of_ble_eq_true rfl⟩ ⟨Nat.le_refl _, Nat.le_refl _⟩ (zk_i ?_)
    rw [chg_neg hn]
    exact zv_iretI dX6_chapter_23 rfl rfl rfl (zRC_neg hb hh hs hp hC2 hF2)
  · obtain ⟨g1, g2⟩ := zHs_fr hh hF2
    refine zv_callV (m_X2_keepUnlessError l D B hb.2.2.1 g1 f1 g2 f4 hn) ml_X6_63 in_X2_keepUnlessError sel_X2_keepUnlessError hb.2.2.1.1 rfl rfl rfl rfl (Nat.le_of_ble_eq_true rfl) dX6_chapter_20 ⟨Nat.le_of_ble_eq_true rfl, Nat.le_of_ble_eq_true rfl⟩ ⟨Nat.le_refl _, Nat.le_refl _⟩ (zk_i ?_)
    rw [chg_pos hn]
    exact zv_iretI dX6_chapter_23 rfl rfl rfl (zRC_pos hb hh hs hp hC2 hF2)

set_option maxRecDepth 100000 in
set_option maxHeartbeats 4000000 in
theorem m_X6_cup (l : Launch) (D : zD) (B : Nat) {L : zL} {nx : Nat} {G : zG} {x b c tn : Nat} {r : Nat → Int32} {h : Nat → (Nat → Int32)} {sl : Nat → Option (Nat → Int32)} {T : Nat → Nat} (hR : zRC L x nx G r h c sl T tn) (hS : SI b r) : zMet l D B yX6_cup cX6_cup 1 (some .int) 4 107 0 0 [.ref x] L nx G (zI (opCup r).1 L nx (fun G1 => zRC L x nx G1 (chg r h c (opCup r)).1 (chg r h c (opCup r)).2.1 (chg r h c (opCup r)).2.2 sl T tn ∧ ∀ y, x + 134 ≤ y → G1 y = G y)) := by
  refine zMet_of (own := RX6) (mn := "cup") [some (.ref x)] (by decide +kernel) rfl rfl rfl (Nat.le_of_ble_eq_true rfl) ?_
  show zV l (fun _ => True) D B RX6 "cup" cX6_cup 1 (some .int) (zrm 4 107 0 0) (zN (zI (opCup r).1 L nx (fun G1 => zRC L x nx G1 (chg r h c (opCup r)).1 (chg r h c (opCup r)).2.1 (chg r h c (opCup r)).2.2 sl T tn ∧ ∀ y, x + 134 ≤ y → G1 y = G y))) 0 0 L nx 0 [some (.ref x)] [] (G)
  obtain ⟨hb, hC, ⟨f, hh⟩, hs, hp⟩ := id hR
  have hK : (f + c) % 7 < 7 := by omega
  obtain ⟨f1, f2, f3, f4, f5, f6⟩ := id hh
  obtain ⟨rK, hrK⟩ := f5 _ hK
  refine zv_aload_n dX6_cup_0 rfl ?_
  refine zv_getS (r := 16) hR.1.1 rfl fl_X6_19 rfl dX6_cup_1 ?_
  refine zv_aload_n dX6_cup_4 rfl ?_
  refine zv_getS (r := 1) hR.1.1 rfl fl_X6_10 rfl dX6_cup_5 ?_
  refine zv_callV (m_X2_note l D B (f := f) (c := c) hb.2.2.1 f2 f1 f3 f4 hb.2.1 (by unfold apart; omega) hrK hC.1) ml_X6_55 in_X2_note sel_X2_note hb.2.2.1.1 rfl rfl rfl rfl (Nat.le_of_ble_eq_true rfl) dX6_cup_8 ⟨Nat.le_of_ble_eq_true rfl, Nat.le_of_ble_eq_true rfl⟩ ⟨Nat.le_refl _, Nat.le_refl _⟩ (zk_v ?_)
  have hC1 := CR_note (r0 := r) hC hK
  refine zv_aload_n dX6_cup_11 rfl ?_
  refine zv_getS (r := 16) hR.1.1 rfl fl_X6_19 rfl dX6_cup_12 ?_
  refine zv_aload_n dX6_cup_15 rfl ?_
  refine zv_callV (m_X6_addCup l D B hb hC1 hS ) ml_X6_70 in_X6_addCup sel_X6_addCup hR.1.1 rfl rfl rfl rfl (Nat.le_of_ble_eq_true rfl) dX6_cup_16 ⟨Nat.le_of_ble_eq_true rfl, Nat.le_of_ble_eq_true rfl⟩ ⟨Nat.le_refl _, Nat.le_refl _⟩ (zk_p fun G2 hG2 => ?_)
  obtain ⟨hC2, hF2⟩ := hG2
  by_cases hn : (opCup r).1 < 0
  · rw [opCup_neg hS hn] at hC2
    refine zv_callV (m_X2_keepUnlessError_e l D B hb.2.2.1.1 hn) ml_X6_63 in_X2_keepUnlessError sel_X2_keepUnlessError hb.2.2.1.1 rfl rfl rfl rfl (Nat.le_of_ble_eq_true rfl) dX6_cup_19 ⟨Nat.le_of_ble_eq_true rfl, Nat.le_of_ble_eq_true rfl⟩ ⟨Nat.le_refl _, Nat.le_refl _⟩ (zk_i ?_)
    rw [chg_neg hn]
    exact zv_iretI dX6_cup_22 rfl rfl rfl (zRC_neg hb hh hs hp hC2 hF2)
  · obtain ⟨g1, g2⟩ := zHs_fr hh hF2
    refine zv_callV (m_X2_keepUnlessError l D B hb.2.2.1 g1 f1 g2 f4 hn) ml_X6_63 in_X2_keepUnlessError sel_X2_keepUnlessError hb.2.2.1.1 rfl rfl rfl rfl (Nat.le_of_ble_eq_true rfl) dX6_cup_19 ⟨Nat.le_of_ble_eq_true rfl, Nat.le_of_ble_eq_true rfl⟩ ⟨Nat.le_refl _, Nat.le_refl _⟩ (zk_i ?_)
    rw [chg_pos hn]
    exact zv_iretI dX6_cup_22 rfl rfl rfl (zRC_pos hb hh hs hp hC2 hF2)

set_option maxRecDepth 100000 in
set_option maxHeartbeats 4000000 in
theorem m_X6_empty (l : Launch) (D : zD) (B : Nat) {L : zL} {nx : Nat} {G : zG} {x b c tn : Nat} {r : Nat → Int32} {h : Nat → (Nat → Int32)} {sl : Nat → Option (Nat → Int32)} {T : Nat → Nat} (hR : zRC L x nx G r h c sl T tn) (hS : SI b r) (y : Int32) : zMet l D B yX6_empty cX6_empty 2 (some .int) 4 107 0 0 [.ref x, .int y] L nx G (zI (opEmpty r y).1 L nx (fun G1 => zRC L x nx G1 (chg r h c (opEmpty r y)).1 (chg r h c (opEmpty r y)).2.1 (chg r h c (opEmpty r y)).2.2 sl T tn ∧ ∀ y, x + 134 ≤ y → G1 y = G y)) := by
  refine zMet_of (own := RX6) (mn := "empty") [some (.ref x), some (.int y)] (by decide +kernel) rfl rfl rfl (Nat.le_of_ble_eq_true rfl) ?_
  show zV l (fun _ => True) D B RX6 "empty" cX6_empty 2 (some .int) (zrm 4 107 0 0) (zN (zI (opEmpty r y).1 L nx (fun G1 => zRC L x nx G1 (chg r h c (opEmpty r y)).1 (chg r h c (opEmpty r y)).2.1 (chg r h c (opEmpty r y)).2.2 sl T tn ∧ ∀ y, x + 134 ≤ y → G1 y = G y))) 0 0 L nx 0 [some (.ref x), some (.int y)] [] (G)
  obtain ⟨hb, hC, ⟨f, hh⟩, hs, hp⟩ := id hR
  have hK : (f + c) % 7 < 7 := by omega
  obtain ⟨f1, f2, f3, f4, f5, f6⟩ := id hh
  obtain ⟨rK, hrK⟩ := f5 _ hK
  refine zv_aload_n dX6_empty_0 rfl ?_
  refine zv_getS (r := 16) hR.1.1 rfl fl_X6_19 rfl dX6_empty_1 ?_
  refine zv_aload_n dX6_empty_4 rfl ?_
  refine zv_getS (r := 1) hR.1.1 rfl fl_X6_10 rfl dX6_empty_5 ?_
  refine zv_callV (m_X2_note l D B (f := f) (c := c) hb.2.2.1 f2 f1 f3 f4 hb.2.1 (by unfold apart; omega) hrK hC.1) ml_X6_55 in_X2_note sel_X2_note hb.2.2.1.1 rfl rfl rfl rfl (Nat.le_of_ble_eq_true rfl) dX6_empty_8 ⟨Nat.le_of_ble_eq_true rfl, Nat.le_of_ble_eq_true rfl⟩ ⟨Nat.le_refl _, Nat.le_refl _⟩ (zk_v ?_)
  have hC1 := CR_note (r0 := r) hC hK
  refine zv_aload_n dX6_empty_11 rfl ?_
  refine zv_getS (r := 16) hR.1.1 rfl fl_X6_19 rfl dX6_empty_12 ?_
  refine zv_aload_n dX6_empty_15 rfl ?_
  refine zv_iload_n dX6_empty_16 rfl ?_
  refine zv_callV (m_X6_emptyCup l D B hb hC1 hS y) ml_X6_74 in_X6_emptyCup sel_X6_emptyCup hR.1.1 rfl rfl rfl rfl (Nat.le_of_ble_eq_true rfl) dX6_empty_17 ⟨Nat.le_of_ble_eq_true rfl, Nat.le_of_ble_eq_true rfl⟩ ⟨Nat.le_refl _, Nat.le_refl _⟩ (zk_p fun G2 hG2 => ?_)
  obtain ⟨hC2, hF2⟩ := hG2
  by_cases hn : (opEmpty r y).1 < 0
  · rw [opEmpty_neg hn] at hC2
    refine zv_callV (m_X2_keepUnlessError_e l D B hb.2.2.1.1 hn) ml_X6_63 in_X2_keepUnlessError sel_X2_keepUnlessError hb.2.2.1.1 rfl rfl rfl rfl (Nat.le_of_ble_eq_true rfl) dX6_empty_20 ⟨Nat.le_of_ble_eq_true rfl, Nat.le_of_ble_eq_true rfl⟩ ⟨Nat.le_refl _, Nat.le_refl _⟩ (zk_i ?_)
    rw [chg_neg hn]
    exact zv_iretI dX6_empty_23 rfl rfl rfl (zRC_neg hb hh hs hp hC2 hF2)
  · obtain ⟨g1, g2⟩ := zHs_fr hh hF2
    refine zv_callV (m_X2_keepUnlessError l D B hb.2.2.1 g1 f1 g2 f4 hn) ml_X6_63 in_X2_keepUnlessError sel_X2_keepUnlessError hb.2.2.1.1 rfl rfl rfl rfl (Nat.le_of_ble_eq_true rfl) dX6_empty_20 ⟨Nat.le_of_ble_eq_true rfl, Nat.le_of_ble_eq_true rfl⟩ ⟨Nat.le_refl _, Nat.le_refl _⟩ (zk_i ?_)
    rw [chg_pos hn]
    exact zv_iretI dX6_empty_23 rfl rfl rfl (zRC_pos hb hh hs hp hC2 hF2)

set_option maxRecDepth 100000 in
set_option maxHeartbeats 4000000 in
theorem m_X6_pour (l : Launch) (D : zD) (B : Nat) {L : zL} {nx : Nat} {G : zG} {x b c tn : Nat} {r : Nat → Int32} {h : Nat → (Nat → Int32)} {sl : Nat → Option (Nat → Int32)} {T : Nat → Nat} (hR : zRC L x nx G r h c sl T tn) (hS : SI b r) (y sd mn : Int32) : zMet l D B yX6_pour cX6_pour 4 (some .int) 5 117 0 0 [.ref x, .int y, .int sd, .int mn] L nx G (zI (opPour r y sd mn).1 L nx (fun G1 => zRC L x nx G1 (chg r h c (opPour r y sd mn)).1 (chg r h c (opPour r y sd mn)).2.1 (chg r h c (opPour r y sd mn)).2.2 sl T tn ∧ ∀ y, x + 134 ≤ y → G1 y = G y)) := by
  refine zMet_of (own := RX6) (mn := "pour") [some (.ref x), some (.int y), some (.int sd), some (.int mn)] (by decide +kernel) rfl rfl rfl (Nat.le_of_ble_eq_true rfl) ?_
  show zV l (fun _ => True) D B RX6 "pour" cX6_pour 4 (some .int) (zrm 5 117 0 0) (zN (zI (opPour r y sd mn).1 L nx (fun G1 => zRC L x nx G1 (chg r h c (opPour r y sd mn)).1 (chg r h c (opPour r y sd mn)).2.1 (chg r h c (opPour r y sd mn)).2.2 sl T tn ∧ ∀ y, x + 134 ≤ y → G1 y = G y))) 0 0 L nx 0 [some (.ref x), some (.int y), some (.int sd), some (.int mn)] [] (G)
  obtain ⟨hb, hC, ⟨f, hh⟩, hs, hp⟩ := id hR
  have hK : (f + c) % 7 < 7 := by omega
  obtain ⟨f1, f2, f3, f4, f5, f6⟩ := id hh
  obtain ⟨rK, hrK⟩ := f5 _ hK
  refine zv_aload_n dX6_pour_0 rfl ?_
  refine zv_getS (r := 16) hR.1.1 rfl fl_X6_19 rfl dX6_pour_1 ?_
  refine zv_aload_n dX6_pour_4 rfl ?_
  refine zv_getS (r := 1) hR.1.1 rfl fl_X6_10 rfl dX6_pour_5 ?_
  refine zv_callV (m_X2_note l D B (f := f) (c := c) hb.2.2.1 f2 f1 f3 f4 hb.2.1 (by unfold apart; omega) hrK hC.1) ml_X6_55 in_X2_note sel_X2_note hb.2.2.1.1 rfl rfl rfl rfl (Nat.le_of_ble_eq_true rfl) dX6_pour_8 ⟨Nat.le_of_ble_eq_true rfl, Nat.le_of_ble_eq_true rfl⟩ ⟨Nat.le_refl _, Nat.le_refl _⟩ (zk_v ?_)
  have hC1 := CR_note (r0 := r) hC hK
  refine zv_aload_n dX6_pour_11 rfl ?_
  refine zv_getS (r := 16) hR.1.1 rfl fl_X6_19 rfl dX6_pour_12 ?_
  refine zv_aload_n dX6_pour_15 rfl ?_
  refine zv_iload_n dX6_pour_16 rfl ?_
  refine zv_iload_n dX6_pour_17 rfl ?_
  refine zv_iload_n dX6_pour_18 rfl ?_
  refine zv_callV (m_X6_pourDroplets l D B hb hC1 hS y sd mn) ml_X6_77 in_X6_pourDroplets sel_X6_pourDroplets hR.1.1 rfl rfl rfl rfl (Nat.le_of_ble_eq_true rfl) dX6_pour_19 ⟨Nat.le_of_ble_eq_true rfl, Nat.le_of_ble_eq_true rfl⟩ ⟨Nat.le_refl _, Nat.le_refl _⟩ (zk_p fun G2 hG2 => ?_)
  obtain ⟨hC2, hF2⟩ := hG2
  by_cases hn : (opPour r y sd mn).1 < 0
  · rw [opPour_neg hS hn] at hC2
    refine zv_callV (m_X2_keepUnlessError_e l D B hb.2.2.1.1 hn) ml_X6_63 in_X2_keepUnlessError sel_X2_keepUnlessError hb.2.2.1.1 rfl rfl rfl rfl (Nat.le_of_ble_eq_true rfl) dX6_pour_22 ⟨Nat.le_of_ble_eq_true rfl, Nat.le_of_ble_eq_true rfl⟩ ⟨Nat.le_refl _, Nat.le_refl _⟩ (zk_i ?_)
    rw [chg_neg hn]
    exact zv_iretI dX6_pour_25 rfl rfl rfl (zRC_neg hb hh hs hp hC2 hF2)
  · obtain ⟨g1, g2⟩ := zHs_fr hh hF2
    refine zv_callV (m_X2_keepUnlessError l D B hb.2.2.1 g1 f1 g2 f4 hn) ml_X6_63 in_X2_keepUnlessError sel_X2_keepUnlessError hb.2.2.1.1 rfl rfl rfl rfl (Nat.le_of_ble_eq_true rfl) dX6_pour_22 ⟨Nat.le_of_ble_eq_true rfl, Nat.le_of_ble_eq_true rfl⟩ ⟨Nat.le_refl _, Nat.le_refl _⟩ (zk_i ?_)
    rw [chg_pos hn]
    exact zv_iretI dX6_pour_25 rfl rfl rfl (zRC_pos hb hh hs hp hC2 hF2)

set_option maxRecDepth 100000 in
set_option maxHeartbeats 4000000 in
theorem m_X6_solve (l : Launch) (D : zD) (B : Nat) {L : zL} {nx : Nat} {G : zG} {x b c tn : Nat} {r : Nat → Int32} {h : Nat → (Nat → Int32)} {sl : Nat → Option (Nat → Int32)} {T : Nat → Nat} (hR : zRC L x nx G r h c sl T tn) (hS : SI b r) (y : Int32) : zMet l D B yX6_solve cX6_solve 2 (some .int) 5 110 0 0 [.ref x, .int y] L nx G (zI (opSolve r y).1 L nx (fun G1 => zRC L x nx G1 (chg r h c (opSolve r y)).1 (chg r h c (opSolve r y)).2.1 (chg r h c (opSolve r y)).2.2 sl T tn ∧ ∀ y, x + 134 ≤ y → G1 y = G y)) := by
  refine zMet_of (own := RX6) (mn := "solve") [some (.ref x), some (.int y)] (by decide +kernel) rfl rfl rfl (Nat.le_of_ble_eq_true rfl) ?_
  show zV l (fun _ => True) D B RX6 "solve" cX6_solve 2 (some .int) (zrm 5 110 0 0) (zN (zI (opSolve r y).1 L nx (fun G1 => zRC L x nx G1 (chg r h c (opSolve r y)).1 (chg r h c (opSolve r y)).2.1 (chg r h c (opSolve r y)).2.2 sl T tn ∧ ∀ y, x + 134 ≤ y → G1 y = G y))) 0 0 L nx 0 [some (.ref x), some (.int y)] [] (G)
  obtain ⟨hb, hC, ⟨f, hh⟩, hs, hp⟩ := id hR
  have hK : (f + c) % 7 < 7 := by omega
  obtain ⟨f1, f2, f3, f4, f5, f6⟩ := id hh
  obtain ⟨rK, hrK⟩ := f5 _ hK
  refine zv_aload_n dX6_solve_0 rfl ?_
  refine zv_getS (r := 16) hR.1.1 rfl fl_X6_19 rfl dX6_solve_1 ?_
  refine zv_aload_n dX6_solve_4 rfl ?_
  refine zv_getS (r := 1) hR.1.1 rfl fl_X6_10 rfl dX6_solve_5 ?_
  refine zv_callV (m_X2_note l D B (f := f) (c := c) hb.2.2.1 f2 f1 f3 f4 hb.2.1 (by unfold apart; omega) hrK hC.1) ml_X6_55 in_X2_note sel_X2_note hb.2.2.1.1 rfl rfl rfl rfl (Nat.le_of_ble_eq_true rfl) dX6_solve_8 ⟨Nat.le_of_ble_eq_true rfl, Nat.le_of_ble_eq_true rfl⟩ ⟨Nat.le_refl _, Nat.le_refl _⟩ (zk_v ?_)
  have hC1 := CR_note (r0 := r) hC hK
  refine zv_aload_n dX6_solve_11 rfl ?_
  refine zv_getS (r := 16) hR.1.1 rfl fl_X6_19 rfl dX6_solve_12 ?_
  refine zv_aload_n dX6_solve_15 rfl ?_
  refine zv_iload_n dX6_solve_16 rfl ?_
  refine zv_callV (m_X6_solveCup l D B hb hC1 hS y) ml_X6_81 in_X6_solveCup sel_X6_solveCup hR.1.1 rfl rfl rfl rfl (Nat.le_of_ble_eq_true rfl) dX6_solve_17 ⟨Nat.le_of_ble_eq_true rfl, Nat.le_of_ble_eq_true rfl⟩ ⟨Nat.le_refl _, Nat.le_refl _⟩ (zk_p fun G2 hG2 => ?_)
  obtain ⟨hC2, hF2⟩ := hG2
  by_cases hn : (opSolve r y).1 < 0
  · rw [opSolve_neg hn] at hC2
    refine zv_callV (m_X2_keepUnlessError_e l D B hb.2.2.1.1 hn) ml_X6_63 in_X2_keepUnlessError sel_X2_keepUnlessError hb.2.2.1.1 rfl rfl rfl rfl (Nat.le_of_ble_eq_true rfl) dX6_solve_20 ⟨Nat.le_of_ble_eq_true rfl, Nat.le_of_ble_eq_true rfl⟩ ⟨Nat.le_refl _, Nat.le_refl _⟩ (zk_i ?_)
    rw [chg_neg hn]
    exact zv_iretI dX6_solve_23 rfl rfl rfl (zRC_neg hb hh hs hp hC2 hF2)
  · obtain ⟨g1, g2⟩ := zHs_fr hh hF2
    refine zv_callV (m_X2_keepUnlessError l D B hb.2.2.1 g1 f1 g2 f4 hn) ml_X6_63 in_X2_keepUnlessError sel_X2_keepUnlessError hb.2.2.1.1 rfl rfl rfl rfl (Nat.le_of_ble_eq_true rfl) dX6_solve_20 ⟨Nat.le_of_ble_eq_true rfl, Nat.le_of_ble_eq_true rfl⟩ ⟨Nat.le_refl _, Nat.le_refl _⟩ (zk_i ?_)
    rw [chg_pos hn]
    exact zv_iretI dX6_solve_23 rfl rfl rfl (zRC_pos hb hh hs hp hC2 hF2)
