set_option maxRecDepth 100000 in
set_option maxHeartbeats 4000000 in
theorem m_X7_chapter (l : Launch) (D : zD) (B : Nat) {L : zL} {nx : Nat} {G : zG} {m b c tn : Nat} {r : Nat → Int32} {h : Nat → (Nat → Int32)} {sl : Nat → Option (Nat → Int32)} {T : Nat → Nat} (hR : zRM L m G r h c sl T tn) (hS : SI b r) (vv : Int32) : zMet l D B yX7_chapter cX7_chapter 2 (some .int) 2 45 0 0 [.ref m, .int vv] L nx G (zI (opChapter r vv).1 L nx (fun G1 => zRM L m G1 (chg r h c (opChapter r vv)).1 (chg r h c (opChapter r vv)).2.1 (chg r h c (opChapter r vv)).2.2 sl T tn ∧ ∀ y, y ≠ m → G1 y = G y)) := by
  refine zMet_of (own := RX7) (mn := "chapter") [some (.ref m), some (.int vv)] (by decide +kernel) rfl rfl rfl (Nat.le_of_ble_eq_true rfl) ?_
  show zV l (fun _ => True) D B RX7 "chapter" cX7_chapter 2 (some .int) (zrm 2 45 0 0) (zN (zI (opChapter r vv).1 L nx (fun G1 => zRM L m G1 (chg r h c (opChapter r vv)).1 (chg r h c (opChapter r vv)).2.1 (chg r h c (opChapter r vv)).2.2 sl T tn ∧ ∀ y, y ≠ m → G1 y = G y))) 0 0 L nx 0 [some (.ref m), some (.int vv)] [] (G)
  refine zv_aload_n dX7_chapter_0 rfl ?_
  refine zv_callV (m_X7_remember l D B hR.1) ml_X7_60 in_X7_remember sel_X7_remember hR.1 rfl rfl rfl rfl (Nat.le_of_ble_eq_true rfl) dX7_chapter_1 ⟨Nat.le_of_ble_eq_true rfl, Nat.le_of_ble_eq_true rfl⟩ ⟨Nat.le_refl _, Nat.le_refl _⟩ (zk_v ?_)
  rw [remM_T hR.2.1]
  refine zv_aload_n dX7_chapter_4 rfl ?_
  refine zv_aload_n dX7_chapter_5 rfl ?_
  refine zv_iload_n dX7_chapter_6 rfl ?_
  refine zv_callV (m_X7_begins l D B hR.1 hS vv) ml_X7_129 in_X7_begins sel_X7_begins hR.1 rfl rfl rfl rfl (Nat.le_of_ble_eq_true rfl) dX7_chapter_7 ⟨Nat.le_of_ble_eq_true rfl, Nat.le_of_ble_eq_true rfl⟩ ⟨Nat.le_refl _, Nat.le_refl _⟩ (zk_i ?_)
  have hg := gF_rf (g := remM (G m))
  by_cases hn : (opChapter r vv).1 < 0
  · rw [opChapter_neg hS hn]
    refine zv_callV (m_X7_record_n l D B hR.1 hn) ml_X7_63 in_X7_record sel_X7_record hR.1 rfl rfl rfl rfl (Nat.le_of_ble_eq_true rfl) dX7_chapter_10 ⟨Nat.le_of_ble_eq_true rfl, Nat.le_of_ble_eq_true rfl⟩ ⟨Nat.le_refl _, Nat.le_refl _⟩ (zk_i ?_)
    rw [chg_neg hn]
    exact zv_iretI dX7_chapter_13 rfl rfl rfl ⟨rm_fr hR hg, fun y hy => mT_ne hy⟩
  · refine zv_callV (m_X7_record l D B hR.1 hn hR.2.2.2.1 (mT_6 hR hg)) ml_X7_63 in_X7_record sel_X7_record hR.1 rfl rfl rfl rfl (Nat.le_of_ble_eq_true rfl) dX7_chapter_10 ⟨Nat.le_of_ble_eq_true rfl, Nat.le_of_ble_eq_true rfl⟩ ⟨Nat.le_refl _, Nat.le_refl _⟩ (zk_i ?_)
    rw [chg_pos hn]
    exact zv_iretI dX7_chapter_13 rfl rfl rfl ⟨rm_rec hR hg, fun y hy => (zst_ne _ _ hy).trans (mT_ne hy)⟩

set_option maxRecDepth 100000 in
set_option maxHeartbeats 4000000 in
theorem m_X7_cup (l : Launch) (D : zD) (B : Nat) {L : zL} {nx : Nat} {G : zG} {m b c tn : Nat} {r : Nat → Int32} {h : Nat → (Nat → Int32)} {sl : Nat → Option (Nat → Int32)} {T : Nat → Nat} (hR : zRM L m G r h c sl T tn) (hS : SI b r) : zMet l D B yX7_cup cX7_cup 1 (some .int) 1 22 0 0 [.ref m] L nx G (zI (opCup r).1 L nx (fun G1 => zRM L m G1 (chg r h c (opCup r)).1 (chg r h c (opCup r)).2.1 (chg r h c (opCup r)).2.2 sl T tn ∧ ∀ y, y ≠ m → G1 y = G y)) := by
  refine zMet_of (own := RX7) (mn := "cup") [some (.ref m)] (by decide +kernel) rfl rfl rfl (Nat.le_of_ble_eq_true rfl) ?_
  show zV l (fun _ => True) D B RX7 "cup" cX7_cup 1 (some .int) (zrm 1 22 0 0) (zN (zI (opCup r).1 L nx (fun G1 => zRM L m G1 (chg r h c (opCup r)).1 (chg r h c (opCup r)).2.1 (chg r h c (opCup r)).2.2 sl T tn ∧ ∀ y, y ≠ m → G1 y = G y))) 0 0 L nx 0 [some (.ref m)] [] (G)
  refine zv_aload_n dX7_cup_0 rfl ?_
  refine zv_callV (m_X7_remember l D B hR.1) ml_X7_60 in_X7_remember sel_X7_remember hR.1 rfl rfl rfl rfl (Nat.le_of_ble_eq_true rfl) dX7_cup_1 ⟨Nat.le_of_ble_eq_true rfl, Nat.le_of_ble_eq_true rfl⟩ ⟨Nat.le_refl _, Nat.le_refl _⟩ (zk_v ?_)
  rw [remM_T hR.2.1]
  refine zv_aload_n dX7_cup_4 rfl ?_
  refine zv_aload_n dX7_cup_5 rfl ?_
  refine zv_callV (m_X7_cupComes l D B hR.1 hS ) ml_X7_132 in_X7_cupComes sel_X7_cupComes hR.1 rfl rfl rfl rfl (Nat.le_of_ble_eq_true rfl) dX7_cup_6 ⟨Nat.le_of_ble_eq_true rfl, Nat.le_of_ble_eq_true rfl⟩ ⟨Nat.le_refl _, Nat.le_refl _⟩ (zk_i ?_)
  have hg := gF_rf (g := remM (G m))
  by_cases hn : (opCup r).1 < 0
  · rw [opCup_neg hS hn]
    refine zv_callV (m_X7_record_n l D B hR.1 hn) ml_X7_63 in_X7_record sel_X7_record hR.1 rfl rfl rfl rfl (Nat.le_of_ble_eq_true rfl) dX7_cup_9 ⟨Nat.le_of_ble_eq_true rfl, Nat.le_of_ble_eq_true rfl⟩ ⟨Nat.le_refl _, Nat.le_refl _⟩ (zk_i ?_)
    rw [chg_neg hn]
    exact zv_iretI dX7_cup_12 rfl rfl rfl ⟨rm_fr hR hg, fun y hy => mT_ne hy⟩
  · refine zv_callV (m_X7_record l D B hR.1 hn hR.2.2.2.1 (mT_6 hR hg)) ml_X7_63 in_X7_record sel_X7_record hR.1 rfl rfl rfl rfl (Nat.le_of_ble_eq_true rfl) dX7_cup_9 ⟨Nat.le_of_ble_eq_true rfl, Nat.le_of_ble_eq_true rfl⟩ ⟨Nat.le_refl _, Nat.le_refl _⟩ (zk_i ?_)
    rw [chg_pos hn]
    exact zv_iretI dX7_cup_12 rfl rfl rfl ⟨rm_rec hR hg, fun y hy => (zst_ne _ _ hy).trans (mT_ne hy)⟩

set_option maxRecDepth 100000 in
set_option maxHeartbeats 4000000 in
theorem m_X7_pour (l : Launch) (D : zD) (B : Nat) {L : zL} {nx : Nat} {G : zG} {m b c tn : Nat} {r : Nat → Int32} {h : Nat → (Nat → Int32)} {sl : Nat → Option (Nat → Int32)} {T : Nat → Nat} (hR : zRM L m G r h c sl T tn) (hS : SI b r) (y sd mn : Int32) : zMet l D B yX7_pour cX7_pour 4 (some .int) 6 144 0 0 [.ref m, .int y, .int sd, .int mn] L nx G (zI (opPour r y sd mn).1 L nx (fun G1 => zRM L m G1 (chg r h c (opPour r y sd mn)).1 (chg r h c (opPour r y sd mn)).2.1 (chg r h c (opPour r y sd mn)).2.2 sl T tn ∧ ∀ y, y ≠ m → G1 y = G y)) := by
  refine zMet_of (own := RX7) (mn := "pour") [some (.ref m), some (.int y), some (.int sd), some (.int mn)] (by decide +kernel) rfl rfl rfl (Nat.le_of_ble_eq_true rfl) ?_
  show zV l (fun _ => True) D B RX7 "pour" cX7_pour 4 (some .int) (zrm 6 144 0 0) (zN (zI (opPour r y sd mn).1 L nx (fun G1 => zRM L m G1 (chg r h c (opPour r y sd mn)).1 (chg r h c (opPour r y sd mn)).2.1 (chg r h c (opPour r y sd mn)).2.2 sl T tn ∧ ∀ y, y ≠ m → G1 y = G y))) 0 0 L nx 0 [some (.ref m), some (.int y), some (.int sd), some (.int mn)] [] (G)
  refine zv_aload_n dX7_pour_0 rfl ?_
  refine zv_callV (m_X7_remember l D B hR.1) ml_X7_60 in_X7_remember sel_X7_remember hR.1 rfl rfl rfl rfl (Nat.le_of_ble_eq_true rfl) dX7_pour_1 ⟨Nat.le_of_ble_eq_true rfl, Nat.le_of_ble_eq_true rfl⟩ ⟨Nat.le_refl _, Nat.le_refl _⟩ (zk_v ?_)
  rw [remM_T hR.2.1]
  refine zv_aload_n dX7_pour_4 rfl ?_
  refine zv_aload_n dX7_pour_5 rfl ?_
  refine zv_iload_n dX7_pour_6 rfl ?_
  refine zv_iload_n dX7_pour_7 rfl ?_
  refine zv_iload_n dX7_pour_8 rfl ?_
  refine zv_callV (m_X7_pours l D B hR.1 hS y sd mn) ml_X7_135 in_X7_pours sel_X7_pours hR.1 rfl rfl rfl rfl (Nat.le_of_ble_eq_true rfl) dX7_pour_9 ⟨Nat.le_of_ble_eq_true rfl, Nat.le_of_ble_eq_true rfl⟩ ⟨Nat.le_refl _, Nat.le_refl _⟩ (zk_p fun G2 hG2 => ?_)
  obtain ⟨g2, hg, rfl⟩ := hG2
  by_cases hn : (opPour r y sd mn).1 < 0
  · rw [opPour_neg hS hn]
    refine zv_callV (m_X7_record_n l D B hR.1 hn) ml_X7_63 in_X7_record sel_X7_record hR.1 rfl rfl rfl rfl (Nat.le_of_ble_eq_true rfl) dX7_pour_12 ⟨Nat.le_of_ble_eq_true rfl, Nat.le_of_ble_eq_true rfl⟩ ⟨Nat.le_refl _, Nat.le_refl _⟩ (zk_i ?_)
    rw [chg_neg hn]
    exact zv_iretI dX7_pour_15 rfl rfl rfl ⟨rm_fr hR hg, fun y hy => mT_ne hy⟩
  · refine zv_callV (m_X7_record l D B hR.1 hn hR.2.2.2.1 (mT_6 hR hg)) ml_X7_63 in_X7_record sel_X7_record hR.1 rfl rfl rfl rfl (Nat.le_of_ble_eq_true rfl) dX7_pour_12 ⟨Nat.le_of_ble_eq_true rfl, Nat.le_of_ble_eq_true rfl⟩ ⟨Nat.le_refl _, Nat.le_refl _⟩ (zk_i ?_)
    rw [chg_pos hn]
    exact zv_iretI dX7_pour_15 rfl rfl rfl ⟨rm_rec hR hg, fun y hy => (zst_ne _ _ hy).trans (mT_ne hy)⟩

set_option maxRecDepth 100000 in
set_option maxHeartbeats 4000000 in
theorem m_X7_solve (l : Launch) (D : zD) (B : Nat) {L : zL} {nx : Nat} {G : zG} {m b c tn : Nat} {r : Nat → Int32} {h : Nat → (Nat → Int32)} {sl : Nat → Option (Nat → Int32)} {T : Nat → Nat} (hR : zRM L m G r h c sl T tn) (hS : SI b r) (y : Int32) : zMet l D B yX7_solve cX7_solve 2 (some .int) 4 95 0 0 [.ref m, .int y] L nx G (zI (opSolve r y).1 L nx (fun G1 => zRM L m G1 (chg r h c (opSolve r y)).1 (chg r h c (opSolve r y)).2.1 (chg r h c (opSolve r y)).2.2 sl T tn ∧ ∀ y, y ≠ m → G1 y = G y)) := by
  refine zMet_of (own := RX7) (mn := "solve") [some (.ref m), some (.int y)] (by decide +kernel) rfl rfl rfl (Nat.le_of_ble_eq_true rfl) ?_
  show zV l (fun _ => True) D B RX7 "solve" cX7_solve 2 (some .int) (zrm 4 95 0 0) (zN (zI (opSolve r y).1 L nx (fun G1 => zRM L m G1 (chg r h c (opSolve r y)).1 (chg r h c (opSolve r y)).2.1 (chg r h c (opSolve r y)).2.2 sl T tn ∧ ∀ y, y ≠ m → G1 y = G y))) 0 0 L nx 0 [some (.ref m), some (.int y)] [] (G)
  refine zv_aload_n dX7_solve_0 rfl ?_
  refine zv_callV (m_X7_remember l D B hR.1) ml_X7_60 in_X7_remember sel_X7_remember hR.1 rfl rfl rfl rfl (Nat.le_of_ble_eq_true rfl) dX7_solve_1 ⟨Nat.le_of_ble_eq_true rfl, Nat.le_of_ble_eq_true rfl⟩ ⟨Nat.le_refl _, Nat.le_refl _⟩ (zk_v ?_)
  rw [remM_T hR.2.1]
  refine zv_aload_n dX7_solve_4 rfl ?_
  refine zv_aload_n dX7_solve_5 rfl ?_
  refine zv_iload_n dX7_solve_6 rfl ?_
  refine zv_callV (m_X7_solves l D B hR.1 hS y) ml_X7_139 in_X7_solves sel_X7_solves hR.1 rfl rfl rfl rfl (Nat.le_of_ble_eq_true rfl) dX7_solve_7 ⟨Nat.le_of_ble_eq_true rfl, Nat.le_of_ble_eq_true rfl⟩ ⟨Nat.le_refl _, Nat.le_refl _⟩ (zk_p fun G2 hG2 => ?_)
  obtain ⟨g2, hg, rfl⟩ := hG2
  by_cases hn : (opSolve r y).1 < 0
  · rw [opSolve_neg hn]
    refine zv_callV (m_X7_record_n l D B hR.1 hn) ml_X7_63 in_X7_record sel_X7_record hR.1 rfl rfl rfl rfl (Nat.le_of_ble_eq_true rfl) dX7_solve_10 ⟨Nat.le_of_ble_eq_true rfl, Nat.le_of_ble_eq_true rfl⟩ ⟨Nat.le_refl _, Nat.le_refl _⟩ (zk_i ?_)
    rw [chg_neg hn]
    exact zv_iretI dX7_solve_13 rfl rfl rfl ⟨rm_fr hR hg, fun y hy => mT_ne hy⟩
  · refine zv_callV (m_X7_record l D B hR.1 hn hR.2.2.2.1 (mT_6 hR hg)) ml_X7_63 in_X7_record sel_X7_record hR.1 rfl rfl rfl rfl (Nat.le_of_ble_eq_true rfl) dX7_solve_10 ⟨Nat.le_of_ble_eq_true rfl, Nat.le_of_ble_eq_true rfl⟩ ⟨Nat.le_refl _, Nat.le_refl _⟩ (zk_i ?_)
    rw [chg_pos hn]
    exact zv_iretI dX7_solve_13 rfl rfl rfl ⟨rm_rec hR hg, fun y hy => (zst_ne _ _ hy).trans (mT_ne hy)⟩
