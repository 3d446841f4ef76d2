set_option maxRecDepth 100000 in
set_option maxHeartbeats 4000000 in
theorem p_X7_undo (l : Launch) (D : zD) (B : Nat) {L : zL} {nx : Nat} {G : zG} {m b c tn : Nat} {r : Nat → Int32} {h : Nat → (Nat → Int32)} {sl : Nat → Option (Nat → Int32)} {T : Nat → Nat} (hR : zRM L m G r h c sl T tn) : zMet l D B yX7_undo cX7_undo 2 (some .int) 0 0 0 0 [.ref m] L nx G (zI ((opUndo r h c).1) L nx (fun G1 => zRM L m G1 ((opUndo r h c).2.1) (h) ((opUndo r h c).2.2) (sl) T tn ∧ ∀ y, y ≠ m → G1 y = G y)) := by
  refine zMet_of (own := RX7) (mn := "undo") [some (.ref m), none] (by decide +kernel) rfl rfl rfl (Nat.le_of_ble_eq_true rfl) ?_
  show zV l (fun _ => True) D B RX7 "undo" cX7_undo 2 (some .int) (zrm 0 0 0 0) (zN (zI ((opUndo r h c).1) L nx (fun G1 => zRM L m G1 ((opUndo r h c).2.1) (h) ((opUndo r h c).2.2) (sl) T tn ∧ ∀ y, y ≠ m → G1 y = G y))) 0 0 L nx 0 [some (.ref m), none] [] (G)
  refine zv_aload_n dX7_undo_0 rfl ?_
  refine zv_getI hR.1 rfl fl_X7_56 rfl dX7_undo_1 ?_
  rw [hR.2.2.1]
  rcases Nat.eq_zero_or_pos c with hc0 | hc0
  · have hop : opUndo r h c = (-5, r, 0) := if_pos hc0
    rw [hop]
    refine zv_if_ne (tgt := 10) dX7_undo_4 (by decide) (fun h => absurd (by rw [hc0]; rfl) h) (fun _ => ?_)
    refine zv_bipush (v := (-5)) dX7_undo_7 (by decide) ?_
    exact zv_iretI dX7_undo_9 rfl rfl rfl ⟨by subst hc0; exact hR, fun y hy => rfl⟩
  · have hc6 := hR.2.2.2.1
    have hop : opUndo r h c = (nI (c - 1), h (c - 1), c - 1) := if_neg (by omega)
    rw [hop]
    refine zv_if_ne (tgt := 10) dX7_undo_4 (by decide) (fun _ => ?_) (fun h => absurd h (nI_ne0 hc0 (by omega)))
    refine zv_aload_n dX7_undo_10 rfl ?_
    refine zv_dup dX7_undo_11 rfl ?_
    refine zv_getI hR.1 rfl fl_X7_56 rfl dX7_undo_12 ?_
    refine zv_iconst (v := 1) dX7_undo_15 (by decide) ?_
    refine zv_isub dX7_undo_16 ?_
    rw [hR.2.2.1, show nI c - 1 = nI (c - 1) by rw [show (1 : Int32) = nI 1 from rfl]; exact pk_sub (by omega)]
    refine zv_putI (t := 8) hR.1 rfl fl_X7_56 ft_X7_6 rfl dX7_undo_17 ?_
    refine zv_iconst (v := 0) dX7_undo_20 (by decide) ?_
    refine zv_istore_n dX7_undo_21 (by decide) rfl ?_
    refine zv_post (q := zE (some (.int (nI (c - 1)))) L nx (zst G m (cpyM (upd (G m) 6 (nI (c - 1))) 18 (246 + 228 * (c - 1)) 228))) ?_ ?_
    · refine zv_eqG ?_ (lp_X7_undo l D B hR.1 (g := upd (G m) 6 (nI (c - 1))) (s := c - 1) (by omega) (if_pos rfl) 0 (by omega))
      rw [cpyM_0]
    · rintro v L1 n1 G1 ⟨e1, e2, e3, rfl⟩
      exact ⟨e1, e2, e3, zRM_undo hR hc0, fun y hy => zst_ne _ _ hy⟩

set_option maxRecDepth 100000 in
set_option maxHeartbeats 4000000 in
theorem p_X7_save (l : Launch) (D : zD) (B : Nat) {L : zL} {nx : Nat} {G : zG} {m b c tn : Nat} {r : Nat → Int32} {h : Nat → (Nat → Int32)} {sl : Nat → Option (Nat → Int32)} {T : Nat → Nat} (hR : zRM L m G r h c sl T tn) (vv : Int32) : zMet l D B yX7_save cX7_save 3 (some .int) 1 23 0 0 [.ref m, .int vv] L nx G (zI ((opSave r sl vv).1) L nx (fun G1 => zRM L m G1 (r) (h) (c) ((opSave r sl vv).2) T tn ∧ ∀ y, y ≠ m → G1 y = G y)) := by
  refine zMet_of (own := RX7) (mn := "save") [some (.ref m), some (.int vv), none] (by decide +kernel) rfl rfl rfl (Nat.le_of_ble_eq_true rfl) ?_
  show zV l (fun _ => True) D B RX7 "save" cX7_save 3 (some .int) (zrm 1 23 0 0) (zN (zI ((opSave r sl vv).1) L nx (fun G1 => zRM L m G1 (r) (h) (c) ((opSave r sl vv).2) T tn ∧ ∀ y, y ≠ m → G1 y = G y))) 0 0 L nx 0 [some (.ref m), some (.int vv), none] [] (G)
  refine zv_iload_n dX7_save_0 rfl ?_
  refine zv_i2l dX7_save_1 ?_
  refine zv_iconst (v := 0) dX7_save_2 (by decide) ?_
  refine zv_iconst (v := 1) dX7_save_3 (by decide) ?_
  rcases hz : slI vv with _ | j
  · have hop : opSave r sl vv = (-2, sl) := by unfold opSave; rw [hz]
    rw [hop]
    refine zv_callS (m_in3 l D B _ 0 1) ml_X7_44 st_X7_in rfl rfl (Nat.le_of_ble_eq_true rfl) dX7_save_4 ⟨Nat.le_of_ble_eq_true rfl, Nat.le_of_ble_eq_true rfl⟩ ⟨Nat.le_refl _, Nat.le_refl _⟩ (zk_i ?_)
    refine zv_if_ne (tgt := 13) dX7_save_7 (by decide) (fun h => absurd (by rw [slI_none hz]; rfl) h) (fun _ => ?_)
    refine zv_bipush (v := (-2)) dX7_save_10 (by decide) ?_
    exact zv_iretI dX7_save_12 rfl rfl rfl ⟨hR, fun y hy => rfl⟩
  · obtain ⟨hj, rfl⟩ := slI_some hz
    have hop : opSave r sl (nI j) = (r 3, setO sl j (some r)) := by unfold opSave; rw [hz]
    rw [hop]
    refine zv_callS (m_in3 l D B _ 0 1) ml_X7_44 st_X7_in rfl rfl (Nat.le_of_ble_eq_true rfl) dX7_save_4 ⟨Nat.le_of_ble_eq_true rfl, Nat.le_of_ble_eq_true rfl⟩ ⟨Nat.le_refl _, Nat.le_refl _⟩ (zk_i ?_)
    refine zv_if_ne (tgt := 13) dX7_save_7 (by decide) (fun _ => ?_) (fun h => absurd h (by rw [slI_in hj]; decide))
    refine zv_iconst (v := 0) dX7_save_13 (by decide) ?_
    refine zv_istore_n dX7_save_14 (by decide) rfl ?_
    refine zv_post (q := zE (some (.int (G m 21))) L nx (zst G m (upd (cpyM (G m) (2070 + 228 * j) 18 228) (2526 + j) 1))) ?_ ?_
    · refine zv_eqG ?_ (lp_X7_save l D B hR.1 hj 0 (by omega))
      rw [cpyM_0, zst_self]
    · rintro v L1 n1 G1 ⟨e1, e2, e3, rfl⟩
      exact ⟨by rw [e1, show G m 21 = r 3 from hR.2.1 3 (by decide)], e2, e3, zRM_save hR hj, fun y hy => zst_ne _ _ hy⟩
