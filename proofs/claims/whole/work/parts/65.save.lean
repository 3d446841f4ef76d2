set_option maxRecDepth 100000 in
set_option maxHeartbeats 4000000 in
theorem m_X6_save (l : Launch) (D : zD) (B : Nat) {L : zL} {nx : Nat} {G : zG} {x c tn : Nat} {r : Nat → Int32} {h : Nat → (Nat → Int32)} {sl : Nat → Option (Nat → Int32)} {T : Nat → Nat} (hR : zRC L x nx G r h c sl T tn) (hB : B ≤ nx) (hx : x + 146 ≤ nx) (hn : nx < x + 2 ^ 31) (vv : Int32) : zMet l D B yX6_save cX6_save 3 (some .int) 3 85 15 242 [.ref x, .int vv] L (nx) G (zSv L nx x G (opSave r sl vv).1 r h c (opSave r sl vv).2 T tn) := by
  refine zMet_of (own := RX6) (mn := "save") [some (.ref x), some (.int vv), none] (by decide +kernel) rfl rfl rfl (Nat.le_of_ble_eq_true rfl) ?_
  show zV l (fun _ => True) D B RX6 "save" cX6_save 3 (some .int) (zrm 3 85 15 242) (fun v L' nx' G' k n => (zSv L nx x G (opSave r sl vv).1 r h c (opSave r sl vv).2 T tn) v L' nx' G' ∧ k ≤ 15 ∧ n ≤ 242) 0 0 L (nx) 0 [some (.ref x), some (.int vv), none] [] G
  obtain ⟨hb, hC, ⟨f, hh⟩, ⟨ad, hs⟩, hp⟩ := id hR
  refine zv_iload_n dX6_save_0 rfl ?_
  refine zv_iconst (v := 0) dX6_save_1 (by decide) ?_
  refine zv_iconst (v := 1) dX6_save_2 (by decide) ?_
  rcases hz : slI vv with _ | j
  · have hop : opSave r sl vv = (-2, sl) := by unfold opSave; rw [hz]
    rw [hop]
    refine zv_callS (m_X6_isWithin l D B _ 0 1) ml_X6_85 st_X6_isWithin rfl rfl (Nat.le_of_ble_eq_true rfl) dX6_save_3 ⟨Nat.le_of_ble_eq_true rfl, Nat.le_of_ble_eq_true rfl⟩ (by exact ⟨Nat.le_of_ble_eq_true rfl, Nat.le_of_ble_eq_true rfl⟩) (zk_i ?_)
    refine zv_if_ne (tgt := 12) dX6_save_6 (by decide) (fun h => absurd (by rw [slI_none hz]; rfl) h) (fun _ => ?_)
    refine zv_bipush (v := (-2)) dX6_save_9 (by decide) ?_
    exact zv_iret dX6_save_11 rfl rfl ⟨⟨congrArg (fun y => some (Value.int y)) (rfl), fun b hb => hb, Nat.le_refl _, by omega, hR, rfl⟩, (Nat.le_of_ble_eq_true rfl), (Nat.le_of_ble_eq_true rfl)⟩
  · obtain ⟨hj, rfl⟩ := slI_some hz
    have hop : opSave r sl (nI j) = (r 3, setO sl j (some r)) := by unfold opSave; rw [hz]
    rw [hop]
    refine zv_callS (m_X6_isWithin l D B _ 0 1) ml_X6_85 st_X6_isWithin rfl rfl (Nat.le_of_ble_eq_true rfl) dX6_save_3 ⟨Nat.le_of_ble_eq_true rfl, Nat.le_of_ble_eq_true rfl⟩ (by exact ⟨Nat.le_of_ble_eq_true rfl, Nat.le_of_ble_eq_true rfl⟩) (zk_i ?_)
    refine zv_if_ne (tgt := 12) dX6_save_6 (by decide) (fun _ => ?_) (fun h => absurd h (by rw [slI_in hj]; decide))
    refine zv_aload_n dX6_save_12 rfl ?_
    refine zv_getS (r := 123) hR.1.1 rfl fl_X6_23 rfl dX6_save_13 ?_
    refine zv_iload_n dX6_save_16 rfl ?_
    rcases hs.1 j hj with ⟨hn0, h0⟩ | ⟨r2, hr2, d1, d2, d3, d4, d5, d6⟩
    · refine zv_aaldN (q := x + 123) (r := 0) (ta := 3) (i := 0) (by decide) (by decide) hb.2.2.2.1 rfl (zix_nI (by omega) (by decide)) (by rw [Nat.zero_add]; exact h0) dX6_save_17 ?_
      refine zv_astore_nN dX6_save_18 (by decide) rfl ?_
      refine zv_aload_nN dX6_save_19 rfl ?_
      refine zv_ifnonnull_n dX6_save_20 ?_
      refine zv_fresh fun hfr => ?_
      refine zv_new (t := 15) (by omega) kl_X6_7 inst_X5 ini_X5 rfl iwX5 tyX5_ok rfl hfs_X5 (Nat.le_of_ble_eq_true rfl) (Nat.le_of_ble_eq_true rfl) dX6_save_23 ?_
      refine zv_dup dX6_save_26 rfl ?_
      refine zv_callI (m_X5_init l D B hB hfr (by rw [zst_same])) ml_X6_9 in_X5_init rfl rfl rfl (Nat.le_of_ble_eq_true rfl) dX6_save_27 ⟨Nat.le_of_ble_eq_true rfl, Nat.le_of_ble_eq_true rfl⟩ (by exact ⟨Nat.le_of_ble_eq_true rfl, Nat.le_of_ble_eq_true rfl⟩) (zk_c ?_)
      have hsub : ∀ b ∈ L, b ∈ L ++ [(nx, 2), (nx + 3, 3), (nx + 7, 3), (nx + 11, 3)] := fun b hb => List.mem_append_left _ hb
      have hz2 : zSt (L ++ [(nx, 2), (nx + 3, 3), (nx + 7, 3), (nx + 11, 3)]) nx := ⟨by simp, fun i hi => by
        match i, hi with
        | 0, _ => simp
        | 1, _ => simp
        | 2, _ => simp⟩
      have hG1 : ∀ y, y < nx → stPut (zst G nx fun _ => 0) nx initR y = G y := fun y hy => by rw [stPut_ne _ _ (by omega), zst_ne _ _ (by omega)]
      refine zv_astore_n dX6_save_30 (by decide) rfl ?_
      refine zv_aload_n dX6_save_31 rfl ?_
      refine zv_getS (r := 123) (hsub _ hb.1) rfl fl_X6_23 rfl dX6_save_32 ?_
      refine zv_iload_n dX6_save_35 rfl ?_
      refine zv_aload_n dX6_save_36 rfl ?_
      refine zv_aast (q := x + 123) (r := 0) (i := 0) (j0 := j) (t := 30102) (tx := 2) (by decide) (by decide) (hsub _ hb.2.2.2.1) rfl (zix_nI (by omega) (by decide)) hz2.1 rfl rfl rfl (by omega) (by omega) dX6_save_37 ?_
      rw [show 0 + j = j from Nat.zero_add j]
      refine zv_aload_n dX6_save_38 rfl ?_
      refine zv_aload_n dX6_save_39 rfl ?_
      refine zv_getS (r := 1) (hsub _ hb.1) rfl fl_X6_10 rfl dX6_save_40 ?_
      have hF : ∀ y, y < nx → y ≠ x + 123 → zst (stPut (zst G nx fun _ => 0) nx initR) (x + 123) (upd (stPut (zst G nx fun _ => 0) nx initR (x + 123)) j (nI (nx - (x + 123)))) y = G y := fun y h1 h2 => by rw [zst_ne _ _ h2, hG1 _ h1]
      refine zv_callV (m_X5_copyFrom l D B (s := nx) (p := x + 1) (r := initR) (r2 := r) hz2 (zSt_mono hsub hb.2.1) (by unfold apart; omega) (stOK_of (stPut_OK _ _ _) (fun y g1 g2 => zst_ne _ _ (by omega))) (stOK_of hC.1 (fun y g1 g2 => hF _ (by omega) (by omega)))) ml_X6_215 in_X5_copyFrom sel_X5_copyFrom hz2.1 rfl rfl rfl rfl (Nat.le_of_ble_eq_true rfl) dX6_save_43 ⟨Nat.le_of_ble_eq_true rfl, Nat.le_of_ble_eq_true rfl⟩ (by exact ⟨Nat.le_of_ble_eq_true rfl, Nat.le_of_ble_eq_true rfl⟩) (zk_v ?_)
      refine zv_aload_n dX6_save_46 rfl ?_
      refine zv_getS (r := 1) (hsub _ hb.1) rfl fl_X6_10 rfl dX6_save_47 ?_
      refine zv_getI (hsub _ hb.2.1.1) rfl fl_X6_152 rfl dX6_save_50 ?_
      have hF2 : ∀ y, y < nx → y ≠ x + 123 → stPut (zst (stPut (zst G nx fun _ => 0) nx initR) (x + 123) (upd (stPut (zst G nx fun _ => 0) nx initR (x + 123)) j (nI (nx - (x + 123))))) nx r y = G y := fun y h1 h2 => by rw [stPut_ne _ _ (by omega), hF _ h1 h2]
      have hout := zRC_out (sl' := setO sl j (some r)) (zRC_mono hR hsub (show nx ≤ nx + 15 by omega)) (fun y hy => hF2 y (by omega) (by omega)) ⟨_, zSl_new hs hj hn0 hx hn hsub hz2 (by rw [stPut_ne _ _ (by omega), zst_same, hG1 _ (by omega)]) (stPut_OK _ _ _) (fun y h1 h2 => hF2 y h2 (by omega))⟩
      exact zv_iret dX6_save_53 rfl rfl ⟨⟨congrArg (fun y => some (Value.int y)) (by rw [hF2 _ (by omega) (by omega), hC.1.1]; rfl), hsub, by omega, Nat.le_refl _, hout.1, hout.2⟩, (Nat.le_of_ble_eq_true rfl), (Nat.le_of_ble_eq_true rfl)⟩
    · refine zv_aaldD (q := x + 123) (r := 0) (ta := 3) (i := 0) (x := ad j) (by decide) (by decide) hb.2.2.2.1 rfl (zix_nI (by omega) (by decide)) (by rw [Nat.zero_add, d4]; exact zdr_nI (by omega) d3) dX6_save_17 ?_
      refine zv_astore_n dX6_save_18 (by decide) rfl ?_
      refine zv_aload_n dX6_save_19 rfl ?_
      refine zv_ifnonnull_r (tgt := 38) dX6_save_20 (by decide) ?_
      refine zv_aload_n dX6_save_38 rfl ?_
      refine zv_aload_n dX6_save_39 rfl ?_
      refine zv_getS (r := 1) hR.1.1 rfl fl_X6_10 rfl dX6_save_40 ?_
      refine zv_callV (m_X5_copyFrom l D B d5 hb.2.1 (by unfold apart; omega) d6 hC.1) ml_X6_215 in_X5_copyFrom sel_X5_copyFrom d5.1 rfl rfl rfl rfl (Nat.le_of_ble_eq_true rfl) dX6_save_43 ⟨Nat.le_of_ble_eq_true rfl, Nat.le_of_ble_eq_true rfl⟩ (by exact ⟨Nat.le_of_ble_eq_true rfl, Nat.le_of_ble_eq_true rfl⟩) (zk_v ?_)
      refine zv_aload_n dX6_save_46 rfl ?_
      refine zv_getS (r := 1) hR.1.1 rfl fl_X6_10 rfl dX6_save_47 ?_
      refine zv_getI hb.2.1.1 rfl fl_X6_152 rfl dX6_save_50 ?_
      have hout := zRC_out (G' := stPut G (ad j) r) (sl' := setO sl j (some r)) hR (fun y hy => stPut_ne _ _ (by omega)) ⟨_, zSl_put hs hj hr2⟩
      exact zv_iret dX6_save_53 rfl rfl ⟨⟨congrArg (fun y => some (Value.int y)) (by rw [stPut_ne _ _ (by omega), hC.1.1]; rfl), fun b hb => hb, Nat.le_refl _, by omega, hout.1, hout.2⟩, (Nat.le_of_ble_eq_true rfl), (Nat.le_of_ble_eq_true rfl)⟩
