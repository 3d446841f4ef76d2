set_option maxRecDepth 100000 in
set_option maxHeartbeats 4000000 in
theorem m_X7_known (l : Launch) (D : zD) (B : Nat) {L : zL} {nx : Nat} {G : zG} {m b c tn : Nat} {r : Nat → Int32} {h : Nat → (Nat → Int32)} {sl : Nat → Option (Nat → Int32)} {T : Nat → Nat} (hR : zRM L m G r h c sl T tn) (hS : SI b r) (y cc : Int32) : zMet l D B yX7_known cX7_known 3 (some .int) 2 44 0 0 [.ref m, .int y, .int cc] L nx G (zE (some (.int (qKnown r y cc))) L nx (G)) := by
  refine zMet_of (own := RX7) (mn := "known") [some (.ref m), some (.int y), some (.int cc)] (by decide +kernel) rfl rfl rfl (Nat.le_of_ble_eq_true rfl) ?_
  show zV l (fun _ => True) D B RX7 "known" cX7_known 3 (some .int) (zrm 2 44 0 0) (zN (zE (some (.int (qKnown r y cc))) L nx (G))) 0 0 L nx 0 [some (.ref m), some (.int y), some (.int cc)] [] (G)
  obtain ⟨w, ls, n, cn, i0, iw, i1, il, i2, i3, i4, i5, i6, i7, i8⟩ := id hS
  have hm := hR.1
  have hr := hR.2.1
  refine zv_aload_n dX7_known_0 rfl ?_
  refine zv_iload_n dX7_known_1 rfl ?_
  refine zv_callV (m_X7_isCup l D B hm i4 i5 (hr 3 (by decide)) y) ml_X7_118 in_X7_isCup sel_X7_isCup hR.1 rfl rfl rfl rfl (Nat.le_of_ble_eq_true rfl) dX7_known_2 ⟨Nat.le_of_ble_eq_true rfl, Nat.le_of_ble_eq_true rfl⟩ ⟨Nat.le_refl _, Nat.le_refl _⟩ (zk_i ?_)
  rcases hz : cpI r y with _ | i
  · have hq : qKnown r y cc = -1 := by unfold qKnown; rw [hz]
    refine zv_if_eq (tgt := 25) dX7_known_5 (by decide) (fun _ => ?_) (fun h => absurd (rfl) h)
    refine zv_iconst (v := (-1)) dX7_known_25 (by decide) ?_
    refine zv_iretE dX7_known_26 rfl (rfl) ?_ ?_
    · exact hq.symm
    · rfl
  · obtain ⟨hi, rfl⟩ := cpI_some i4 i5 hz
    have hi3 : i < 3 := by omega
    refine zv_if_eq (tgt := 25) dX7_known_5 (by decide) (fun h => absurd h (show ¬ bI true = 0 from by decide)) (fun _ => ?_)
    refine zv_iload_n dX7_known_8 rfl ?_
    refine zv_i2l dX7_known_9 ?_
    refine zv_iconst (v := 0) dX7_known_10 (by decide) ?_
    refine zv_aload_n dX7_known_11 rfl ?_
    refine zv_getS (r := 1) hR.1 rfl fl_X7_7 rfl dX7_known_12 ?_
    refine zv_iconst (v := 2) dX7_known_15 (by decide) ?_
    refine zv_iald (i := 1) hR.1 rfl (zix_nI (i := 2) (by omega) (by decide)) dX7_known_16 ?_
    rw [show G m (18 + 2) = nI n from (hr 2 (by decide)).trans i2]
    refine zv_iconst (v := 1) dX7_known_17 (by decide) ?_
    refine zv_isub dX7_known_18 ?_
    refine zv_callS (m_in3 l D B cc 0 (nI n - 1)) ml_X7_44 st_X7_in rfl rfl (Nat.le_of_ble_eq_true rfl) dX7_known_19 ⟨Nat.le_of_ble_eq_true rfl, Nat.le_of_ble_eq_true rfl⟩ ⟨Nat.le_refl _, Nat.le_refl _⟩ (zk_i ?_)
    refine zv_if_ne (tgt := 27) dX7_known_22 (by decide) (fun c22 => ?_) (fun c22 => ?_)
    · obtain ⟨j, hj, rfl⟩ := (zin_lt (by omega)).mp (bI_ne0.mp c22)
      have hy : zin3 (nI j) 0 15 = true ∧ nI j < r 2 := by rw [i2]; exact (kn_iff i3).mpr ⟨j, hj, rfl⟩
      have hq : qKnown r (nI i) (nI j) = (if zb (cupR r i 0) j then cupR r i (5 + j) else -6) := by unfold qKnown; rw [hz]; dsimp only; rw [if_pos hy, nI_clamp (by omega)]
      refine zv_aload_n dX7_known_27 rfl ?_
      refine zv_iload_n dX7_known_28 rfl ?_
      refine zv_iconst (v := 0) dX7_known_29 (by decide) ?_
      refine zv_callV (m_X7_its l D B (i := i) (k := 0) hm (by omega)) ml_X7_48 in_X7_its sel_X7_its hR.1 rfl rfl rfl rfl (Nat.le_of_ble_eq_true rfl) dX7_known_30 ⟨Nat.le_of_ble_eq_true rfl, Nat.le_of_ble_eq_true rfl⟩ ⟨Nat.le_refl _, Nat.le_refl _⟩ (zk_i ?_)
      rw [show G m (18 + (21 + 69 * i + (0))) = cupR r i (0) from (hr _ (by omega)).trans (cupR_at (by omega)).symm]
      refine zv_iload_n dX7_known_33 rfl ?_
      refine zv_ishr dX7_known_34 ?_
      refine zv_iconst (v := 1) dX7_known_35 (by decide) ?_
      refine zv_iand dX7_known_36 ?_
      rw [zb_test _ (by omega)]
      refine zv_iconst (v := 1) dX7_known_37 (by decide) ?_
      refine zv_icmp_ne (tgt := 52) dX7_known_38 (by decide) (fun c38 => ?_) (fun c38 => ?_)
      · rw [if_neg (fun h => c38 (bI_1.mpr h))] at hq
        refine zv_bipush (v := (-6)) dX7_known_52 (by decide) ?_
        refine zv_iretE dX7_known_54 rfl (rfl) ?_ ?_
        · exact hq.symm
        · rfl
      · rw [if_pos (bI_1.mp c38)] at hq
        refine zv_aload_n dX7_known_41 rfl ?_
        refine zv_iload_n dX7_known_42 rfl ?_
        refine zv_iconst (v := 5) dX7_known_43 (by decide) ?_
        refine zv_iload_n dX7_known_44 rfl ?_
        refine zv_iadd dX7_known_45 ?_
        rw [ix5]
        refine zv_callV (m_X7_its l D B (i := i) (k := 5 + j) hm (by omega)) ml_X7_48 in_X7_its sel_X7_its hR.1 rfl rfl rfl rfl (Nat.le_of_ble_eq_true rfl) dX7_known_46 ⟨Nat.le_of_ble_eq_true rfl, Nat.le_of_ble_eq_true rfl⟩ ⟨Nat.le_refl _, Nat.le_refl _⟩ (zk_i ?_)
        rw [show G m (18 + (21 + 69 * i + (5 + j))) = cupR r i (5 + j) from (hr _ (by omega)).trans (cupR_at (by omega)).symm]
        refine zv_goto (tgt := 54) dX7_known_49 (by decide) ?_
        refine zv_iretE dX7_known_54 rfl (rfl) ?_ ?_
        · exact hq.symm
        · rfl
    · have hno : ¬ (zin3 cc 0 15 = true ∧ cc < r 2) := fun h => by
        rw [i2] at h
        have := (zin_lt (by omega)).mpr ((kn_iff i3).mp h)
        rw [bI_eq0.mp c22] at this
        cases this
      have hq : qKnown r (nI i) cc = -1 := by unfold qKnown; rw [hz]; dsimp only; rw [if_neg hno]
      refine zv_iconst (v := (-1)) dX7_known_25 (by decide) ?_
      refine zv_iretE dX7_known_26 rfl (rfl) ?_ ?_
      · exact hq.symm
      · rfl

set_option maxRecDepth 100000 in
set_option maxHeartbeats 4000000 in
theorem m_X7_kept (l : Launch) (D : zD) (B : Nat) {L : zL} {nx : Nat} {G : zG} {m b c tn : Nat} {r : Nat → Int32} {h : Nat → (Nat → Int32)} {sl : Nat → Option (Nat → Int32)} {T : Nat → Nat} (hR : zRM L m G r h c sl T tn) (hS : SI b r) (y cc vv : Int32) : zMet l D B yX7_kept cX7_kept 4 (some .int) 2 44 0 0 [.ref m, .int y, .int cc, .int vv] L nx G (zE (some (.int (qKept r y cc vv))) L nx (G)) := by
  refine zMet_of (own := RX7) (mn := "kept") [some (.ref m), some (.int y), some (.int cc), some (.int vv)] (by decide +kernel) rfl rfl rfl (Nat.le_of_ble_eq_true rfl) ?_
  show zV l (fun _ => True) D B RX7 "kept" cX7_kept 4 (some .int) (zrm 2 44 0 0) (zN (zE (some (.int (qKept r y cc vv))) L nx (G))) 0 0 L nx 0 [some (.ref m), some (.int y), some (.int cc), some (.int vv)] [] (G)
  obtain ⟨w, ls, n, cn, i0, iw, i1, il, i2, i3, i4, i5, i6, i7, i8⟩ := id hS
  have hm := hR.1
  have hr := hR.2.1
  refine zv_aload_n dX7_kept_0 rfl ?_
  refine zv_iload_n dX7_kept_1 rfl ?_
  refine zv_callV (m_X7_isCup l D B hm i4 i5 (hr 3 (by decide)) y) ml_X7_118 in_X7_isCup sel_X7_isCup hR.1 rfl rfl rfl rfl (Nat.le_of_ble_eq_true rfl) dX7_kept_2 ⟨Nat.le_of_ble_eq_true rfl, Nat.le_of_ble_eq_true rfl⟩ ⟨Nat.le_refl _, Nat.le_refl _⟩ (zk_i ?_)
  rcases hz : cpI r y with _ | i
  · have hq : qKept r y cc vv = -1 := by unfold qKept; rw [hz]
    refine zv_if_eq (tgt := 25) dX7_kept_5 (by decide) (fun _ => ?_) (fun h => absurd (rfl) h)
    refine zv_iconst (v := (-1)) dX7_kept_25 (by decide) ?_
    refine zv_iretE dX7_kept_26 rfl (rfl) ?_ ?_
    · exact hq.symm
    · rfl
  · obtain ⟨hi, rfl⟩ := cpI_some i4 i5 hz
    have hi3 : i < 3 := by omega
    obtain ⟨t, hJ, -⟩ := i6 i hi3
    have ht := hJ.2.1
    have h1 := hJ.2.2.1
    refine zv_if_eq (tgt := 25) dX7_kept_5 (by decide) (fun h => absurd h (show ¬ bI true = 0 from by decide)) (fun _ => ?_)
    refine zv_iload_n dX7_kept_8 rfl ?_
    refine zv_i2l dX7_kept_9 ?_
    refine zv_iconst (v := 0) dX7_kept_10 (by decide) ?_
    refine zv_aload_n dX7_kept_11 rfl ?_
    refine zv_iload_n dX7_kept_12 rfl ?_
    refine zv_iconst (v := 1) dX7_kept_13 (by decide) ?_
    refine zv_callV (m_X7_its l D B (i := i) (k := 1) hm (by omega)) ml_X7_48 in_X7_its sel_X7_its hR.1 rfl rfl rfl rfl (Nat.le_of_ble_eq_true rfl) dX7_kept_14 ⟨Nat.le_of_ble_eq_true rfl, Nat.le_of_ble_eq_true rfl⟩ ⟨Nat.le_refl _, Nat.le_refl _⟩ (zk_i ?_)
    rw [show G m (18 + (21 + 69 * i + (1))) = cupR r i (1) from (hr _ (by omega)).trans (cupR_at (by omega)).symm]
    rw [h1]
    refine zv_iconst (v := 1) dX7_kept_17 (by decide) ?_
    refine zv_isub dX7_kept_18 ?_
    refine zv_callS (m_in3 l D B cc 0 (nI t - 1)) ml_X7_44 st_X7_in rfl rfl (Nat.le_of_ble_eq_true rfl) dX7_kept_19 ⟨Nat.le_of_ble_eq_true rfl, Nat.le_of_ble_eq_true rfl⟩ ⟨Nat.le_refl _, Nat.le_refl _⟩ (zk_i ?_)
    refine zv_if_ne (tgt := 27) dX7_kept_22 (by decide) (fun c22 => ?_) (fun c22 => ?_)
    · obtain ⟨j, hj, rfl⟩ := (zin_lt (by omega)).mp (bI_ne0.mp c22)
      have hy : zin3 (nI j) 0 23 = true ∧ nI j < cupR r i 1 := by rw [h1]; exact (kp_iff ht).mpr ⟨j, hj, rfl⟩
      have hq : qKept r (nI i) (nI j) vv = (if vv = 0 then cupR r i (21 + j) else if vv = 1 then cupR r i (45 + j) else -2) := by unfold qKept; rw [hz]; dsimp only; rw [if_pos hy, nI_clamp (by omega)]
      refine zv_iload_n dX7_kept_27 rfl ?_
      refine zv_if_ne (tgt := 43) dX7_kept_28 (by decide) (fun c28 => ?_) (fun c28 => ?_)
      · rw [if_neg c28] at hq
        refine zv_iload_n dX7_kept_43 rfl ?_
        refine zv_iconst (v := 1) dX7_kept_44 (by decide) ?_
        refine zv_icmp_ne (tgt := 60) dX7_kept_45 (by decide) (fun c45 => ?_) (fun c45 => ?_)
        · rw [if_neg c45] at hq
          refine zv_bipush (v := (-2)) dX7_kept_60 (by decide) ?_
          refine zv_iretE dX7_kept_62 rfl (rfl) ?_ ?_
          · exact hq.symm
          · rfl
        · rw [if_pos c45] at hq
          refine zv_aload_n dX7_kept_48 rfl ?_
          refine zv_iload_n dX7_kept_49 rfl ?_
          refine zv_bipush (v := 45) dX7_kept_50 (by decide) ?_
          refine zv_iload_n dX7_kept_52 rfl ?_
          refine zv_iadd dX7_kept_53 ?_
          rw [ix45]
          refine zv_callV (m_X7_its l D B (i := i) (k := 45 + j) hm (by omega)) ml_X7_48 in_X7_its sel_X7_its hR.1 rfl rfl rfl rfl (Nat.le_of_ble_eq_true rfl) dX7_kept_54 ⟨Nat.le_of_ble_eq_true rfl, Nat.le_of_ble_eq_true rfl⟩ ⟨Nat.le_refl _, Nat.le_refl _⟩ (zk_i ?_)
          rw [show G m (18 + (21 + 69 * i + (45 + j))) = cupR r i (45 + j) from (hr _ (by omega)).trans (cupR_at (by omega)).symm]
          refine zv_goto (tgt := 62) dX7_kept_57 (by decide) ?_
          refine zv_iretE dX7_kept_62 rfl (rfl) ?_ ?_
          · exact hq.symm
          · rfl
      · rw [if_pos c28] at hq
        refine zv_aload_n dX7_kept_31 rfl ?_
        refine zv_iload_n dX7_kept_32 rfl ?_
        refine zv_bipush (v := 21) dX7_kept_33 (by decide) ?_
        refine zv_iload_n dX7_kept_35 rfl ?_
        refine zv_iadd dX7_kept_36 ?_
        rw [ix21]
        refine zv_callV (m_X7_its l D B (i := i) (k := 21 + j) hm (by omega)) ml_X7_48 in_X7_its sel_X7_its hR.1 rfl rfl rfl rfl (Nat.le_of_ble_eq_true rfl) dX7_kept_37 ⟨Nat.le_of_ble_eq_true rfl, Nat.le_of_ble_eq_true rfl⟩ ⟨Nat.le_refl _, Nat.le_refl _⟩ (zk_i ?_)
        rw [show G m (18 + (21 + 69 * i + (21 + j))) = cupR r i (21 + j) from (hr _ (by omega)).trans (cupR_at (by omega)).symm]
        refine zv_goto (tgt := 62) dX7_kept_40 (by decide) ?_
        refine zv_iretE dX7_kept_62 rfl (rfl) ?_ ?_
        · exact hq.symm
        · rfl
    · have hno : ¬ (zin3 cc 0 23 = true ∧ cc < cupR r i 1) := fun h => by
        rw [h1] at h
        have := (zin_lt (by omega)).mpr ((kp_iff ht).mp h)
        rw [bI_eq0.mp c22] at this
        cases this
      have hq : qKept r (nI i) cc vv = -1 := by unfold qKept; rw [hz]; dsimp only; rw [if_neg hno]
      refine zv_iconst (v := (-1)) dX7_kept_25 (by decide) ?_
      refine zv_iretE dX7_kept_26 rfl (rfl) ?_ ?_
      · exact hq.symm
      · rfl
