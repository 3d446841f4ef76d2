set_option maxRecDepth 100000 in
set_option maxHeartbeats 4000000 in
theorem lp_X7_fullCups (l : Launch) (D : zD) (B : Nat) {L : zL} {nx : Nat} {G : zG} {m cn : Nat} {r : Nat → Int32} (hm : (m, 8) ∈ L) (hr : ∀ k, k < 228 → G m (18 + k) = r k) (i4 : r 3 = nI cn) (i5 : cn ≤ 3) : ∀ k : Nat, k ≤ cn → zV l (fun _ => True) D B RX7 "fullCups" cX7_fullCups 3 (some .int) (zrm 2 43 0 0) (zN (zE (some (.int (fcN r cn 3))) L nx G)) 0 0 L nx 4 [some (.ref m), some (.int (fcN r cn k)), some (.int (nI k))] [] (G) := by
  refine zloop cn (fun k hk ih => ?_)
  refine zv_iload_n dX7_fullCups_4 rfl ?_
  refine zv_aload_n dX7_fullCups_5 rfl ?_
  refine zv_getS (r := 1) hm rfl fl_X7_7 rfl dX7_fullCups_6 ?_
  refine zv_iconst (v := 3) dX7_fullCups_9 (by decide) ?_
  refine zv_iald (i := 1) hm rfl (zix_nI (i := 3) (by omega) (by decide)) dX7_fullCups_10 ?_
  rw [show G m (18 + 3) = nI cn from (hr 3 (by decide)).trans i4]
  refine zv_icmp_ge (tgt := 38) dX7_fullCups_11 (by decide) (fun c11 => ?_) (fun c11 => ?_)
  · have e : k = cn := by have := (nI_leI (by omega) (by omega)).mp c11; omega
    subst e
    have hend : ∀ s, k + s ≤ 3 → fcN r k (k + s) = fcN r k k := by
      intro s
      induction s with
      | zero => intro _; rfl
      | succ s ih2 =>
        intro hs
        rw [← ih2 (by omega)]
        show fcN r k (k + s + 1) = _
        conv => lhs; unfold fcN
        rw [if_neg (fun h => by omega)]
    refine zv_iload_n dX7_fullCups_38 rfl ?_
    refine zv_iretE dX7_fullCups_39 rfl (rfl) ?_ ?_
    · have := hend (3 - k) (by omega)
      rw [show k + (3 - k) = 3 by omega] at this
      exact this.symm
    · rfl
  · have hlt : k < cn := by
      rcases Nat.lt_or_ge k cn with h | h
      · exact h
      · exact absurd (nI_le h (by omega)) c11
    refine zv_iload_n dX7_fullCups_14 rfl ?_
    refine zv_aload_n dX7_fullCups_15 rfl ?_
    refine zv_iload_n dX7_fullCups_16 rfl ?_
    refine zv_callV (m_X7_isFull l D B (r := r) (f := cupR r k) hm (by omega) ((hr _ (by omega)).trans (cupR_at (by omega)).symm) (hr 2 (by decide))) ml_X7_142 in_X7_isFull sel_X7_isFull hm rfl rfl rfl rfl (Nat.le_of_ble_eq_true rfl) dX7_fullCups_17 ⟨Nat.le_of_ble_eq_true rfl, Nat.le_of_ble_eq_true rfl⟩ ⟨Nat.le_refl _, Nat.le_refl _⟩ (zk_i ?_)
    refine zv_if_eq (tgt := 29) dX7_fullCups_20 (by decide) (fun c20 => ?_) (fun c20 => ?_)
    · have hv : fcN r cn (k + 1) = fcN r cn k ||| 0 := by
        conv => lhs; unfold fcN
        rw [if_neg (fun h => by rw [bI_eq0.mp c20] at h; exact absurd h.2 (by simp))]
        apply zb_ext
        intro j _
        rw [zb_or, zb_zero, Bool.or_false]
      refine zv_iconst (v := 0) dX7_fullCups_29 (by decide) ?_
      refine zv_ior dX7_fullCups_30 ?_
      refine zv_istore_n dX7_fullCups_31 (by decide) rfl ?_
      refine zv_iinc1 dX7_fullCups_32 rfl (by decide) rfl ?_
      refine zv_goto (tgt := 4) dX7_fullCups_35 (by decide) ?_
      rw [nI_1]
      have ih1 := ih hlt
      rw [hv] at ih1
      exact ih1
    · have hv : fcN r cn (k + 1) = fcN r cn k ||| bt k := by
        conv => lhs; unfold fcN
        rw [if_pos ⟨hlt, bI_ne0.mp c20⟩]
      refine zv_iconst (v := 1) dX7_fullCups_23 (by decide) ?_
      refine zv_iload_n dX7_fullCups_24 rfl ?_
      refine zv_ishl dX7_fullCups_25 ?_
      refine zv_goto (tgt := 30) dX7_fullCups_26 (by decide) ?_
      refine zv_ior dX7_fullCups_30 ?_
      refine zv_istore_n dX7_fullCups_31 (by decide) rfl ?_
      refine zv_iinc1 dX7_fullCups_32 rfl (by decide) rfl ?_
      refine zv_goto (tgt := 4) dX7_fullCups_35 (by decide) ?_
      rw [nI_1]
      have ih1 := ih hlt
      rw [hv] at ih1
      exact ih1

set_option maxRecDepth 100000 in
set_option maxHeartbeats 4000000 in
theorem m_X7_fullCups (l : Launch) (D : zD) (B : Nat) {L : zL} {nx : Nat} {G : zG} {m cn : Nat} {r : Nat → Int32} (hm : (m, 8) ∈ L) (hr : ∀ k, k < 228 → G m (18 + k) = r k) (i4 : r 3 = nI cn) (i5 : cn ≤ 3) : zMet l D B yX7_fullCups cX7_fullCups 3 (some .int) 2 43 0 0 [.ref m] L nx G (zE (some (.int (fcN r cn 3))) L nx (G)) := by
  refine zMet_of (own := RX7) (mn := "fullCups") [some (.ref m), none, none] (by decide +kernel) rfl rfl rfl (Nat.le_of_ble_eq_true rfl) ?_
  show zV l (fun _ => True) D B RX7 "fullCups" cX7_fullCups 3 (some .int) (zrm 2 43 0 0) (zN (zE (some (.int (fcN r cn 3))) L nx (G))) 0 0 L nx 0 [some (.ref m), none, none] [] (G)
  refine zv_iconst (v := 0) dX7_fullCups_0 (by decide) ?_
  refine zv_istore_n dX7_fullCups_1 (by decide) rfl ?_
  refine zv_iconst (v := 0) dX7_fullCups_2 (by decide) ?_
  refine zv_istore_n dX7_fullCups_3 (by decide) rfl ?_
  exact lp_X7_fullCups l D B hm hr i4 i5 0 (by omega)

set_option maxRecDepth 100000 in
set_option maxHeartbeats 4000000 in
theorem m_X7_count (l : Launch) (D : zD) (B : Nat) {L : zL} {nx : Nat} {G : zG} {m b c tn : Nat} {r : Nat → Int32} {h : Nat → (Nat → Int32)} {sl : Nat → Option (Nat → Int32)} {T : Nat → Nat} (hR : zRM L m G r h c sl T tn) (hS : SI b r) (vv : Int32) : zMet l D B yX7_count cX7_count 2 (some .int) 3 65 0 0 [.ref m, .int vv] L nx G (zE (some (.int (qCount r (nI tn) (nI c) vv))) L nx (G)) := by
  refine zMet_of (own := RX7) (mn := "count") [some (.ref m), some (.int vv)] (by decide +kernel) rfl rfl rfl (Nat.le_of_ble_eq_true rfl) ?_
  show zV l (fun _ => True) D B RX7 "count" cX7_count 2 (some .int) (zrm 3 65 0 0) (zN (zE (some (.int (qCount r (nI tn) (nI c) vv))) L nx (G))) 0 0 L nx 0 [some (.ref m), some (.int vv)] [] (G)
  obtain ⟨w, ls, n, cn, i0, iw, i1, il, i2, i3, i4, i5, i6, i7, i8⟩ := id hS
  have hm := hR.1
  have hr := hR.2.1
  refine zv_iload_n dX7_count_0 rfl ?_
  rcases zsw7 vv with rfl | rfl | rfl | rfl | rfl | rfl | rfl | rfl | hout
  · refine zv_tableIn (off := 47) (tgt := 48) dX7_count_1 (by decide) (by decide) (by first | rfl | decide +kernel) (by decide) ?_
    refine zv_aload_n dX7_count_48 rfl ?_
    refine zv_getS (r := 1) hR.1 rfl fl_X7_7 rfl dX7_count_49 ?_
    refine zv_iconst (v := 2) dX7_count_52 (by decide) ?_
    refine zv_iald (i := 1) hR.1 rfl (zix_nI (i := 2) (by omega) (by decide)) dX7_count_53 ?_
    rw [show G m (18 + 2) = r 2 from hr 2 (by decide)]
    refine zv_iretE dX7_count_54 rfl (rfl) ?_ ?_
    · rfl
    · rfl
  · refine zv_tableIn (off := 54) (tgt := 55) dX7_count_1 (by decide) (by decide) (by first | rfl | decide +kernel) (by decide) ?_
    refine zv_aload_n dX7_count_55 rfl ?_
    refine zv_getS (r := 1) hR.1 rfl fl_X7_7 rfl dX7_count_56 ?_
    refine zv_iconst (v := 3) dX7_count_59 (by decide) ?_
    refine zv_iald (i := 1) hR.1 rfl (zix_nI (i := 3) (by omega) (by decide)) dX7_count_60 ?_
    rw [show G m (18 + 3) = r 3 from hr 3 (by decide)]
    refine zv_iretE dX7_count_61 rfl (rfl) ?_ ?_
    · rfl
    · rfl
  · refine zv_tableIn (off := 61) (tgt := 62) dX7_count_1 (by decide) (by decide) (by first | rfl | decide +kernel) (by decide) ?_
    refine zv_aload_n dX7_count_62 rfl ?_
    refine zv_callV (m_X7_fullCups l D B hm hr i4 i5) ml_X7_145 in_X7_fullCups sel_X7_fullCups hR.1 rfl rfl rfl rfl (Nat.le_of_ble_eq_true rfl) dX7_count_63 ⟨Nat.le_of_ble_eq_true rfl, Nat.le_of_ble_eq_true rfl⟩ ⟨Nat.le_refl _, Nat.le_refl _⟩ (zk_i ?_)
    refine zv_iretE dX7_count_66 rfl (rfl) ?_ ?_
    · rw [show qCount r (nI tn) (nI c) 2 = fcN r (r 3).toNatClampNeg 3 from rfl, i4, nI_clamp (by omega)]
    · rfl
  · refine zv_tableIn (off := 66) (tgt := 67) dX7_count_1 (by decide) (by decide) (by first | rfl | decide +kernel) (by decide) ?_
    refine zv_aload_n dX7_count_67 rfl ?_
    refine zv_getS (r := 1) hR.1 rfl fl_X7_7 rfl dX7_count_68 ?_
    refine zv_iconst (v := 4) dX7_count_71 (by decide) ?_
    refine zv_iald (i := 1) hR.1 rfl (zix_nI (i := 4) (by omega) (by decide)) dX7_count_72 ?_
    rw [show G m (18 + 4) = r 4 from hr 4 (by decide)]
    refine zv_iretE dX7_count_73 rfl (rfl) ?_ ?_
    · rfl
    · rfl
  · refine zv_tableIn (off := 73) (tgt := 74) dX7_count_1 (by decide) (by decide) (by first | rfl | decide +kernel) (by decide) ?_
    refine zv_aload_n dX7_count_74 rfl ?_
    refine zv_getS (r := 1) hR.1 rfl fl_X7_7 rfl dX7_count_75 ?_
    refine zv_iload_n dX7_count_78 rfl ?_
    refine zv_iconst (v := 4) dX7_count_79 (by decide) ?_
    refine zv_isub dX7_count_80 ?_
    refine zv_iald (i := 1) hR.1 rfl (zix_nI (i := 0) (by omega) (by decide)) dX7_count_81 ?_
    rw [show G m (18 + 0) = r 0 from hr 0 (by decide)]
    refine zv_iretE dX7_count_82 rfl (rfl) ?_ ?_
    · rfl
    · rfl
  · refine zv_tableIn (off := 73) (tgt := 74) dX7_count_1 (by decide) (by decide) (by first | rfl | decide +kernel) (by decide) ?_
    refine zv_aload_n dX7_count_74 rfl ?_
    refine zv_getS (r := 1) hR.1 rfl fl_X7_7 rfl dX7_count_75 ?_
    refine zv_iload_n dX7_count_78 rfl ?_
    refine zv_iconst (v := 4) dX7_count_79 (by decide) ?_
    refine zv_isub dX7_count_80 ?_
    refine zv_iald (i := 1) hR.1 rfl (zix_nI (i := 1) (by omega) (by decide)) dX7_count_81 ?_
    rw [show G m (18 + 1) = r 1 from hr 1 (by decide)]
    refine zv_iretE dX7_count_82 rfl (rfl) ?_ ?_
    · rfl
    · rfl
  · refine zv_tableIn (off := 82) (tgt := 83) dX7_count_1 (by decide) (by decide) (by first | rfl | decide +kernel) (by decide) ?_
    refine zv_aload_n dX7_count_83 rfl ?_
    refine zv_getI hR.1 rfl fl_X7_148 rfl dX7_count_84 ?_
    refine zv_iretE dX7_count_87 rfl (rfl) ?_ ?_
    · exact hR.2.2.2.2.2.2.2.1
    · rfl
  · refine zv_tableIn (off := 87) (tgt := 88) dX7_count_1 (by decide) (by decide) (by first | rfl | decide +kernel) (by decide) ?_
    refine zv_aload_n dX7_count_88 rfl ?_
    refine zv_getI hR.1 rfl fl_X7_56 rfl dX7_count_89 ?_
    refine zv_iretE dX7_count_92 rfl (rfl) ?_ ?_
    · exact hR.2.2.1
    · rfl
  · have hv : ∀ k : Int32, (k = 0 ∨ k = 1 ∨ k = 2 ∨ k = 3 ∨ k = 4 ∨ k = 5 ∨ k = 6 ∨ k = 7) → ¬ vv = k := by
      rintro k hk rfl
      rcases hk with rfl | rfl | rfl | rfl | rfl | rfl | rfl | rfl <;> (revert hout; decide)
    have hq : qCount r (nI tn) (nI c) vv = -2 := by
      unfold qCount
      rw [if_neg (hv 0 (by simp)), if_neg (hv 1 (by simp)), if_neg (hv 2 (by simp)), if_neg (hv 3 (by simp)), if_neg (hv 4 (by simp)), if_neg (hv 5 (by simp)), if_neg (hv 6 (by simp)), if_neg (hv 7 (by simp))]
    refine zv_tableOut (tgt := 93) dX7_count_1 (hout) (by decide) ?_
    refine zv_bipush (v := (-2)) dX7_count_93 (by decide) ?_
    refine zv_iretE dX7_count_95 rfl (rfl) ?_ ?_
    · exact hq.symm
    · rfl
