set_option maxRecDepth 100000 in
set_option maxHeartbeats 4000000 in
theorem m_X7_isCup (l : Launch) (D : zD) (B : Nat) {L : zL} {nx : Nat} {G : zG} {m : Nat} (hm : (m, 8) ∈ L) {r : Nat → Int32} {cn : Nat} (h3 : r 3 = nI cn) (hcn : cn ≤ 3) (hg : G m 21 = r 3) (y : Int32) : zMet l D B yX7_isCup cX7_isCup 2 (some .boolean) 1 23 0 0 [.ref m, .int y] L nx G (zE (some (.int (bI (cpI r y).isSome))) L nx (G)) := by
  refine zMet_of (own := RX7) (mn := "isCup") [some (.ref m), some (.int y)] (by decide +kernel) rfl rfl rfl (Nat.le_of_ble_eq_true rfl) ?_
  show zV l (fun _ => True) D B RX7 "isCup" cX7_isCup 2 (some .boolean) (zrm 1 23 0 0) (zN (zE (some (.int (bI (cpI r y).isSome))) L nx (G))) 0 0 L nx 0 [some (.ref m), some (.int y)] [] (G)
  refine zv_iload_n dX7_isCup_0 rfl ?_
  refine zv_i2l dX7_isCup_1 ?_
  refine zv_iconst (v := 0) dX7_isCup_2 (by decide) ?_
  refine zv_aload_n dX7_isCup_3 rfl ?_
  refine zv_getS (r := 1) hm rfl fl_X7_7 rfl dX7_isCup_4 ?_
  refine zv_iconst (v := 3) dX7_isCup_7 (by decide) ?_
  refine zv_iald (i := 1) hm rfl (zix_nI (i := 3) (by omega) (by decide)) dX7_isCup_8 ?_
  rw [show G m (18 + 3) = nI cn from hg.trans h3]
  refine zv_iconst (v := 1) dX7_isCup_9 (by decide) ?_
  refine zv_isub dX7_isCup_10 ?_
  rw [← isCup_eq (y := y) h3 hcn]
  refine zv_callS (m_in3 l D B y 0 (nI cn - 1)) ml_X7_44 st_X7_in rfl rfl (Nat.le_of_ble_eq_true rfl) dX7_isCup_11 ⟨Nat.le_of_ble_eq_true rfl, Nat.le_of_ble_eq_true rfl⟩ ⟨Nat.le_refl _, Nat.le_refl _⟩ (zk_i ?_)
  refine zv_iretE dX7_isCup_14 rfl (by first | rfl | exact bI_nar _) ?_ ?_
  · rfl
  · rfl

set_option maxRecDepth 100000 in
set_option maxHeartbeats 4000000 in
theorem m_X7_whole (l : Launch) (D : zD) (B : Nat) {L : zL} {nx : Nat} {G : zG} {m : Nat} (hm : (m, 8) ∈ L) : zMet l D B yX7_whole cX7_whole 1 (some .int) 0 0 0 0 [.ref m] L nx G (zE (some (.int (1 <<< (G m 20 &&& 31) - 1))) L nx (G)) := by
  refine zMet_of (own := RX7) (mn := "whole") [some (.ref m)] (by decide +kernel) rfl rfl rfl (Nat.le_of_ble_eq_true rfl) ?_
  show zV l (fun _ => True) D B RX7 "whole" cX7_whole 1 (some .int) (zrm 0 0 0 0) (zN (zE (some (.int (1 <<< (G m 20 &&& 31) - 1))) L nx (G))) 0 0 L nx 0 [some (.ref m)] [] (G)
  refine zv_iconst (v := 1) dX7_whole_0 (by decide) ?_
  refine zv_aload_n dX7_whole_1 rfl ?_
  refine zv_getS (r := 1) hm rfl fl_X7_7 rfl dX7_whole_2 ?_
  refine zv_iconst (v := 2) dX7_whole_5 (by decide) ?_
  refine zv_iald (i := 1) hm rfl (zix_nI (i := 2) (by omega) (by decide)) dX7_whole_6 ?_
  refine zv_ishl dX7_whole_7 ?_
  refine zv_iconst (v := 1) dX7_whole_8 (by decide) ?_
  refine zv_isub dX7_whole_9 ?_
  refine zv_iretE dX7_whole_10 rfl (rfl) ?_ ?_
  · rfl
  · rfl

set_option maxRecDepth 100000 in
set_option maxHeartbeats 4000000 in
theorem m_X7_isFull (l : Launch) (D : zD) (B : Nat) {L : zL} {nx : Nat} {G : zG} {m : Nat} (hm : (m, 8) ∈ L) {r f : Nat → Int32} {i : Nat} (hi : i < 3) (h0 : G m (18 + (21 + 69 * i + 0)) = f 0) (h2 : G m 20 = r 2) : zMet l D B yX7_isFull cX7_isFull 2 (some .boolean) 1 22 0 0 [.ref m, .int (nI i)] L nx G (zE (some (.int (bI (fullB r f)))) L nx (G)) := by
  refine zMet_of (own := RX7) (mn := "isFull") [some (.ref m), some (.int (nI i))] (by decide +kernel) rfl rfl rfl (Nat.le_of_ble_eq_true rfl) ?_
  show zV l (fun _ => True) D B RX7 "isFull" cX7_isFull 2 (some .boolean) (zrm 1 22 0 0) (zN (zE (some (.int (bI (fullB r f)))) L nx (G))) 0 0 L nx 0 [some (.ref m), some (.int (nI i))] [] (G)
  refine zv_aload_n dX7_isFull_0 rfl ?_
  refine zv_iload_n dX7_isFull_1 rfl ?_
  refine zv_iconst (v := 0) dX7_isFull_2 (by decide) ?_
  refine zv_callV (m_X7_its l D B (i := i) (k := 0) hm (by omega)) ml_X7_48 in_X7_its sel_X7_its hm rfl rfl rfl rfl (Nat.le_of_ble_eq_true rfl) dX7_isFull_3 ⟨Nat.le_of_ble_eq_true rfl, Nat.le_of_ble_eq_true rfl⟩ ⟨Nat.le_refl _, Nat.le_refl _⟩ (zk_i ?_)
  rw [h0]
  refine zv_aload_n dX7_isFull_6 rfl ?_
  refine zv_callV (m_X7_whole l D B hm) ml_X7_52 in_X7_whole sel_X7_whole hm rfl rfl rfl rfl (Nat.le_of_ble_eq_true rfl) dX7_isFull_7 ⟨Nat.le_of_ble_eq_true rfl, Nat.le_of_ble_eq_true rfl⟩ ⟨Nat.le_refl _, Nat.le_refl _⟩ (zk_i ?_)
  rw [h2]
  refine zv_icmp_ne (tgt := 17) dX7_isFull_10 (by decide) (fun c10 => ?_) (fun c10 => ?_)
  · refine zv_iconst (v := 0) dX7_isFull_17 (by decide) ?_
    refine zv_iretE dX7_isFull_18 rfl (by first | rfl | exact bI_nar _) ?_ ?_
    · unfold fullB
      first
        | (rw [show decide (f 0 = 1 <<< (r 2 &&& 31) - 1) = true by simp; exact c10]; rfl)
        | (rw [show decide (f 0 = 1 <<< (r 2 &&& 31) - 1) = false by simp; exact c10]; rfl)
    · rfl
  · refine zv_iconst (v := 1) dX7_isFull_13 (by decide) ?_
    refine zv_goto (tgt := 18) dX7_isFull_14 (by decide) ?_
    refine zv_iretE dX7_isFull_18 rfl (by first | rfl | exact bI_nar _) ?_ ?_
    · unfold fullB
      first
        | (rw [show decide (f 0 = 1 <<< (r 2 &&& 31) - 1) = true by simp; exact c10]; rfl)
        | (rw [show decide (f 0 = 1 <<< (r 2 &&& 31) - 1) = false by simp; exact c10]; rfl)
    · rfl

set_option maxRecDepth 100000 in
set_option maxHeartbeats 4000000 in
theorem lq_X7_record (l : Launch) (D : zD) (B : Nat) {L : zL} {nx : Nat} {G : zG} {m : Nat} (hm : (m, 8) ∈ L) {g : Nat → Int32} {s : Nat} {a : Int32} (hs : s < 6) (h6 : g 6 = nI s) : ∀ i : Nat, i ≤ 228 → zV l (fun _ => True) D B RX7 "record" cX7_record 3 (some .int) (zrm 0 0 0 0) (zN (zE (some (.int a)) L nx (zst G m (upd (cpyM g (246 + 228 * s) 1614 228) 6 (nI (s + 1)))))) 0 0 L nx 58 [some (.ref m), some (.int a), some (.int (nI i))] [] (zst G m (cpyM g (246 + 228 * s) 1614 i)) := by
  refine zloop 228 (fun i hi ih => ?_)
  refine zv_iload_n dX7_record_58 rfl ?_
  refine zv_sipush (v := 228) dX7_record_59 (by decide) ?_
  refine zv_icmp_ge (tgt := 92) dX7_record_62 (by decide) (fun c62 => ?_) (fun c62 => ?_)
  · have e : i = 228 := by have := zge_of (N := 228) (by decide) (by omega) rfl c62; omega
    subst e
    refine zv_aload_n dX7_record_92 rfl ?_
    refine zv_dup dX7_record_93 rfl ?_
    refine zv_getI hm rfl fl_X7_56 rfl dX7_record_94 ?_
    refine zv_iconst (v := 1) dX7_record_97 (by decide) ?_
    refine zv_iadd dX7_record_98 ?_
    rw [show zst G m (cpyM g (246 + 228 * s) 1614 228) m 6 = nI s by rw [zst_same, cpyM_r (by omega)]; exact h6, nI_1]
    refine zv_putI (t := 8) hm rfl fl_X7_56 ft_X7_6 rfl dX7_record_99 ?_
    refine zv_iload_n dX7_record_102 rfl ?_
    refine zv_iretE dX7_record_103 rfl (rfl) ?_ ?_
    · rfl
    · rw [zst_same, zst_zst]
  · have hlt : i < 228 := zlt_of (N := 228) (by decide) (by omega) rfl c62
    refine zv_aload_n dX7_record_65 rfl ?_
    refine zv_getS (r := 2) hm rfl fl_X7_13 rfl dX7_record_66 ?_
    refine zv_sipush (v := 228) dX7_record_69 (by decide) ?_
    refine zv_aload_n dX7_record_72 rfl ?_
    refine zv_getI hm rfl fl_X7_56 rfl dX7_record_73 ?_
    refine zv_imul dX7_record_76 ?_
    refine zv_iload_n dX7_record_77 rfl ?_
    refine zv_iadd dX7_record_78 ?_
    refine zv_aload_n dX7_record_79 rfl ?_
    refine zv_getS (r := 3) hm rfl fl_X7_16 rfl dX7_record_80 ?_
    refine zv_iload_n dX7_record_83 rfl ?_
    refine zv_iald (i := 3) hm rfl (zix_nI (by omega) (by decide)) dX7_record_84 ?_
    have hq6 : zst G m (cpyM g (246 + 228 * s) 1614 i) m 6 = nI s := by rw [zst_same, cpyM_r (by omega)]; exact h6
    rw [hq6, mI2]
    refine zv_iast (i := 2) hm rfl (zix_nI (by omega) (by decide)) dX7_record_85 ?_
    refine zv_iinc1 dX7_record_86 rfl (by decide) rfl ?_
    refine zv_goto (tgt := 58) dX7_record_89 (by decide) ?_
    simp only [zst_same, zst_zst]
    rw [nI_1, cpyM_r (by omega), ← Nat.add_assoc, cpyM_s]
    exact ih hlt

set_option maxRecDepth 100000 in
set_option maxHeartbeats 4000000 in
theorem lp_X7_record (l : Launch) (D : zD) (B : Nat) {L : zL} {nx : Nat} {G : zG} {m : Nat} (hm : (m, 8) ∈ L) {a : Int32} (h6 : G m 6 = nI 6) : ∀ i : Nat, i ≤ 1140 → zV l (fun _ => True) D B RX7 "record" cX7_record 3 (some .int) (zrm 0 0 0 0) (zN (zE (some (.int a)) L nx (zst G m (upd (cpyM (upd (cpyM (G m) 246 474 1140) 6 (nI 5)) (246 + 228 * 5) 1614 228) 6 (nI (5 + 1)))))) 0 0 L nx 17 [some (.ref m), some (.int a), some (.int (nI i))] [] (zst G m (cpyM (G m) 246 474 i)) := by
  refine zloop 1140 (fun i hi ih => ?_)
  refine zv_iload_n dX7_record_17 rfl ?_
  refine zv_sipush (v := 1140) dX7_record_18 (by decide) ?_
  refine zv_icmp_ge (tgt := 46) dX7_record_21 (by decide) (fun c21 => ?_) (fun c21 => ?_)
  · have e : i = 1140 := by have := zge_of (N := 1140) (by decide) (by omega) rfl c21; omega
    subst e
    refine zv_aload_n dX7_record_46 rfl ?_
    refine zv_dup dX7_record_47 rfl ?_
    refine zv_getI hm rfl fl_X7_56 rfl dX7_record_48 ?_
    refine zv_iconst (v := 1) dX7_record_51 (by decide) ?_
    refine zv_isub dX7_record_52 ?_
    rw [show zst G m (cpyM (G m) 246 474 1140) m 6 = nI 6 by rw [zst_same, cpyM_r (by omega)]; exact h6, show nI 6 - 1 = nI 5 from nI_pred 5]
    refine zv_putI (t := 8) hm rfl fl_X7_56 ft_X7_6 rfl dX7_record_53 ?_
    refine zv_iconst (v := 0) dX7_record_56 (by decide) ?_
    refine zv_istore_n dX7_record_57 (by decide) rfl ?_
    rw [zst_same, zst_zst]
    refine zv_eqG ?_ (lq_X7_record l D B hm (s := 5) (by decide) (if_pos rfl) 0 (by omega))
    rw [cpyM_0]
  · have hlt : i < 1140 := zlt_of (N := 1140) (by decide) (by omega) rfl c21
    refine zv_aload_n dX7_record_24 rfl ?_
    refine zv_getS (r := 2) hm rfl fl_X7_13 rfl dX7_record_25 ?_
    refine zv_iload_n dX7_record_28 rfl ?_
    refine zv_aload_n dX7_record_29 rfl ?_
    refine zv_getS (r := 2) hm rfl fl_X7_13 rfl dX7_record_30 ?_
    refine zv_sipush (v := 228) dX7_record_33 (by decide) ?_
    refine zv_iload_n dX7_record_36 rfl ?_
    refine zv_iadd dX7_record_37 ?_
    rw [show (228 : Int32) + nI i = nI (228 + i) from nI_add 228 i]
    refine zv_iald (i := 2) hm rfl (zix_nI (by omega) (by decide)) dX7_record_38 ?_
    refine zv_iast (i := 2) hm rfl (zix_nI (by omega) (by decide)) dX7_record_39 ?_
    refine zv_iinc1 dX7_record_40 rfl (by decide) rfl ?_
    refine zv_goto (tgt := 17) dX7_record_43 (by decide) ?_
    simp only [zst_same, zst_zst]
    rw [nI_1, show 246 + (228 + i) = 474 + i by omega, cpyM_r (by omega), cpyM_s]
    exact ih hlt

set_option maxRecDepth 100000 in
set_option maxHeartbeats 4000000 in
theorem m_X7_record (l : Launch) (D : zD) (B : Nat) {L : zL} {nx : Nat} {G : zG} {m : Nat} (hm : (m, 8) ∈ L) {s : Nat} {a : Int32} (ha : ¬ a < 0) (hs : s ≤ 6) (h6 : G m 6 = nI s) : zMet l D B yX7_record cX7_record 3 (some .int) 0 0 0 0 [.ref m, .int a] L nx G (zE (some (.int a)) L nx (zst G m (recM (G m) s))) := by
  refine zMet_of (own := RX7) (mn := "record") [some (.ref m), some (.int a), none] (by decide +kernel) rfl rfl rfl (Nat.le_of_ble_eq_true rfl) ?_
  show zV l (fun _ => True) D B RX7 "record" cX7_record 3 (some .int) (zrm 0 0 0 0) (zN (zE (some (.int a)) L nx (zst G m (recM (G m) s)))) 0 0 L nx 0 [some (.ref m), some (.int a), none] [] (G)
  refine zv_iload_n dX7_record_0 rfl ?_
  refine zv_if_ge (tgt := 6) dX7_record_1 (by decide) (fun _ => ?_) (fun h => absurd (i32_nlt.mp ha) h)
  refine zv_aload_n dX7_record_6 rfl ?_
  refine zv_getI hm rfl fl_X7_56 rfl dX7_record_7 ?_
  refine zv_bipush (v := 6) dX7_record_10 (by decide) ?_
  rw [h6]
  by_cases e6 : s = 6
  · subst e6
    refine zv_icmp_ne (tgt := 56) dX7_record_12 (by decide) (fun h => absurd (by decide) h) (fun _ => ?_)
    refine zv_iconst (v := 0) dX7_record_15 (by decide) ?_
    refine zv_istore_n dX7_record_16 (by decide) rfl ?_
    refine zv_eqG ?_ (lp_X7_record l D B hm h6 0 (by omega))
    rw [cpyM_0, zst_self]
  · have hr : recM (G m) s = upd (cpyM (G m) (246 + 228 * s) 1614 228) 6 (nI (s + 1)) := if_neg e6
    rw [hr]
    refine zv_icmp_ne (tgt := 56) dX7_record_12 (by decide) (fun _ => ?_) (fun h => absurd h (fun e => e6 ((nI_eq (by omega) (by decide)).mp e)))
    refine zv_iconst (v := 0) dX7_record_56 (by decide) ?_
    refine zv_istore_n dX7_record_57 (by decide) rfl ?_
    refine zv_eqG ?_ (lq_X7_record l D B hm (g := G m) (by omega) h6 0 (by omega))
    rw [cpyM_0, zst_self]

set_option maxRecDepth 100000 in
set_option maxHeartbeats 4000000 in
theorem m_X7_record_n (l : Launch) (D : zD) (B : Nat) {L : zL} {nx : Nat} {G : zG} {m : Nat} (hm : (m, 8) ∈ L) {a : Int32} (ha : a < 0) : zMet l D B yX7_record cX7_record 3 (some .int) 0 0 0 0 [.ref m, .int a] L nx G (zE (some (.int a)) L nx (G)) := by
  refine zMet_of (own := RX7) (mn := "record") [some (.ref m), some (.int a), none] (by decide +kernel) rfl rfl rfl (Nat.le_of_ble_eq_true rfl) ?_
  show zV l (fun _ => True) D B RX7 "record" cX7_record 3 (some .int) (zrm 0 0 0 0) (zN (zE (some (.int a)) L nx (G))) 0 0 L nx 0 [some (.ref m), some (.int a), none] [] (G)
  refine zv_iload_n dX7_record_0 rfl ?_
  refine zv_if_ge (tgt := 6) dX7_record_1 (by decide) (fun h => absurd h (i32_nle.mpr ha)) (fun _ => ?_)
  refine zv_iload_n dX7_record_4 rfl ?_
  refine zv_iretE dX7_record_5 rfl (rfl) ?_ ?_
  · rfl
  · rfl

set_option maxRecDepth 100000 in
set_option maxHeartbeats 4000000 in
theorem lp_X7_undo (l : Launch) (D : zD) (B : Nat) {L : zL} {nx : Nat} {G : zG} {m : Nat} (hm : (m, 8) ∈ L) {g : Nat → Int32} {s : Nat} (hs : s < 6) (h6 : g 6 = nI s) : ∀ i : Nat, i ≤ 228 → zV l (fun _ => True) D B RX7 "undo" cX7_undo 2 (some .int) (zrm 0 0 0 0) (zN (zE (some (.int (nI s))) L nx (zst G m (cpyM g 18 (246 + 228 * s) 228)))) 0 0 L nx 22 [some (.ref m), some (.int (nI i))] [] (zst G m (cpyM g 18 (246 + 228 * s) i)) := by
  refine zloop 228 (fun i hi ih => ?_)
  refine zv_iload_n dX7_undo_22 rfl ?_
  refine zv_sipush (v := 228) dX7_undo_23 (by decide) ?_
  refine zv_icmp_ge (tgt := 56) dX7_undo_26 (by decide) (fun c26 => ?_) (fun c26 => ?_)
  · have e : i = 228 := by have := zge_of (N := 228) (by decide) (by omega) rfl c26; omega
    subst e
    refine zv_aload_n dX7_undo_56 rfl ?_
    refine zv_getI hm rfl fl_X7_56 rfl dX7_undo_57 ?_
    refine zv_iretE dX7_undo_60 rfl (rfl) ?_ ?_
    · rw [zst_same, cpyM_r (by omega)]; exact h6
    · rfl
  · have hlt : i < 228 := zlt_of (N := 228) (by decide) (by omega) rfl c26
    refine zv_aload_n dX7_undo_29 rfl ?_
    refine zv_getS (r := 1) hm rfl fl_X7_7 rfl dX7_undo_30 ?_
    refine zv_iload_n dX7_undo_33 rfl ?_
    refine zv_aload_n dX7_undo_34 rfl ?_
    refine zv_getS (r := 2) hm rfl fl_X7_13 rfl dX7_undo_35 ?_
    refine zv_sipush (v := 228) dX7_undo_38 (by decide) ?_
    refine zv_aload_n dX7_undo_41 rfl ?_
    refine zv_getI hm rfl fl_X7_56 rfl dX7_undo_42 ?_
    refine zv_imul dX7_undo_45 ?_
    refine zv_iload_n dX7_undo_46 rfl ?_
    refine zv_iadd dX7_undo_47 ?_
    rw [show zst G m (cpyM g 18 (246 + 228 * s) i) m 6 = nI s by rw [zst_same, cpyM_r (by omega)]; exact h6, mI2]
    refine zv_iald (i := 2) hm rfl (zix_nI (by omega) (by decide)) dX7_undo_48 ?_
    refine zv_iast (i := 1) hm rfl (zix_nI (by omega) (by decide)) dX7_undo_49 ?_
    refine zv_iinc1 dX7_undo_50 rfl (by decide) rfl ?_
    refine zv_goto (tgt := 22) dX7_undo_53 (by decide) ?_
    simp only [zst_same, zst_zst]
    rw [nI_1, ← Nat.add_assoc, cpyM_r (by omega), cpyM_s]
    exact ih hlt

set_option maxRecDepth 100000 in
set_option maxHeartbeats 4000000 in
theorem m_X7_undo (l : Launch) (D : zD) (B : Nat) {L : zL} {nx : Nat} {G : zG} {m : Nat} (hm : (m, 8) ∈ L) {s : Nat} (hs : s ≤ 6) (h0 : 0 < s) (h6 : G m 6 = nI s) : zMet l D B yX7_undo cX7_undo 2 (some .int) 0 0 0 0 [.ref m] L nx G (zE (some (.int (nI (s - 1)))) L nx (zst G m (cpyM (upd (G m) 6 (nI (s - 1))) 18 (246 + 228 * (s - 1)) 228))) := by
  refine zMet_of (own := RX7) (mn := "undo") [some (.ref m), none] (by decide +kernel) rfl rfl rfl (Nat.le_of_ble_eq_true rfl) ?_
  show zV l (fun _ => True) D B RX7 "undo" cX7_undo 2 (some .int) (zrm 0 0 0 0) (zN (zE (some (.int (nI (s - 1)))) L nx (zst G m (cpyM (upd (G m) 6 (nI (s - 1))) 18 (246 + 228 * (s - 1)) 228)))) 0 0 L nx 0 [some (.ref m), none] [] (G)
  refine zv_aload_n dX7_undo_0 rfl ?_
  refine zv_getI hm rfl fl_X7_56 rfl dX7_undo_1 ?_
  rw [h6]
  refine zv_if_ne (tgt := 10) dX7_undo_4 (by decide) (fun _ => ?_) (fun h => absurd h (nI_ne0 (by omega) (by omega)))
  refine zv_aload_n dX7_undo_10 rfl ?_
  refine zv_dup dX7_undo_11 rfl ?_
  refine zv_getI hm rfl fl_X7_56 rfl dX7_undo_12 ?_
  refine zv_iconst (v := 1) dX7_undo_15 (by decide) ?_
  refine zv_isub dX7_undo_16 ?_
  rw [h6, show nI s - 1 = nI (s - 1) by rw [show (1 : Int32) = nI 1 from rfl]; exact pk_sub (by omega)]
  refine zv_putI (t := 8) hm rfl fl_X7_56 ft_X7_6 rfl dX7_undo_17 ?_
  refine zv_iconst (v := 0) dX7_undo_20 (by decide) ?_
  refine zv_istore_n dX7_undo_21 (by decide) rfl ?_
  refine zv_eqG ?_ (lp_X7_undo l D B hm (g := upd (G m) 6 (nI (s - 1))) (by omega) (if_pos rfl) 0 (by omega))
  rw [cpyM_0]

set_option maxRecDepth 100000 in
set_option maxHeartbeats 4000000 in
theorem m_X7_undo_n (l : Launch) (D : zD) (B : Nat) {L : zL} {nx : Nat} {G : zG} {m : Nat} (hm : (m, 8) ∈ L) (h6 : G m 6 = 0) : zMet l D B yX7_undo cX7_undo 2 (some .int) 0 0 0 0 [.ref m] L nx G (zE (some (.int (-5))) L nx (G)) := by
  refine zMet_of (own := RX7) (mn := "undo") [some (.ref m), none] (by decide +kernel) rfl rfl rfl (Nat.le_of_ble_eq_true rfl) ?_
  show zV l (fun _ => True) D B RX7 "undo" cX7_undo 2 (some .int) (zrm 0 0 0 0) (zN (zE (some (.int (-5))) L nx (G))) 0 0 L nx 0 [some (.ref m), none] [] (G)
  refine zv_aload_n dX7_undo_0 rfl ?_
  refine zv_getI hm rfl fl_X7_56 rfl dX7_undo_1 ?_
  rw [h6]
  refine zv_if_ne (tgt := 10) dX7_undo_4 (by decide) (fun h => absurd (rfl) h) (fun _ => ?_)
  refine zv_bipush (v := (-5)) dX7_undo_7 (by decide) ?_
  refine zv_iretE dX7_undo_9 rfl (rfl) ?_ ?_
  · rfl
  · rfl

set_option maxRecDepth 100000 in
set_option maxHeartbeats 4000000 in
theorem lp_X7_save (l : Launch) (D : zD) (B : Nat) {L : zL} {nx : Nat} {G : zG} {m : Nat} (hm : (m, 8) ∈ L) {j : Nat} (hj : j < 2) : ∀ i : Nat, i ≤ 228 → zV l (fun _ => True) D B RX7 "save" cX7_save 3 (some .int) (zrm 1 23 0 0) (zN (zE (some (.int (G m 21))) L nx (zst G m (upd (cpyM (G m) (2070 + 228 * j) 18 228) (2526 + j) 1)))) 0 0 L nx 15 [some (.ref m), some (.int (nI j)), some (.int (nI i))] [] (zst G m (cpyM (G m) (2070 + 228 * j) 18 i)) := by
  refine zloop 228 (fun i hi ih => ?_)
  refine zv_iload_n dX7_save_15 rfl ?_
  refine zv_sipush (v := 228) dX7_save_16 (by decide) ?_
  refine zv_icmp_ge (tgt := 46) dX7_save_19 (by decide) (fun c19 => ?_) (fun c19 => ?_)
  · have e : i = 228 := by have := zge_of (N := 228) (by decide) (by omega) rfl c19; omega
    subst e
    refine zv_aload_n dX7_save_46 rfl ?_
    refine zv_getS (r := 6) hm rfl fl_X7_25 rfl dX7_save_47 ?_
    refine zv_iload_n dX7_save_50 rfl ?_
    refine zv_iconst (v := 1) dX7_save_51 (by decide) ?_
    refine zv_zast (i := 6) hm rfl (zix_nI (by omega) (by decide)) (rfl) dX7_save_52 ?_
    refine zv_aload_n dX7_save_53 rfl ?_
    refine zv_getS (r := 1) hm rfl fl_X7_7 rfl dX7_save_54 ?_
    refine zv_iconst (v := 3) dX7_save_57 (by decide) ?_
    refine zv_iald (i := 1) hm rfl (zix_nI (i := 3) (by omega) (by decide)) dX7_save_58 ?_
    refine zv_iretE dX7_save_59 rfl (rfl) ?_ ?_
    · rw [zst_same, zst_same]
      simp only [upd]
      rw [if_neg (by omega), cpyM_r (by omega)]
    · rw [zst_same, zst_zst, show (1 : Int32) &&& 1 = 1 from by decide]
  · have hlt : i < 228 := zlt_of (N := 228) (by decide) (by omega) rfl c19
    refine zv_aload_n dX7_save_22 rfl ?_
    refine zv_getS (r := 5) hm rfl fl_X7_22 rfl dX7_save_23 ?_
    refine zv_sipush (v := 228) dX7_save_26 (by decide) ?_
    refine zv_iload_n dX7_save_29 rfl ?_
    refine zv_imul dX7_save_30 ?_
    refine zv_iload_n dX7_save_31 rfl ?_
    refine zv_iadd dX7_save_32 ?_
    refine zv_aload_n dX7_save_33 rfl ?_
    refine zv_getS (r := 1) hm rfl fl_X7_7 rfl dX7_save_34 ?_
    refine zv_iload_n dX7_save_37 rfl ?_
    refine zv_iald (i := 1) hm rfl (zix_nI (by omega) (by decide)) dX7_save_38 ?_
    rw [mI2]
    refine zv_iast (i := 5) hm rfl (zix_nI (by omega) (by decide)) dX7_save_39 ?_
    refine zv_iinc1 dX7_save_40 rfl (by decide) rfl ?_
    refine zv_goto (tgt := 15) dX7_save_43 (by decide) ?_
    simp only [zst_same, zst_zst]
    rw [nI_1, cpyM_r (by omega), ← Nat.add_assoc, cpyM_s]
    exact ih hlt

set_option maxRecDepth 100000 in
set_option maxHeartbeats 4000000 in
theorem m_X7_save (l : Launch) (D : zD) (B : Nat) {L : zL} {nx : Nat} {G : zG} {m : Nat} (hm : (m, 8) ∈ L) {j : Nat} (hj : j < 2) : zMet l D B yX7_save cX7_save 3 (some .int) 1 23 0 0 [.ref m, .int (nI j)] L nx G (zE (some (.int (G m 21))) L nx (zst G m (upd (cpyM (G m) (2070 + 228 * j) 18 228) (2526 + j) 1))) := by
  refine zMet_of (own := RX7) (mn := "save") [some (.ref m), some (.int (nI j)), none] (by decide +kernel) rfl rfl rfl (Nat.le_of_ble_eq_true rfl) ?_
  show zV l (fun _ => True) D B RX7 "save" cX7_save 3 (some .int) (zrm 1 23 0 0) (zN (zE (some (.int (G m 21))) L nx (zst G m (upd (cpyM (G m) (2070 + 228 * j) 18 228) (2526 + j) 1)))) 0 0 L nx 0 [some (.ref m), some (.int (nI j)), none] [] (G)
  refine zv_iload_n dX7_save_0 rfl ?_
  refine zv_i2l dX7_save_1 ?_
  refine zv_iconst (v := 0) dX7_save_2 (by decide) ?_
  refine zv_iconst (v := 1) dX7_save_3 (by decide) ?_
  refine zv_callS (m_in3 l D B (nI j) 0 1) ml_X7_44 st_X7_in rfl rfl (Nat.le_of_ble_eq_true rfl) dX7_save_4 ⟨Nat.le_of_ble_eq_true rfl, Nat.le_of_ble_eq_true rfl⟩ ⟨Nat.le_refl _, Nat.le_refl _⟩ (zk_i ?_)
  refine zv_if_ne (tgt := 13) dX7_save_7 (by decide) (fun _ => ?_) (fun h => absurd h (by rw [slI_in hj]; decide))
  refine zv_iconst (v := 0) dX7_save_13 (by decide) ?_
  refine zv_istore_n dX7_save_14 (by decide) rfl ?_
  refine zv_eqG ?_ (lp_X7_save l D B hm hj 0 (by omega))
  rw [cpyM_0, zst_self]

set_option maxRecDepth 100000 in
set_option maxHeartbeats 4000000 in
theorem m_X7_save_n (l : Launch) (D : zD) (B : Nat) {L : zL} {nx : Nat} {G : zG} {m : Nat} (hm : (m, 8) ∈ L) {v : Int32} (hz : slI v = none) : zMet l D B yX7_save cX7_save 3 (some .int) 1 23 0 0 [.ref m, .int v] L nx G (zE (some (.int (-2))) L nx (G)) := by
  refine zMet_of (own := RX7) (mn := "save") [some (.ref m), some (.int v), none] (by decide +kernel) rfl rfl rfl (Nat.le_of_ble_eq_true rfl) ?_
  show zV l (fun _ => True) D B RX7 "save" cX7_save 3 (some .int) (zrm 1 23 0 0) (zN (zE (some (.int (-2))) L nx (G))) 0 0 L nx 0 [some (.ref m), some (.int v), none] [] (G)
  refine zv_iload_n dX7_save_0 rfl ?_
  refine zv_i2l dX7_save_1 ?_
  refine zv_iconst (v := 0) dX7_save_2 (by decide) ?_
  refine zv_iconst (v := 1) dX7_save_3 (by decide) ?_
  refine zv_callS (m_in3 l D B v 0 1) ml_X7_44 st_X7_in rfl rfl (Nat.le_of_ble_eq_true rfl) dX7_save_4 ⟨Nat.le_of_ble_eq_true rfl, Nat.le_of_ble_eq_true rfl⟩ ⟨Nat.le_refl _, Nat.le_refl _⟩ (zk_i ?_)
  refine zv_if_ne (tgt := 13) dX7_save_7 (by decide) (fun h => absurd (by rw [slI_none hz]; rfl) h) (fun _ => ?_)
  refine zv_bipush (v := (-2)) dX7_save_10 (by decide) ?_
  refine zv_iretE dX7_save_12 rfl (rfl) ?_ ?_
  · rfl
  · rfl
