set_option maxRecDepth 100000 in
set_option maxHeartbeats 4000000 in
theorem m_X3_readMany_0 (l : Launch) (D : zD) (B : Nat) {L : zL} {nx : Nat} {G : zG} {p n i : Nat} {T : Nat → Nat} (hp : zPT L G p T n) (hi : G p 2 = nI i) (hin : i ≤ n) (hs : ¬ sg T n i = 42) : zMet l D B yX3_readMany cX3_readMany 1 (some .boolean) 3 65 0 0 [.ref p] L nx G (zE (some (.int 1)) L nx (zst G p (upd (G p) 6 1))) := by
  refine zMet_of (own := RX3) (mn := "readMany") [some (.ref p)] (by decide +kernel) rfl rfl rfl (Nat.le_of_ble_eq_true rfl) ?_
  show zV l (fun _ => True) D B RX3 "readMany" cX3_readMany 1 (some .boolean) (zrm 3 65 0 0) (zN (zE (some (.int 1)) L nx (zst G p (upd (G p) 6 1)))) 0 0 L nx 0 [some (.ref p)] [] (G)
  refine zv_aload_n dX3_readMany_0 rfl ?_
  refine zv_aload_n dX3_readMany_1 rfl ?_
  refine zv_bipush (v := 42) dX3_readMany_2 (by decide) ?_
  refine zv_callV (m_X3_skip_n l D B (w := 42) hp hi hin rfl (by decide) hs) ml_X3_29 in_X3_skip sel_X3_skip hp.1 rfl rfl rfl rfl (Nat.le_of_ble_eq_true rfl) dX3_readMany_4 ⟨Nat.le_of_ble_eq_true rfl, Nat.le_of_ble_eq_true rfl⟩ ⟨Nat.le_refl _, Nat.le_refl _⟩ (zk_i ?_)
  refine zv_if_eq (tgt := 17) dX3_readMany_7 (by decide) (fun _ => ?_) (fun h => absurd (rfl) h)
  refine zv_iconst (v := 1) dX3_readMany_17 (by decide) ?_
  refine zv_putI (t := 7) hp.1 rfl fl_X3_63 ft_X3_6 rfl dX3_readMany_18 ?_
  refine zv_aload_n dX3_readMany_21 rfl ?_
  refine zv_getI hp.1 rfl fl_X3_63 rfl dX3_readMany_22 ?_
  rw [zst_same, show upd (G p) 6 1 6 = 1 from rfl]
  refine zv_if_lt (tgt := 32) dX3_readMany_25 (by decide) (fun h => absurd h (by decide)) (fun _ => ?_)
  refine zv_iconst (v := 1) dX3_readMany_28 (by decide) ?_
  refine zv_goto (tgt := 33) dX3_readMany_29 (by decide) ?_
  refine zv_iretE dX3_readMany_33 rfl (by first | rfl | exact bI_nar _) ?_ ?_
  · rfl
  · rfl

set_option maxRecDepth 100000 in
set_option maxHeartbeats 4000000 in
theorem m_X3_readMany_1 (l : Launch) (D : zD) (B : Nat) {L : zL} {nx : Nat} {G : zG} {p n i : Nat} {T : Nat → Nat} (hp : zPT L G p T n) (hi : G p 2 = nI i) (hin : i ≤ n) (hs : sg T n i = 42) (hz : zdg T n (i + 1) = true) : zMet l D B yX3_readMany cX3_readMany 1 (some .boolean) 3 65 0 0 [.ref p] L nx G (zE (some (.int 1)) L nx (zst G p (upd (upd (upd (G p) 2 (nI (i + 1))) 2 (nI (rdN T n (i + 1)).2)) 6 (nI (rdN T n (i + 1)).1)))) := by
  refine zMet_of (own := RX3) (mn := "readMany") [some (.ref p)] (by decide +kernel) rfl rfl rfl (Nat.le_of_ble_eq_true rfl) ?_
  show zV l (fun _ => True) D B RX3 "readMany" cX3_readMany 1 (some .boolean) (zrm 3 65 0 0) (zN (zE (some (.int 1)) L nx (zst G p (upd (upd (upd (G p) 2 (nI (i + 1))) 2 (nI (rdN T n (i + 1)).2)) 6 (nI (rdN T n (i + 1)).1))))) 0 0 L nx 0 [some (.ref p)] [] (G)
  have hlt : i < n := by
    rcases Nat.lt_or_ge i n with h | h
    · exact h
    · simp only [sg, if_neg (Nat.not_lt.mpr h)] at hs; omega
  refine zv_aload_n dX3_readMany_0 rfl ?_
  refine zv_aload_n dX3_readMany_1 rfl ?_
  refine zv_bipush (v := 42) dX3_readMany_2 (by decide) ?_
  refine zv_callV (m_X3_skip l D B (w := 42) hp hi hin rfl (by decide) hs) ml_X3_29 in_X3_skip sel_X3_skip hp.1 rfl rfl rfl rfl (Nat.le_of_ble_eq_true rfl) dX3_readMany_4 ⟨Nat.le_of_ble_eq_true rfl, Nat.le_of_ble_eq_true rfl⟩ ⟨Nat.le_refl _, Nat.le_refl _⟩ (zk_i ?_)
  refine zv_if_eq (tgt := 17) dX3_readMany_7 (by decide) (fun h => absurd h (by decide)) (fun _ => ?_)
  refine zv_aload_n dX3_readMany_10 rfl ?_
  refine zv_callV (m_X3_takeNumber l D B (by exact zPT_upd hp rfl (fun j hj => by have h2 : j ≠ 2 := (by omega); have h3 : j ≠ 3 := (by omega); have h4 : j ≠ 4 := (by omega); have h5 : j ≠ 5 := (by omega); have h6 : j ≠ 6 := (by omega); simp [upd, h2, h3, h4, h5, h6])) (by rw [zst_same]; rfl) (by omega) hz) ml_X3_57 in_X3_takeNumber sel_X3_takeNumber hp.1 rfl rfl rfl rfl (Nat.le_of_ble_eq_true rfl) dX3_readMany_11 ⟨Nat.le_of_ble_eq_true rfl, Nat.le_of_ble_eq_true rfl⟩ ⟨Nat.le_refl _, Nat.le_refl _⟩ (zk_i ?_)
  simp only [zst_same, zst_zst]
  have hrn := rdN_le hz
  refine zv_goto (tgt := 18) dX3_readMany_14 (by decide) ?_
  refine zv_putI (t := 7) hp.1 rfl fl_X3_63 ft_X3_6 rfl dX3_readMany_18 ?_
  refine zv_aload_n dX3_readMany_21 rfl ?_
  refine zv_getI hp.1 rfl fl_X3_63 rfl dX3_readMany_22 ?_
  simp only [zst_same, zst_zst]
  rw [show upd (upd (upd (G p) 2 (nI (i + 1))) 2 (nI (rdN T n (i + 1)).2)) 6 (nI (rdN T n (i + 1)).1) 6 = nI (rdN T n (i + 1)).1 from rfl]
  refine zv_if_lt (tgt := 32) dX3_readMany_25 (by decide) (fun h => absurd h (nI_pos (by omega))) (fun _ => ?_)
  refine zv_iconst (v := 1) dX3_readMany_28 (by decide) ?_
  refine zv_goto (tgt := 33) dX3_readMany_29 (by decide) ?_
  refine zv_iretE dX3_readMany_33 rfl (by first | rfl | exact bI_nar _) ?_ ?_
  · rfl
  · rfl

set_option maxRecDepth 100000 in
set_option maxHeartbeats 4000000 in
theorem m_X3_readMany_2 (l : Launch) (D : zD) (B : Nat) {L : zL} {nx : Nat} {G : zG} {p n i : Nat} {T : Nat → Nat} (hp : zPT L G p T n) (hi : G p 2 = nI i) (hin : i ≤ n) (hs : sg T n i = 42) (hz : zdg T n (i + 1) = false) : zMet l D B yX3_readMany cX3_readMany 1 (some .boolean) 3 65 0 0 [.ref p] L nx G (zE (some (.int 0)) L nx (zst G p (upd (upd (G p) 2 (nI (i + 1))) 6 (-6)))) := by
  refine zMet_of (own := RX3) (mn := "readMany") [some (.ref p)] (by decide +kernel) rfl rfl rfl (Nat.le_of_ble_eq_true rfl) ?_
  show zV l (fun _ => True) D B RX3 "readMany" cX3_readMany 1 (some .boolean) (zrm 3 65 0 0) (zN (zE (some (.int 0)) L nx (zst G p (upd (upd (G p) 2 (nI (i + 1))) 6 (-6))))) 0 0 L nx 0 [some (.ref p)] [] (G)
  have hlt : i < n := by
    rcases Nat.lt_or_ge i n with h | h
    · exact h
    · simp only [sg, if_neg (Nat.not_lt.mpr h)] at hs; omega
  refine zv_aload_n dX3_readMany_0 rfl ?_
  refine zv_aload_n dX3_readMany_1 rfl ?_
  refine zv_bipush (v := 42) dX3_readMany_2 (by decide) ?_
  refine zv_callV (m_X3_skip l D B (w := 42) hp hi hin rfl (by decide) hs) ml_X3_29 in_X3_skip sel_X3_skip hp.1 rfl rfl rfl rfl (Nat.le_of_ble_eq_true rfl) dX3_readMany_4 ⟨Nat.le_of_ble_eq_true rfl, Nat.le_of_ble_eq_true rfl⟩ ⟨Nat.le_refl _, Nat.le_refl _⟩ (zk_i ?_)
  refine zv_if_eq (tgt := 17) dX3_readMany_7 (by decide) (fun h => absurd h (by decide)) (fun _ => ?_)
  refine zv_aload_n dX3_readMany_10 rfl ?_
  refine zv_callV (m_X3_takeNumber_n l D B (by exact zPT_upd hp rfl (fun j hj => by have h2 : j ≠ 2 := (by omega); have h3 : j ≠ 3 := (by omega); have h4 : j ≠ 4 := (by omega); have h5 : j ≠ 5 := (by omega); have h6 : j ≠ 6 := (by omega); simp [upd, h2, h3, h4, h5, h6])) (by rw [zst_same]; rfl) (by omega) hz) ml_X3_57 in_X3_takeNumber sel_X3_takeNumber hp.1 rfl rfl rfl rfl (Nat.le_of_ble_eq_true rfl) dX3_readMany_11 ⟨Nat.le_of_ble_eq_true rfl, Nat.le_of_ble_eq_true rfl⟩ ⟨Nat.le_refl _, Nat.le_refl _⟩ (zk_i ?_)
  refine zv_goto (tgt := 18) dX3_readMany_14 (by decide) ?_
  refine zv_putI (t := 7) hp.1 rfl fl_X3_63 ft_X3_6 rfl dX3_readMany_18 ?_
  refine zv_aload_n dX3_readMany_21 rfl ?_
  refine zv_getI hp.1 rfl fl_X3_63 rfl dX3_readMany_22 ?_
  simp only [zst_same, zst_zst]
  rw [show upd (upd (G p) 2 (nI (i + 1))) 6 (-6) 6 = -6 from rfl]
  refine zv_if_lt (tgt := 32) dX3_readMany_25 (by decide) (fun _ => ?_) (fun h => absurd (by decide) h)
  refine zv_iconst (v := 0) dX3_readMany_32 (by decide) ?_
  refine zv_iretE dX3_readMany_33 rfl (by first | rfl | exact bI_nar _) ?_ ?_
  · rfl
  · rfl

set_option maxRecDepth 100000 in
set_option maxHeartbeats 4000000 in
theorem m_X3_readOrder (l : Launch) (D : zD) (B : Nat) {L : zL} {nx : Nat} {G : zG} {p n i : Nat} {T : Nat → Nat} (hp : zPT L G p T n) (hi : G p 2 = nI i) (hin : i ≤ n) : zMet l D B yX3_readOrder cX3_readOrder 1 (some .boolean) 4 85 0 0 [.ref p] L nx G (zI (bI (rdO T n i).1) L nx (fun G1 => ∃ g, G1 = zst G p g ∧ roOK T n i (G p) g)) := by
  refine zMet_of (own := RX3) (mn := "readOrder") [some (.ref p)] (by decide +kernel) rfl rfl rfl (Nat.le_of_ble_eq_true rfl) ?_
  show zV l (fun _ => True) D B RX3 "readOrder" cX3_readOrder 1 (some .boolean) (zrm 4 85 0 0) (zN (zI (bI (rdO T n i).1) L nx (fun G1 => ∃ g, G1 = zst G p g ∧ roOK T n i (G p) g))) 0 0 L nx 0 [some (.ref p)] [] (G)
  have hn80 := hp.2.1
  have hsl := sg_lt hp i
  refine zv_aload_n dX3_readOrder_0 rfl ?_
  refine zv_aload_n dX3_readOrder_1 rfl ?_
  refine zv_callV (m_X3_signHere l D B hp hi hin) ml_X3_33 in_X3_signHere sel_X3_signHere hp.1 rfl rfl rfl rfl (Nat.le_of_ble_eq_true rfl) dX3_readOrder_2 ⟨Nat.le_of_ble_eq_true rfl, Nat.le_of_ble_eq_true rfl⟩ ⟨Nat.le_refl _, Nat.le_refl _⟩ (zk_i ?_)
  refine zv_putC hp.1 rfl fl_X3_37 ft_X3_3 rfl (show sg T n i < 65536 by omega) dX3_readOrder_5 ?_
  refine zv_aload_n dX3_readOrder_8 rfl ?_
  refine zv_getI hp.1 rfl fl_X3_37 rfl dX3_readOrder_9 ?_
  rw [zst_same, show upd (G p) 3 (nI (sg T n i)) 3 = nI (sg T n i) from rfl]
  have hi2 : upd (G p) 3 (nI (sg T n i)) 2 = nI i := hi
  have hlt : sg T n i ≠ 0 → i < n := fun h => by
    rcases Nat.lt_or_ge i n with g | g
    · exact g
    · exact absurd (by simp only [sg, if_neg (Nat.not_lt.mpr g)]) h
  rcases (show sg T n i = 99 ∨ (¬ sg T n i = 99 ∧ sg T n i = 117) ∨ (¬ sg T n i = 99 ∧ ¬ sg T n i = 117 ∧ sg T n i = 115) ∨ (¬ sg T n i = 99 ∧ ¬ sg T n i = 117 ∧ ¬ sg T n i = 115 ∧ sg T n i = 112) ∨ (¬ sg T n i = 99 ∧ ¬ sg T n i = 117 ∧ ¬ sg T n i = 115 ∧ ¬ sg T n i = 112) by omega) with k99 | ⟨k99, k117⟩ | ⟨k99, k117, k115⟩ | ⟨k99, k117, k115, k112⟩ | ⟨k99, k117, k115, k112⟩
  · refine zv_lookup (off := 44) (tgt := 56) dX3_readOrder_12 (by decide +kernel) (by rw [k99]; decide +kernel) (by decide) ?_
    refine zv_aload_n dX3_readOrder_56 rfl ?_
    refine zv_dup dX3_readOrder_57 rfl ?_
    refine zv_getI hp.1 rfl fl_X3_19 rfl dX3_readOrder_58 ?_
    refine zv_iconst (v := 1) dX3_readOrder_61 (by decide) ?_
    refine zv_iadd dX3_readOrder_62 ?_
    rw [zst_same, hi2, nI_1]
    refine zv_putI (t := 7) hp.1 rfl fl_X3_19 ft_X3_2 rfl dX3_readOrder_63 ?_
    simp only [zst_same, zst_zst]
    refine zv_aload_n dX3_readOrder_66 rfl ?_
    have hlt1 := hlt (by omega)
    cases hz : zdg T n (i + 1)
    · refine zv_callV (m_X3_readNumber_n l D B (by exact zPT_upd hp rfl (fun j hj => by have h2 : j ≠ 2 := (by omega); have h3 : j ≠ 3 := (by omega); have h4 : j ≠ 4 := (by omega); have h5 : j ≠ 5 := (by omega); have h6 : j ≠ 6 := (by omega); simp [upd, h2, h3, h4, h5, h6])) (by rw [zst_same]; rfl) (by omega) hz) ml_X3_41 in_X3_readNumber sel_X3_readNumber hp.1 rfl rfl rfl rfl (Nat.le_of_ble_eq_true rfl) dX3_readOrder_67 ⟨Nat.le_of_ble_eq_true rfl, Nat.le_of_ble_eq_true rfl⟩ ⟨Nat.le_refl _, Nat.le_refl _⟩ (zk_i ?_)
      simp only [zst_same, zst_zst]
      have hr : rdO T n i = (false, i + 1, 0, 0, 1) := by
        unfold rdO
        rw [if_pos k99, hz]; rfl
      refine zv_iretI dX3_readOrder_70 rfl rfl (by rw [hr]; rfl) ⟨_, rfl, ?_⟩
      unfold roOK
      rw [hr]
      refine ⟨rfl, (fun j hj => by have h2 : j ≠ 2 := (by omega); have h3 : j ≠ 3 := (by omega); have h4 : j ≠ 4 := (by omega); have h5 : j ≠ 5 := (by omega); have h6 : j ≠ 6 := (by omega); simp [upd, h2, h3, h4, h5, h6]), rfl, fun hb => ?_⟩
      cases hb
    · refine zv_callV (m_X3_readNumber l D B (by exact zPT_upd hp rfl (fun j hj => by have h2 : j ≠ 2 := (by omega); have h3 : j ≠ 3 := (by omega); have h4 : j ≠ 4 := (by omega); have h5 : j ≠ 5 := (by omega); have h6 : j ≠ 6 := (by omega); simp [upd, h2, h3, h4, h5, h6])) (by rw [zst_same]; rfl) (by omega) hz) ml_X3_41 in_X3_readNumber sel_X3_readNumber hp.1 rfl rfl rfl rfl (Nat.le_of_ble_eq_true rfl) dX3_readOrder_67 ⟨Nat.le_of_ble_eq_true rfl, Nat.le_of_ble_eq_true rfl⟩ ⟨Nat.le_refl _, Nat.le_refl _⟩ (zk_i ?_)
      simp only [zst_same, zst_zst]
      have hr : rdO T n i = (true, (rdN T n (i + 1)).2, 0, (rdN T n (i + 1)).1, 1) := by
        unfold rdO
        rw [if_pos k99, hz]; rfl
      refine zv_iretI dX3_readOrder_70 rfl rfl (by rw [hr]; rfl) ⟨_, rfl, ?_⟩
      unfold roOK
      rw [hr]
      refine ⟨rfl, (fun j hj => by have h2 : j ≠ 2 := (by omega); have h3 : j ≠ 3 := (by omega); have h4 : j ≠ 4 := (by omega); have h5 : j ≠ 5 := (by omega); have h6 : j ≠ 6 := (by omega); simp [upd, h2, h3, h4, h5, h6]), rfl, fun hb => ?_⟩
      exact ⟨rfl, fun h => by first | rfl | (exfalso; omega), fun h => by first | rfl | (exfalso; omega), fun h => by first | exact ⟨rfl, rfl, rfl⟩ | (exfalso; omega)⟩
  · refine zv_lookup (off := 59) (tgt := 71) dX3_readOrder_12 (by decide +kernel) (by rw [k117]; decide +kernel) (by decide) ?_
    refine zv_aload_n dX3_readOrder_71 rfl ?_
    refine zv_dup dX3_readOrder_72 rfl ?_
    refine zv_getI hp.1 rfl fl_X3_19 rfl dX3_readOrder_73 ?_
    refine zv_iconst (v := 1) dX3_readOrder_76 (by decide) ?_
    refine zv_iadd dX3_readOrder_77 ?_
    rw [zst_same, hi2, nI_1]
    refine zv_putI (t := 7) hp.1 rfl fl_X3_19 ft_X3_2 rfl dX3_readOrder_78 ?_
    simp only [zst_same, zst_zst]
    refine zv_iconst (v := 1) dX3_readOrder_81 (by decide) ?_
    have hr : rdO T n i = (true, i + 1, 0, 0, 1) := by
      unfold rdO
      rw [if_neg k99, if_pos k117]
    refine zv_iretI dX3_readOrder_82 rfl rfl (by rw [hr]; rfl) ⟨_, rfl, ?_⟩
    unfold roOK
    rw [hr]
    refine ⟨rfl, (fun j hj => by have h2 : j ≠ 2 := (by omega); have h3 : j ≠ 3 := (by omega); have h4 : j ≠ 4 := (by omega); have h5 : j ≠ 5 := (by omega); have h6 : j ≠ 6 := (by omega); simp [upd, h2, h3, h4, h5, h6]), rfl, fun hb => ?_⟩
    exact ⟨rfl, fun h => by first | rfl | (exfalso; omega), fun h => by first | rfl | (exfalso; omega), fun h => by first | exact ⟨rfl, rfl, rfl⟩ | (exfalso; omega)⟩
  · refine zv_lookup (off := 117) (tgt := 129) dX3_readOrder_12 (by decide +kernel) (by rw [k115]; decide +kernel) (by decide) ?_
    refine zv_aload_n dX3_readOrder_129 rfl ?_
    refine zv_dup dX3_readOrder_130 rfl ?_
    refine zv_getI hp.1 rfl fl_X3_19 rfl dX3_readOrder_131 ?_
    refine zv_iconst (v := 1) dX3_readOrder_134 (by decide) ?_
    refine zv_iadd dX3_readOrder_135 ?_
    rw [zst_same, hi2, nI_1]
    refine zv_putI (t := 7) hp.1 rfl fl_X3_19 ft_X3_2 rfl dX3_readOrder_136 ?_
    simp only [zst_same, zst_zst]
    refine zv_aload_n dX3_readOrder_139 rfl ?_
    have hlt1 := hlt (by omega)
    cases hz : zdg T n (i + 1)
    · refine zv_callV (m_X3_readCup_n l D B (by exact zPT_upd hp rfl (fun j hj => by have h2 : j ≠ 2 := (by omega); have h3 : j ≠ 3 := (by omega); have h4 : j ≠ 4 := (by omega); have h5 : j ≠ 5 := (by omega); have h6 : j ≠ 6 := (by omega); simp [upd, h2, h3, h4, h5, h6])) (by rw [zst_same]; rfl) (by omega) hz) ml_X3_44 in_X3_readCup sel_X3_readCup hp.1 rfl rfl rfl rfl (Nat.le_of_ble_eq_true rfl) dX3_readOrder_140 ⟨Nat.le_of_ble_eq_true rfl, Nat.le_of_ble_eq_true rfl⟩ ⟨Nat.le_refl _, Nat.le_refl _⟩ (zk_i ?_)
      simp only [zst_same, zst_zst]
      have hr : rdO T n i = (false, i + 1, 0, 0, 1) := by
        unfold rdO
        rw [if_neg k99, if_neg k117, if_pos k115, hz]; rfl
      refine zv_iretI dX3_readOrder_143 rfl rfl (by rw [hr]; rfl) ⟨_, rfl, ?_⟩
      unfold roOK
      rw [hr]
      refine ⟨rfl, (fun j hj => by have h2 : j ≠ 2 := (by omega); have h3 : j ≠ 3 := (by omega); have h4 : j ≠ 4 := (by omega); have h5 : j ≠ 5 := (by omega); have h6 : j ≠ 6 := (by omega); simp [upd, h2, h3, h4, h5, h6]), rfl, fun hb => ?_⟩
      cases hb
    · refine zv_callV (m_X3_readCup l D B (by exact zPT_upd hp rfl (fun j hj => by have h2 : j ≠ 2 := (by omega); have h3 : j ≠ 3 := (by omega); have h4 : j ≠ 4 := (by omega); have h5 : j ≠ 5 := (by omega); have h6 : j ≠ 6 := (by omega); simp [upd, h2, h3, h4, h5, h6])) (by rw [zst_same]; rfl) (by omega) hz) ml_X3_44 in_X3_readCup sel_X3_readCup hp.1 rfl rfl rfl rfl (Nat.le_of_ble_eq_true rfl) dX3_readOrder_140 ⟨Nat.le_of_ble_eq_true rfl, Nat.le_of_ble_eq_true rfl⟩ ⟨Nat.le_refl _, Nat.le_refl _⟩ (zk_i ?_)
      simp only [zst_same, zst_zst]
      have hr : rdO T n i = (true, i + 2, sg T n (i + 1) - 48, 0, 1) := by
        unfold rdO
        rw [if_neg k99, if_neg k117, if_pos k115, hz]; rfl
      refine zv_iretI dX3_readOrder_143 rfl rfl (by rw [hr]; rfl) ⟨_, rfl, ?_⟩
      unfold roOK
      rw [hr]
      refine ⟨rfl, (fun j hj => by have h2 : j ≠ 2 := (by omega); have h3 : j ≠ 3 := (by omega); have h4 : j ≠ 4 := (by omega); have h5 : j ≠ 5 := (by omega); have h6 : j ≠ 6 := (by omega); simp [upd, h2, h3, h4, h5, h6]), rfl, fun hb => ?_⟩
      exact ⟨rfl, fun h => by first | rfl | (exfalso; omega), fun h => by first | rfl | (exfalso; omega), fun h => by first | exact ⟨rfl, rfl, rfl⟩ | (exfalso; omega)⟩
  · refine zv_lookup (off := 71) (tgt := 83) dX3_readOrder_12 (by decide +kernel) (by rw [k112]; decide +kernel) (by decide) ?_
    refine zv_aload_n dX3_readOrder_83 rfl ?_
    refine zv_dup dX3_readOrder_84 rfl ?_
    refine zv_getI hp.1 rfl fl_X3_19 rfl dX3_readOrder_85 ?_
    refine zv_iconst (v := 1) dX3_readOrder_88 (by decide) ?_
    refine zv_iadd dX3_readOrder_89 ?_
    rw [zst_same, hi2, nI_1]
    refine zv_putI (t := 7) hp.1 rfl fl_X3_19 ft_X3_2 rfl dX3_readOrder_90 ?_
    simp only [zst_same, zst_zst]
    refine zv_aload_n dX3_readOrder_93 rfl ?_
    have hlt1 := hlt (by omega)
    cases hz : zdg T n (i + 1)
    · refine zv_callV (m_X3_readCup_n l D B (by exact zPT_upd hp rfl (fun j hj => by have h2 : j ≠ 2 := (by omega); have h3 : j ≠ 3 := (by omega); have h4 : j ≠ 4 := (by omega); have h5 : j ≠ 5 := (by omega); have h6 : j ≠ 6 := (by omega); simp [upd, h2, h3, h4, h5, h6])) (by rw [zst_same]; rfl) (by omega) hz) ml_X3_44 in_X3_readCup sel_X3_readCup hp.1 rfl rfl rfl rfl (Nat.le_of_ble_eq_true rfl) dX3_readOrder_94 ⟨Nat.le_of_ble_eq_true rfl, Nat.le_of_ble_eq_true rfl⟩ ⟨Nat.le_refl _, Nat.le_refl _⟩ (zk_i ?_)
      simp only [zst_same, zst_zst]
      refine zv_if_eq (tgt := 127) dX3_readOrder_97 (by decide) (fun _ => ?_) (fun h => absurd (rfl) h)
      refine zv_iconst (v := 0) dX3_readOrder_127 (by decide) ?_
      have hr : rdO T n i = (false, i + 1, 0, 0, 1) := by
        unfold rdO
        rw [if_neg k99, if_neg k117, if_neg k115, if_pos k112, hz]; rfl
      refine zv_iretI dX3_readOrder_128 rfl rfl (by rw [hr]; rfl) ⟨_, rfl, ?_⟩
      unfold roOK
      rw [hr]
      refine ⟨rfl, (fun j hj => by have h2 : j ≠ 2 := (by omega); have h3 : j ≠ 3 := (by omega); have h4 : j ≠ 4 := (by omega); have h5 : j ≠ 5 := (by omega); have h6 : j ≠ 6 := (by omega); simp [upd, h2, h3, h4, h5, h6]), rfl, fun hb => ?_⟩
      cases hb
    · refine zv_callV (m_X3_readCup l D B (by exact zPT_upd hp rfl (fun j hj => by have h2 : j ≠ 2 := (by omega); have h3 : j ≠ 3 := (by omega); have h4 : j ≠ 4 := (by omega); have h5 : j ≠ 5 := (by omega); have h6 : j ≠ 6 := (by omega); simp [upd, h2, h3, h4, h5, h6])) (by rw [zst_same]; rfl) (by omega) hz) ml_X3_44 in_X3_readCup sel_X3_readCup hp.1 rfl rfl rfl rfl (Nat.le_of_ble_eq_true rfl) dX3_readOrder_94 ⟨Nat.le_of_ble_eq_true rfl, Nat.le_of_ble_eq_true rfl⟩ ⟨Nat.le_refl _, Nat.le_refl _⟩ (zk_i ?_)
      simp only [zst_same, zst_zst]
      refine zv_if_eq (tgt := 127) dX3_readOrder_97 (by decide) (fun h => absurd h (by decide)) (fun _ => ?_)
      refine zv_aload_n dX3_readOrder_100 rfl ?_
      refine zv_bipush (v := 46) dX3_readOrder_101 (by decide) ?_
      obtain ⟨z1, z2, z3⟩ := zdg_lt hz
      by_cases hs : sg T n (i + 2) = 46
      · refine zv_callV (m_X3_skip l D B (i := i + 2) (w := 46) (by exact zPT_upd hp rfl (fun j hj => by have h2 : j ≠ 2 := (by omega); have h3 : j ≠ 3 := (by omega); have h4 : j ≠ 4 := (by omega); have h5 : j ≠ 5 := (by omega); have h6 : j ≠ 6 := (by omega); simp [upd, h2, h3, h4, h5, h6])) (by rw [zst_same]; rfl) (by omega) rfl (by decide) hs) ml_X3_29 in_X3_skip sel_X3_skip hp.1 rfl rfl rfl rfl (Nat.le_of_ble_eq_true rfl) dX3_readOrder_103 ⟨Nat.le_of_ble_eq_true rfl, Nat.le_of_ble_eq_true rfl⟩ ⟨Nat.le_refl _, Nat.le_refl _⟩ (zk_i ?_)
        simp only [zst_same, zst_zst]
        have hlt2 : i + 2 < n := by
          rcases Nat.lt_or_ge (i + 2) n with g | g
          · exact g
          · simp only [sg, if_neg (Nat.not_lt.mpr g)] at hs; omega
        refine zv_if_eq (tgt := 127) dX3_readOrder_106 (by decide) (fun h => absurd h (by decide)) (fun _ => ?_)
        refine zv_aload_n dX3_readOrder_109 rfl ?_
        cases hz3 : zdg T n (i + 3)
        · refine zv_callV (m_X3_readNumber_n l D B (by exact zPT_upd hp rfl (fun j hj => by have h2 : j ≠ 2 := (by omega); have h3 : j ≠ 3 := (by omega); have h4 : j ≠ 4 := (by omega); have h5 : j ≠ 5 := (by omega); have h6 : j ≠ 6 := (by omega); simp [upd, h2, h3, h4, h5, h6])) (by rw [zst_same]; rfl) (by omega) hz3) ml_X3_41 in_X3_readNumber sel_X3_readNumber hp.1 rfl rfl rfl rfl (Nat.le_of_ble_eq_true rfl) dX3_readOrder_110 ⟨Nat.le_of_ble_eq_true rfl, Nat.le_of_ble_eq_true rfl⟩ ⟨Nat.le_refl _, Nat.le_refl _⟩ (zk_i ?_)
          simp only [zst_same, zst_zst]
          refine zv_if_eq (tgt := 127) dX3_readOrder_113 (by decide) (fun _ => ?_) (fun h => absurd (rfl) h)
          refine zv_iconst (v := 0) dX3_readOrder_127 (by decide) ?_
          have hr : rdO T n i = (false, i + 3, 0, 0, 1) := by
            unfold rdO
            rw [if_neg k99, if_neg k117, if_neg k115, if_pos k112, hz, if_pos hs, hz3]; rfl
          refine zv_iretI dX3_readOrder_128 rfl rfl (by rw [hr]; rfl) ⟨_, rfl, ?_⟩
          unfold roOK
          rw [hr]
          refine ⟨rfl, (fun j hj => by have h2 : j ≠ 2 := (by omega); have h3 : j ≠ 3 := (by omega); have h4 : j ≠ 4 := (by omega); have h5 : j ≠ 5 := (by omega); have h6 : j ≠ 6 := (by omega); simp [upd, h2, h3, h4, h5, h6]), rfl, fun hb => ?_⟩
          cases hb
        · refine zv_callV (m_X3_readNumber l D B (by exact zPT_upd hp rfl (fun j hj => by have h2 : j ≠ 2 := (by omega); have h3 : j ≠ 3 := (by omega); have h4 : j ≠ 4 := (by omega); have h5 : j ≠ 5 := (by omega); have h6 : j ≠ 6 := (by omega); simp [upd, h2, h3, h4, h5, h6])) (by rw [zst_same]; rfl) (by omega) hz3) ml_X3_41 in_X3_readNumber sel_X3_readNumber hp.1 rfl rfl rfl rfl (Nat.le_of_ble_eq_true rfl) dX3_readOrder_110 ⟨Nat.le_of_ble_eq_true rfl, Nat.le_of_ble_eq_true rfl⟩ ⟨Nat.le_refl _, Nat.le_refl _⟩ (zk_i ?_)
          simp only [zst_same, zst_zst]
          have hrn := rdN_le hz3
          refine zv_if_eq (tgt := 127) dX3_readOrder_113 (by decide) (fun h => absurd h (by decide)) (fun _ => ?_)
          refine zv_aload_n dX3_readOrder_116 rfl ?_
          rcases (show (sg T n (rdN T n (i + 3)).2 = 42 ∧ zdg T n ((rdN T n (i + 3)).2 + 1) = false) ∨ (sg T n (rdN T n (i + 3)).2 = 42 ∧ zdg T n ((rdN T n (i + 3)).2 + 1) = true) ∨ ¬ sg T n (rdN T n (i + 3)).2 = 42 by cases zdg T n ((rdN T n (i + 3)).2 + 1) <;> simp <;> omega) with ⟨hs4, hz5⟩ | ⟨hs4, hz5⟩ | hs4
          · refine zv_callV (m_X3_readMany_2 l D B (by exact zPT_upd hp rfl (fun j hj => by have h2 : j ≠ 2 := (by omega); have h3 : j ≠ 3 := (by omega); have h4 : j ≠ 4 := (by omega); have h5 : j ≠ 5 := (by omega); have h6 : j ≠ 6 := (by omega); simp [upd, h2, h3, h4, h5, h6])) (by rw [zst_same]; rfl) (by omega) hs4 hz5) ml_X3_47 in_X3_readMany sel_X3_readMany hp.1 rfl rfl rfl rfl (Nat.le_of_ble_eq_true rfl) dX3_readOrder_117 ⟨Nat.le_of_ble_eq_true rfl, Nat.le_of_ble_eq_true rfl⟩ ⟨Nat.le_refl _, Nat.le_refl _⟩ (zk_i ?_)
            simp only [zst_same, zst_zst]
            refine zv_if_eq (tgt := 127) dX3_readOrder_120 (by decide) (fun _ => ?_) (fun h => absurd (rfl) h)
            refine zv_iconst (v := 0) dX3_readOrder_127 (by decide) ?_
            have hr : rdO T n i = (false, (rdN T n (i + 3)).2 + 1, 0, 0, 1) := by
              unfold rdO
              rw [if_neg k99, if_neg k117, if_neg k115, if_pos k112, hz, if_pos hs, hz3, if_pos hs4, hz5]; rfl
            refine zv_iretI dX3_readOrder_128 rfl rfl (by rw [hr]; rfl) ⟨_, rfl, ?_⟩
            unfold roOK
            rw [hr]
            refine ⟨rfl, (fun j hj => by have h2 : j ≠ 2 := (by omega); have h3 : j ≠ 3 := (by omega); have h4 : j ≠ 4 := (by omega); have h5 : j ≠ 5 := (by omega); have h6 : j ≠ 6 := (by omega); simp [upd, h2, h3, h4, h5, h6]), rfl, fun hb => ?_⟩
            cases hb
          · refine zv_callV (m_X3_readMany_1 l D B (by exact zPT_upd hp rfl (fun j hj => by have h2 : j ≠ 2 := (by omega); have h3 : j ≠ 3 := (by omega); have h4 : j ≠ 4 := (by omega); have h5 : j ≠ 5 := (by omega); have h6 : j ≠ 6 := (by omega); simp [upd, h2, h3, h4, h5, h6])) (by rw [zst_same]; rfl) (by omega) hs4 hz5) ml_X3_47 in_X3_readMany sel_X3_readMany hp.1 rfl rfl rfl rfl (Nat.le_of_ble_eq_true rfl) dX3_readOrder_117 ⟨Nat.le_of_ble_eq_true rfl, Nat.le_of_ble_eq_true rfl⟩ ⟨Nat.le_refl _, Nat.le_refl _⟩ (zk_i ?_)
            simp only [zst_same, zst_zst]
            refine zv_if_eq (tgt := 127) dX3_readOrder_120 (by decide) (fun h => absurd h (by decide)) (fun _ => ?_)
            refine zv_iconst (v := 1) dX3_readOrder_123 (by decide) ?_
            refine zv_goto (tgt := 128) dX3_readOrder_124 (by decide) ?_
            have hr : rdO T n i = (true, (rdN T n ((rdN T n (i + 3)).2 + 1)).2, sg T n (i + 1) - 48, (rdN T n (i + 3)).1, (rdN T n ((rdN T n (i + 3)).2 + 1)).1) := by
              unfold rdO
              rw [if_neg k99, if_neg k117, if_neg k115, if_pos k112, hz, if_pos hs, hz3, if_pos hs4, hz5]; rfl
            refine zv_iretI dX3_readOrder_128 rfl rfl (by rw [hr]; rfl) ⟨_, rfl, ?_⟩
            unfold roOK
            rw [hr]
            refine ⟨rfl, (fun j hj => by have h2 : j ≠ 2 := (by omega); have h3 : j ≠ 3 := (by omega); have h4 : j ≠ 4 := (by omega); have h5 : j ≠ 5 := (by omega); have h6 : j ≠ 6 := (by omega); simp [upd, h2, h3, h4, h5, h6]), rfl, fun hb => ?_⟩
            exact ⟨rfl, fun h => by first | rfl | (exfalso; omega), fun h => by first | rfl | (exfalso; omega), fun h => by first | exact ⟨rfl, rfl, rfl⟩ | (exfalso; omega)⟩
          · refine zv_callV (m_X3_readMany_0 l D B (by exact zPT_upd hp rfl (fun j hj => by have h2 : j ≠ 2 := (by omega); have h3 : j ≠ 3 := (by omega); have h4 : j ≠ 4 := (by omega); have h5 : j ≠ 5 := (by omega); have h6 : j ≠ 6 := (by omega); simp [upd, h2, h3, h4, h5, h6])) (by rw [zst_same]; rfl) (by omega) hs4) ml_X3_47 in_X3_readMany sel_X3_readMany hp.1 rfl rfl rfl rfl (Nat.le_of_ble_eq_true rfl) dX3_readOrder_117 ⟨Nat.le_of_ble_eq_true rfl, Nat.le_of_ble_eq_true rfl⟩ ⟨Nat.le_refl _, Nat.le_refl _⟩ (zk_i ?_)
            simp only [zst_same, zst_zst]
            refine zv_if_eq (tgt := 127) dX3_readOrder_120 (by decide) (fun h => absurd h (by decide)) (fun _ => ?_)
            refine zv_iconst (v := 1) dX3_readOrder_123 (by decide) ?_
            refine zv_goto (tgt := 128) dX3_readOrder_124 (by decide) ?_
            have hr : rdO T n i = (true, (rdN T n (i + 3)).2, sg T n (i + 1) - 48, (rdN T n (i + 3)).1, 1) := by
              unfold rdO
              rw [if_neg k99, if_neg k117, if_neg k115, if_pos k112, hz, if_pos hs, hz3, if_neg hs4]; rfl
            refine zv_iretI dX3_readOrder_128 rfl rfl (by rw [hr]; rfl) ⟨_, rfl, ?_⟩
            unfold roOK
            rw [hr]
            refine ⟨rfl, (fun j hj => by have h2 : j ≠ 2 := (by omega); have h3 : j ≠ 3 := (by omega); have h4 : j ≠ 4 := (by omega); have h5 : j ≠ 5 := (by omega); have h6 : j ≠ 6 := (by omega); simp [upd, h2, h3, h4, h5, h6]), rfl, fun hb => ?_⟩
            exact ⟨rfl, fun h => by first | rfl | (exfalso; omega), fun h => by first | rfl | (exfalso; omega), fun h => by first | exact ⟨rfl, rfl, rfl⟩ | (exfalso; omega)⟩
      · refine zv_callV (m_X3_skip_n l D B (i := i + 2) (w := 46) (by exact zPT_upd hp rfl (fun j hj => by have h2 : j ≠ 2 := (by omega); have h3 : j ≠ 3 := (by omega); have h4 : j ≠ 4 := (by omega); have h5 : j ≠ 5 := (by omega); have h6 : j ≠ 6 := (by omega); simp [upd, h2, h3, h4, h5, h6])) (by rw [zst_same]; rfl) (by omega) rfl (by decide) hs) ml_X3_29 in_X3_skip sel_X3_skip hp.1 rfl rfl rfl rfl (Nat.le_of_ble_eq_true rfl) dX3_readOrder_103 ⟨Nat.le_of_ble_eq_true rfl, Nat.le_of_ble_eq_true rfl⟩ ⟨Nat.le_refl _, Nat.le_refl _⟩ (zk_i ?_)
        refine zv_if_eq (tgt := 127) dX3_readOrder_106 (by decide) (fun _ => ?_) (fun h => absurd (rfl) h)
        refine zv_iconst (v := 0) dX3_readOrder_127 (by decide) ?_
        have hr : rdO T n i = (false, i + 2, 0, 0, 1) := by
          unfold rdO
          rw [if_neg k99, if_neg k117, if_neg k115, if_pos k112, hz, if_neg hs]; rfl
        refine zv_iretI dX3_readOrder_128 rfl rfl (by rw [hr]; rfl) ⟨_, rfl, ?_⟩
        unfold roOK
        rw [hr]
        refine ⟨rfl, (fun j hj => by have h2 : j ≠ 2 := (by omega); have h3 : j ≠ 3 := (by omega); have h4 : j ≠ 4 := (by omega); have h5 : j ≠ 5 := (by omega); have h6 : j ≠ 6 := (by omega); simp [upd, h2, h3, h4, h5, h6]), rfl, fun hb => ?_⟩
        cases hb
  · refine zv_lookup (off := 132) (tgt := 144) dX3_readOrder_12 (by decide +kernel) ((lv_osw (k := 99) (fun e => k99 ((nI_eq (by omega) (by decide)).mp e)) rfl).trans ((lv_osw (k := 112) (fun e => k112 ((nI_eq (by omega) (by decide)).mp e)) rfl).trans ((lv_osw (k := 115) (fun e => k115 ((nI_eq (by omega) (by decide)).mp e)) rfl).trans ((lv_osw (k := 117) (fun e => k117 ((nI_eq (by omega) (by decide)).mp e)) rfl).trans rfl)))) (by decide) ?_
    refine zv_iconst (v := 0) dX3_readOrder_144 (by decide) ?_
    have hr : rdO T n i = (false, i, 0, 0, 1) := by
      unfold rdO
      rw [if_neg k99, if_neg k117, if_neg k115, if_neg k112]
    refine zv_iretI dX3_readOrder_145 rfl rfl (by rw [hr]; rfl) ⟨_, rfl, ?_⟩
    unfold roOK
    rw [hr]
    refine ⟨rfl, (fun j hj => by have h2 : j ≠ 2 := (by omega); have h3 : j ≠ 3 := (by omega); have h4 : j ≠ 4 := (by omega); have h5 : j ≠ 5 := (by omega); have h6 : j ≠ 6 := (by omega); simp [upd, h2, h3, h4, h5, h6]) , hi2, fun hb => ?_⟩
    cases hb
