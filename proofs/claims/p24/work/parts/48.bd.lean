theorem errD_ok {r : Nat → Int32} {n : Nat} {sd mn : Int32} (i2 : r 2 = nI n) (i3 : n ≤ 16) (h : ¬ errD r sd mn < 0) : ∃ a b : Nat, a < 65536 ∧ 1 ≤ b ∧ b < 100 ∧ sd = nI a ∧ mn = nI b ∧ 0 < n := by
  unfold errD at h
  cases h1 : zin3 sd 0 65535 with
  | false => rw [h1] at h; exact absurd (by rw [if_pos (by simp)]; decide) h
  | true =>
    cases h2 : zin3 mn 1 99 with
    | false => rw [h1, h2] at h; exact absurd (by rw [if_pos (by simp)]; decide) h
    | true =>
      rw [h1, h2, if_neg (by simp)] at h
      obtain ⟨a, ha, e1⟩ := (zin3_iff (m := 65535) (by decide)).mp h1
      obtain ⟨b, hb0, hb, e2⟩ := (zin3_iff2 (l := 1) (m := 99) (by decide) (by decide)).mp h2
      refine ⟨a, b, by omega, hb0, by omega, e1, e2, ?_⟩
      rcases Nat.eq_zero_or_pos n with g | g
      · rw [i2, g] at h; exact absurd (by decide) h
      · exact g
set_option maxRecDepth 100000 in
set_option maxHeartbeats 4000000 in
theorem m_X6_errorOfDroplets (l : Launch) (D : zD) (B : Nat) {L : zL} {nx : Nat} {G : zG} {x : Nat} {r : Nat → Int32} (hb : zBD L x) (hC : stOK G (x + 1) r) (sd mn : Int32) : zMet l D B yX6_errorOfDroplets cX6_errorOfDroplets 3 (some .int) 1 22 0 0 [.ref x, .int sd, .int mn] L nx G (zE (some (.int (errD r sd mn))) L nx (G)) := by
  refine zMet_of (own := RX6) (mn := "errorOfDroplets") [some (.ref x), some (.int sd), some (.int mn)] (by decide +kernel) rfl rfl rfl (Nat.le_of_ble_eq_true rfl) ?_
  show zV l (fun _ => True) D B RX6 "errorOfDroplets" cX6_errorOfDroplets 3 (some .int) (zrm 1 22 0 0) (zN (zE (some (.int (errD r sd mn))) L nx (G))) 0 0 L nx 0 [some (.ref x), some (.int sd), some (.int mn)] [] (G)
  refine zv_iload_n dX6_errorOfDroplets_0 rfl ?_
  refine zv_iconst (v := 0) dX6_errorOfDroplets_1 (by decide) ?_
  refine zv_ldc dX6_errorOfDroplets_2 kc_X6_84 ?_
  refine zv_callS (m_X6_isWithin l D B sd 0 65535) ml_X6_85 st_X6_isWithin rfl rfl (Nat.le_of_ble_eq_true rfl) dX6_errorOfDroplets_4 ⟨Nat.le_of_ble_eq_true rfl, Nat.le_of_ble_eq_true rfl⟩ ⟨Nat.le_refl _, Nat.le_refl _⟩ (zk_i ?_)
  refine zv_if_eq (tgt := 20) dX6_errorOfDroplets_7 (by decide) (fun c7 => ?_) (fun c7 => ?_)
  · have h1 := bI_eq0.mp c7
    refine zv_bipush (v := (-2)) dX6_errorOfDroplets_20 (by decide) ?_
    refine zv_iretE dX6_errorOfDroplets_22 rfl (rfl) ?_ ?_
    · unfold errD
      first
        | rw [h1, Bool.false_and, if_pos rfl]
        | rw [h2, Bool.and_false, if_pos rfl]
    · rfl
  · have h1 := bI_ne0.mp c7
    refine zv_iload_n dX6_errorOfDroplets_10 rfl ?_
    refine zv_iconst (v := 1) dX6_errorOfDroplets_11 (by decide) ?_
    refine zv_bipush (v := 99) dX6_errorOfDroplets_12 (by decide) ?_
    refine zv_callS (m_X6_isWithin l D B mn 1 99) ml_X6_85 st_X6_isWithin rfl rfl (Nat.le_of_ble_eq_true rfl) dX6_errorOfDroplets_14 ⟨Nat.le_of_ble_eq_true rfl, Nat.le_of_ble_eq_true rfl⟩ ⟨Nat.le_refl _, Nat.le_refl _⟩ (zk_i ?_)
    refine zv_if_ne (tgt := 23) dX6_errorOfDroplets_17 (by decide) (fun c17 => ?_) (fun c17 => ?_)
    · have h2 := bI_ne0.mp c17
      refine zv_aload_n dX6_errorOfDroplets_23 rfl ?_
      refine zv_getS (r := 1) hb.1 rfl fl_X6_10 rfl dX6_errorOfDroplets_24 ?_
      refine zv_getI hb.2.1.1 rfl fl_X6_89 rfl dX6_errorOfDroplets_27 ?_
      rw [show G (x + 1) 2 = r 2 by rw [hC.1]; rfl]
      refine zv_if_ne (tgt := 38) dX6_errorOfDroplets_30 (by decide) (fun c30 => ?_) (fun c30 => ?_)
      · refine zv_iconst (v := 0) dX6_errorOfDroplets_38 (by decide) ?_
        refine zv_iretE dX6_errorOfDroplets_39 rfl (rfl) ?_ ?_
        · unfold errD
          rw [h1, h2]
          first
            | (rw [if_neg (by simp), if_neg c30])
            | (rw [if_neg (by simp), if_pos c30])
        · rfl
      · refine zv_bipush (v := (-5)) dX6_errorOfDroplets_33 (by decide) ?_
        refine zv_goto (tgt := 39) dX6_errorOfDroplets_35 (by decide) ?_
        refine zv_iretE dX6_errorOfDroplets_39 rfl (rfl) ?_ ?_
        · unfold errD
          rw [h1, h2]
          first
            | (rw [if_neg (by simp), if_neg c30])
            | (rw [if_neg (by simp), if_pos c30])
        · rfl
    · have h2 := bI_eq0.mp c17
      refine zv_bipush (v := (-2)) dX6_errorOfDroplets_20 (by decide) ?_
      refine zv_iretE dX6_errorOfDroplets_22 rfl (rfl) ?_ ?_
      · unfold errD
        first
          | rw [h1, Bool.false_and, if_pos rfl]
          | rw [h2, Bool.and_false, if_pos rfl]
      · rfl

set_option maxRecDepth 100000 in
set_option maxHeartbeats 4000000 in
theorem m_X6_isFull (l : Launch) (D : zD) (B : Nat) {L : zL} {nx : Nat} {G : zG} {x q : Nat} {r : Nat → Int32} (hb : zBD L x) (hC : stOK G (x + 1) r) (hq : (q, 3) ∈ L) : zMet l D B yX6_isFull cX6_isFull 2 (some .boolean) 1 20 0 0 [.ref x, .ref q] L nx G (zE (some (.int (bI (fullB r (G q))))) L nx (G)) := by
  refine zMet_of (own := RX6) (mn := "isFull") [some (.ref x), some (.ref q)] (by decide +kernel) rfl rfl rfl (Nat.le_of_ble_eq_true rfl) ?_
  show zV l (fun _ => True) D B RX6 "isFull" cX6_isFull 2 (some .boolean) (zrm 1 20 0 0) (zN (zE (some (.int (bI (fullB r (G q))))) L nx (G))) 0 0 L nx 0 [some (.ref x), some (.ref q)] [] (G)
  refine zv_aload_n dX6_isFull_0 rfl ?_
  refine zv_getI hq rfl fl_X6_114 rfl dX6_isFull_1 ?_
  refine zv_aload_n dX6_isFull_4 rfl ?_
  refine zv_getS (r := 1) hb.1 rfl fl_X6_10 rfl dX6_isFull_5 ?_
  refine zv_callV (m_X5_allChapters l D B hb.2.1.1) ml_X6_241 in_X5_allChapters sel_X5_allChapters hb.2.1.1 rfl rfl rfl rfl (Nat.le_of_ble_eq_true rfl) dX6_isFull_8 ⟨Nat.le_of_ble_eq_true rfl, Nat.le_of_ble_eq_true rfl⟩ ⟨Nat.le_refl _, Nat.le_refl _⟩ (zk_i ?_)
  rw [show G (x + 1) 2 = r 2 by rw [hC.1]; rfl]
  refine zv_icmp_ne (tgt := 18) dX6_isFull_11 (by decide) (fun c11 => ?_) (fun c11 => ?_)
  · refine zv_iconst (v := 0) dX6_isFull_18 (by decide) ?_
    refine zv_iretE dX6_isFull_19 rfl (by first | rfl | exact bI_nar _) ?_ ?_
    · unfold fullB
      first
        | (rw [show decide (G q 0 = 1 <<< (r 2 &&& 31) - 1) = true by simp; exact c11]; rfl)
        | (rw [show decide (G q 0 = 1 <<< (r 2 &&& 31) - 1) = false by simp; exact c11]; rfl)
    · rfl
  · refine zv_iconst (v := 1) dX6_isFull_14 (by decide) ?_
    refine zv_goto (tgt := 19) dX6_isFull_15 (by decide) ?_
    refine zv_iretE dX6_isFull_19 rfl (by first | rfl | exact bI_nar _) ?_ ?_
    · unfold fullB
      first
        | (rw [show decide (G q 0 = 1 <<< (r 2 &&& 31) - 1) = true by simp; exact c11]; rfl)
        | (rw [show decide (G q 0 = 1 <<< (r 2 &&& 31) - 1) = false by simp; exact c11]; rfl)
    · rfl

set_option maxRecDepth 100000 in
set_option maxHeartbeats 4000000 in
theorem lp_X6_fullCups (l : Launch) (D : zD) (B : Nat) {L : zL} {nx : Nat} {G : zG} {x cn : Nat} {r : Nat → Int32} (hb : zBD L x) (hC : stOK G (x + 1) r) (e3 : G (x + 1) 3 = nI cn) (i5 : cn ≤ 3) : ∀ i : Nat, i ≤ 3 → ∀ a : Option Value, zV l (fun _ => True) D B RX6 "fullCups" cX6_fullCups 4 (some .int) (zrm 2 41 0 0) (zN (zE (some (.int (fcN r cn 3))) L nx G)) 0 0 L nx 4 [some (.ref x), some (.int (fcN r cn i)), some (.int (nI i)), a] [] (G) := by
  refine zloop 3 (fun i hi ih a => ?_)
  refine zv_iload_n dX6_fullCups_4 rfl ?_
  refine zv_iconst (v := 3) dX6_fullCups_5 (by decide) ?_
  refine zv_icmp_ge (tgt := 42) dX6_fullCups_6 (by decide) (fun c6 => ?_) (fun c6 => ?_)
  · have e : i = 3 := by have := zge_of (N := 3) (by decide) (by omega) rfl c6; omega
    subst e
    refine zv_iload_n dX6_fullCups_42 rfl ?_
    refine zv_iretE dX6_fullCups_43 rfl (rfl) ?_ ?_
    · rfl
    · rfl
  · have hlt : i < 3 := zlt_of (N := 3) (by decide) (by omega) rfl c6
    refine zv_aload_n dX6_fullCups_9 rfl ?_
    refine zv_getS (r := 1) hb.1 rfl fl_X6_10 rfl dX6_fullCups_10 ?_
    refine zv_iload_n dX6_fullCups_13 rfl ?_
    rcases Nat.lt_or_ge i cn with hcn | hcn
    · refine zv_callV (m_X5_cupAt l D B hb.2.1 e3 i5 hcn) ml_X6_110 in_X5_cupAt sel_X5_cupAt hb.2.1.1 rfl rfl rfl rfl (Nat.le_of_ble_eq_true rfl) dX6_fullCups_14 ⟨Nat.le_of_ble_eq_true rfl, Nat.le_of_ble_eq_true rfl⟩ ⟨Nat.le_refl _, Nat.le_refl _⟩ (zk_r ?_)
      refine zv_astore_n dX6_fullCups_17 (by decide) rfl ?_
      refine zv_aload_n dX6_fullCups_18 rfl ?_
      refine zv_ifnull_r dX6_fullCups_19 ?_
      refine zv_aload_n dX6_fullCups_22 rfl ?_
      refine zv_aload_n dX6_fullCups_23 rfl ?_
      refine zv_callV (m_X6_isFull l D B hb hC (hb.2.1.2 i hlt)) ml_X6_128 in_X6_isFull sel_X6_isFull hb.1 rfl rfl rfl rfl (Nat.le_of_ble_eq_true rfl) dX6_fullCups_24 ⟨Nat.le_of_ble_eq_true rfl, Nat.le_of_ble_eq_true rfl⟩ ⟨Nat.le_refl _, Nat.le_refl _⟩ (zk_i ?_)
      rw [hC.2 i hlt]
      refine zv_if_eq (tgt := 36) dX6_fullCups_27 (by decide) (fun c27 => ?_) (fun c27 => ?_)
      · have hfc : fcN r cn (i + 1) = fcN r cn i := by
          conv => lhs; unfold fcN
          rw [if_neg (fun h => by rw [bI_eq0.mp c27] at h; exact absurd h.2 (by simp))]
        refine zv_iinc1 dX6_fullCups_36 rfl (by decide) rfl ?_
        refine zv_goto (tgt := 4) dX6_fullCups_39 (by decide) ?_
        have ih1 := ih hlt
        rw [hfc] at ih1
        rw [nI_1]
        exact ih1 _
      · have hfc : fcN r cn (i + 1) = fcN r cn i ||| bt i := by
          conv => lhs; unfold fcN
          rw [if_pos ⟨hcn, bI_ne0.mp c27⟩]
        refine zv_iload_n dX6_fullCups_30 rfl ?_
        refine zv_iconst (v := 1) dX6_fullCups_31 (by decide) ?_
        refine zv_iload_n dX6_fullCups_32 rfl ?_
        refine zv_ishl dX6_fullCups_33 ?_
        refine zv_ior dX6_fullCups_34 ?_
        refine zv_istore_n dX6_fullCups_35 (by decide) rfl ?_
        refine zv_iinc1 dX6_fullCups_36 rfl (by decide) rfl ?_
        refine zv_goto (tgt := 4) dX6_fullCups_39 (by decide) ?_
        have ih1 := ih hlt
        rw [hfc] at ih1
        rw [nI_1]
        exact ih1 _
    · have hfc : fcN r cn (i + 1) = fcN r cn i := by
        conv => lhs; unfold fcN
        rw [if_neg (fun h => by omega)]
      refine zv_callV (m_X5_cupAt_no l D B hb.2.1 e3 i5 (fun h => by obtain ⟨j, hj, e⟩ := h; have := (nI_eq (by omega) (by omega)).mp e; omega)) ml_X6_110 in_X5_cupAt sel_X5_cupAt hb.2.1.1 rfl rfl rfl rfl (Nat.le_of_ble_eq_true rfl) dX6_fullCups_14 ⟨Nat.le_of_ble_eq_true rfl, Nat.le_of_ble_eq_true rfl⟩ ⟨Nat.le_refl _, Nat.le_refl _⟩ (zk_w ?_)
      refine zv_astore_nN dX6_fullCups_17 (by decide) rfl ?_
      refine zv_aload_nN dX6_fullCups_18 rfl ?_
      refine zv_ifnull_n (tgt := 36) dX6_fullCups_19 (by decide) ?_
      refine zv_iinc1 dX6_fullCups_36 rfl (by decide) rfl ?_
      refine zv_goto (tgt := 4) dX6_fullCups_39 (by decide) ?_
      have ih1 := ih hlt
      rw [hfc] at ih1
      rw [nI_1]
      exact ih1 _

set_option maxRecDepth 100000 in
set_option maxHeartbeats 4000000 in
theorem m_X6_fullCups (l : Launch) (D : zD) (B : Nat) {L : zL} {nx : Nat} {G : zG} {x cn : Nat} {r : Nat → Int32} (hb : zBD L x) (hC : stOK G (x + 1) r) (e3 : G (x + 1) 3 = nI cn) (i5 : cn ≤ 3) : zMet l D B yX6_fullCups cX6_fullCups 4 (some .int) 2 41 0 0 [.ref x] L nx G (zE (some (.int (fcN r cn 3))) L nx (G)) := by
  refine zMet_of (own := RX6) (mn := "fullCups") [some (.ref x), none, none, none] (by decide +kernel) rfl rfl rfl (Nat.le_of_ble_eq_true rfl) ?_
  show zV l (fun _ => True) D B RX6 "fullCups" cX6_fullCups 4 (some .int) (zrm 2 41 0 0) (zN (zE (some (.int (fcN r cn 3))) L nx (G))) 0 0 L nx 0 [some (.ref x), none, none, none] [] (G)
  refine zv_iconst (v := 0) dX6_fullCups_0 (by decide) ?_
  refine zv_istore_n dX6_fullCups_1 (by decide) rfl ?_
  refine zv_iconst (v := 0) dX6_fullCups_2 (by decide) ?_
  refine zv_istore_n dX6_fullCups_3 (by decide) rfl ?_
  exact lp_X6_fullCups l D B hb hC e3 i5 0 (by omega) _

set_option maxRecDepth 100000 in
set_option maxHeartbeats 4000000 in
theorem m_X6_changeSetting (l : Launch) (D : zD) (B : Nat) {L : zL} {nx : Nat} {G : zG} {x b : Nat} {r : Nat → Int32} (hb : zBD L x) (hC : CR x r G) (hS : SI b r) (s v : Int32) : zMet l D B yX6_changeSetting cX6_changeSetting 4 (some .int) 1 22 0 0 [.ref x, .int s, .int v] L nx G (zI (opSet r s v).1 L nx (fun G1 => CR x ((opSet r s v).2) G1 ∧ zFr x G G1)) := by
  refine zMet_of (own := RX6) (mn := "changeSetting") [some (.ref x), some (.int s), some (.int v), none] (by decide +kernel) rfl rfl rfl (Nat.le_of_ble_eq_true rfl) ?_
  show zV l (fun _ => True) D B RX6 "changeSetting" cX6_changeSetting 4 (some .int) (zrm 1 22 0 0) (zN (zI (opSet r s v).1 L nx (fun G1 => CR x ((opSet r s v).2) G1 ∧ zFr x G G1))) 0 0 L nx 0 [some (.ref x), some (.int s), some (.int v), none] [] (G)
  refine zv_iload_n dX6_changeSetting_0 rfl ?_
  refine zv_if_ne (tgt := 31) dX6_changeSetting_1 (by decide) (fun c1 => ?_) (fun c1 => ?_)
  · refine zv_iload_n dX6_changeSetting_31 rfl ?_
    refine zv_iconst (v := 1) dX6_changeSetting_32 (by decide) ?_
    refine zv_icmp_ne (tgt := 64) dX6_changeSetting_33 (by decide) (fun c33 => ?_) (fun c33 => ?_)
    · have hop : opSet r s v = (-2, r) := by
        unfold opSet
        rw [if_neg, if_neg (fun h => c33 h.1)]
        rintro ⟨h, h2⟩
        first
          | exact absurd h c1
          | (rw [h1] at h2; cases h2)
      refine zv_bipush (v := (-2)) dX6_changeSetting_64 (by decide) ?_
      rw [hop]
      exact zv_iretI dX6_changeSetting_66 rfl rfl rfl ⟨hC, zFr_rf⟩
    · refine zv_iload_n dX6_changeSetting_36 rfl ?_
      refine zv_iconst (v := 0) dX6_changeSetting_37 (by decide) ?_
      refine zv_bipush (v := 99) dX6_changeSetting_38 (by decide) ?_
      refine zv_callS (m_X6_isWithin l D B v 0 99) ml_X6_85 st_X6_isWithin rfl rfl (Nat.le_of_ble_eq_true rfl) dX6_changeSetting_40 ⟨Nat.le_of_ble_eq_true rfl, Nat.le_of_ble_eq_true rfl⟩ ⟨Nat.le_refl _, Nat.le_refl _⟩ (zk_i ?_)
      refine zv_if_eq (tgt := 64) dX6_changeSetting_43 (by decide) (fun c43 => ?_) (fun c43 => ?_)
      · have h2 := bI_eq0.mp c43
        have hop : opSet r s v = (-2, r) := by
          unfold opSet
          rw [if_neg, if_neg (fun h => by rw [h2] at h; exact absurd h.2 (by simp))]
          rintro ⟨h, h3⟩
          rw [c33] at h
          exact absurd h (by decide)
        refine zv_bipush (v := (-2)) dX6_changeSetting_64 (by decide) ?_
        rw [hop]
        exact zv_iretI dX6_changeSetting_66 rfl rfl rfl ⟨hC, zFr_rf⟩
      · have h2 := bI_ne0.mp c43
        have hop : opSet r s v = (r 1, upd r 1 v) := by
          unfold opSet
          rw [if_neg (fun h => by rw [c33] at h; exact absurd h.1 (by decide)), if_pos ⟨c33, h2⟩]
        refine zv_aload_n dX6_changeSetting_46 rfl ?_
        refine zv_getS (r := 1) hb.1 rfl fl_X6_10 rfl dX6_changeSetting_47 ?_
        refine zv_getI hb.2.1.1 rfl fl_X6_162 rfl dX6_changeSetting_50 ?_
        refine zv_istore_n dX6_changeSetting_53 (by decide) rfl ?_
        refine zv_aload_n dX6_changeSetting_54 rfl ?_
        refine zv_getS (r := 1) hb.1 rfl fl_X6_10 rfl dX6_changeSetting_55 ?_
        refine zv_iload_n dX6_changeSetting_58 rfl ?_
        refine zv_putI (t := 2) hb.2.1.1 rfl fl_X6_162 ft_X5_1 rfl dX6_changeSetting_59 ?_
        refine zv_iload_n dX6_changeSetting_62 rfl ?_
        rw [hop]
        exact zv_iretI dX6_changeSetting_63 rfl rfl (by rw [hC.1.1]; rfl) ⟨CR_head hC (by omega), zFr_zst (by omega)⟩
  · refine zv_iload_n dX6_changeSetting_4 rfl ?_
    refine zv_iconst (v := 0) dX6_changeSetting_5 (by decide) ?_
    refine zv_iconst (v := 2) dX6_changeSetting_6 (by decide) ?_
    refine zv_callS (m_X6_isWithin l D B v 0 2) ml_X6_85 st_X6_isWithin rfl rfl (Nat.le_of_ble_eq_true rfl) dX6_changeSetting_7 ⟨Nat.le_of_ble_eq_true rfl, Nat.le_of_ble_eq_true rfl⟩ ⟨Nat.le_refl _, Nat.le_refl _⟩ (zk_i ?_)
    refine zv_if_eq (tgt := 31) dX6_changeSetting_10 (by decide) (fun c10 => ?_) (fun c10 => ?_)
    · have h1 := bI_eq0.mp c10
      refine zv_iload_n dX6_changeSetting_31 rfl ?_
      refine zv_iconst (v := 1) dX6_changeSetting_32 (by decide) ?_
      refine zv_icmp_ne (tgt := 64) dX6_changeSetting_33 (by decide) (fun c33 => ?_) (fun c33 => ?_)
      · have hop : opSet r s v = (-2, r) := by
          unfold opSet
          rw [if_neg, if_neg (fun h => c33 h.1)]
          rintro ⟨h, h2⟩
          first
            | exact absurd h c1
            | (rw [h1] at h2; cases h2)
        refine zv_bipush (v := (-2)) dX6_changeSetting_64 (by decide) ?_
        rw [hop]
        exact zv_iretI dX6_changeSetting_66 rfl rfl rfl ⟨hC, zFr_rf⟩
      · refine zv_iload_n dX6_changeSetting_36 rfl ?_
        refine zv_iconst (v := 0) dX6_changeSetting_37 (by decide) ?_
        refine zv_bipush (v := 99) dX6_changeSetting_38 (by decide) ?_
        refine zv_callS (m_X6_isWithin l D B v 0 99) ml_X6_85 st_X6_isWithin rfl rfl (Nat.le_of_ble_eq_true rfl) dX6_changeSetting_40 ⟨Nat.le_of_ble_eq_true rfl, Nat.le_of_ble_eq_true rfl⟩ ⟨Nat.le_refl _, Nat.le_refl _⟩ (zk_i ?_)
        refine zv_if_eq (tgt := 64) dX6_changeSetting_43 (by decide) (fun c43 => ?_) (fun c43 => ?_)
        · have h2 := bI_eq0.mp c43
          have hop : opSet r s v = (-2, r) := by
            unfold opSet
            rw [if_neg, if_neg (fun h => by rw [h2] at h; exact absurd h.2 (by simp))]
            rintro ⟨h, h3⟩
            rw [c33] at h
            exact absurd h (by decide)
          refine zv_bipush (v := (-2)) dX6_changeSetting_64 (by decide) ?_
          rw [hop]
          exact zv_iretI dX6_changeSetting_66 rfl rfl rfl ⟨hC, zFr_rf⟩
        · have h2 := bI_ne0.mp c43
          have hop : opSet r s v = (r 1, upd r 1 v) := by
            unfold opSet
            rw [if_neg (fun h => by rw [c33] at h; exact absurd h.1 (by decide)), if_pos ⟨c33, h2⟩]
          refine zv_aload_n dX6_changeSetting_46 rfl ?_
          refine zv_getS (r := 1) hb.1 rfl fl_X6_10 rfl dX6_changeSetting_47 ?_
          refine zv_getI hb.2.1.1 rfl fl_X6_162 rfl dX6_changeSetting_50 ?_
          refine zv_istore_n dX6_changeSetting_53 (by decide) rfl ?_
          refine zv_aload_n dX6_changeSetting_54 rfl ?_
          refine zv_getS (r := 1) hb.1 rfl fl_X6_10 rfl dX6_changeSetting_55 ?_
          refine zv_iload_n dX6_changeSetting_58 rfl ?_
          refine zv_putI (t := 2) hb.2.1.1 rfl fl_X6_162 ft_X5_1 rfl dX6_changeSetting_59 ?_
          refine zv_iload_n dX6_changeSetting_62 rfl ?_
          rw [hop]
          exact zv_iretI dX6_changeSetting_63 rfl rfl (by rw [hC.1.1]; rfl) ⟨CR_head hC (by omega), zFr_zst (by omega)⟩
    · have h1 := bI_ne0.mp c10
      have hop : opSet r s v = (r 0, upd r 0 v) := by unfold opSet; rw [if_pos ⟨c1, h1⟩]
      refine zv_aload_n dX6_changeSetting_13 rfl ?_
      refine zv_getS (r := 1) hb.1 rfl fl_X6_10 rfl dX6_changeSetting_14 ?_
      refine zv_getI hb.2.1.1 rfl fl_X6_159 rfl dX6_changeSetting_17 ?_
      refine zv_istore_n dX6_changeSetting_20 (by decide) rfl ?_
      refine zv_aload_n dX6_changeSetting_21 rfl ?_
      refine zv_getS (r := 1) hb.1 rfl fl_X6_10 rfl dX6_changeSetting_22 ?_
      refine zv_iload_n dX6_changeSetting_25 rfl ?_
      refine zv_putI (t := 2) hb.2.1.1 rfl fl_X6_159 ft_X5_0 rfl dX6_changeSetting_26 ?_
      refine zv_iload_n dX6_changeSetting_29 rfl ?_
      rw [hop]
      exact zv_iretI dX6_changeSetting_30 rfl rfl (by rw [hC.1.1]; rfl) ⟨CR_head hC (by omega), zFr_zst (by omega)⟩

set_option maxRecDepth 100000 in
set_option maxHeartbeats 4000000 in
theorem m_X6_addChapter (l : Launch) (D : zD) (B : Nat) {L : zL} {nx : Nat} {G : zG} {x b : Nat} {r : Nat → Int32} (hb : zBD L x) (hC : CR x r G) (hS : SI b r) (v : Int32) : zMet l D B yX6_addChapter cX6_addChapter 3 (some .int) 1 22 0 0 [.ref x, .int v] L nx G (zI (opChapter r v).1 L nx (fun G1 => CR x ((opChapter r v).2) G1 ∧ zFr x G G1)) := by
  refine zMet_of (own := RX6) (mn := "addChapter") [some (.ref x), some (.int v), none] (by decide +kernel) rfl rfl rfl (Nat.le_of_ble_eq_true rfl) ?_
  show zV l (fun _ => True) D B RX6 "addChapter" cX6_addChapter 3 (some .int) (zrm 1 22 0 0) (zN (zI (opChapter r v).1 L nx (fun G1 => CR x ((opChapter r v).2) G1 ∧ zFr x G G1))) 0 0 L nx 0 [some (.ref x), some (.int v), none] [] (G)
  obtain ⟨w, ls, n, cn, i0, iw, i1, il, i2, i3, i4, i5, i6, i7, i8⟩ := id hS
  have e3 : G (x + 1) 3 = nI cn := by rw [hC.1.1]; exact i4
  have e2 : G (x + 1) 2 = nI n := by rw [hC.1.1]; exact i2
  have e0 : G (x + 1) 0 = nI w := by rw [hC.1.1]; exact i0
  have e1 : G (x + 1) 1 = nI ls := by rw [hC.1.1]; exact i1
  refine zv_iload_n dX6_addChapter_0 rfl ?_
  refine zv_iconst (v := 0) dX6_addChapter_1 (by decide) ?_
  refine zv_ldc dX6_addChapter_2 kc_X6_84 ?_
  refine zv_callS (m_X6_isWithin l D B v 0 65535) ml_X6_85 st_X6_isWithin rfl rfl (Nat.le_of_ble_eq_true rfl) dX6_addChapter_4 ⟨Nat.le_of_ble_eq_true rfl, Nat.le_of_ble_eq_true rfl⟩ ⟨Nat.le_refl _, Nat.le_refl _⟩ (zk_i ?_)
  refine zv_if_ne (tgt := 13) dX6_addChapter_7 (by decide) (fun c7 => ?_) (fun c7 => ?_)
  · have h1 := bI_ne0.mp c7
    refine zv_aload_n dX6_addChapter_13 rfl ?_
    refine zv_getS (r := 1) hb.1 rfl fl_X6_10 rfl dX6_addChapter_14 ?_
    refine zv_getI hb.2.1.1 rfl fl_X6_152 rfl dX6_addChapter_17 ?_
    rw [show G (x + 1) 3 = r 3 by rw [hC.1.1]; rfl]
    refine zv_if_le (tgt := 26) dX6_addChapter_20 (by decide) (fun c20 => ?_) (fun c20 => ?_)
    · have h2 : ¬ 0 < r 3 := i32_nlt.mpr c20
      refine zv_aload_n dX6_addChapter_26 rfl ?_
      refine zv_getS (r := 1) hb.1 rfl fl_X6_10 rfl dX6_addChapter_27 ?_
      refine zv_getI hb.2.1.1 rfl fl_X6_89 rfl dX6_addChapter_30 ?_
      rw [e2]
      refine zv_istore_n dX6_addChapter_33 (by decide) rfl ?_
      refine zv_iload_n dX6_addChapter_34 rfl ?_
      refine zv_iconst (v := 0) dX6_addChapter_35 (by decide) ?_
      refine zv_bipush (v := 15) dX6_addChapter_36 (by decide) ?_
      refine zv_callS (m_X6_isWithin l D B _ 0 15) ml_X6_85 st_X6_isWithin rfl rfl (Nat.le_of_ble_eq_true rfl) dX6_addChapter_38 ⟨Nat.le_of_ble_eq_true rfl, Nat.le_of_ble_eq_true rfl⟩ ⟨Nat.le_refl _, Nat.le_refl _⟩ (zk_i ?_)
      refine zv_if_ne (tgt := 47) dX6_addChapter_41 (by decide) (fun c41 => ?_) (fun c41 => ?_)
      · have h3 : n < 16 := by
          obtain ⟨j, hj, e⟩ := (zin3_iff (m := 15) (by decide)).mp (bI_ne0.mp c41)
          have := (nI_eq (by omega) (by omega)).mp e
          omega
        have hop : opChapter r v = (nI n, upd (upd r (5 + n) v) 2 (nI (n + 1))) := by
          unfold opChapter
          rw [if_neg (by rw [h1]; simp), if_neg h2, i2, if_neg (fun e => by have := (nI_eq (by omega) (by decide)).mp (show nI n = nI 16 from e); omega), nI_clamp (by omega), nI_1]
        refine zv_aload_n dX6_addChapter_47 rfl ?_
        refine zv_getS (r := 1) hb.1 rfl fl_X6_10 rfl dX6_addChapter_48 ?_
        refine zv_getS (r := 1) hb.2.1.1 rfl fl_X6_220 rfl dX6_addChapter_51 ?_
        refine zv_iload_n dX6_addChapter_54 rfl ?_
        refine zv_iload_n dX6_addChapter_55 rfl ?_
        refine zv_iast (i := 1) hb.2.1.1 rfl (zix_nI (by omega) (by decide)) dX6_addChapter_56 ?_
        refine zv_aload_n dX6_addChapter_57 rfl ?_
        refine zv_getS (r := 1) hb.1 rfl fl_X6_10 rfl dX6_addChapter_58 ?_
        refine zv_dup dX6_addChapter_61 rfl ?_
        refine zv_getI hb.2.1.1 rfl fl_X6_89 rfl dX6_addChapter_62 ?_
        refine zv_iconst (v := 1) dX6_addChapter_65 (by decide) ?_
        refine zv_iadd dX6_addChapter_66 ?_
        rw [show zst G (x + 1) (upd (G (x + 1)) (5 + n) v) (x + 1) 2 = nI n by rw [zst_same]; simp only [upd]; rw [if_neg (by omega)]; exact e2, nI_1]
        refine zv_putI (t := 2) hb.2.1.1 rfl fl_X6_89 ft_X5_2 rfl dX6_addChapter_67 ?_
        refine zv_iload_n dX6_addChapter_70 rfl ?_
        rw [hop]
        exact zv_iretI dX6_addChapter_71 rfl rfl rfl ⟨CR_head (CR_head hC (by omega)) (by omega), zFr_tr (zFr_zst (by omega)) (zFr_zst (by omega))⟩
      · have h3 : n = 16 := by
          rcases Nat.lt_or_ge n 16 with g | g
          · exact absurd ((zin3_iff (m := 15) (by decide)).mpr ⟨n, by omega, rfl⟩) (by rw [show zin3 (nI n) 0 (nI 15) = false from bI_eq0.mp c41]; simp)
          · omega
        have hop : opChapter r v = (-4, r) := by
          unfold opChapter
          rw [if_neg (by rw [h1]; simp), if_neg h2, i2, if_pos (by rw [h3]; rfl)]
        refine zv_bipush (v := (-4)) dX6_addChapter_44 (by decide) ?_
        rw [hop]
        exact zv_iretI dX6_addChapter_46 rfl rfl rfl ⟨hC, zFr_rf⟩
    · have h2 : 0 < r 3 := i32_nle.mp c20
      have hop : opChapter r v = (-5, r) := by unfold opChapter; rw [if_neg (by rw [h1]; simp), if_pos h2]
      refine zv_bipush (v := (-5)) dX6_addChapter_23 (by decide) ?_
      rw [hop]
      exact zv_iretI dX6_addChapter_25 rfl rfl rfl ⟨hC, zFr_rf⟩
  · have h1 := bI_eq0.mp c7
    have hop : opChapter r v = (-2, r) := by unfold opChapter; rw [if_pos h1]
    refine zv_bipush (v := (-2)) dX6_addChapter_10 (by decide) ?_
    rw [hop]
    exact zv_iretI dX6_addChapter_12 rfl rfl rfl ⟨hC, zFr_rf⟩

set_option maxRecDepth 100000 in
set_option maxHeartbeats 4000000 in
theorem m_X6_addCup (l : Launch) (D : zD) (B : Nat) {L : zL} {nx : Nat} {G : zG} {x b : Nat} {r : Nat → Int32} (hb : zBD L x) (hC : CR x r G) (hS : SI b r) : zMet l D B yX6_addCup cX6_addCup 2 (some .int) 0 0 0 0 [.ref x] L nx G (zI (opCup r).1 L nx (fun G1 => CR x ((opCup r).2) G1 ∧ zFr x G G1)) := by
  refine zMet_of (own := RX6) (mn := "addCup") [some (.ref x), none] (by decide +kernel) rfl rfl rfl (Nat.le_of_ble_eq_true rfl) ?_
  show zV l (fun _ => True) D B RX6 "addCup" cX6_addCup 2 (some .int) (zrm 0 0 0 0) (zN (zI (opCup r).1 L nx (fun G1 => CR x ((opCup r).2) G1 ∧ zFr x G G1))) 0 0 L nx 0 [some (.ref x), none] [] (G)
  obtain ⟨w, ls, n, cn, i0, iw, i1, il, i2, i3, i4, i5, i6, i7, i8⟩ := id hS
  have e3 : G (x + 1) 3 = nI cn := by rw [hC.1.1]; exact i4
  have e2 : G (x + 1) 2 = nI n := by rw [hC.1.1]; exact i2
  have e0 : G (x + 1) 0 = nI w := by rw [hC.1.1]; exact i0
  have e1 : G (x + 1) 1 = nI ls := by rw [hC.1.1]; exact i1
  refine zv_aload_n dX6_addCup_0 rfl ?_
  refine zv_getS (r := 1) hb.1 rfl fl_X6_10 rfl dX6_addCup_1 ?_
  refine zv_getI hb.2.1.1 rfl fl_X6_152 rfl dX6_addCup_4 ?_
  refine zv_iconst (v := 3) dX6_addCup_7 (by decide) ?_
  rw [e3]
  refine zv_icmp_lt (tgt := 14) dX6_addCup_8 (by decide) (fun c8 => ?_) (fun c8 => ?_)
  · have h1 : cn < 3 := (nI_ltI (b := 3) (by omega) (by decide)).mp c8
    have hop : opCup r = (nI cn, upd r 3 (nI (cn + 1))) := by
      unfold opCup
      rw [i4, if_neg (fun e => by have := (nI_eq (by omega) (by decide)).mp (show nI cn = nI 3 from e); omega), nI_1]
    refine zv_aload_n dX6_addCup_14 rfl ?_
    refine zv_getS (r := 1) hb.1 rfl fl_X6_10 rfl dX6_addCup_15 ?_
    refine zv_getI hb.2.1.1 rfl fl_X6_152 rfl dX6_addCup_18 ?_
    rw [e3]
    refine zv_istore_n dX6_addCup_21 (by decide) rfl ?_
    refine zv_aload_n dX6_addCup_22 rfl ?_
    refine zv_getS (r := 1) hb.1 rfl fl_X6_10 rfl dX6_addCup_23 ?_
    refine zv_dup dX6_addCup_26 rfl ?_
    refine zv_getI hb.2.1.1 rfl fl_X6_152 rfl dX6_addCup_27 ?_
    refine zv_iconst (v := 1) dX6_addCup_30 (by decide) ?_
    refine zv_iadd dX6_addCup_31 ?_
    rw [e3, nI_1]
    refine zv_putI (t := 2) hb.2.1.1 rfl fl_X6_152 ft_X5_3 rfl dX6_addCup_32 ?_
    refine zv_iload_n dX6_addCup_35 rfl ?_
    rw [hop]
    exact zv_iretI dX6_addCup_36 rfl rfl rfl ⟨CR_head hC (by omega), zFr_zst (by omega)⟩
  · have h1 : cn = 3 := by
      rcases Nat.lt_or_ge cn 3 with g | g
      · exact absurd (nI_lt g (by decide)) c8
      · omega
    have hop : opCup r = (-4, r) := by
      unfold opCup
      rw [i4, if_pos (by rw [h1]; rfl)]
    refine zv_bipush (v := (-4)) dX6_addCup_11 (by decide) ?_
    rw [hop]
    exact zv_iretI dX6_addCup_13 rfl rfl rfl ⟨hC, zFr_rf⟩

set_option maxRecDepth 100000 in
set_option maxHeartbeats 4000000 in
theorem m_X6_emptyCup (l : Launch) (D : zD) (B : Nat) {L : zL} {nx : Nat} {G : zG} {x b : Nat} {r : Nat → Int32} (hb : zBD L x) (hC : CR x r G) (hS : SI b r) (y : Int32) : zMet l D B yX6_emptyCup cX6_emptyCup 4 (some .int) 2 40 0 0 [.ref x, .int y] L nx G (zI (opEmpty r y).1 L nx (fun G1 => CR x ((opEmpty r y).2) G1 ∧ zFr x G G1)) := by
  refine zMet_of (own := RX6) (mn := "emptyCup") [some (.ref x), some (.int y), none, none] (by decide +kernel) rfl rfl rfl (Nat.le_of_ble_eq_true rfl) ?_
  show zV l (fun _ => True) D B RX6 "emptyCup" cX6_emptyCup 4 (some .int) (zrm 2 40 0 0) (zN (zI (opEmpty r y).1 L nx (fun G1 => CR x ((opEmpty r y).2) G1 ∧ zFr x G G1))) 0 0 L nx 0 [some (.ref x), some (.int y), none, none] [] (G)
  obtain ⟨w, ls, n, cn, i0, iw, i1, il, i2, i3, i4, i5, i6, i7, i8⟩ := id hS
  have e3 : G (x + 1) 3 = nI cn := by rw [hC.1.1]; exact i4
  have e2 : G (x + 1) 2 = nI n := by rw [hC.1.1]; exact i2
  have e0 : G (x + 1) 0 = nI w := by rw [hC.1.1]; exact i0
  have e1 : G (x + 1) 1 = nI ls := by rw [hC.1.1]; exact i1
  refine zv_aload_n dX6_emptyCup_0 rfl ?_
  refine zv_getS (r := 1) hb.1 rfl fl_X6_10 rfl dX6_emptyCup_1 ?_
  refine zv_iload_n dX6_emptyCup_4 rfl ?_
  rcases hz : cpI r y with _ | i
  · have hno := cpI_none i4 i5 hz
    have hop : opEmpty r y = (-1, r) := by unfold opEmpty; rw [hz]
    refine zv_callV (m_X5_cupAt_no l D B hb.2.1 e3 i5 hno) ml_X6_110 in_X5_cupAt sel_X5_cupAt hb.2.1.1 rfl rfl rfl rfl (Nat.le_of_ble_eq_true rfl) dX6_emptyCup_5 ⟨Nat.le_of_ble_eq_true rfl, Nat.le_of_ble_eq_true rfl⟩ ⟨Nat.le_refl _, Nat.le_refl _⟩ (zk_w ?_)
    refine zv_astore_nN dX6_emptyCup_8 (by decide) rfl ?_
    refine zv_aload_nN dX6_emptyCup_9 rfl ?_
    refine zv_ifnonnull_n dX6_emptyCup_10 ?_
    refine zv_iconst (v := (-1)) dX6_emptyCup_13 (by decide) ?_
    rw [hop]
    exact zv_iretI dX6_emptyCup_14 rfl rfl rfl ⟨hC, zFr_rf⟩
  · obtain ⟨hi, rfl⟩ := cpI_some i4 i5 hz
    have hi3 : i < 3 := by omega
    have hci := hC.1.2 i hi3
    have hop : opEmpty r (nI i) = (nI (zcnt (zb (cupR r i 0)) 16), putC r i (fun _ => 0)) := by unfold opEmpty; rw [hz]
    obtain ⟨m, hJ, -⟩ := i6 i hi3
    refine zv_callV (m_X5_cupAt l D B hb.2.1 e3 i5 hi) ml_X6_110 in_X5_cupAt sel_X5_cupAt hb.2.1.1 rfl rfl rfl rfl (Nat.le_of_ble_eq_true rfl) dX6_emptyCup_5 ⟨Nat.le_of_ble_eq_true rfl, Nat.le_of_ble_eq_true rfl⟩ ⟨Nat.le_refl _, Nat.le_refl _⟩ (zk_r ?_)
    refine zv_astore_n dX6_emptyCup_8 (by decide) rfl ?_
    refine zv_aload_n dX6_emptyCup_9 rfl ?_
    refine zv_ifnonnull_r (tgt := 15) dX6_emptyCup_10 (by decide) ?_
    refine zv_aload_n dX6_emptyCup_15 rfl ?_
    refine zv_callV (m_knownCount l D B (hb.2.1.2 i hi3) (by rw [hci]; exact zlim_zm hJ.1 hJ.2.2.2.1)) ml_X6_136 in_X0_knownCount sel_X0_knownCount (hb.2.1.2 i hi3) rfl rfl rfl rfl (Nat.le_of_ble_eq_true rfl) dX6_emptyCup_16 ⟨Nat.le_of_ble_eq_true rfl, Nat.le_of_ble_eq_true rfl⟩ ⟨Nat.le_refl _, Nat.le_refl _⟩ (zk_i ?_)
    rw [hci]
    refine zv_istore_n dX6_emptyCup_19 (by decide) rfl ?_
    refine zv_aload_n dX6_emptyCup_20 rfl ?_
    refine zv_callV (m_X0_clear l D B (hb.2.1.2 i hi3)) ml_X6_223 in_X0_clear sel_X0_clear (hb.2.1.2 i hi3) rfl rfl rfl rfl (Nat.le_of_ble_eq_true rfl) dX6_emptyCup_21 ⟨Nat.le_of_ble_eq_true rfl, Nat.le_of_ble_eq_true rfl⟩ ⟨Nat.le_refl _, Nat.le_refl _⟩ (zk_v ?_)
    rw [hci, show clearP (cupR r i) = fun _ => 0 by funext j; simp only [clearP, clearA, cupR]; grind]
    refine zv_iload_n dX6_emptyCup_24 rfl ?_
    rw [hop]
    exact zv_iretI dX6_emptyCup_25 rfl rfl rfl ⟨CR_cup hC hi3 (fun _ _ => rfl), zFr_zst (by omega)⟩

set_option maxRecDepth 100000 in
set_option maxHeartbeats 4000000 in
theorem lp_X6_pourDroplets (l : Launch) (D : zD) (B : Nat) {L : zL} {nx : Nat} {G : zG} {x b : Nat} {r : Nat → Int32} (hb : zBD L x) (hC : CR x r G) (hS : SI b r) {i sd mn n w : Nat} {a : Option Value} {c : Int32} (hi : i < 3) (hsd : sd < 65536) (hmn : mn < 100) (i0 : r 0 = nI w) (iw : w ≤ 2) (i2 : r 2 = nI n) (i3 : n ≤ 16) (hn0 : 0 < n) (i6 : zCI n (chR r) (cupR r i)) : ∀ k : Nat, k ≤ mn → ∀ d : Nat → Int32, zV l (fun _ => True) D B RX6 "pourDroplets" cX6_pourDroplets 8 (some .int) (zrm 4 90 0 0) (zN (zI (prR r (cupR r i) sd mn) L nx (fun G1 => CR x (upd (putC r i (prF r (cupR r i) sd mn)) 4 (r 4 + nI mn)) G1 ∧ zFr x G G1))) 0 0 L nx 39 [some (.ref x), a, some (.int (nI sd)), some (.int (nI mn)), some (.ref (x + 1 + (3 + 4 * i))), some (.int c), some (.int (prR r (cupR r i) sd k)), some (.int (nI k))] [] (zst (zst G (x + 1 + (3 + 4 * i)) (prF r (cupR r i) sd k)) (x + 126) d) := by
  refine zloop mn (fun k hk ih d => ?_)
  have hCI := prF_CI (sd := sd) i2 hn0 i3 i6
  have hhi := prF_hi (sd := sd) i2 hn0 i3 i6 (cupR_hi r i)
  refine zv_iload dX6_pourDroplets_39 rfl ?_
  refine zv_iload_n dX6_pourDroplets_41 rfl ?_
  refine zv_icmp_ge (tgt := 83) dX6_pourDroplets_42 (by decide) (fun c42 => ?_) (fun c42 => ?_)
  · have e : k = mn := by have := (nI_leI (by omega) (by omega)).mp c42; omega
    subst e
    have hC2 : CR x (putC r i (prF r (cupR r i) sd k)) (zst (zst G (x + 1 + (3 + 4 * i)) (prF r (cupR r i) sd k)) (x + 126) d) := CR_fal (CR_cup hC hi (hhi k))
    have hd1 : (zst (zst G (x + 1 + (3 + 4 * i)) (prF r (cupR r i) sd k)) (x + 126) d) (x + 1) = hdR r := by rw [zst_ne _ _ (by omega), zst_ne _ _ (by omega)]; exact hC.1.1
    refine zv_aload_n dX6_pourDroplets_83 rfl ?_
    refine zv_getS (r := 1) hb.1 rfl fl_X6_10 rfl dX6_pourDroplets_84 ?_
    refine zv_dup dX6_pourDroplets_87 rfl ?_
    refine zv_getI hb.2.1.1 rfl fl_X6_158 rfl dX6_pourDroplets_88 ?_
    refine zv_iload_n dX6_pourDroplets_91 rfl ?_
    refine zv_iadd dX6_pourDroplets_92 ?_
    rw [show (zst (zst G (x + 1 + (3 + 4 * i)) (prF r (cupR r i) sd k)) (x + 126) d) (x + 1) 4 = r 4 by rw [hd1]; rfl]
    refine zv_putI (t := 2) hb.2.1.1 rfl fl_X6_158 ft_X5_4 rfl dX6_pourDroplets_93 ?_
    refine zv_iload dX6_pourDroplets_96 rfl ?_
    exact zv_iretI dX6_pourDroplets_98 rfl rfl rfl ⟨CR_head hC2 (by omega), zFr_tr (zFr_zst (by omega)) (zFr_tr (zFr_zst (by omega)) (zFr_zst (by omega)))⟩
  · have hlt : k < mn := by
      rcases Nat.lt_or_ge k mn with h | h
      · exact h
      · exact absurd (nI_le h (by omega)) c42
    obtain ⟨m, hJ, hs⟩ := hCI k
    have hd1 : (zst (zst G (x + 1 + (3 + 4 * i)) (prF r (cupR r i) sd k)) (x + 126) d) (x + 1) = hdR r := by rw [zst_ne _ _ (by omega), zst_ne _ _ (by omega)]; exact hC.1.1
    refine zv_aload_n dX6_pourDroplets_45 rfl ?_
    refine zv_getS (r := 126) hb.1 rfl fl_X6_37 rfl dX6_pourDroplets_46 ?_
    refine zv_aload_n dX6_pourDroplets_49 rfl ?_
    refine zv_getS (r := 1) hb.1 rfl fl_X6_10 rfl dX6_pourDroplets_50 ?_
    refine zv_iload_n dX6_pourDroplets_53 rfl ?_
    refine zv_iload dX6_pourDroplets_54 rfl ?_
    refine zv_iadd dX6_pourDroplets_56 ?_
    refine zv_callS (m_X6_wrappedSeed l D B _) ml_X6_181 st_X6_wrappedSeed rfl rfl (Nat.le_of_ble_eq_true rfl) dX6_pourDroplets_57 ⟨Nat.le_of_ble_eq_true rfl, Nat.le_of_ble_eq_true rfl⟩ ⟨Nat.le_refl _, Nat.le_refl _⟩ (zk_i ?_)
    rw [nI_add, show nI (sd + k) &&& 65535 = nI ((sd + k) % 65536) from pk_andN (by omega) 16 (by decide)]
    refine zv_callV (m_X1_makeFrom l D B (w := w) (n := n) hb.2.2.2.2.2.1 hb.2.1.1 (by omega) (by rw [hd1]; exact i2) hn0 i3 (by rw [hd1]; exact i0) iw (by omega)) ml_X6_93 in_X1_makeFrom sel_X1_makeFrom hb.2.2.2.2.2.1 rfl rfl rfl rfl (Nat.le_of_ble_eq_true rfl) dX6_pourDroplets_60 ⟨Nat.le_of_ble_eq_true rfl, Nat.le_of_ble_eq_true rfl⟩ ⟨Nat.le_refl _, Nat.le_refl _⟩ (zk_v ?_)
    rw [zst_same, zst_zst, hd1]
    have hD : zDO n (chR r) (mkP d w (hdR r 1) n (chR r) ((sd + k) % 65536)) := mkP_DO hn0 i3
    have hdd : dPR r ((sd + k) % 65536) = mkP (fun _ => 0) w (hdR r 1) n (chR r) ((sd + k) % 65536) := by unfold dPR; rw [i0, i2, nI_clamp (by omega), nI_clamp (by omega)]; rfl
    obtain ⟨hcP, hcR⟩ := recvP_congr (f := prF r (cupR r i) sd k) (d := mkP d w (hdR r 1) n (chR r) ((sd + k) % 65536)) (e := dPR r ((sd + k) % 65536)) (by rw [hdd]; rfl) (by rw [hdd]; rfl) (by rw [hdd]; rfl)
    change zV _ _ _ _ _ _ _ _ _ _ _ _ _ _ _ _ _ _ (zst (zst G (x + 1 + (3 + 4 * i)) (prF r (cupR r i) sd k)) (x + 126) (mkP d w (hdR r 1) n (chR r) ((sd + k) % 65536)))
    have hg1 : (zst (zst G (x + 1 + (3 + 4 * i)) (prF r (cupR r i) sd k)) (x + 126) (mkP d w (hdR r 1) n (chR r) ((sd + k) % 65536))) (x + 1 + (3 + 4 * i)) = prF r (cupR r i) sd k := by rw [zst_ne _ _ (by omega), zst_same]
    refine zv_iload dX6_pourDroplets_63 rfl ?_
    refine zv_aload dX6_pourDroplets_65 rfl ?_
    refine zv_aload_n dX6_pourDroplets_67 rfl ?_
    refine zv_getS (r := 126) hb.1 rfl fl_X6_37 rfl dX6_pourDroplets_68 ?_
    refine zv_callV (m_X0_receive l D B (n := n) (m := m) (ch := chR r) (hb.2.1.2 i hi) hb.2.2.2.2.2.1 (by omega) (by rw [hg1]; exact hJ) (by rw [hg1]; exact hs) (by rw [zst_same]; exact hD)) ml_X6_177 in_X0_receive sel_X0_receive (hb.2.1.2 i hi) rfl rfl rfl rfl (Nat.le_of_ble_eq_true rfl) dX6_pourDroplets_71 ⟨Nat.le_of_ble_eq_true rfl, Nat.le_of_ble_eq_true rfl⟩ ⟨Nat.le_refl _, Nat.le_refl _⟩ (zk_i ?_)
    rw [hg1, zst_same, hcP, hcR]
    refine zv_iadd dX6_pourDroplets_74 ?_
    refine zv_istore dX6_pourDroplets_75 (by decide) rfl ?_
    refine zv_iinc1 dX6_pourDroplets_77 rfl (by decide) rfl ?_
    refine zv_goto (tgt := 39) dX6_pourDroplets_80 (by decide) ?_
    rw [nI_1]
    refine zv_eqG ?_ (ih hlt (mkP d w (hdR r 1) n (chR r) ((sd + k) % 65536)))
    rw [zst_comm _ _ _ (show x + 126 ≠ x + 1 + (3 + 4 * i) by omega), zst_zst]
    rfl

set_option maxRecDepth 100000 in
set_option maxHeartbeats 4000000 in
theorem m_X6_pourDroplets (l : Launch) (D : zD) (B : Nat) {L : zL} {nx : Nat} {G : zG} {x b : Nat} {r : Nat → Int32} (hb : zBD L x) (hC : CR x r G) (hS : SI b r) (y sd mn : Int32) : zMet l D B yX6_pourDroplets cX6_pourDroplets 8 (some .int) 4 90 0 0 [.ref x, .int y, .int sd, .int mn] L nx G (zI (opPour r y sd mn).1 L nx (fun G1 => CR x ((opPour r y sd mn).2) G1 ∧ zFr x G G1)) := by
  refine zMet_of (own := RX6) (mn := "pourDroplets") [some (.ref x), some (.int y), some (.int sd), some (.int mn), none, none, none, none] (by decide +kernel) rfl rfl rfl (Nat.le_of_ble_eq_true rfl) ?_
  show zV l (fun _ => True) D B RX6 "pourDroplets" cX6_pourDroplets 8 (some .int) (zrm 4 90 0 0) (zN (zI (opPour r y sd mn).1 L nx (fun G1 => CR x ((opPour r y sd mn).2) G1 ∧ zFr x G G1))) 0 0 L nx 0 [some (.ref x), some (.int y), some (.int sd), some (.int mn), none, none, none, none] [] (G)
  obtain ⟨w, ls, n, cn, i0, iw, i1, il, i2, i3, i4, i5, i6, i7, i8⟩ := id hS
  have e3 : G (x + 1) 3 = nI cn := by rw [hC.1.1]; exact i4
  have e2 : G (x + 1) 2 = nI n := by rw [hC.1.1]; exact i2
  have e0 : G (x + 1) 0 = nI w := by rw [hC.1.1]; exact i0
  have e1 : G (x + 1) 1 = nI ls := by rw [hC.1.1]; exact i1
  refine zv_aload_n dX6_pourDroplets_0 rfl ?_
  refine zv_getS (r := 1) hb.1 rfl fl_X6_10 rfl dX6_pourDroplets_1 ?_
  refine zv_iload_n dX6_pourDroplets_4 rfl ?_
  rcases hz : cpI r y with _ | i
  · have hno := cpI_none i4 i5 hz
    have hop : opPour r y sd mn = (-1, r) := by unfold opPour; rw [hz]
    refine zv_callV (m_X5_cupAt_no l D B hb.2.1 e3 i5 hno) ml_X6_110 in_X5_cupAt sel_X5_cupAt hb.2.1.1 rfl rfl rfl rfl (Nat.le_of_ble_eq_true rfl) dX6_pourDroplets_5 ⟨Nat.le_of_ble_eq_true rfl, Nat.le_of_ble_eq_true rfl⟩ ⟨Nat.le_refl _, Nat.le_refl _⟩ (zk_w ?_)
    refine zv_astoreN dX6_pourDroplets_8 (by decide) rfl ?_
    refine zv_aloadN dX6_pourDroplets_10 rfl ?_
    refine zv_ifnonnull_n dX6_pourDroplets_12 ?_
    refine zv_iconst (v := (-1)) dX6_pourDroplets_15 (by decide) ?_
    rw [hop]
    exact zv_iretI dX6_pourDroplets_16 rfl rfl rfl ⟨hC, zFr_rf⟩
  · obtain ⟨hi, rfl⟩ := cpI_some i4 i5 hz
    have hi3 : i < 3 := by omega
    have hci := hC.1.2 i hi3
    refine zv_callV (m_X5_cupAt l D B hb.2.1 e3 i5 hi) ml_X6_110 in_X5_cupAt sel_X5_cupAt hb.2.1.1 rfl rfl rfl rfl (Nat.le_of_ble_eq_true rfl) dX6_pourDroplets_5 ⟨Nat.le_of_ble_eq_true rfl, Nat.le_of_ble_eq_true rfl⟩ ⟨Nat.le_refl _, Nat.le_refl _⟩ (zk_r ?_)
    refine zv_astore dX6_pourDroplets_8 (by decide) rfl ?_
    refine zv_aload dX6_pourDroplets_10 rfl ?_
    refine zv_ifnonnull_r (tgt := 17) dX6_pourDroplets_12 (by decide) ?_
    refine zv_aload_n dX6_pourDroplets_17 rfl ?_
    refine zv_iload_n dX6_pourDroplets_18 rfl ?_
    refine zv_iload_n dX6_pourDroplets_19 rfl ?_
    refine zv_callV (m_X6_errorOfDroplets l D B hb hC.1 sd mn) ml_X6_171 in_X6_errorOfDroplets sel_X6_errorOfDroplets hb.1 rfl rfl rfl rfl (Nat.le_of_ble_eq_true rfl) dX6_pourDroplets_20 ⟨Nat.le_of_ble_eq_true rfl, Nat.le_of_ble_eq_true rfl⟩ ⟨Nat.le_refl _, Nat.le_refl _⟩ (zk_i ?_)
    refine zv_istore dX6_pourDroplets_23 (by decide) rfl ?_
    refine zv_iload dX6_pourDroplets_25 rfl ?_
    refine zv_if_ge (tgt := 33) dX6_pourDroplets_27 (by decide) (fun c27 => ?_) (fun c27 => ?_)
    · have he : ¬ errD r sd mn < 0 := i32_nlt.mpr c27
      have hop : opPour r (nI i) sd mn = (prR r (cupR r i) sd.toNatClampNeg mn.toNatClampNeg, upd (putC r i (prF r (cupR r i) sd.toNatClampNeg mn.toNatClampNeg)) 4 (r 4 + mn)) := by unfold opPour; rw [hz]; dsimp only; rw [if_neg he]
      obtain ⟨sd', mn', hsd, hmn0, hmn, rfl, rfl, hn0⟩ := errD_ok i2 i3 he
      rw [nI_clamp (by omega), nI_clamp (by omega)] at hop
      rw [hop]
      refine zv_iconst (v := 0) dX6_pourDroplets_33 (by decide) ?_
      refine zv_istore dX6_pourDroplets_34 (by decide) rfl ?_
      refine zv_iconst (v := 0) dX6_pourDroplets_36 (by decide) ?_
      refine zv_istore dX6_pourDroplets_37 (by decide) rfl ?_
      refine zv_eqG ?_ (lp_X6_pourDroplets l D B hb hC hS hi3 hsd (by omega) i0 iw i2 i3 hn0 (i6 i hi3) 0 (by omega) (G (x + 126)))
      show G = zst (zst G (x + 1 + (3 + 4 * i)) (cupR r i)) (x + 126) (G (x + 126))
      rw [← hci, zst_self, zst_self]
    · have he : errD r sd mn < 0 := i32_nle.mp c27
      have hop : opPour r (nI i) sd mn = (errD r sd mn, r) := by unfold opPour; rw [hz]; dsimp only; rw [if_pos he]
      rw [hop]
      refine zv_iload dX6_pourDroplets_30 rfl ?_
      exact zv_iretI dX6_pourDroplets_32 rfl rfl rfl ⟨hC, zFr_rf⟩
