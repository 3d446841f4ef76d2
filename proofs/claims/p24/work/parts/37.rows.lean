set_option maxRecDepth 100000 in
set_option maxHeartbeats 4000000 in
theorem lp2_X0_clear (l : Launch) (D : zD) (B : Nat) {L : zL} {nx : Nat} {G : zG} {q : Nat} (hq : (q, 3) ∈ L) : ∀ i : Nat, i ≤ 24 → zV l (fun _ => True) D B RX0 "clear" cX0_clear 2 none (zrm 0 0 0 0) (zN (zE none L nx (zst G q (clearP (G q))))) 0 0 L nx 48 [some (.ref q), some (.int (nI i))] [] (zst G q (clearA (G q) 16 i)) := by
  refine zloop 24 (fun i hi ih => ?_)
  refine zv_iload_n dX0_clear_48 rfl ?_
  refine zv_bipush (v := 24) dX0_clear_49 (by decide) ?_
  refine zv_icmp_ge (tgt := 74) dX0_clear_51 (by decide) (fun c51 => ?_) (fun c51 => ?_)
  · have e : i = 24 := by have := zge_of (N := 24) (by decide) (by omega) rfl c51; omega
    subst e
    refine zv_vretE dX0_clear_74 rfl ?_
    rfl
  · have hlt : i < 24 := zlt_of (N := 24) (by decide) (by omega) rfl c51
    refine zv_aload_n dX0_clear_54 rfl ?_
    refine zv_getS (r := 2) hq rfl fl_X0_15 rfl dX0_clear_55 ?_
    refine zv_iload_n dX0_clear_58 rfl ?_
    refine zv_iconst (v := 0) dX0_clear_59 (by decide) ?_
    refine zv_iast (i := 2) hq rfl (zix_nI (by omega) (by decide)) dX0_clear_60 ?_
    refine zv_aload_n dX0_clear_61 rfl ?_
    refine zv_getS (r := 3) hq rfl fl_X0_18 rfl dX0_clear_62 ?_
    refine zv_iload_n dX0_clear_65 rfl ?_
    refine zv_iconst (v := 0) dX0_clear_66 (by decide) ?_
    refine zv_iast (i := 3) hq rfl (zix_nI (by omega) (by decide)) dX0_clear_67 ?_
    refine zv_iinc1 dX0_clear_68 rfl (by decide) rfl ?_
    refine zv_goto (tgt := 48) dX0_clear_71 (by decide) ?_
    rw [nI_1]
    refine zv_eqG ?_ (ih hlt)
    simp only [zst_same, zst_zst]
    rw [clearA_2 hlt]

set_option maxRecDepth 100000 in
set_option maxHeartbeats 4000000 in
theorem lp1_X0_clear (l : Launch) (D : zD) (B : Nat) {L : zL} {nx : Nat} {G : zG} {q : Nat} (hq : (q, 3) ∈ L) : ∀ i : Nat, i ≤ 16 → zV l (fun _ => True) D B RX0 "clear" cX0_clear 2 none (zrm 0 0 0 0) (zN (zE none L nx (zst G q (clearP (G q))))) 0 0 L nx 27 [some (.ref q), some (.int (nI i))] [] (zst G q (clearA (G q) i 0)) := by
  refine zloop 16 (fun i hi ih => ?_)
  refine zv_iload_n dX0_clear_27 rfl ?_
  refine zv_bipush (v := 16) dX0_clear_28 (by decide) ?_
  refine zv_icmp_ge (tgt := 46) dX0_clear_30 (by decide) (fun c30 => ?_) (fun c30 => ?_)
  · have e : i = 16 := by have := zge_of (N := 16) (by decide) (by omega) rfl c30; omega
    subst e
    refine zv_iconst (v := 0) dX0_clear_46 (by decide) ?_
    refine zv_istore_n dX0_clear_47 (by decide) rfl ?_
    exact lp2_X0_clear l D B hq 0 (by omega)
  · have hlt : i < 16 := zlt_of (N := 16) (by decide) (by omega) rfl c30
    refine zv_aload_n dX0_clear_33 rfl ?_
    refine zv_getS (r := 1) hq rfl fl_X0_9 rfl dX0_clear_34 ?_
    refine zv_iload_n dX0_clear_37 rfl ?_
    refine zv_iconst (v := 0) dX0_clear_38 (by decide) ?_
    refine zv_iast (i := 1) hq rfl (zix_nI (by omega) (by decide)) dX0_clear_39 ?_
    refine zv_iinc1 dX0_clear_40 rfl (by decide) rfl ?_
    refine zv_goto (tgt := 27) dX0_clear_43 (by decide) ?_
    rw [nI_1]
    refine zv_eqG ?_ (ih hlt)
    simp only [zst_same, zst_zst]
    rw [clearA_1 hlt]

set_option maxRecDepth 100000 in
set_option maxHeartbeats 4000000 in
theorem m_X0_clear (l : Launch) (D : zD) (B : Nat) {L : zL} {nx : Nat} {G : zG} {q : Nat} (hq : (q, 3) ∈ L) : zMet l D B yX0_clear cX0_clear 2 none 0 0 0 0 [.ref q] L nx G (zE none L nx (zst G q (clearP (G q)))) := by
  refine zMet_of (own := RX0) (mn := "clear") [some (.ref q), none] (by decide +kernel) rfl rfl rfl (Nat.le_of_ble_eq_true rfl) ?_
  show zV l (fun _ => True) D B RX0 "clear" cX0_clear 2 none (zrm 0 0 0 0) (zN (zE none L nx (zst G q (clearP (G q))))) 0 0 L nx 0 [some (.ref q), none] [] (G)
  refine zv_aload_n dX0_clear_0 rfl ?_
  refine zv_iconst (v := 0) dX0_clear_1 (by decide) ?_
  refine zv_putI (t := 3) hq rfl fl_X0_21 ft_X0_0 rfl dX0_clear_2 ?_
  refine zv_aload_n dX0_clear_5 rfl ?_
  refine zv_iconst (v := 0) dX0_clear_6 (by decide) ?_
  refine zv_putI (t := 3) hq rfl fl_X0_25 ft_X0_1 rfl dX0_clear_7 ?_
  refine zv_aload_n dX0_clear_10 rfl ?_
  refine zv_iconst (v := 0) dX0_clear_11 (by decide) ?_
  refine zv_putI (t := 3) hq rfl fl_X0_28 ft_X0_2 rfl dX0_clear_12 ?_
  refine zv_aload_n dX0_clear_15 rfl ?_
  refine zv_iconst (v := 0) dX0_clear_16 (by decide) ?_
  refine zv_putI (t := 3) hq rfl fl_X0_31 ft_X0_3 rfl dX0_clear_17 ?_
  refine zv_aload_n dX0_clear_20 rfl ?_
  refine zv_iconst (v := 0) dX0_clear_21 (by decide) ?_
  refine zv_putI (t := 3) hq rfl fl_X0_34 ft_X0_4 rfl dX0_clear_22 ?_
  refine zv_iconst (v := 0) dX0_clear_25 (by decide) ?_
  refine zv_istore_n dX0_clear_26 (by decide) rfl ?_
  refine zv_eqG ?_ (lp1_X0_clear l D B hq 0 (by omega))
  simp only [zst_same, zst_zst]
  rw [clearA_0]

set_option maxRecDepth 100000 in
set_option maxHeartbeats 4000000 in
theorem m_X0_copyFrom (l : Launch) (D : zD) (B : Nat) {L : zL} {nx : Nat} {G : zG} {q p : Nat} (hq : (q, 3) ∈ L) (hp : (p, 3) ∈ L) (hpq : p ≠ q) : zMet l D B yX0_copyFrom cX0_copyFrom 2 none 1 40 0 0 [.ref q, .ref p] L nx G (zE none L nx (zst G q (cpP (G q) (G p)))) := by
  refine zMet_of (own := RX0) (mn := "copyFrom") [some (.ref q), some (.ref p)] (by decide +kernel) rfl rfl rfl (Nat.le_of_ble_eq_true rfl) ?_
  show zV l (fun _ => True) D B RX0 "copyFrom" cX0_copyFrom 2 none (zrm 1 40 0 0) (zN (zE none L nx (zst G q (cpP (G q) (G p))))) 0 0 L nx 0 [some (.ref q), some (.ref p)] [] (G)
  refine zv_aload_n dX0_copyFrom_0 rfl ?_
  refine zv_aload_n dX0_copyFrom_1 rfl ?_
  refine zv_getI hp rfl fl_X0_21 rfl dX0_copyFrom_2 ?_
  refine zv_putI (t := 3) hq rfl fl_X0_21 ft_X0_0 rfl dX0_copyFrom_5 ?_
  refine zv_aload_n dX0_copyFrom_8 rfl ?_
  refine zv_aload_n dX0_copyFrom_9 rfl ?_
  refine zv_getI hp rfl fl_X0_25 rfl dX0_copyFrom_10 ?_
  refine zv_putI (t := 3) hq rfl fl_X0_25 ft_X0_1 rfl dX0_copyFrom_13 ?_
  refine zv_aload_n dX0_copyFrom_16 rfl ?_
  refine zv_aload_n dX0_copyFrom_17 rfl ?_
  refine zv_getI hp rfl fl_X0_28 rfl dX0_copyFrom_18 ?_
  refine zv_putI (t := 3) hq rfl fl_X0_28 ft_X0_2 rfl dX0_copyFrom_21 ?_
  refine zv_aload_n dX0_copyFrom_24 rfl ?_
  refine zv_aload_n dX0_copyFrom_25 rfl ?_
  refine zv_getI hp rfl fl_X0_31 rfl dX0_copyFrom_26 ?_
  refine zv_putI (t := 3) hq rfl fl_X0_31 ft_X0_3 rfl dX0_copyFrom_29 ?_
  refine zv_aload_n dX0_copyFrom_32 rfl ?_
  refine zv_aload_n dX0_copyFrom_33 rfl ?_
  refine zv_getI hp rfl fl_X0_34 rfl dX0_copyFrom_34 ?_
  refine zv_putI (t := 3) hq rfl fl_X0_34 ft_X0_4 rfl dX0_copyFrom_37 ?_
  refine zv_aload_n dX0_copyFrom_40 rfl ?_
  refine zv_getS (r := 1) hp rfl fl_X0_9 rfl dX0_copyFrom_41 ?_
  refine zv_iconst (v := 0) dX0_copyFrom_44 (by decide) ?_
  refine zv_aload_n dX0_copyFrom_45 rfl ?_
  refine zv_getS (r := 1) hq rfl fl_X0_9 rfl dX0_copyFrom_46 ?_
  refine zv_iconst (v := 0) dX0_copyFrom_49 (by decide) ?_
  refine zv_bipush (v := 16) dX0_copyFrom_50 (by decide) ?_
  refine zv_copy cl_X0_37 znat_copy zst_copy zini_sys (i0 := 1) hp rfl (i := 1) hq rfl (by decide) rfl (by decide) (by decide) (by decide) (by decide) dX0_copyFrom_52 ?_
  refine zv_aload_n dX0_copyFrom_55 rfl ?_
  refine zv_getS (r := 2) hp rfl fl_X0_15 rfl dX0_copyFrom_56 ?_
  refine zv_iconst (v := 0) dX0_copyFrom_59 (by decide) ?_
  refine zv_aload_n dX0_copyFrom_60 rfl ?_
  refine zv_getS (r := 2) hq rfl fl_X0_15 rfl dX0_copyFrom_61 ?_
  refine zv_iconst (v := 0) dX0_copyFrom_64 (by decide) ?_
  refine zv_bipush (v := 24) dX0_copyFrom_65 (by decide) ?_
  refine zv_copy cl_X0_37 znat_copy zst_copy zini_sys (i0 := 2) hp rfl (i := 2) hq rfl (by decide) rfl (by decide) (by decide) (by decide) (by decide) dX0_copyFrom_67 ?_
  refine zv_aload_n dX0_copyFrom_70 rfl ?_
  refine zv_getS (r := 3) hp rfl fl_X0_18 rfl dX0_copyFrom_71 ?_
  refine zv_iconst (v := 0) dX0_copyFrom_74 (by decide) ?_
  refine zv_aload_n dX0_copyFrom_75 rfl ?_
  refine zv_getS (r := 3) hq rfl fl_X0_18 rfl dX0_copyFrom_76 ?_
  refine zv_iconst (v := 0) dX0_copyFrom_79 (by decide) ?_
  refine zv_bipush (v := 24) dX0_copyFrom_80 (by decide) ?_
  refine zv_copy cl_X0_37 znat_copy zst_copy zini_sys (i0 := 3) hp rfl (i := 3) hq rfl (by decide) rfl (by decide) (by decide) (by decide) (by decide) dX0_copyFrom_82 ?_
  refine zv_vretE dX0_copyFrom_85 rfl ?_
  simp only [zst_same, zst_zst, zst_ne _ _ hpq]
  exact congrArg (zst G q) cpP_e

set_option maxRecDepth 100000 in
set_option maxHeartbeats 4000000 in
theorem m_X4_isSingle (l : Launch) (D : zD) (B : Nat) {L : zL} {nx : Nat} {G : zG} {q i : Nat} {x : Int32} (hq : (q, 5) ∈ L) (hi : i < 24) (hx : x = nI i) (hz : zm (G q i) < 65536) : zMet l D B yX4_isSingle cX4_isSingle 2 (some .boolean) 1 20 0 0 [.ref q, .int x] L nx G (zE (some (.int (bI (isSg (G q i))))) L nx (G)) := by
  refine zMet_of (own := RX4) (mn := "isSingle") [some (.ref q), some (.int x)] (by decide +kernel) rfl rfl rfl (Nat.le_of_ble_eq_true rfl) ?_
  show zV l (fun _ => True) D B RX4 "isSingle" cX4_isSingle 2 (some .boolean) (zrm 1 20 0 0) (zN (zE (some (.int (bI (isSg (G q i))))) L nx (G))) 0 0 L nx 0 [some (.ref q), some (.int x)] [] (G)
  subst hx
  refine zv_iload_n dX4_isSingle_0 rfl ?_
  refine zv_if_lt (tgt := 27) dX4_isSingle_1 (by decide) (fun h => absurd h (nI_pos (by omega))) (fun _ => ?_)
  refine zv_iload_n dX4_isSingle_4 rfl ?_
  refine zv_bipush (v := 24) dX4_isSingle_5 (by decide) ?_
  refine zv_icmp_ge (tgt := 27) dX4_isSingle_7 (by decide) (fun h => absurd h (nI_ge hi (by decide))) (fun _ => ?_)
  refine zv_aload_n dX4_isSingle_10 rfl ?_
  refine zv_getS (r := 1) hq rfl fl_X4_9 rfl dX4_isSingle_11 ?_
  refine zv_iload_n dX4_isSingle_14 rfl ?_
  refine zv_iald (i := 1) hq rfl (zix_nI (by omega) (by decide)) dX4_isSingle_15 ?_
  rw [Nat.zero_add i]
  refine zv_callS (m_bitCount l D B hz) ml_X4_28 st_J6_bitCount_0f7a4 rfl rfl (Nat.le_of_ble_eq_true rfl) dX4_isSingle_16 ⟨Nat.le_of_ble_eq_true rfl, Nat.le_of_ble_eq_true rfl⟩ ⟨Nat.le_refl _, Nat.le_refl _⟩ (zk_i ?_)
  refine zv_iconst (v := 1) dX4_isSingle_19 (by decide) ?_
  refine zv_icmp_ne (tgt := 27) dX4_isSingle_20 (by decide) (fun c20 => ?_) (fun c20 => ?_)
  · have hcl := zcnt_le (zb (G q i)) 16
    have h : isSg (G q i) = false := by
      simp only [isSg, decide_eq_false_iff_not]
      intro e
      exact c20 (by rw [e]; rfl)
    refine zv_iconst (v := 0) dX4_isSingle_27 (by decide) ?_
    refine zv_iretE dX4_isSingle_28 rfl (by first | rfl | exact bI_nar _) ?_ ?_
    · rw [h]; rfl
    · rfl
  · have hcl := zcnt_le (zb (G q i)) 16
    have h : isSg (G q i) = true := by
      simp only [isSg, decide_eq_true_eq]
      exact (nI_eq (by omega) (by decide)).mp c20
    refine zv_iconst (v := 1) dX4_isSingle_23 (by decide) ?_
    refine zv_goto (tgt := 28) dX4_isSingle_24 (by decide) ?_
    refine zv_iretE dX4_isSingle_28 rfl (by first | rfl | exact bI_nar _) ?_ ?_
    · rw [h]; rfl
    · rfl

set_option maxRecDepth 100000 in
set_option maxHeartbeats 4000000 in
theorem lp_X4_singleCount (l : Launch) (D : zD) (B : Nat) {L : zL} {nx : Nat} {G : zG} {q : Nat} (hq : (q, 5) ∈ L) (hz : ∀ i, i < 24 → zm (G q i) < 65536) : ∀ i : Nat, i ≤ 24 → zV l (fun _ => True) D B RX4 "singleCount" cX4_singleCount 3 (some .int) (zrm 2 41 0 0) (zN (zE (some (.int (nI (zcnt (fun i => isSg (G q i)) 24)))) L nx G)) 0 0 L nx 4 [some (.ref q), some (.int (nI (zcnt (fun i => isSg (G q i)) i))), some (.int (nI i))] [] (G) := by
  refine zloop 24 (fun i hi ih => ?_)
  refine zv_iload_n dX4_singleCount_4 rfl ?_
  refine zv_bipush (v := 24) dX4_singleCount_5 (by decide) ?_
  refine zv_icmp_ge (tgt := 27) dX4_singleCount_7 (by decide) (fun c7 => ?_) (fun c7 => ?_)
  · have e : i = 24 := by have := zge_of (N := 24) (by decide) (by omega) rfl c7; omega
    subst e
    refine zv_iload_n dX4_singleCount_27 rfl ?_
    refine zv_iretE dX4_singleCount_28 rfl (rfl) ?_ ?_
    · rfl
    · rfl
  · have hlt : i < 24 := zlt_of (N := 24) (by decide) (by omega) rfl c7
    refine zv_aload_n dX4_singleCount_10 rfl ?_
    refine zv_iload_n dX4_singleCount_11 rfl ?_
    refine zv_callV (m_X4_isSingle l D B hq hlt rfl (hz i hlt)) ml_X4_34 in_X4_isSingle sel_X4_isSingle hq rfl rfl rfl rfl (Nat.le_of_ble_eq_true rfl) dX4_singleCount_12 ⟨Nat.le_of_ble_eq_true rfl, Nat.le_of_ble_eq_true rfl⟩ ⟨Nat.le_refl _, Nat.le_refl _⟩ (zk_i ?_)
    refine zv_if_eq (tgt := 21) dX4_singleCount_15 (by decide) (fun c15 => ?_) (fun c15 => ?_)
    · have h := bI_eq0.mp c15
      have hc : zcnt (fun i => isSg (G q i)) (i + 1) = zcnt (fun i => isSg (G q i)) i := by simp [zcnt, h]
      refine zv_iinc1 dX4_singleCount_21 rfl (by decide) rfl ?_
      refine zv_goto (tgt := 4) dX4_singleCount_24 (by decide) ?_
      have ih1 := ih hlt
      rw [hc] at ih1
      first
        | (rw [nI_1]; exact ih1)
        | (rw [nI_1, nI_1]; exact ih1)
    · have h := bI_ne0.mp c15
      have hc : zcnt (fun i => isSg (G q i)) (i + 1) = zcnt (fun i => isSg (G q i)) i + 1 := by simp [zcnt, h]
      refine zv_iinc1 dX4_singleCount_18 rfl (by decide) rfl ?_
      refine zv_iinc1 dX4_singleCount_21 rfl (by decide) rfl ?_
      refine zv_goto (tgt := 4) dX4_singleCount_24 (by decide) ?_
      have ih1 := ih hlt
      rw [hc] at ih1
      first
        | (rw [nI_1]; exact ih1)
        | (rw [nI_1, nI_1]; exact ih1)

set_option maxRecDepth 100000 in
set_option maxHeartbeats 4000000 in
theorem m_X4_singleCount (l : Launch) (D : zD) (B : Nat) {L : zL} {nx : Nat} {G : zG} {q : Nat} (hq : (q, 5) ∈ L) (hz : ∀ i, i < 24 → zm (G q i) < 65536) : zMet l D B yX4_singleCount cX4_singleCount 3 (some .int) 2 41 0 0 [.ref q] L nx G (zE (some (.int (nI (zcnt (fun i => isSg (G q i)) 24)))) L nx (G)) := by
  refine zMet_of (own := RX4) (mn := "singleCount") [some (.ref q), none, none] (by decide +kernel) rfl rfl rfl (Nat.le_of_ble_eq_true rfl) ?_
  show zV l (fun _ => True) D B RX4 "singleCount" cX4_singleCount 3 (some .int) (zrm 2 41 0 0) (zN (zE (some (.int (nI (zcnt (fun i => isSg (G q i)) 24)))) L nx (G))) 0 0 L nx 0 [some (.ref q), none, none] [] (G)
  refine zv_iconst (v := 0) dX4_singleCount_0 (by decide) ?_
  refine zv_istore_n dX4_singleCount_1 (by decide) rfl ?_
  refine zv_iconst (v := 0) dX4_singleCount_2 (by decide) ?_
  refine zv_istore_n dX4_singleCount_3 (by decide) rfl ?_
  exact lp_X4_singleCount l D B hq hz 0 (by omega)

set_option maxRecDepth 100000 in
set_option maxHeartbeats 4000000 in
theorem lp2_X4_reduce (l : Launch) (D : zD) (B : Nat) {L : zL} {nx : Nat} {G : zG} {q p a : Nat} {own : Int32} {post : zQ} (hq : (q, 5) ∈ L) (ha : a < 24) (hk : zV l (fun _ => True) D B RX4 "reduce" cX4_reduce 5 none (zrm 1 40 0 0) (zN post) 0 0 L nx 119 [some (.ref q), some (.ref p), some (.int (nI a)), some (.int own), some (.int 24)] [] (zst G q (redI (G q) a own 24))) : ∀ i : Nat, i ≤ 24 → zV l (fun _ => True) D B RX4 "reduce" cX4_reduce 5 none (zrm 1 40 0 0) (zN (post)) 0 0 L nx 56 [some (.ref q), some (.ref p), some (.int (nI a)), some (.int own), some (.int (nI i))] [] (zst G q (redI (G q) a own i)) := by
  refine zloop 24 (fun i hi ih => ?_)
  refine zv_iload dX4_reduce_56 rfl ?_
  refine zv_bipush (v := 24) dX4_reduce_58 (by decide) ?_
  refine zv_icmp_ge (tgt := 119) dX4_reduce_60 (by decide) (fun c60 => ?_) (fun c60 => ?_)
  · have e : i = 24 := by have := zge_of (N := 24) (by decide) (by omega) rfl c60; omega
    subst e
    exact hk
  · have hlt : i < 24 := zlt_of (N := 24) (by decide) (by omega) rfl c60
    refine zv_iload dX4_reduce_63 rfl ?_
    refine zv_iload_n dX4_reduce_65 rfl ?_
    obtain ⟨r1, r2, r3, r4⟩ := redI_at (f := G q) (own := own) ha (show i ≤ 23 by omega |> Nat.lt_succ_of_le)
    refine zv_icmp_eq (tgt := 113) dX4_reduce_66 (by decide) (fun c66 => ?_) (fun c66 => ?_)
    · have hs := redI_s1 (f := G q) (own := own) hlt (Or.inl ((nI_eq (by omega) (by omega)).mp c66))
      refine zv_iinc1 dX4_reduce_113 rfl (by decide) rfl ?_
      refine zv_goto (tgt := 56) dX4_reduce_116 (by decide) ?_
      rw [nI_1]
      refine zv_eqG ?_ (ih hlt)
      first
        | exact congrArg (zst G q) hs
        | (simp only [zst_same, zst_zst, Nat.zero_add]; rw [r1, r3]; rw [show upd (redI (G q) a own i) i (G q i ^^^ G q a) (24 + i) = G q (24 + i) by simp only [upd]; rw [if_neg (by omega)]; exact r4, show upd (redI (G q) a own i) i (G q i ^^^ G q a) (24 + a) = G q (24 + a) by simp only [upd]; rw [if_neg (by omega)]; exact r2, hs])
    · have hne : i ≠ a := fun e => c66 (by rw [e])
      refine zv_aload_n dX4_reduce_69 rfl ?_
      refine zv_getS (r := 1) hq rfl fl_X4_9 rfl dX4_reduce_70 ?_
      refine zv_iload dX4_reduce_73 rfl ?_
      refine zv_iald (i := 1) hq rfl (zix_nI (by omega) (by decide)) dX4_reduce_75 ?_
      refine zv_iload_n dX4_reduce_76 rfl ?_
      refine zv_iand dX4_reduce_77 ?_
      rw [zst_same, Nat.zero_add, r3]
      refine zv_if_eq (tgt := 113) dX4_reduce_78 (by decide) (fun c78 => ?_) (fun c78 => ?_)
      · have hs := redI_s1 (f := G q) (a := a) hlt (Or.inr c78)
        refine zv_iinc1 dX4_reduce_113 rfl (by decide) rfl ?_
        refine zv_goto (tgt := 56) dX4_reduce_116 (by decide) ?_
        rw [nI_1]
        refine zv_eqG ?_ (ih hlt)
        first
          | exact congrArg (zst G q) hs
          | (simp only [zst_same, zst_zst, Nat.zero_add]; rw [r1, r3]; rw [show upd (redI (G q) a own i) i (G q i ^^^ G q a) (24 + i) = G q (24 + i) by simp only [upd]; rw [if_neg (by omega)]; exact r4, show upd (redI (G q) a own i) i (G q i ^^^ G q a) (24 + a) = G q (24 + a) by simp only [upd]; rw [if_neg (by omega)]; exact r2, hs])
      · have hs := redI_s2 ha hlt hne c78
        refine zv_aload_n dX4_reduce_81 rfl ?_
        refine zv_getS (r := 1) hq rfl fl_X4_9 rfl dX4_reduce_82 ?_
        refine zv_iload dX4_reduce_85 rfl ?_
        refine zv_dup2 dX4_reduce_87 rfl rfl ?_
        refine zv_iald (i := 1) hq rfl (zix_nI (by omega) (by decide)) dX4_reduce_88 ?_
        refine zv_aload_n dX4_reduce_89 rfl ?_
        refine zv_getS (r := 1) hq rfl fl_X4_9 rfl dX4_reduce_90 ?_
        refine zv_iload_n dX4_reduce_93 rfl ?_
        refine zv_iald (i := 1) hq rfl (zix_nI (by omega) (by decide)) dX4_reduce_94 ?_
        refine zv_ixor dX4_reduce_95 ?_
        refine zv_iast (i := 1) hq rfl (zix_nI (by omega) (by decide)) dX4_reduce_96 ?_
        refine zv_aload_n dX4_reduce_97 rfl ?_
        refine zv_getS (r := 2) hq rfl fl_X4_15 rfl dX4_reduce_98 ?_
        refine zv_iload dX4_reduce_101 rfl ?_
        refine zv_dup2 dX4_reduce_103 rfl rfl ?_
        refine zv_iald (i := 2) hq rfl (zix_nI (by omega) (by decide)) dX4_reduce_104 ?_
        refine zv_aload_n dX4_reduce_105 rfl ?_
        refine zv_getS (r := 2) hq rfl fl_X4_15 rfl dX4_reduce_106 ?_
        refine zv_iload_n dX4_reduce_109 rfl ?_
        refine zv_iald (i := 2) hq rfl (zix_nI (by omega) (by decide)) dX4_reduce_110 ?_
        refine zv_ixor dX4_reduce_111 ?_
        refine zv_iast (i := 2) hq rfl (zix_nI (by omega) (by decide)) dX4_reduce_112 ?_
        refine zv_iinc1 dX4_reduce_113 rfl (by decide) rfl ?_
        refine zv_goto (tgt := 56) dX4_reduce_116 (by decide) ?_
        rw [nI_1]
        refine zv_eqG ?_ (ih hlt)
        first
          | exact congrArg (zst G q) hs
          | (simp only [zst_same, zst_zst, Nat.zero_add]; rw [r1, r3]; rw [show upd (redI (G q) a own i) i (G q i ^^^ G q a) (24 + i) = G q (24 + i) by simp only [upd]; rw [if_neg (by omega)]; exact r4, show upd (redI (G q) a own i) i (G q i ^^^ G q a) (24 + a) = G q (24 + a) by simp only [upd]; rw [if_neg (by omega)]; exact r2, hs])

set_option maxRecDepth 100000 in
set_option maxHeartbeats 4000000 in
theorem lp1_X4_reduce (l : Launch) (D : zD) (B : Nat) {L : zL} {nx : Nat} {G : zG} {q p : Nat} {g : Nat → Int32} (hq : (q, 5) ∈ L) : ∀ i : Nat, i ≤ 24 → ∀ b c : Option Value, zV l (fun _ => True) D B RX4 "reduce" cX4_reduce 5 none (zrm 1 40 0 0) (zN (zE none L nx (zst G q (redN g 24)))) 0 0 L nx 32 [some (.ref q), some (.ref p), some (.int (nI i)), b, c] [] (zst G q (redN g i)) := by
  refine zloop 24 (fun i hi ih b c => ?_)
  refine zv_iload_n dX4_reduce_32 rfl ?_
  refine zv_bipush (v := 24) dX4_reduce_33 (by decide) ?_
  refine zv_icmp_ge (tgt := 125) dX4_reduce_35 (by decide) (fun c35 => ?_) (fun c35 => ?_)
  · have e : i = 24 := by have := zge_of (N := 24) (by decide) (by omega) rfl c35; omega
    subst e
    refine zv_vretE dX4_reduce_125 rfl ?_
    rfl
  · have hlt : i < 24 := zlt_of (N := 24) (by decide) (by omega) rfl c35
    refine zv_aload_n dX4_reduce_38 rfl ?_
    refine zv_getS (r := 1) hq rfl fl_X4_9 rfl dX4_reduce_39 ?_
    refine zv_iload_n dX4_reduce_42 rfl ?_
    refine zv_iald (i := 1) hq rfl (zix_nI (by omega) (by decide)) dX4_reduce_43 ?_
    refine zv_aload_n dX4_reduce_44 rfl ?_
    refine zv_getS (r := 1) hq rfl fl_X4_9 rfl dX4_reduce_45 ?_
    refine zv_iload_n dX4_reduce_48 rfl ?_
    refine zv_iald (i := 1) hq rfl (zix_nI (by omega) (by decide)) dX4_reduce_49 ?_
    refine zv_ineg dX4_reduce_50 ?_
    refine zv_iand dX4_reduce_51 ?_
    refine zv_istore_n dX4_reduce_52 (by decide) rfl ?_
    refine zv_iconst (v := 0) dX4_reduce_53 (by decide) ?_
    refine zv_istore dX4_reduce_54 (by decide) rfl ?_
    have hin := lp2_X4_reduce l D B (G := zst G q (redN g i)) (nx := nx) (q := q) (p := p) (a := i) (own := redN g i i &&& -redN g i i) (post := zE none L nx (zst G q (redN g 24))) hq hlt ?_ 0 (by omega)
    · refine zv_lv ?_ (zv_eqG ?_ hin)
      · simp only [zst_same, Nat.zero_add]
        rfl
      · rw [redI_0, zst_same]
        exact (zst_zst _ _ _ _).symm
    · refine zv_iinc1 dX4_reduce_119 rfl (by decide) rfl ?_
      refine zv_goto (tgt := 32) dX4_reduce_122 (by decide) ?_
      rw [nI_1]
      refine zv_eqG ?_ (ih hlt _ _)
      rw [zst_same, zst_zst]
      rfl

set_option maxRecDepth 100000 in
set_option maxHeartbeats 4000000 in
theorem m_X4_reduce (l : Launch) (D : zD) (B : Nat) {L : zL} {nx : Nat} {G : zG} {q p : Nat} (hq : (q, 5) ∈ L) (hp : (p, 3) ∈ L) (hpq : p ≠ q) (h48 : ∀ j, 48 ≤ j → G q j = 0) : zMet l D B yX4_reduce cX4_reduce 5 none 1 40 0 0 [.ref q, .ref p] L nx G (zE none L nx (zst G q (redN (fun j => if j < 48 then G p (21 + j) else 0) 24))) := by
  refine zMet_of (own := RX4) (mn := "reduce") [some (.ref q), some (.ref p), none, none, none] (by decide +kernel) rfl rfl rfl (Nat.le_of_ble_eq_true rfl) ?_
  show zV l (fun _ => True) D B RX4 "reduce" cX4_reduce 5 none (zrm 1 40 0 0) (zN (zE none L nx (zst G q (redN (fun j => if j < 48 then G p (21 + j) else 0) 24)))) 0 0 L nx 0 [some (.ref q), some (.ref p), none, none, none] [] (G)
  refine zv_aload_n dX4_reduce_0 rfl ?_
  refine zv_getS (r := 2) hp rfl fl_X4_18 rfl dX4_reduce_1 ?_
  refine zv_iconst (v := 0) dX4_reduce_4 (by decide) ?_
  refine zv_aload_n dX4_reduce_5 rfl ?_
  refine zv_getS (r := 1) hq rfl fl_X4_9 rfl dX4_reduce_6 ?_
  refine zv_iconst (v := 0) dX4_reduce_9 (by decide) ?_
  refine zv_bipush (v := 24) dX4_reduce_10 (by decide) ?_
  refine zv_copy cl_X4_21 znat_copy zst_copy zini_sys (i0 := 2) hp rfl (i := 1) hq rfl (by decide) rfl (by decide) (by decide) (by decide) (by decide) dX4_reduce_12 ?_
  refine zv_aload_n dX4_reduce_15 rfl ?_
  refine zv_getS (r := 3) hp rfl fl_X4_27 rfl dX4_reduce_16 ?_
  refine zv_iconst (v := 0) dX4_reduce_19 (by decide) ?_
  refine zv_aload_n dX4_reduce_20 rfl ?_
  refine zv_getS (r := 2) hq rfl fl_X4_15 rfl dX4_reduce_21 ?_
  refine zv_iconst (v := 0) dX4_reduce_24 (by decide) ?_
  refine zv_bipush (v := 24) dX4_reduce_25 (by decide) ?_
  refine zv_copy cl_X4_21 znat_copy zst_copy zini_sys (i0 := 3) hp rfl (i := 2) hq rfl (by decide) rfl (by decide) (by decide) (by decide) (by decide) dX4_reduce_27 ?_
  refine zv_iconst (v := 0) dX4_reduce_30 (by decide) ?_
  refine zv_istore_n dX4_reduce_31 (by decide) rfl ?_
  refine zv_eqG ?_ (lp1_X4_reduce l D B (g := fun j => if j < 48 then G p (21 + j) else 0) hq 0 (by omega) _ _)
  simp only [zst_same, zst_zst, zst_ne _ _ hpq]
  congr 1
  funext j
  simp only [zcp, redN]
  have := h48 j
  grind
