set_option maxRecDepth 100000 in
set_option maxHeartbeats 4000000 in
theorem m_X1_commonDegree (l : Launch) (D : zD) (B : Nat) {L : zL} {nx : Nat} {G : zG} {y : Nat} (hy : y < 65537) : zMet l D B yX1_commonDegree cX1_commonDegree 1 (some .int) 0 0 0 0 [.int (nI y)] L nx G (zE (some (.int (nI (cdeg y)))) L nx (G)) := by
  refine zMet_of (own := RX1) (mn := "commonDegree") [some (.int (nI y))] (by decide +kernel) rfl rfl rfl (Nat.le_of_ble_eq_true rfl) ?_
  show zV l (fun _ => True) D B RX1 "commonDegree" cX1_commonDegree 1 (some .int) (zrm 0 0 0 0) (zN (zE (some (.int (nI (cdeg y)))) L nx (G))) 0 0 L nx 0 [some (.int (nI y))] [] (G)
  refine zv_iload_n dX1_commonDegree_0 rfl ?_
  refine zv_iconst (v := 4) dX1_commonDegree_1 (by decide) ?_
  refine zv_icmp_ge (tgt := 7) dX1_commonDegree_2 (by decide) (fun c2 => ?_) (fun c2 => ?_)
  · have k2 : 4 ≤ y := zge_of (N := 4) (by decide) (by omega) rfl c2
    refine zv_iload_n dX1_commonDegree_7 rfl ?_
    refine zv_bipush (v := 16) dX1_commonDegree_8 (by decide) ?_
    refine zv_icmp_ge (tgt := 15) dX1_commonDegree_10 (by decide) (fun c10 => ?_) (fun c10 => ?_)
    · have k10 : 16 ≤ y := zge_of (N := 16) (by decide) (by omega) rfl c10
      refine zv_iload_n dX1_commonDegree_15 rfl ?_
      refine zv_bipush (v := 20) dX1_commonDegree_16 (by decide) ?_
      refine zv_icmp_ge (tgt := 25) dX1_commonDegree_18 (by decide) (fun c18 => ?_) (fun c18 => ?_)
      · have k18 : 20 ≤ y := zge_of (N := 20) (by decide) (by omega) rfl c18
        refine zv_iconst (v := 4) dX1_commonDegree_25 (by decide) ?_
        refine zv_iretE dX1_commonDegree_26 rfl (rfl) ?_ ?_
        · first
            | (unfold cdeg; rw [if_pos k2]; rfl)
            | (unfold cdeg; rw [if_neg (by omega), if_pos k10]; rfl)
            | (unfold cdeg; rw [if_neg (by omega), if_neg (by omega), if_pos k18]; rfl)
            | (unfold cdeg; rw [if_neg (by omega), if_neg (by omega), if_neg (by omega)]; rfl)
        · rfl
      · have k18 : y < 20 := zlt_of (N := 20) (by decide) (by omega) rfl c18
        refine zv_iconst (v := 3) dX1_commonDegree_21 (by decide) ?_
        refine zv_goto (tgt := 26) dX1_commonDegree_22 (by decide) ?_
        refine zv_iretE dX1_commonDegree_26 rfl (rfl) ?_ ?_
        · first
            | (unfold cdeg; rw [if_pos k2]; rfl)
            | (unfold cdeg; rw [if_neg (by omega), if_pos k10]; rfl)
            | (unfold cdeg; rw [if_neg (by omega), if_neg (by omega), if_pos k18]; rfl)
            | (unfold cdeg; rw [if_neg (by omega), if_neg (by omega), if_neg (by omega)]; rfl)
        · rfl
    · have k10 : y < 16 := zlt_of (N := 16) (by decide) (by omega) rfl c10
      refine zv_iconst (v := 2) dX1_commonDegree_13 (by decide) ?_
      refine zv_iretE dX1_commonDegree_14 rfl (rfl) ?_ ?_
      · first
          | (unfold cdeg; rw [if_pos k2]; rfl)
          | (unfold cdeg; rw [if_neg (by omega), if_pos k10]; rfl)
          | (unfold cdeg; rw [if_neg (by omega), if_neg (by omega), if_pos k18]; rfl)
          | (unfold cdeg; rw [if_neg (by omega), if_neg (by omega), if_neg (by omega)]; rfl)
      · rfl
  · have k2 : y < 4 := zlt_of (N := 4) (by decide) (by omega) rfl c2
    refine zv_iconst (v := 1) dX1_commonDegree_5 (by decide) ?_
    refine zv_iretE dX1_commonDegree_6 rfl (rfl) ?_ ?_
    · first
        | (unfold cdeg; rw [if_pos k2]; rfl)
        | (unfold cdeg; rw [if_neg (by omega), if_pos k10]; rfl)
        | (unfold cdeg; rw [if_neg (by omega), if_neg (by omega), if_pos k18]; rfl)
        | (unfold cdeg; rw [if_neg (by omega), if_neg (by omega), if_neg (by omega)]; rfl)
    · rfl

set_option maxRecDepth 100000 in
set_option maxHeartbeats 4000000 in
theorem m_X1_degreeBy (l : Launch) (D : zD) (B : Nat) {L : zL} {nx : Nat} {G : zG} {w x n : Nat} (hw : w ≤ 2) (hx : x < 65537) (hn : 0 < n) (hn16 : n ≤ 16) : zMet l D B yX1_degreeBy cX1_degreeBy 3 (some .int) 1 21 0 0 [.int (nI w), .int (nI x), .int (nI n)] L nx G (zE (some (.int (nI (zdeg w x n)))) L nx (G)) := by
  refine zMet_of (own := RX1) (mn := "degreeBy") [some (.int (nI w)), some (.int (nI x)), some (.int (nI n))] (by decide +kernel) rfl rfl rfl (Nat.le_of_ble_eq_true rfl) ?_
  show zV l (fun _ => True) D B RX1 "degreeBy" cX1_degreeBy 3 (some .int) (zrm 1 21 0 0) (zN (zE (some (.int (nI (zdeg w x n)))) L nx (G))) 0 0 L nx 0 [some (.int (nI w)), some (.int (nI x)), some (.int (nI n))] [] (G)
  refine zv_iload_n dX1_degreeBy_0 rfl ?_
  refine zv_iconst (v := 1) dX1_degreeBy_1 (by decide) ?_
  refine zv_icmp_ne (tgt := 17) dX1_degreeBy_2 (by decide) (fun c2 => ?_) (fun c2 => ?_)
  · have k2 : ¬ w = 1 := fun e => c2 (by rw [e]; rfl)
    refine zv_iload_n dX1_degreeBy_17 rfl ?_
    refine zv_iconst (v := 2) dX1_degreeBy_18 (by decide) ?_
    refine zv_icmp_ne (tgt := 34) dX1_degreeBy_19 (by decide) (fun c19 => ?_) (fun c19 => ?_)
    · have k19 : ¬ w = 2 := fun e => c19 (by rw [e]; rfl)
      refine zv_iload_n dX1_degreeBy_34 rfl ?_
      refine zv_if_le (tgt := 46) dX1_degreeBy_35 (by decide) (fun h => absurd h (nI_nle hn (by omega))) (fun _ => ?_)
      refine zv_iconst (v := 1) dX1_degreeBy_38 (by decide) ?_
      refine zv_iload_n dX1_degreeBy_39 rfl ?_
      refine zv_iload_n dX1_degreeBy_40 rfl ?_
      refine zv_irem dX1_degreeBy_41 (nI_ne0 hn (by omega)) ?_
      refine zv_iadd dX1_degreeBy_42 ?_
      refine zv_goto (tgt := 47) dX1_degreeBy_43 (by decide) ?_
      refine zv_iretE dX1_degreeBy_47 rfl (rfl) ?_ ?_
      · unfold zdeg
        rw [if_neg k2, if_neg k19, pk_rem (by omega) hn (by omega), show (1 : Int32) = nI 1 from rfl, nI_add]
      · rfl
    · have k19 : w = 2 := (nI_eq (by omega) (by decide)).mp c19
      refine zv_iload_n dX1_degreeBy_22 rfl ?_
      refine zv_iconst (v := 4) dX1_degreeBy_23 (by decide) ?_
      refine zv_irem dX1_degreeBy_24 (by decide) ?_
      rw [show nI x - nI x / 4 * 4 = nI (x % 4) from pk_rem (d := 4) (by omega) (by omega) (by omega)]
      refine zv_if_ne (tgt := 32) dX1_degreeBy_25 (by decide) (fun c25 => ?_) (fun c25 => ?_)
      · have k25 : ¬ x % 4 = 0 := fun e => c25 (by rw [e]; rfl)
        refine zv_iload_n dX1_degreeBy_32 rfl ?_
        refine zv_iretE dX1_degreeBy_33 rfl (rfl) ?_ ?_
        · first
            | (unfold zdeg; rw [if_neg k2, if_pos k19, if_pos k25]; rfl)
            | (unfold zdeg; rw [if_neg k2, if_pos k19, if_neg k25])
        · rfl
      · have k25 : x % 4 = 0 := (nI_eq (by omega) (by decide)).mp c25
        refine zv_iconst (v := 1) dX1_degreeBy_28 (by decide) ?_
        refine zv_goto (tgt := 33) dX1_degreeBy_29 (by decide) ?_
        refine zv_iretE dX1_degreeBy_33 rfl (rfl) ?_ ?_
        · first
            | (unfold zdeg; rw [if_neg k2, if_pos k19, if_pos k25]; rfl)
            | (unfold zdeg; rw [if_neg k2, if_pos k19, if_neg k25])
        · rfl
  · have k2 : w = 1 := (nI_eq (by omega) (by decide)).mp c2
    refine zv_iload_n dX1_degreeBy_5 rfl ?_
    refine zv_bipush (v := 24) dX1_degreeBy_6 (by decide) ?_
    refine zv_irem dX1_degreeBy_8 (by decide) ?_
    rw [show nI x - nI x / 24 * 24 = nI (x % 24) from pk_rem (d := 24) (by omega) (by omega) (by omega)]
    have hcd := cdeg_b (x % 24)
    refine zv_callS (m_X1_commonDegree l D B (show x % 24 < 65537 by omega)) ml_X1_57 st_X1_commonDegree rfl rfl (Nat.le_of_ble_eq_true rfl) dX1_degreeBy_9 ⟨Nat.le_of_ble_eq_true rfl, Nat.le_of_ble_eq_true rfl⟩ ⟨Nat.le_refl _, Nat.le_refl _⟩ (zk_i ?_)
    refine zv_iload_n dX1_degreeBy_12 rfl ?_
    refine zv_callS (m_J9_min_7cf53 l D B _ _) ml_X1_60 st_J9_min_7cf53 rfl rfl (Nat.le_of_ble_eq_true rfl) dX1_degreeBy_13 ⟨Nat.le_of_ble_eq_true rfl, Nat.le_of_ble_eq_true rfl⟩ ⟨Nat.le_refl _, Nat.le_refl _⟩ (zk_i ?_)
    refine zv_iretE dX1_degreeBy_16 rfl (rfl) ?_ ?_
    · unfold zdeg
      rw [if_pos k2]
      by_cases h : cdeg (x % 24) ≤ n
      · rw [if_pos h, if_pos (nI_le h (by omega))]
      · rw [if_neg h, if_neg (fun e => h ((nI_leI (by omega) (by omega)).mp e))]
    · rfl

set_option maxRecDepth 100000 in
set_option maxHeartbeats 4000000 in
theorem lp_X1_addFrom (l : Launch) (D : zD) (B : Nat) {L : zL} {nx : Nat} {G : zG} {q s n t : Nat} (hq : (q, 4) ∈ L) (hs : (s, 2) ∈ L) (hsq : s ≠ q) (hn : G s 2 = nI n) (hn16 : n ≤ 16) {pl : Int32} : ∀ i : Nat, i ≤ 16 → ∀ c : Nat, c < n → nf (G q 2) n c (16 - i) = t → zV l (fun _ => True) D B RX1 "addFrom" cX1_addFrom 5 none (zrm 1 22 0 0) (zN (zE none L nx (zst G q (upd (upd (G q) 2 (G q 2 ||| bt t)) 3 (G q 3 ^^^ G s (5 + t)))))) 0 0 L nx 5 [some (.ref q), some (.ref s), some (.int pl), some (.int (nI c)), some (.int (nI i))] [] (G) := by
  refine zloop 16 (fun i hi ih c hc ht => ?_)
  refine zv_iload dX1_addFrom_5 rfl ?_
  refine zv_bipush (v := 16) dX1_addFrom_7 (by decide) ?_
  refine zv_icmp_ge (tgt := 47) dX1_addFrom_9 (by decide) (fun c9 => ?_) (fun c9 => ?_)
  · have e : i = 16 := by have := zge_of (N := 16) (by decide) (by omega) rfl c9; omega
    subst e
    have hct0 : c = t := ht
    have hct : c = t := hct0
    subst hct
    refine zv_iload_n dX1_addFrom_47 rfl ?_
    refine zv_iconst (v := 0) dX1_addFrom_48 (by decide) ?_
    refine zv_bipush (v := 15) dX1_addFrom_49 (by decide) ?_
    refine zv_callSN (m_X6_isWithin l D B (nI c) 0 15) ml_X1_48 st_X6_isWithin rfl rfl (Nat.le_of_ble_eq_true rfl) dX1_addFrom_51 ⟨Nat.le_of_ble_eq_true rfl, Nat.le_of_ble_eq_true rfl⟩ ⟨Nat.le_refl _, Nat.le_refl _⟩ (zk_i ?_)
    refine zv_if_eq (tgt := 84) dX1_addFrom_54 (by decide) (fun h => absurd h (by rw [show zin3 (nI c) 0 15 = true from (zin3_iff (m := 15) (by decide)).mpr ⟨c, by omega, rfl⟩]; decide)) (fun _ => ?_)
    refine zv_aload_n dX1_addFrom_57 rfl ?_
    refine zv_dup dX1_addFrom_58 rfl ?_
    refine zv_getI hq rfl fl_X1_19 rfl dX1_addFrom_59 ?_
    refine zv_iconst (v := 1) dX1_addFrom_62 (by decide) ?_
    refine zv_iload_n dX1_addFrom_63 rfl ?_
    refine zv_ishl dX1_addFrom_64 ?_
    refine zv_ior dX1_addFrom_65 ?_
    refine zv_putI (t := 4) hq rfl fl_X1_19 ft_X1_2 rfl dX1_addFrom_66 ?_
    refine zv_aload_n dX1_addFrom_69 rfl ?_
    refine zv_dup dX1_addFrom_70 rfl ?_
    refine zv_getI hq rfl fl_X1_22 rfl dX1_addFrom_71 ?_
    refine zv_aload_n dX1_addFrom_74 rfl ?_
    refine zv_getS (r := 1) hs rfl fl_X1_52 rfl dX1_addFrom_75 ?_
    refine zv_iload_n dX1_addFrom_78 rfl ?_
    refine zv_iald (i := 1) hs rfl (zix_nI (i := c) (by omega) (by decide)) dX1_addFrom_79 ?_
    refine zv_ixor dX1_addFrom_80 ?_
    refine zv_putI (t := 4) hq rfl fl_X1_22 ft_X1_3 rfl dX1_addFrom_81 ?_
    refine zv_vretE dX1_addFrom_84 rfl ?_
    simp only [zst_same, zst_zst, zst_ne _ _ hsq]
    rfl
  · have hlt : i < 16 := zlt_of (N := 16) (by decide) (by omega) rfl c9
    refine zv_aload_n dX1_addFrom_12 rfl ?_
    refine zv_getI hq rfl fl_X1_19 rfl dX1_addFrom_13 ?_
    refine zv_iconst (v := 1) dX1_addFrom_16 (by decide) ?_
    refine zv_iload_n dX1_addFrom_17 rfl ?_
    refine zv_ishl dX1_addFrom_18 ?_
    refine zv_iand dX1_addFrom_19 ?_
    refine zv_if_eq (tgt := 47) dX1_addFrom_20 (by decide) (fun c20 => ?_) (fun c20 => ?_)
    · have hz := (zb_and_bt _ (show c < 32 by omega)).mp c20
      have hct0 : c = t := by
        rw [← ht, show 16 - i = (15 - i) + 1 by omega]
        unfold nf
        rw [hz]
        simp
      have hct : c = t := hct0
      subst hct
      refine zv_iload_n dX1_addFrom_47 rfl ?_
      refine zv_iconst (v := 0) dX1_addFrom_48 (by decide) ?_
      refine zv_bipush (v := 15) dX1_addFrom_49 (by decide) ?_
      refine zv_callSN (m_X6_isWithin l D B (nI c) 0 15) ml_X1_48 st_X6_isWithin rfl rfl (Nat.le_of_ble_eq_true rfl) dX1_addFrom_51 ⟨Nat.le_of_ble_eq_true rfl, Nat.le_of_ble_eq_true rfl⟩ ⟨Nat.le_refl _, Nat.le_refl _⟩ (zk_i ?_)
      refine zv_if_eq (tgt := 84) dX1_addFrom_54 (by decide) (fun h => absurd h (by rw [show zin3 (nI c) 0 15 = true from (zin3_iff (m := 15) (by decide)).mpr ⟨c, by omega, rfl⟩]; decide)) (fun _ => ?_)
      refine zv_aload_n dX1_addFrom_57 rfl ?_
      refine zv_dup dX1_addFrom_58 rfl ?_
      refine zv_getI hq rfl fl_X1_19 rfl dX1_addFrom_59 ?_
      refine zv_iconst (v := 1) dX1_addFrom_62 (by decide) ?_
      refine zv_iload_n dX1_addFrom_63 rfl ?_
      refine zv_ishl dX1_addFrom_64 ?_
      refine zv_ior dX1_addFrom_65 ?_
      refine zv_putI (t := 4) hq rfl fl_X1_19 ft_X1_2 rfl dX1_addFrom_66 ?_
      refine zv_aload_n dX1_addFrom_69 rfl ?_
      refine zv_dup dX1_addFrom_70 rfl ?_
      refine zv_getI hq rfl fl_X1_22 rfl dX1_addFrom_71 ?_
      refine zv_aload_n dX1_addFrom_74 rfl ?_
      refine zv_getS (r := 1) hs rfl fl_X1_52 rfl dX1_addFrom_75 ?_
      refine zv_iload_n dX1_addFrom_78 rfl ?_
      refine zv_iald (i := 1) hs rfl (zix_nI (i := c) (by omega) (by decide)) dX1_addFrom_79 ?_
      refine zv_ixor dX1_addFrom_80 ?_
      refine zv_putI (t := 4) hq rfl fl_X1_22 ft_X1_3 rfl dX1_addFrom_81 ?_
      refine zv_vretE dX1_addFrom_84 rfl ?_
      simp only [zst_same, zst_zst, zst_ne _ _ hsq]
      rfl
    · have hz : zb (G q 2) c = true := by
        cases h : zb (G q 2) c with
        | true => rfl
        | false => exact absurd ((zb_and_bt _ (show c < 32 by omega)).mpr h) c20
      have ht2 : nf (G q 2) n (if c + 1 < n then c + 1 else 0) (16 - (i + 1)) = t := by
        rw [← ht, show 16 - i = (16 - (i + 1)) + 1 by omega]
        conv => rhs; unfold nf
        rw [hz]
        simp
      refine zv_iload_n dX1_addFrom_23 rfl ?_
      refine zv_iconst (v := 1) dX1_addFrom_24 (by decide) ?_
      refine zv_iadd dX1_addFrom_25 ?_
      refine zv_aload_n dX1_addFrom_26 rfl ?_
      refine zv_getI hs rfl fl_X1_25 rfl dX1_addFrom_27 ?_
      rw [hn, nI_1]
      refine zv_icmp_ge (tgt := 39) dX1_addFrom_30 (by decide) (fun c30 => ?_) (fun c30 => ?_)
      · have k30 : ¬ c + 1 < n := by have := (nI_leI (by omega) (by omega)).mp c30; omega
        rw [if_neg k30] at ht2
        refine zv_iconst (v := 0) dX1_addFrom_39 (by decide) ?_
        refine zv_istore_n dX1_addFrom_40 (by decide) rfl ?_
        refine zv_iinc1 dX1_addFrom_41 rfl (by decide) rfl ?_
        refine zv_goto (tgt := 5) dX1_addFrom_44 (by decide) ?_
        first
          | (rw [nI_1, nI_1]; exact ih hlt (c + 1) k30 ht2)
          | (rw [nI_1]; exact ih hlt 0 (by omega) ht2)
      · have k30 : c + 1 < n := by
          rcases Nat.lt_or_ge (c + 1) n with h | h
          · exact h
          · exact absurd (nI_le h (by omega)) c30
        rw [if_pos k30] at ht2
        refine zv_iload_n dX1_addFrom_33 rfl ?_
        refine zv_iconst (v := 1) dX1_addFrom_34 (by decide) ?_
        refine zv_iadd dX1_addFrom_35 ?_
        refine zv_goto (tgt := 40) dX1_addFrom_36 (by decide) ?_
        refine zv_istore_n dX1_addFrom_40 (by decide) rfl ?_
        refine zv_iinc1 dX1_addFrom_41 rfl (by decide) rfl ?_
        refine zv_goto (tgt := 5) dX1_addFrom_44 (by decide) ?_
        first
          | (rw [nI_1, nI_1]; exact ih hlt (c + 1) k30 ht2)
          | (rw [nI_1]; exact ih hlt 0 (by omega) ht2)

set_option maxRecDepth 100000 in
set_option maxHeartbeats 4000000 in
theorem m_X1_addFrom (l : Launch) (D : zD) (B : Nat) {L : zL} {nx : Nat} {G : zG} {q s n c : Nat} (hq : (q, 4) ∈ L) (hs : (s, 2) ∈ L) (hsq : s ≠ q) (hn : G s 2 = nI n) (hn16 : n ≤ 16) (hc : c < n) : zMet l D B yX1_addFrom cX1_addFrom 5 none 1 22 0 0 [.ref q, .ref s, .int (nI c)] L nx G (zE none L nx (zst G q (upd (upd (G q) 2 (G q 2 ||| bt (nf (G q 2) n c 16))) 3 (G q 3 ^^^ G s (5 + nf (G q 2) n c 16))))) := by
  refine zMet_of (own := RX1) (mn := "addFrom") [some (.ref q), some (.ref s), some (.int (nI c)), none, none] (by decide +kernel) rfl rfl rfl (Nat.le_of_ble_eq_true rfl) ?_
  show zV l (fun _ => True) D B RX1 "addFrom" cX1_addFrom 5 none (zrm 1 22 0 0) (zN (zE none L nx (zst G q (upd (upd (G q) 2 (G q 2 ||| bt (nf (G q 2) n c 16))) 3 (G q 3 ^^^ G s (5 + nf (G q 2) n c 16)))))) 0 0 L nx 0 [some (.ref q), some (.ref s), some (.int (nI c)), none, none] [] (G)
  refine zv_iload_n dX1_addFrom_0 rfl ?_
  refine zv_istore_n dX1_addFrom_1 (by decide) rfl ?_
  refine zv_iconst (v := 0) dX1_addFrom_2 (by decide) ?_
  refine zv_istore dX1_addFrom_3 (by decide) rfl ?_
  exact lp_X1_addFrom l D B hq hs hsq hn hn16 0 (by omega) c hc rfl

def mkQ (f : Nat → Int32) (w : Nat) (loss : Int32) (n : Nat) (ch : Nat → Int32) (sd : Nat) (i : Nat) : Nat → Int32 :=
  upd (upd (upd (upd f 0 (bI (decide (nI (zdw sd % 100) < loss)))) 1 (nI (zdeg w (zdw (zdw sd)) n))) 2 (mkSet n (zdw (zdw sd)) i)) 3 (mkNum ch n (zdw (zdw sd)) i)
theorem mkQ_s {f : Nat → Int32} {w : Nat} {loss : Int32} {n : Nat} {ch : Nat → Int32} {sd i : Nat} : upd (upd (mkQ f w loss n ch sd i) 2 (mkSet n (zdw (zdw sd)) (i + 1))) 3 (mkNum ch n (zdw (zdw sd)) (i + 1)) = mkQ f w loss n ch sd (i + 1) := by
  funext j; simp only [mkQ, upd]; grind
theorem mkQ_0 {f : Nat → Int32} {w : Nat} {loss : Int32} {n : Nat} {ch : Nat → Int32} {sd : Nat} {a : Int32} (ha : a = bI (decide (nI (zdw sd % 100) < loss))) : upd (upd (upd (upd (upd (upd f 0 0) 1 0) 2 0) 3 0) 0 a) 1 (nI (zdeg w (zdw (zdw sd)) n)) = mkQ f w loss n ch sd 0 := by
  subst ha; funext j; simp only [mkQ, upd, mkSet, mkNum]; grind

set_option maxRecDepth 100000 in
set_option maxHeartbeats 4000000 in
theorem lp_X1_makeFrom (l : Launch) (D : zD) (B : Nat) {L : zL} {nx : Nat} {G : zG} {q s w n sd : Nat} (hq : (q, 4) ∈ L) (hs : (s, 2) ∈ L) (hsq : s ≠ q) (hn : G s 2 = nI n) (hn0 : 0 < n) (hn16 : n ≤ 16) (hw : G s 0 = nI w) (hw2 : w ≤ 2) (hsd : sd < 65537) {a : Option Value} : ∀ i : Nat, i ≤ zdeg w (zdw (zdw sd)) n → zV l (fun _ => True) D B RX1 "makeFrom" cX1_makeFrom 6 none (zrm 2 46 0 0) (zN (zE none L nx (zst G q (mkP (G q) w (G s 1) n (fun k => G s (5 + k)) sd)))) 0 0 L nx 81 [some (.ref q), some (.ref s), a, some (.int (nI n)), some (.int (nI (mkX (zdw (zdw sd)) i))), some (.int (nI i))] [] (zst G q (mkQ (G q) w (G s 1) n (fun k => G s (5 + k)) sd i)) := by
  refine zloop _ (fun i hi ih => ?_)
  refine zv_iload dX1_makeFrom_81 rfl ?_
  refine zv_aload_n dX1_makeFrom_83 rfl ?_
  refine zv_getI hq rfl fl_X1_15 rfl dX1_makeFrom_84 ?_
  rw [zst_same, show mkQ (G q) w (G s 1) n (fun k => G s (5 + k)) sd i 1 = nI (zdeg w (zdw (zdw sd)) n) from rfl]
  have hdb := zdeg_b (w := w) (x := zdw (zdw sd)) hn0
  refine zv_icmp_ge (tgt := 112) dX1_makeFrom_87 (by decide) (fun c87 => ?_) (fun c87 => ?_)
  · have e : i = zdeg w (zdw (zdw sd)) n := by have := (nI_leI (by omega) (by omega)).mp c87; omega
    subst e
    refine zv_vretE dX1_makeFrom_112 rfl ?_
    rfl
  · have hlt : i < zdeg w (zdw (zdw sd)) n := by
      rcases Nat.lt_or_ge i (zdeg w (zdw (zdw sd)) n) with h | h
      · exact h
      · exact absurd (nI_le h (by omega)) c87
    have hxl := mkX_lt (zdw_lt (zdw sd)) i
    have hxl2 := mkX_lt (zdw_lt (zdw sd)) (i + 1)
    refine zv_iload dX1_makeFrom_90 rfl ?_
    refine zv_callS (m_nextDraw l D B hxl) ml_X1_30 st_X1_nextDraw rfl rfl (Nat.le_of_ble_eq_true rfl) dX1_makeFrom_92 ⟨Nat.le_of_ble_eq_true rfl, Nat.le_of_ble_eq_true rfl⟩ ⟨Nat.le_refl _, Nat.le_refl _⟩ (zk_i ?_)
    rw [show zdw (mkX (zdw (zdw sd)) i) = mkX (zdw (zdw sd)) (i + 1) from rfl]
    refine zv_istore dX1_makeFrom_95 (by decide) rfl ?_
    refine zv_aload_n dX1_makeFrom_97 rfl ?_
    refine zv_aload_n dX1_makeFrom_98 rfl ?_
    refine zv_iload dX1_makeFrom_99 rfl ?_
    refine zv_iload_n dX1_makeFrom_101 rfl ?_
    refine zv_irem dX1_makeFrom_102 (nI_ne0 hn0 (by omega)) ?_
    rw [pk_rem (by omega) hn0 (by omega)]
    refine zv_callV (m_X1_addFrom l D B (n := n) (c := mkX (zdw (zdw sd)) (i + 1) % n) hq hs hsq (by rw [zst_ne _ _ hsq]; exact hn) hn16 (Nat.mod_lt _ hn0)) ml_X1_44 in_X1_addFrom sel_X1_addFrom hq rfl rfl rfl rfl (Nat.le_of_ble_eq_true rfl) dX1_makeFrom_103 ⟨Nat.le_of_ble_eq_true rfl, Nat.le_of_ble_eq_true rfl⟩ ⟨Nat.le_refl _, Nat.le_refl _⟩ (zk_v ?_)
    refine zv_iinc1 dX1_makeFrom_106 rfl (by decide) rfl ?_
    refine zv_goto (tgt := 81) dX1_makeFrom_109 (by decide) ?_
    rw [nI_1]
    refine zv_eqG ?_ (ih hlt)
    simp only [zst_same, zst_zst, zst_ne _ _ hsq]
    rw [← mkQ_s]
    rfl

set_option maxRecDepth 100000 in
set_option maxHeartbeats 4000000 in
theorem m_X1_makeFrom (l : Launch) (D : zD) (B : Nat) {L : zL} {nx : Nat} {G : zG} {q s w n sd : Nat} (hq : (q, 4) ∈ L) (hs : (s, 2) ∈ L) (hsq : s ≠ q) (hn : G s 2 = nI n) (hn0 : 0 < n) (hn16 : n ≤ 16) (hw : G s 0 = nI w) (hw2 : w ≤ 2) (hsd : sd < 65537) : zMet l D B yX1_makeFrom cX1_makeFrom 6 none 2 46 0 0 [.ref q, .ref s, .int (nI sd)] L nx G (zE none L nx (zst G q (mkP (G q) w (G s 1) n (fun k => G s (5 + k)) sd))) := by
  refine zMet_of (own := RX1) (mn := "makeFrom") [some (.ref q), some (.ref s), some (.int (nI sd)), none, none, none] (by decide +kernel) rfl rfl rfl (Nat.le_of_ble_eq_true rfl) ?_
  show zV l (fun _ => True) D B RX1 "makeFrom" cX1_makeFrom 6 none (zrm 2 46 0 0) (zN (zE none L nx (zst G q (mkP (G q) w (G s 1) n (fun k => G s (5 + k)) sd)))) 0 0 L nx 0 [some (.ref q), some (.ref s), some (.int (nI sd)), none, none, none] [] (G)
  refine zv_aload_n dX1_makeFrom_0 rfl ?_
  refine zv_iconst (v := 0) dX1_makeFrom_1 (by decide) ?_
  refine zv_putZ hq rfl fl_X1_9 ft_X1_0 rfl (by first | exact Or.inl rfl | exact Or.inr rfl) dX1_makeFrom_2 ?_
  refine zv_aload_n dX1_makeFrom_5 rfl ?_
  refine zv_iconst (v := 0) dX1_makeFrom_6 (by decide) ?_
  refine zv_putI (t := 4) hq rfl fl_X1_15 ft_X1_1 rfl dX1_makeFrom_7 ?_
  refine zv_aload_n dX1_makeFrom_10 rfl ?_
  refine zv_iconst (v := 0) dX1_makeFrom_11 (by decide) ?_
  refine zv_putI (t := 4) hq rfl fl_X1_19 ft_X1_2 rfl dX1_makeFrom_12 ?_
  refine zv_aload_n dX1_makeFrom_15 rfl ?_
  refine zv_iconst (v := 0) dX1_makeFrom_16 (by decide) ?_
  refine zv_putI (t := 4) hq rfl fl_X1_22 ft_X1_3 rfl dX1_makeFrom_17 ?_
  refine zv_aload_n dX1_makeFrom_20 rfl ?_
  refine zv_getI hs rfl fl_X1_25 rfl dX1_makeFrom_21 ?_
  simp only [zst_same, zst_zst, zst_ne _ _ hsq]
  rw [hn]
  refine zv_istore_n dX1_makeFrom_24 (by decide) rfl ?_
  refine zv_iload_n dX1_makeFrom_25 rfl ?_
  refine zv_if_gt (tgt := 30) dX1_makeFrom_26 (by decide) (fun _ => ?_) (fun h => absurd (nI_lt (a := 0) hn0 (by omega)) h)
  refine zv_iload_n dX1_makeFrom_30 rfl ?_
  refine zv_callS (m_nextDraw l D B hsd) ml_X1_30 st_X1_nextDraw rfl rfl (Nat.le_of_ble_eq_true rfl) dX1_makeFrom_31 ⟨Nat.le_of_ble_eq_true rfl, Nat.le_of_ble_eq_true rfl⟩ ⟨Nat.le_refl _, Nat.le_refl _⟩ (zk_i ?_)
  refine zv_istore dX1_makeFrom_34 (by decide) rfl ?_
  refine zv_aload_n dX1_makeFrom_36 rfl ?_
  refine zv_iload dX1_makeFrom_37 rfl ?_
  refine zv_bipush (v := 100) dX1_makeFrom_39 (by decide) ?_
  refine zv_irem dX1_makeFrom_41 (by decide) ?_
  refine zv_aload_n dX1_makeFrom_42 rfl ?_
  refine zv_getI hs rfl fl_X1_34 rfl dX1_makeFrom_43 ?_
  rw [show nI (zdw sd) - nI (zdw sd) / 100 * 100 = nI (zdw sd % 100) from pk_rem (d := 100) (by have := zdw_lt sd; omega) (by omega) (by omega), zst_ne _ _ hsq]
  refine zv_icmp_ge (tgt := 53) dX1_makeFrom_46 (by decide) (fun c46 => ?_) (fun c46 => ?_)
  · have hl0 : (0 : Int32) = bI (decide (nI (zdw sd % 100) < G s 1)) := by rw [show decide (nI (zdw sd % 100) < G s 1) = false by simp; exact i32_nlt.mp (i32_nlt.mpr c46)]; rfl
    refine zv_iconst (v := 0) dX1_makeFrom_53 (by decide) ?_
    refine zv_putZ hq rfl fl_X1_9 ft_X1_0 rfl (by first | exact Or.inl rfl | exact Or.inr rfl) dX1_makeFrom_54 ?_
    refine zv_iload dX1_makeFrom_57 rfl ?_
    refine zv_callS (m_nextDraw l D B (zdw_lt sd)) ml_X1_30 st_X1_nextDraw rfl rfl (Nat.le_of_ble_eq_true rfl) dX1_makeFrom_59 ⟨Nat.le_of_ble_eq_true rfl, Nat.le_of_ble_eq_true rfl⟩ ⟨Nat.le_refl _, Nat.le_refl _⟩ (zk_i ?_)
    refine zv_istore dX1_makeFrom_62 (by decide) rfl ?_
    refine zv_aload_n dX1_makeFrom_64 rfl ?_
    refine zv_aload_n dX1_makeFrom_65 rfl ?_
    refine zv_getI hs rfl fl_X1_37 rfl dX1_makeFrom_66 ?_
    refine zv_iload dX1_makeFrom_69 rfl ?_
    refine zv_iload_n dX1_makeFrom_71 rfl ?_
    simp only [zst_same, zst_zst, zst_ne _ _ hsq]
    rw [hw]
    refine zv_callS (m_X1_degreeBy l D B hw2 (zdw_lt (zdw sd)) hn0 hn16) ml_X1_40 st_X1_degreeBy rfl rfl (Nat.le_of_ble_eq_true rfl) dX1_makeFrom_72 ⟨Nat.le_of_ble_eq_true rfl, Nat.le_of_ble_eq_true rfl⟩ ⟨Nat.le_refl _, Nat.le_refl _⟩ (zk_i ?_)
    refine zv_putI (t := 4) hq rfl fl_X1_15 ft_X1_1 rfl dX1_makeFrom_75 ?_
    refine zv_iconst (v := 0) dX1_makeFrom_78 (by decide) ?_
    refine zv_istore dX1_makeFrom_79 (by decide) rfl ?_
    refine zv_eqG ?_ (lp_X1_makeFrom l D B hq hs hsq hn hn0 hn16 hw hw2 hsd 0 (by omega))
    simp only [zst_same, zst_zst]
    rw [mkQ_0 hl0]
  · have hl0 : (1 : Int32) = bI (decide (nI (zdw sd % 100) < G s 1)) := by rw [show decide (nI (zdw sd % 100) < G s 1) = true by simp; exact i32_nle.mp c46]; rfl
    refine zv_iconst (v := 1) dX1_makeFrom_49 (by decide) ?_
    refine zv_goto (tgt := 54) dX1_makeFrom_50 (by decide) ?_
    refine zv_putZ hq rfl fl_X1_9 ft_X1_0 rfl (by first | exact Or.inl rfl | exact Or.inr rfl) dX1_makeFrom_54 ?_
    refine zv_iload dX1_makeFrom_57 rfl ?_
    refine zv_callS (m_nextDraw l D B (zdw_lt sd)) ml_X1_30 st_X1_nextDraw rfl rfl (Nat.le_of_ble_eq_true rfl) dX1_makeFrom_59 ⟨Nat.le_of_ble_eq_true rfl, Nat.le_of_ble_eq_true rfl⟩ ⟨Nat.le_refl _, Nat.le_refl _⟩ (zk_i ?_)
    refine zv_istore dX1_makeFrom_62 (by decide) rfl ?_
    refine zv_aload_n dX1_makeFrom_64 rfl ?_
    refine zv_aload_n dX1_makeFrom_65 rfl ?_
    refine zv_getI hs rfl fl_X1_37 rfl dX1_makeFrom_66 ?_
    refine zv_iload dX1_makeFrom_69 rfl ?_
    refine zv_iload_n dX1_makeFrom_71 rfl ?_
    simp only [zst_same, zst_zst, zst_ne _ _ hsq]
    rw [hw]
    refine zv_callS (m_X1_degreeBy l D B hw2 (zdw_lt (zdw sd)) hn0 hn16) ml_X1_40 st_X1_degreeBy rfl rfl (Nat.le_of_ble_eq_true rfl) dX1_makeFrom_72 ⟨Nat.le_of_ble_eq_true rfl, Nat.le_of_ble_eq_true rfl⟩ ⟨Nat.le_refl _, Nat.le_refl _⟩ (zk_i ?_)
    refine zv_putI (t := 4) hq rfl fl_X1_15 ft_X1_1 rfl dX1_makeFrom_75 ?_
    refine zv_iconst (v := 0) dX1_makeFrom_78 (by decide) ?_
    refine zv_istore dX1_makeFrom_79 (by decide) rfl ?_
    refine zv_eqG ?_ (lp_X1_makeFrom l D B hq hs hsq hn hn0 hn16 hw hw2 hsd 0 (by omega))
    simp only [zst_same, zst_zst]
    rw [mkQ_0 hl0]
