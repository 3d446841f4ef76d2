set_option maxRecDepth 100000 in
set_option maxHeartbeats 4000000 in
theorem m_X7_ofCup (l : Launch) (D : zD) (B : Nat) {L : zL} {nx : Nat} {G : zG} {m b c tn : Nat} {r : Nat → Int32} {h : Nat → (Nat → Int32)} {sl : Nat → Option (Nat → Int32)} {T : Nat → Nat} (hR : zRM L m G r h c sl T tn) (hS : SI b r) (y vv : Int32) : zMet l D B yX7_ofCup cX7_ofCup 3 (some .int) 2 48 0 0 [.ref m, .int y, .int vv] L nx G (zI (qOfCup r y vv) L nx (fun G1 => zRM L m G1 r h c sl T tn ∧ ∀ y, y ≠ m → G1 y = G y)) := by
  refine zMet_of (own := RX7) (mn := "ofCup") [some (.ref m), some (.int y), some (.int vv)] (by decide +kernel) rfl rfl rfl (Nat.le_of_ble_eq_true rfl) ?_
  show zV l (fun _ => True) D B RX7 "ofCup" cX7_ofCup 3 (some .int) (zrm 2 48 0 0) (zN (zI (qOfCup r y vv) L nx (fun G1 => zRM L m G1 r h c sl T tn ∧ ∀ y, y ≠ m → G1 y = G y))) 0 0 L nx 0 [some (.ref m), some (.int y), some (.int vv)] [] (G)
  obtain ⟨w, ls, n, cn, i0, iw, i1, il, i2, i3, i4, i5, i6, i7, i8⟩ := id hS
  have hm := hR.1
  have hr := hR.2.1
  refine zv_aload_n dX7_ofCup_0 rfl ?_
  refine zv_iload_n dX7_ofCup_1 rfl ?_
  refine zv_callV (m_X7_isCup l D B hm i4 i5 (hr 3 (by decide)) y) ml_X7_118 in_X7_isCup sel_X7_isCup hR.1 rfl rfl rfl rfl (Nat.le_of_ble_eq_true rfl) dX7_ofCup_2 ⟨Nat.le_of_ble_eq_true rfl, Nat.le_of_ble_eq_true rfl⟩ ⟨Nat.le_refl _, Nat.le_refl _⟩ (zk_i ?_)
  rcases hz : cpI r y with _ | i
  · have hq : qOfCup r y vv = -1 := by unfold qOfCup; rw [hz]
    refine zv_if_ne (tgt := 10) dX7_ofCup_5 (by decide) (fun h => absurd (rfl) h) (fun _ => ?_)
    refine zv_iconst (v := (-1)) dX7_ofCup_8 (by decide) ?_
    rw [hq]
    exact zv_iretI dX7_ofCup_9 rfl rfl rfl ⟨hR, fun y hy => rfl⟩
  · obtain ⟨hi, rfl⟩ := cpI_some i4 i5 hz
    have hi3 : i < 3 := by omega
    obtain ⟨t, hJ, -⟩ := i6 i hi3
    refine zv_if_ne (tgt := 10) dX7_ofCup_5 (by decide) (fun _ => ?_) (fun h => absurd h (show ¬ bI true = 0 from by decide))
    refine zv_iload_n dX7_ofCup_10 rfl ?_
    rcases zsw6 vv with rfl | rfl | rfl | rfl | rfl | rfl | rfl | hout
    · refine zv_tableIn (off := 41) (tgt := 52) dX7_ofCup_11 (by decide) (by decide) (by first | rfl | decide +kernel) (by decide) ?_
      refine zv_aload_n dX7_ofCup_52 rfl ?_
      refine zv_iload_n dX7_ofCup_53 rfl ?_
      refine zv_iload_n dX7_ofCup_54 rfl ?_
      refine zv_callV (m_X7_its l D B (i := i) (k := 0) hm (by omega)) ml_X7_48 in_X7_its sel_X7_its hR.1 rfl rfl rfl rfl (Nat.le_of_ble_eq_true rfl) dX7_ofCup_55 ⟨Nat.le_of_ble_eq_true rfl, Nat.le_of_ble_eq_true rfl⟩ ⟨Nat.le_refl _, Nat.le_refl _⟩ (zk_i ?_)
      rw [show G m (18 + (21 + 69 * i + (0))) = cupR r i (0) from (hr _ (by omega)).trans (cupR_at (by omega)).symm]
      rw [show qOfCup r (nI i) 0 = qOfV r (cupR r i) 0 (folM (cupR r i)) by unfold qOfCup; rw [hz]]
      exact zv_iretI dX7_ofCup_58 rfl rfl rfl ⟨hR, fun y hy => rfl⟩
    · refine zv_tableIn (off := 41) (tgt := 52) dX7_ofCup_11 (by decide) (by decide) (by first | rfl | decide +kernel) (by decide) ?_
      refine zv_aload_n dX7_ofCup_52 rfl ?_
      refine zv_iload_n dX7_ofCup_53 rfl ?_
      refine zv_iload_n dX7_ofCup_54 rfl ?_
      refine zv_callV (m_X7_its l D B (i := i) (k := 1) hm (by omega)) ml_X7_48 in_X7_its sel_X7_its hR.1 rfl rfl rfl rfl (Nat.le_of_ble_eq_true rfl) dX7_ofCup_55 ⟨Nat.le_of_ble_eq_true rfl, Nat.le_of_ble_eq_true rfl⟩ ⟨Nat.le_refl _, Nat.le_refl _⟩ (zk_i ?_)
      rw [show G m (18 + (21 + 69 * i + (1))) = cupR r i (1) from (hr _ (by omega)).trans (cupR_at (by omega)).symm]
      rw [show qOfCup r (nI i) 1 = qOfV r (cupR r i) 1 (folM (cupR r i)) by unfold qOfCup; rw [hz]]
      exact zv_iretI dX7_ofCup_58 rfl rfl rfl ⟨hR, fun y hy => rfl⟩
    · refine zv_tableIn (off := 41) (tgt := 52) dX7_ofCup_11 (by decide) (by decide) (by first | rfl | decide +kernel) (by decide) ?_
      refine zv_aload_n dX7_ofCup_52 rfl ?_
      refine zv_iload_n dX7_ofCup_53 rfl ?_
      refine zv_iload_n dX7_ofCup_54 rfl ?_
      refine zv_callV (m_X7_its l D B (i := i) (k := 2) hm (by omega)) ml_X7_48 in_X7_its sel_X7_its hR.1 rfl rfl rfl rfl (Nat.le_of_ble_eq_true rfl) dX7_ofCup_55 ⟨Nat.le_of_ble_eq_true rfl, Nat.le_of_ble_eq_true rfl⟩ ⟨Nat.le_refl _, Nat.le_refl _⟩ (zk_i ?_)
      rw [show G m (18 + (21 + 69 * i + (2))) = cupR r i (2) from (hr _ (by omega)).trans (cupR_at (by omega)).symm]
      rw [show qOfCup r (nI i) 2 = qOfV r (cupR r i) 2 (folM (cupR r i)) by unfold qOfCup; rw [hz]]
      exact zv_iretI dX7_ofCup_58 rfl rfl rfl ⟨hR, fun y hy => rfl⟩
    · refine zv_tableIn (off := 41) (tgt := 52) dX7_ofCup_11 (by decide) (by decide) (by first | rfl | decide +kernel) (by decide) ?_
      refine zv_aload_n dX7_ofCup_52 rfl ?_
      refine zv_iload_n dX7_ofCup_53 rfl ?_
      refine zv_iload_n dX7_ofCup_54 rfl ?_
      refine zv_callV (m_X7_its l D B (i := i) (k := 3) hm (by omega)) ml_X7_48 in_X7_its sel_X7_its hR.1 rfl rfl rfl rfl (Nat.le_of_ble_eq_true rfl) dX7_ofCup_55 ⟨Nat.le_of_ble_eq_true rfl, Nat.le_of_ble_eq_true rfl⟩ ⟨Nat.le_refl _, Nat.le_refl _⟩ (zk_i ?_)
      rw [show G m (18 + (21 + 69 * i + (3))) = cupR r i (3) from (hr _ (by omega)).trans (cupR_at (by omega)).symm]
      rw [show qOfCup r (nI i) 3 = qOfV r (cupR r i) 3 (folM (cupR r i)) by unfold qOfCup; rw [hz]]
      exact zv_iretI dX7_ofCup_58 rfl rfl rfl ⟨hR, fun y hy => rfl⟩
    · refine zv_tableIn (off := 41) (tgt := 52) dX7_ofCup_11 (by decide) (by decide) (by first | rfl | decide +kernel) (by decide) ?_
      refine zv_aload_n dX7_ofCup_52 rfl ?_
      refine zv_iload_n dX7_ofCup_53 rfl ?_
      refine zv_iload_n dX7_ofCup_54 rfl ?_
      refine zv_callV (m_X7_its l D B (i := i) (k := 4) hm (by omega)) ml_X7_48 in_X7_its sel_X7_its hR.1 rfl rfl rfl rfl (Nat.le_of_ble_eq_true rfl) dX7_ofCup_55 ⟨Nat.le_of_ble_eq_true rfl, Nat.le_of_ble_eq_true rfl⟩ ⟨Nat.le_refl _, Nat.le_refl _⟩ (zk_i ?_)
      rw [show G m (18 + (21 + 69 * i + (4))) = cupR r i (4) from (hr _ (by omega)).trans (cupR_at (by omega)).symm]
      rw [show qOfCup r (nI i) 4 = qOfV r (cupR r i) 4 (folM (cupR r i)) by unfold qOfCup; rw [hz]]
      exact zv_iretI dX7_ofCup_58 rfl rfl rfl ⟨hR, fun y hy => rfl⟩
    · refine zv_tableIn (off := 48) (tgt := 59) dX7_ofCup_11 (by decide) (by decide) (by first | rfl | decide +kernel) (by decide) ?_
      refine zv_aload_n dX7_ofCup_59 rfl ?_
      refine zv_iload_n dX7_ofCup_60 rfl ?_
      refine zv_callV (m_X7_isFull l D B (r := r) (f := cupR r i) hm hi3 ((hr _ (by omega)).trans (cupR_at (by omega)).symm) (hr 2 (by decide))) ml_X7_142 in_X7_isFull sel_X7_isFull hR.1 rfl rfl rfl rfl (Nat.le_of_ble_eq_true rfl) dX7_ofCup_61 ⟨Nat.le_of_ble_eq_true rfl, Nat.le_of_ble_eq_true rfl⟩ ⟨Nat.le_refl _, Nat.le_refl _⟩ (zk_i ?_)
      refine zv_if_eq (tgt := 71) dX7_ofCup_64 (by decide) (fun c64 => ?_) (fun c64 => ?_)
      · have hb := bI_eq0.mp c64
        refine zv_iconst (v := 0) dX7_ofCup_71 (by decide) ?_
        rw [show qOfCup r (nI i) 5 = qOfV r (cupR r i) 5 (folM (cupR r i)) by unfold qOfCup; rw [hz]]
        exact zv_iretI dX7_ofCup_72 rfl rfl (by show _ = bI (fullB r (cupR r i)); rw [hb]; rfl) ⟨hR, fun y hy => rfl⟩
      · have hb := bI_ne0.mp c64
        refine zv_iconst (v := 1) dX7_ofCup_67 (by decide) ?_
        refine zv_goto (tgt := 72) dX7_ofCup_68 (by decide) ?_
        rw [show qOfCup r (nI i) 5 = qOfV r (cupR r i) 5 (folM (cupR r i)) by unfold qOfCup; rw [hz]]
        exact zv_iretI dX7_ofCup_72 rfl rfl (by show _ = bI (fullB r (cupR r i)); rw [hb]; rfl) ⟨hR, fun y hy => rfl⟩
    · refine zv_tableIn (off := 62) (tgt := 73) dX7_ofCup_11 (by decide) (by decide) (by first | rfl | decide +kernel) (by decide) ?_
      refine zv_aload_n dX7_ofCup_73 rfl ?_
      refine zv_iload_n dX7_ofCup_74 rfl ?_
      refine zv_iconst (v := 0) dX7_ofCup_75 (by decide) ?_
      refine zv_callV (m_X7_its l D B (i := i) (k := 0) hm (by omega)) ml_X7_48 in_X7_its sel_X7_its hR.1 rfl rfl rfl rfl (Nat.le_of_ble_eq_true rfl) dX7_ofCup_76 ⟨Nat.le_of_ble_eq_true rfl, Nat.le_of_ble_eq_true rfl⟩ ⟨Nat.le_refl _, Nat.le_refl _⟩ (zk_i ?_)
      rw [show G m (18 + (21 + 69 * i + (0))) = cupR r i (0) from (hr _ (by omega)).trans (cupR_at (by omega)).symm]
      refine zv_callS (m_X7_size l D B _) ml_X7_91 st_X7_size rfl rfl (Nat.le_of_ble_eq_true rfl) dX7_ofCup_79 ⟨Nat.le_of_ble_eq_true rfl, Nat.le_of_ble_eq_true rfl⟩ ⟨Nat.le_refl _, Nat.le_refl _⟩ (zk_i ?_)
      refine zv_aload_n dX7_ofCup_82 rfl ?_
      refine zv_iload_n dX7_ofCup_83 rfl ?_
      refine zv_eqG ((zRM_T hr).symm.trans (mT_S (i := i))) ?_
      refine zv_callV (m_X7_follow l D B hm hi3 hJ) ml_X7_126 in_X7_follow sel_X7_follow hR.1 rfl rfl rfl rfl (Nat.le_of_ble_eq_true rfl) dX7_ofCup_84 ⟨Nat.le_of_ble_eq_true rfl, Nat.le_of_ble_eq_true rfl⟩ ⟨Nat.le_refl _, Nat.le_refl _⟩ (zk_p fun G2 hG2 => ?_)
      subst hG2
      refine zv_callS (m_X7_size l D B _) ml_X7_91 st_X7_size rfl rfl (Nat.le_of_ble_eq_true rfl) dX7_ofCup_87 ⟨Nat.le_of_ble_eq_true rfl, Nat.le_of_ble_eq_true rfl⟩ ⟨Nat.le_refl _, Nat.le_refl _⟩ (zk_i ?_)
      refine zv_iadd dX7_ofCup_90 ?_
      rw [show qOfCup r (nI i) 6 = qOfV r (cupR r i) 6 (folM (cupR r i)) by unfold qOfCup; rw [hz]]
      exact zv_iretI dX7_ofCup_91 rfl rfl rfl ⟨zRM_fr hR (fun k hk => by rw [← mT_S]; exact mT_at hk) (fun j hj => by rw [mS_o (by omega)]; exact gR_F j (by omega) (by omega)), fun y hy => zst_ne _ _ hy⟩
    · have hv : ∀ k : Int32, (k = 0 ∨ k = 1 ∨ k = 2 ∨ k = 3 ∨ k = 4 ∨ k = 5 ∨ k = 6) → ¬ vv = k := by
        rintro k hk rfl
        rcases hk with rfl | rfl | rfl | rfl | rfl | rfl | rfl <;> (revert hout; decide)
      have hq : qOfCup r (nI i) vv = -2 := by
        unfold qOfCup
        rw [hz]
        show qOfV _ _ _ _ = _
        unfold qOfV
        rw [if_neg (hv 0 (by simp)), if_neg (hv 1 (by simp)), if_neg (hv 2 (by simp)), if_neg (hv 3 (by simp)), if_neg (hv 4 (by simp)), if_neg (hv 5 (by simp)), if_neg (hv 6 (by simp))]
      refine zv_tableOut (tgt := 92) dX7_ofCup_11 (hout) (by decide) ?_
      refine zv_bipush (v := (-2)) dX7_ofCup_92 (by decide) ?_
      rw [hq]
      exact zv_iretI dX7_ofCup_94 rfl rfl rfl ⟨hR, fun y hy => rfl⟩

set_option maxRecDepth 100000 in
set_option maxHeartbeats 4000000 in
theorem lp_X7_degrees (l : Launch) (D : zD) (B : Nat) {L : zL} {nx : Nat} {G : zG} {m n w sd mn : Nat} {r : Nat → Int32} {dg : Int32} (hm : (m, 8) ∈ L) (h20 : G m 20 = nI n) (h18 : G m 18 = nI w) (i2 : r 2 = nI n) (i0 : r 0 = nI w) (iw : w ≤ 2) (hn0 : 0 < n) (i3 : n ≤ 16) (hsd : sd < 65536) (hmn : mn < 1000) : ∀ k : Nat, k ≤ mn → zV l (fun _ => True) D B RX7 "degrees" cX7_degrees 6 (some .int) (zrm 1 24 0 0) (zN (zE (some (.int (nI (zcnt (degB r sd dg) mn)))) L nx G)) 0 0 L nx 55 [some (.ref m), some (.int (nI sd)), some (.int (nI mn)), some (.int dg), some (.int (nI (zcnt (degB r sd dg) k))), some (.int (nI k))] [] (G) := by
  refine zloop mn (fun k hk ih => ?_)
  refine zv_iload dX7_degrees_55 rfl ?_
  refine zv_iload_n dX7_degrees_57 rfl ?_
  refine zv_icmp_ge (tgt := 98) dX7_degrees_58 (by decide) (fun c58 => ?_) (fun c58 => ?_)
  · have e : k = mn := by have := (nI_leI (by omega) (by omega)).mp c58; omega
    subst e
    refine zv_iload dX7_degrees_98 rfl ?_
    refine zv_iretE dX7_degrees_100 rfl (rfl) ?_ ?_
    · rfl
    · rfl
  · have hlt : k < mn := by
      rcases Nat.lt_or_ge k mn with h | h
      · exact h
      · exact absurd (nI_le h (by omega)) c58
    refine zv_iload dX7_degrees_61 rfl ?_
    refine zv_aload_n dX7_degrees_63 rfl ?_
    refine zv_iload_n dX7_degrees_64 rfl ?_
    refine zv_iload dX7_degrees_65 rfl ?_
    refine zv_iadd dX7_degrees_67 ?_
    rw [nI_add]
    refine zv_ldc dX7_degrees_68 kc_X7_122 ?_
    refine zv_irem dX7_degrees_70 (by decide) ?_
    rw [show nI (sd + k) - nI (sd + k) / 65536 * 65536 = nI ((sd + k) % 65536) from pk_rem (d := 65536) (by omega) (by omega) (by omega)]
    refine zv_callS (m_draw l D B (show (sd + k) % 65536 < 65537 by omega)) ml_X7_68 st_X7_draw rfl rfl (Nat.le_of_ble_eq_true rfl) dX7_degrees_71 ⟨Nat.le_of_ble_eq_true rfl, Nat.le_of_ble_eq_true rfl⟩ ⟨Nat.le_refl _, Nat.le_refl _⟩ (zk_i ?_)
    refine zv_callS (m_draw l D B (zdw_lt _)) ml_X7_68 st_X7_draw rfl rfl (Nat.le_of_ble_eq_true rfl) dX7_degrees_74 ⟨Nat.le_of_ble_eq_true rfl, Nat.le_of_ble_eq_true rfl⟩ ⟨Nat.le_refl _, Nat.le_refl _⟩ (zk_i ?_)
    refine zv_callV (m_X7_degreeBy l D B hm h20 h18 iw (zdw_lt _) hn0 i3) ml_X7_75 in_X7_degreeBy sel_X7_degreeBy hm rfl rfl rfl rfl (Nat.le_of_ble_eq_true rfl) dX7_degrees_77 ⟨Nat.le_of_ble_eq_true rfl, Nat.le_of_ble_eq_true rfl⟩ ⟨Nat.le_refl _, Nat.le_refl _⟩ (zk_i ?_)
    have hdv : degB r sd dg k = decide (nI (zdeg w (zdw (zdw ((sd + k) % 65536))) n) = dg) := by unfold degB; rw [i0, i2, nI_clamp (by omega), nI_clamp (by omega)]
    refine zv_iload_n dX7_degrees_80 rfl ?_
    refine zv_icmp_ne (tgt := 88) dX7_degrees_81 (by decide) (fun c81 => ?_) (fun c81 => ?_)
    · have hv : zcnt (degB r sd dg) (k + 1) = zcnt (degB r sd dg) k + 0 := by
        conv => lhs; unfold zcnt
        rw [hdv, decide_eq_false c81]
        rfl
      refine zv_iconst (v := 0) dX7_degrees_88 (by decide) ?_
      refine zv_iadd dX7_degrees_89 ?_
      refine zv_istore dX7_degrees_90 (by decide) rfl ?_
      refine zv_iinc1 dX7_degrees_92 rfl (by decide) rfl ?_
      refine zv_goto (tgt := 55) dX7_degrees_95 (by decide) ?_
      have ih1 := ih hlt
      rw [hv] at ih1
      first
        | (rw [nI_1, nI_1]; exact ih1)
        | (rw [nI_1, i32_add0]; exact ih1)
    · have hv : zcnt (degB r sd dg) (k + 1) = zcnt (degB r sd dg) k + 1 := by
        conv => lhs; unfold zcnt
        rw [hdv, decide_eq_true c81]
        rfl
      refine zv_iconst (v := 1) dX7_degrees_84 (by decide) ?_
      refine zv_goto (tgt := 89) dX7_degrees_85 (by decide) ?_
      refine zv_iadd dX7_degrees_89 ?_
      refine zv_istore dX7_degrees_90 (by decide) rfl ?_
      refine zv_iinc1 dX7_degrees_92 rfl (by decide) rfl ?_
      refine zv_goto (tgt := 55) dX7_degrees_95 (by decide) ?_
      have ih1 := ih hlt
      rw [hv] at ih1
      first
        | (rw [nI_1, nI_1]; exact ih1)
        | (rw [nI_1, i32_add0]; exact ih1)

set_option maxRecDepth 100000 in
set_option maxHeartbeats 4000000 in
theorem m_X7_degrees (l : Launch) (D : zD) (B : Nat) {L : zL} {nx : Nat} {G : zG} {m b c tn : Nat} {r : Nat → Int32} {h : Nat → (Nat → Int32)} {sl : Nat → Option (Nat → Int32)} {T : Nat → Nat} (hR : zRM L m G r h c sl T tn) (hS : SI b r) (sd mn dg : Int32) : zMet l D B yX7_degrees cX7_degrees 6 (some .int) 1 24 0 0 [.ref m, .int sd, .int mn, .int dg] L nx G (zE (some (.int (qDeg r sd mn dg))) L nx (G)) := by
  refine zMet_of (own := RX7) (mn := "degrees") [some (.ref m), some (.int sd), some (.int mn), some (.int dg), none, none] (by decide +kernel) rfl rfl rfl (Nat.le_of_ble_eq_true rfl) ?_
  show zV l (fun _ => True) D B RX7 "degrees" cX7_degrees 6 (some .int) (zrm 1 24 0 0) (zN (zE (some (.int (qDeg r sd mn dg))) L nx (G))) 0 0 L nx 0 [some (.ref m), some (.int sd), some (.int mn), some (.int dg), none, none] [] (G)
  obtain ⟨w, ls, n, cn, i0, iw, i1, il, i2, i3, i4, i5, i6, i7, i8⟩ := id hS
  have hm := hR.1
  have hr := hR.2.1
  refine zv_iload_n dX7_degrees_0 rfl ?_
  refine zv_i2l dX7_degrees_1 ?_
  refine zv_iconst (v := 0) dX7_degrees_2 (by decide) ?_
  refine zv_ldc dX7_degrees_3 kc_X7_117 ?_
  refine zv_callS (m_in3 l D B sd 0 65535) ml_X7_44 st_X7_in rfl rfl (Nat.le_of_ble_eq_true rfl) dX7_degrees_5 ⟨Nat.le_of_ble_eq_true rfl, Nat.le_of_ble_eq_true rfl⟩ ⟨Nat.le_refl _, Nat.le_refl _⟩ (zk_i ?_)
  refine zv_if_eq (tgt := 34) dX7_degrees_8 (by decide) (fun c8 => ?_) (fun c8 => ?_)
  · have z1 := bI_eq0.mp c8
    have hq : qDeg r sd mn dg = -2 := by unfold qDeg; rw [z1, Bool.false_and, if_pos rfl]
    refine zv_bipush (v := (-2)) dX7_degrees_34 (by decide) ?_
    refine zv_iretE dX7_degrees_36 rfl (rfl) ?_ ?_
    · exact hq.symm
    · rfl
  · have z1 := bI_ne0.mp c8
    refine zv_iload_n dX7_degrees_11 rfl ?_
    refine zv_i2l dX7_degrees_12 ?_
    refine zv_iconst (v := 1) dX7_degrees_13 (by decide) ?_
    refine zv_sipush (v := 999) dX7_degrees_14 (by decide) ?_
    refine zv_callS (m_in3 l D B mn 1 999) ml_X7_44 st_X7_in rfl rfl (Nat.le_of_ble_eq_true rfl) dX7_degrees_17 ⟨Nat.le_of_ble_eq_true rfl, Nat.le_of_ble_eq_true rfl⟩ ⟨Nat.le_refl _, Nat.le_refl _⟩ (zk_i ?_)
    refine zv_if_eq (tgt := 34) dX7_degrees_20 (by decide) (fun c20 => ?_) (fun c20 => ?_)
    · have z2 := bI_eq0.mp c20
      have hq : qDeg r sd mn dg = -2 := by unfold qDeg; rw [z2, Bool.false_and, Bool.and_false, if_pos rfl]
      refine zv_bipush (v := (-2)) dX7_degrees_34 (by decide) ?_
      refine zv_iretE dX7_degrees_36 rfl (rfl) ?_ ?_
      · exact hq.symm
      · rfl
    · have z2 := bI_ne0.mp c20
      refine zv_iload_n dX7_degrees_23 rfl ?_
      refine zv_i2l dX7_degrees_24 ?_
      refine zv_iconst (v := 1) dX7_degrees_25 (by decide) ?_
      refine zv_bipush (v := 16) dX7_degrees_26 (by decide) ?_
      refine zv_callS (m_in3 l D B dg 1 16) ml_X7_44 st_X7_in rfl rfl (Nat.le_of_ble_eq_true rfl) dX7_degrees_28 ⟨Nat.le_of_ble_eq_true rfl, Nat.le_of_ble_eq_true rfl⟩ ⟨Nat.le_refl _, Nat.le_refl _⟩ (zk_i ?_)
      refine zv_if_ne (tgt := 37) dX7_degrees_31 (by decide) (fun c31 => ?_) (fun c31 => ?_)
      · have z3 := bI_ne0.mp c31
        refine zv_aload_n dX7_degrees_37 rfl ?_
        refine zv_getS (r := 1) hR.1 rfl fl_X7_7 rfl dX7_degrees_38 ?_
        refine zv_iconst (v := 2) dX7_degrees_41 (by decide) ?_
        refine zv_iald (i := 1) hR.1 rfl (zix_nI (i := 2) (by omega) (by decide)) dX7_degrees_42 ?_
        rw [show G m (18 + 2) = r 2 from hr 2 (by decide)]
        refine zv_if_ne (tgt := 49) dX7_degrees_43 (by decide) (fun c43 => ?_) (fun c43 => ?_)
        · obtain ⟨s0, hs0, rfl⟩ := (zin3_iff (m := 65535) (by decide)).mp z1
          obtain ⟨m0, hm00, hm0, rfl⟩ := (zin3_iff2 (l := 1) (m := 999) (by decide) (by decide)).mp z2
          have hn0 : 0 < n := by
            rcases Nat.eq_zero_or_pos n with g | g
            · rw [i2, g] at c43; exact absurd rfl c43
            · exact g
          have hq : qDeg r (nI s0) (nI m0) dg = nI (zcnt (degB r s0 dg) m0) := by unfold qDeg; rw [z1, z2, z3, if_neg (by simp), if_neg c43, nI_clamp (by omega), nI_clamp (by omega)]
          rw [hq]
          refine zv_iconst (v := 0) dX7_degrees_49 (by decide) ?_
          refine zv_istore dX7_degrees_50 (by decide) rfl ?_
          refine zv_iconst (v := 0) dX7_degrees_52 (by decide) ?_
          refine zv_istore dX7_degrees_53 (by decide) rfl ?_
          exact lp_X7_degrees l D B hm ((hr 2 (by decide)).trans i2) ((hr 0 (by decide)).trans i0) i2 i0 iw hn0 i3 (by omega) (by omega) 0 (by omega)
        · have hq : qDeg r sd mn dg = -5 := by unfold qDeg; rw [z1, z2, z3, if_neg (by simp), if_pos (by simpa using c43)]
          refine zv_bipush (v := (-5)) dX7_degrees_46 (by decide) ?_
          refine zv_iretE dX7_degrees_48 rfl (rfl) ?_ ?_
          · exact hq.symm
          · rfl
      · have z3 := bI_eq0.mp c31
        have hq : qDeg r sd mn dg = -2 := by unfold qDeg; rw [z3, Bool.and_false, Bool.and_false, if_pos rfl]
        refine zv_bipush (v := (-2)) dX7_degrees_34 (by decide) ?_
        refine zv_iretE dX7_degrees_36 rfl (rfl) ?_ ?_
        · exact hq.symm
        · rfl
