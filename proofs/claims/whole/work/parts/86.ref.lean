set_option maxRecDepth 100000 in
set_option maxHeartbeats 4000000 in
theorem lp_X7_solves (l : Launch) (D : zD) (B : Nat) {L : zL} {nx : Nat} {G : zG} {m : Nat} {g r : Nat → Int32} (hm : (m, 8) ∈ L) {i n t : Nat} {f ch : Nat → Int32} (hi : i < 3) (hJ : zCJ n ch f t) : ∀ k : Nat, k ≤ 16 → zV l (fun _ => True) D B RX7 "solves" cX7_solves 4 (some .int) (zrm 3 72 0 0) (zN (zI (nI (zcnt (zb (slvP f ch 0)) 16) - nI (zcnt (zb (f 0)) 16)) L nx (fun G1 => G1 = (mS G m (gR g (folR f t) (xsR ch (folR f t))) r i (slvP f ch))))) 0 0 L nx 18 [some (.ref m), some (.int (nI i)), some (.int (folM f)), some (.int (nI k))] [] ((mS G m (gR g (folR f t) (xsR ch (folR f t))) r i (knowAll f ch (mskL (folM f) k)))) := by
  refine zloop 16 (fun k hk ih => ?_)
  have ht := hJ.2.1
  refine zv_iload_n dX7_solves_18 rfl ?_
  refine zv_bipush (v := 16) dX7_solves_19 (by decide) ?_
  refine zv_icmp_ge (tgt := 51) dX7_solves_21 (by decide) (fun c21 => ?_) (fun c21 => ?_)
  · have e : k = 16 := by have := zge_of (N := 16) (by decide) (by omega) rfl c21; omega
    subst e
    rw [mskL_16 hJ.1 (folM_lim hJ).1]
    refine zv_iload_n dX7_solves_51 rfl ?_
    refine zv_callS (m_X7_size l D B (folM f)) ml_X7_91 st_X7_size rfl rfl (Nat.le_of_ble_eq_true rfl) dX7_solves_52 ⟨Nat.le_of_ble_eq_true rfl, Nat.le_of_ble_eq_true rfl⟩ ⟨Nat.le_refl _, Nat.le_refl _⟩ (zk_i ?_)
    refine zv_aload_n dX7_solves_55 rfl ?_
    refine zv_iload_n dX7_solves_56 rfl ?_
    refine zv_callV (m_X7_peel l D B hm hi (zCJ_all hJ).1) ml_X7_107 in_X7_peel sel_X7_peel hm rfl rfl rfl rfl (Nat.le_of_ble_eq_true rfl) dX7_solves_57 ⟨Nat.le_of_ble_eq_true rfl, Nat.le_of_ble_eq_true rfl⟩ ⟨Nat.le_refl _, Nat.le_refl _⟩ (zk_i ?_)
    refine zv_iadd dX7_solves_60 ?_
    exact zv_iretI dX7_solves_61 rfl rfl (slv_cnt hJ) rfl
  · have hlt : k < 16 := zlt_of (N := 16) (by decide) (by omega) rfl c21
    refine zv_iload_n dX7_solves_24 rfl ?_
    refine zv_iload_n dX7_solves_25 rfl ?_
    refine zv_ishr dX7_solves_26 ?_
    refine zv_iconst (v := 1) dX7_solves_27 (by decide) ?_
    refine zv_iand dX7_solves_28 ?_
    rw [zb_test _ (by omega)]
    refine zv_iconst (v := 1) dX7_solves_29 (by decide) ?_
    refine zv_icmp_ne (tgt := 45) dX7_solves_30 (by decide) (fun c30 => ?_) (fun c30 => ?_)
    · have hv : mskL (folM f) (k + 1) = mskL (folM f) k := by rw [mskL_s, if_neg (fun h => c30 (bI_1.mpr h))]
      refine zv_iinc1 dX7_solves_45 rfl (by decide) rfl ?_
      refine zv_goto (tgt := 18) dX7_solves_48 (by decide) ?_
      rw [nI_1]
      first
        | exact ih hlt
        | (have ih1 := ih hlt; rw [hv] at ih1; exact ih1)
    · have hb := bI_1.mp c30
      obtain ⟨v1, v2⟩ := folR_val hJ hlt hb
      have hv : mskL (folM f) (k + 1) = mskL (folM f) k ||| bt k := by rw [mskL_s, if_pos hb]
      refine zv_aload_n dX7_solves_33 rfl ?_
      refine zv_iload_n dX7_solves_34 rfl ?_
      refine zv_iload_n dX7_solves_35 rfl ?_
      refine zv_aload_n dX7_solves_36 rfl ?_
      refine zv_getS (r := 11) hm rfl fl_X7_41 rfl dX7_solves_37 ?_
      refine zv_iload_n dX7_solves_40 rfl ?_
      refine zv_iald (i := 11) hm rfl (zix_nI (by omega) (by decide)) dX7_solves_41 ?_
      rw [mS_o (by omega), gR_v hlt, v2]
      refine zv_callV (m_X7_knows l D B hm hi (t := t) (show k < 16 by omega) ht (knowAll_1.trans hJ.2.2.1) (fun k2 hk1 hk2 => by rw [knowAll_row hk2 ((hJ.2.2.2.2.2 k2 hk2).2.2.2 hk1)]; exact zb_zero _)) ml_X7_104 in_X7_knows sel_X7_knows hm rfl rfl rfl rfl (Nat.le_of_ble_eq_true rfl) dX7_solves_42 ⟨Nat.le_of_ble_eq_true rfl, Nat.le_of_ble_eq_true rfl⟩ ⟨Nat.le_refl _, Nat.le_refl _⟩ (zk_v ?_)
      rw [knowAll_s hlt (mskL_no (by omega)), ← hv]
      refine zv_iinc1 dX7_solves_45 rfl (by decide) rfl ?_
      refine zv_goto (tgt := 18) dX7_solves_48 (by decide) ?_
      rw [nI_1]
      first
        | exact ih hlt
        | (have ih1 := ih hlt; rw [hv] at ih1; exact ih1)

set_option maxRecDepth 100000 in
set_option maxHeartbeats 4000000 in
theorem m_X7_solves (l : Launch) (D : zD) (B : Nat) {L : zL} {nx : Nat} {G : zG} {m : Nat} {g r : Nat → Int32} (hm : (m, 8) ∈ L) {b : Nat} (hS : SI b r) (y : Int32) : zMet l D B yX7_solves cX7_solves 4 (some .int) 3 72 0 0 [.ref m, .int y] L nx (mT G m g r) (zI (opSolve r y).1 L nx (fun G1 => ∃ g1, gF g g1 ∧ G1 = mT G m g1 (opSolve r y).2)) := by
  refine zMet_of (own := RX7) (mn := "solves") [some (.ref m), some (.int y), none, none] (by decide +kernel) rfl rfl rfl (Nat.le_of_ble_eq_true rfl) ?_
  show zV l (fun _ => True) D B RX7 "solves" cX7_solves 4 (some .int) (zrm 3 72 0 0) (zN (zI (opSolve r y).1 L nx (fun G1 => ∃ g1, gF g g1 ∧ G1 = mT G m g1 (opSolve r y).2))) 0 0 L nx 0 [some (.ref m), some (.int y), none, none] [] ((mT G m g r))
  obtain ⟨w, ls, n, cn, i0, iw, i1, il, i2, i3, i4, i5, i6, i7, i8⟩ := id hS
  refine zv_aload_n dX7_solves_0 rfl ?_
  refine zv_iload_n dX7_solves_1 rfl ?_
  refine zv_callV (m_X7_isCup l D B hm i4 i5 (mT_at (k := 3) (by decide)) y) ml_X7_118 in_X7_isCup sel_X7_isCup hm rfl rfl rfl rfl (Nat.le_of_ble_eq_true rfl) dX7_solves_2 ⟨Nat.le_of_ble_eq_true rfl, Nat.le_of_ble_eq_true rfl⟩ ⟨Nat.le_refl _, Nat.le_refl _⟩ (zk_i ?_)
  rcases hz : cpI r y with _ | i
  · have hop : opSolve r y = (-1, r) := by unfold opSolve; rw [hz]
    rw [hop]
    refine zv_if_ne (tgt := 10) dX7_solves_5 (by decide) (fun h => absurd (rfl) h) (fun _ => ?_)
    refine zv_iconst (v := (-1)) dX7_solves_8 (by decide) ?_
    exact zv_iretI dX7_solves_9 rfl rfl rfl ⟨_, gF_rf, rfl⟩
  · obtain ⟨hi, rfl⟩ := cpI_some i4 i5 hz
    have hi3 : i < 3 := by omega
    obtain ⟨t, hJ, -⟩ := i6 i hi3
    have hop : opSolve r (nI i) = (nI (zcnt (zb (slvP (cupR r i) (chR r) 0)) 16) - nI (zcnt (zb (cupR r i 0)) 16), putC r i (slvP (cupR r i) (chR r))) := by unfold opSolve; rw [hz]
    rw [hop, mT_S (i := i)]
    refine zv_if_ne (tgt := 10) dX7_solves_5 (by decide) (fun _ => ?_) (fun h => absurd h (show ¬ bI true = 0 from by decide))
    refine zv_aload_n dX7_solves_10 rfl ?_
    refine zv_iload_n dX7_solves_11 rfl ?_
    refine zv_callV (m_X7_follow l D B hm hi3 hJ) ml_X7_126 in_X7_follow sel_X7_follow hm rfl rfl rfl rfl (Nat.le_of_ble_eq_true rfl) dX7_solves_12 ⟨Nat.le_of_ble_eq_true rfl, Nat.le_of_ble_eq_true rfl⟩ ⟨Nat.le_refl _, Nat.le_refl _⟩ (zk_p fun G2 hG2 => ?_)
    subst hG2
    refine zv_istore_n dX7_solves_15 (by decide) rfl ?_
    refine zv_iconst (v := 0) dX7_solves_16 (by decide) ?_
    refine zv_istore_n dX7_solves_17 (by decide) rfl ?_
    refine zv_post (q := zI (nI (zcnt (zb (slvP (cupR r i) (chR r) 0)) 16) - nI (zcnt (zb (cupR r i 0)) 16)) L nx (fun G1 => G1 = mS G m (gR g (folR (cupR r i) t) (xsR (chR r) (folR (cupR r i) t))) r i (slvP (cupR r i) (chR r)))) ?_ ?_
    · have := lp_X7_solves l D B (G := G) (nx := nx) (r := r) (g := g) hm hi3 hJ 0 (by omega)
      rw [mskL_0, knowAll_0] at this
      exact this
    · rintro v L1 n1 G1 ⟨e1, e2, e3, rfl⟩
      exact ⟨e1, e2, e3, _, gR_F, rfl⟩
