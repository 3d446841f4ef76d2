theorem mG_cg {g r r' : Nat → Int32} (h : ∀ k, k < 228 → r k = r' k) : mG g r = mG g r' := by
  funext j
  unfold mG
  split
  · exact h _ (by omega)
  · rfl
theorem mT_cg {G : zG} {m : Nat} {g r r' : Nat → Int32} (h : ∀ k, k < 228 → r k = r' k) : mT G m g r = mT G m g r' := by
  unfold mT
  rw [mG_cg h]
def rwR (r r' : Nat → Int32) (i : Nat) : Nat → Int32 := fun k => if k < i then r' k else r k
theorem rwR_0 {r r' : Nat → Int32} : rwR r r' 0 = r := by
  funext k
  exact if_neg (by omega)
theorem rwR_s {r r' : Nat → Int32} {i : Nat} : upd (rwR r r' i) i (r' i) = rwR r r' (i + 1) := by
  funext k
  simp only [upd, rwR]
  by_cases e : k = i
  · subst e
    rw [if_pos rfl, if_pos (by omega)]
  · rw [if_neg e]
    by_cases e2 : k < i
    · rw [if_pos e2, if_pos (by omega)]
    · rw [if_neg e2, if_neg (by omega)]

set_option maxRecDepth 100000 in
set_option maxHeartbeats 4000000 in
theorem m_X7_set (l : Launch) (D : zD) (B : Nat) {L : zL} {nx : Nat} {G : zG} {m b c tn : Nat} {r : Nat → Int32} {h : Nat → (Nat → Int32)} {sl : Nat → Option (Nat → Int32)} {T : Nat → Nat} (hR : zRM L m G r h c sl T tn) (hS : SI b r) (s vv : Int32) : zMet l D B yX7_set cX7_set 4 (some .int) 1 23 0 0 [.ref m, .int s, .int vv] L nx G (zI (opSet r s vv).1 L nx (fun G1 => zRM L m G1 (chg r h c (opSet r s vv)).1 (chg r h c (opSet r s vv)).2.1 (chg r h c (opSet r s vv)).2.2 sl T tn ∧ ∀ y, y ≠ m → G1 y = G y)) := by
  refine zMet_of (own := RX7) (mn := "set") [some (.ref m), some (.int s), some (.int vv), none] (by decide +kernel) rfl rfl rfl (Nat.le_of_ble_eq_true rfl) ?_
  show zV l (fun _ => True) D B RX7 "set" cX7_set 4 (some .int) (zrm 1 23 0 0) (zN (zI (opSet r s vv).1 L nx (fun G1 => zRM L m G1 (chg r h c (opSet r s vv)).1 (chg r h c (opSet r s vv)).2.1 (chg r h c (opSet r s vv)).2.2 sl T tn ∧ ∀ y, y ≠ m → G1 y = G y))) 0 0 L nx 0 [some (.ref m), some (.int s), some (.int vv), none] [] (G)
  refine zv_iload_n dX7_set_0 rfl ?_
  refine zv_if_ne (tgt := 17) dX7_set_1 (by decide) (fun c1 => ?_) (fun c1 => ?_)
  · refine zv_iload_n dX7_set_17 rfl ?_
    refine zv_iconst (v := 1) dX7_set_18 (by decide) ?_
    refine zv_icmp_ne (tgt := 33) dX7_set_19 (by decide) (fun c19 => ?_) (fun c19 => ?_)
    · refine zv_bipush (v := (-2)) dX7_set_33 (by decide) ?_
      have hop : opSet r s vv = (-2, r) := by
        unfold opSet
        first
          | rw [if_neg (fun h => c1 h.1), if_neg (fun h => c19 h.1)]
          | rw [if_neg (fun h => c1 h.1), if_neg (fun h => by rw [z2] at h; exact absurd h.2 (by decide))]
          | rw [if_neg (fun h => by rw [z1] at h; exact absurd h.2 (by decide)), if_neg (fun h => by rw [c1] at h; exact absurd h.1 (by decide))]
      rw [hop, chg_neg (o := ((-2 : Int32), r)) (show (-2 : Int32) < 0 by decide)]
      exact zv_iretI dX7_set_35 rfl rfl rfl ⟨hR, fun y hy => rfl⟩
    · refine zv_iload_n dX7_set_22 rfl ?_
      refine zv_i2l dX7_set_23 ?_
      refine zv_iconst (v := 0) dX7_set_24 (by decide) ?_
      refine zv_bipush (v := 99) dX7_set_25 (by decide) ?_
      refine zv_callS (m_in3 l D B vv 0 99) ml_X7_44 st_X7_in rfl rfl (Nat.le_of_ble_eq_true rfl) dX7_set_27 ⟨Nat.le_of_ble_eq_true rfl, Nat.le_of_ble_eq_true rfl⟩ ⟨Nat.le_refl _, Nat.le_refl _⟩ (zk_i ?_)
      refine zv_if_ne (tgt := 36) dX7_set_30 (by decide) (fun c30 => ?_) (fun c30 => ?_)
      · have z2 := bI_ne0.mp c30
        obtain ⟨k, hk, hs, hop⟩ : ∃ k, k < 2 ∧ s = nI k ∧ opSet r s vv = (r k, upd r k vv) := by
          first
            | exact ⟨0, by decide, c1, by unfold opSet; rw [if_pos ⟨c1, z1⟩]⟩
            | exact ⟨1, by decide, c19, by unfold opSet; rw [if_neg (fun h => c1 h.1), if_pos ⟨c19, z2⟩]⟩
        rw [hop]
        have hn : ¬ r k < 0 := by
          obtain ⟨w, ls, n, cn, i0, iw, i1, il, -⟩ := id hS
          rcases (show k = 0 ∨ k = 1 by omega) with rfl | rfl
          · rw [i0]; exact nI_pos (by omega)
          · rw [i1]; exact nI_pos (by omega)
        refine zv_aload_n dX7_set_36 rfl ?_
        refine zv_callV (m_X7_remember l D B hR.1) ml_X7_60 in_X7_remember sel_X7_remember hR.1 rfl rfl rfl rfl (Nat.le_of_ble_eq_true rfl) dX7_set_37 ⟨Nat.le_of_ble_eq_true rfl, Nat.le_of_ble_eq_true rfl⟩ ⟨Nat.le_refl _, Nat.le_refl _⟩ (zk_v ?_)
        rw [remM_T hR.2.1, hs]
        refine zv_aload_n dX7_set_40 rfl ?_
        refine zv_getS (r := 1) hR.1 rfl fl_X7_7 rfl dX7_set_41 ?_
        refine zv_iload_n dX7_set_44 rfl ?_
        refine zv_iald (i := 1) hR.1 rfl (zix_nI (i := k) (by omega) (by decide)) dX7_set_45 ?_
        rw [show mT G m (remM (G m)) r m (18 + k) = r k from mT_at (by omega)]
        refine zv_istore_n dX7_set_46 (by decide) rfl ?_
        refine zv_aload_n dX7_set_47 rfl ?_
        refine zv_getS (r := 1) hR.1 rfl fl_X7_7 rfl dX7_set_48 ?_
        refine zv_iload_n dX7_set_51 rfl ?_
        refine zv_iload_n dX7_set_52 rfl ?_
        refine zv_iast (i := 1) hR.1 rfl (zix_nI (i := k) (by omega) (by decide)) dX7_set_53 ?_
        rw [mT_u (by omega)]
        refine zv_aload_n dX7_set_54 rfl ?_
        refine zv_iload_n dX7_set_55 rfl ?_
        refine zv_callV (m_X7_record l D B hR.1 hn hR.2.2.2.1 (mT_6 hR gF_rf)) ml_X7_63 in_X7_record sel_X7_record hR.1 rfl rfl rfl rfl (Nat.le_of_ble_eq_true rfl) dX7_set_56 ⟨Nat.le_of_ble_eq_true rfl, Nat.le_of_ble_eq_true rfl⟩ ⟨Nat.le_refl _, Nat.le_refl _⟩ (zk_i ?_)
        rw [chg_pos (o := (r k, upd r k vv)) hn]
        exact zv_iretI dX7_set_59 rfl rfl rfl ⟨rm_rec hR gF_rf, fun y hy => (zst_ne _ _ hy).trans (mT_ne hy)⟩
      · have z2 := bI_eq0.mp c30
        refine zv_bipush (v := (-2)) dX7_set_33 (by decide) ?_
        have hop : opSet r s vv = (-2, r) := by
          unfold opSet
          first
            | rw [if_neg (fun h => c1 h.1), if_neg (fun h => c19 h.1)]
            | rw [if_neg (fun h => c1 h.1), if_neg (fun h => by rw [z2] at h; exact absurd h.2 (by decide))]
            | rw [if_neg (fun h => by rw [z1] at h; exact absurd h.2 (by decide)), if_neg (fun h => by rw [c1] at h; exact absurd h.1 (by decide))]
        rw [hop, chg_neg (o := ((-2 : Int32), r)) (show (-2 : Int32) < 0 by decide)]
        exact zv_iretI dX7_set_35 rfl rfl rfl ⟨hR, fun y hy => rfl⟩
  · refine zv_iload_n dX7_set_4 rfl ?_
    refine zv_i2l dX7_set_5 ?_
    refine zv_iconst (v := 0) dX7_set_6 (by decide) ?_
    refine zv_iconst (v := 2) dX7_set_7 (by decide) ?_
    refine zv_callS (m_in3 l D B vv 0 2) ml_X7_44 st_X7_in rfl rfl (Nat.le_of_ble_eq_true rfl) dX7_set_8 ⟨Nat.le_of_ble_eq_true rfl, Nat.le_of_ble_eq_true rfl⟩ ⟨Nat.le_refl _, Nat.le_refl _⟩ (zk_i ?_)
    refine zv_if_ne (tgt := 36) dX7_set_11 (by decide) (fun c11 => ?_) (fun c11 => ?_)
    · have z1 := bI_ne0.mp c11
      obtain ⟨k, hk, hs, hop⟩ : ∃ k, k < 2 ∧ s = nI k ∧ opSet r s vv = (r k, upd r k vv) := by
        first
          | exact ⟨0, by decide, c1, by unfold opSet; rw [if_pos ⟨c1, z1⟩]⟩
          | exact ⟨1, by decide, c19, by unfold opSet; rw [if_neg (fun h => c1 h.1), if_pos ⟨c19, z2⟩]⟩
      rw [hop]
      have hn : ¬ r k < 0 := by
        obtain ⟨w, ls, n, cn, i0, iw, i1, il, -⟩ := id hS
        rcases (show k = 0 ∨ k = 1 by omega) with rfl | rfl
        · rw [i0]; exact nI_pos (by omega)
        · rw [i1]; exact nI_pos (by omega)
      refine zv_aload_n dX7_set_36 rfl ?_
      refine zv_callV (m_X7_remember l D B hR.1) ml_X7_60 in_X7_remember sel_X7_remember hR.1 rfl rfl rfl rfl (Nat.le_of_ble_eq_true rfl) dX7_set_37 ⟨Nat.le_of_ble_eq_true rfl, Nat.le_of_ble_eq_true rfl⟩ ⟨Nat.le_refl _, Nat.le_refl _⟩ (zk_v ?_)
      rw [remM_T hR.2.1, hs]
      refine zv_aload_n dX7_set_40 rfl ?_
      refine zv_getS (r := 1) hR.1 rfl fl_X7_7 rfl dX7_set_41 ?_
      refine zv_iload_n dX7_set_44 rfl ?_
      refine zv_iald (i := 1) hR.1 rfl (zix_nI (i := k) (by omega) (by decide)) dX7_set_45 ?_
      rw [show mT G m (remM (G m)) r m (18 + k) = r k from mT_at (by omega)]
      refine zv_istore_n dX7_set_46 (by decide) rfl ?_
      refine zv_aload_n dX7_set_47 rfl ?_
      refine zv_getS (r := 1) hR.1 rfl fl_X7_7 rfl dX7_set_48 ?_
      refine zv_iload_n dX7_set_51 rfl ?_
      refine zv_iload_n dX7_set_52 rfl ?_
      refine zv_iast (i := 1) hR.1 rfl (zix_nI (i := k) (by omega) (by decide)) dX7_set_53 ?_
      rw [mT_u (by omega)]
      refine zv_aload_n dX7_set_54 rfl ?_
      refine zv_iload_n dX7_set_55 rfl ?_
      refine zv_callV (m_X7_record l D B hR.1 hn hR.2.2.2.1 (mT_6 hR gF_rf)) ml_X7_63 in_X7_record sel_X7_record hR.1 rfl rfl rfl rfl (Nat.le_of_ble_eq_true rfl) dX7_set_56 ⟨Nat.le_of_ble_eq_true rfl, Nat.le_of_ble_eq_true rfl⟩ ⟨Nat.le_refl _, Nat.le_refl _⟩ (zk_i ?_)
      rw [chg_pos (o := (r k, upd r k vv)) hn]
      exact zv_iretI dX7_set_59 rfl rfl rfl ⟨rm_rec hR gF_rf, fun y hy => (zst_ne _ _ hy).trans (mT_ne hy)⟩
    · have z1 := bI_eq0.mp c11
      refine zv_goto (tgt := 33) dX7_set_14 (by decide) ?_
      refine zv_bipush (v := (-2)) dX7_set_33 (by decide) ?_
      have hop : opSet r s vv = (-2, r) := by
        unfold opSet
        first
          | rw [if_neg (fun h => c1 h.1), if_neg (fun h => c19 h.1)]
          | rw [if_neg (fun h => c1 h.1), if_neg (fun h => by rw [z2] at h; exact absurd h.2 (by decide))]
          | rw [if_neg (fun h => by rw [z1] at h; exact absurd h.2 (by decide)), if_neg (fun h => by rw [c1] at h; exact absurd h.1 (by decide))]
      rw [hop, chg_neg (o := ((-2 : Int32), r)) (show (-2 : Int32) < 0 by decide)]
      exact zv_iretI dX7_set_35 rfl rfl rfl ⟨hR, fun y hy => rfl⟩

set_option maxRecDepth 100000 in
set_option maxHeartbeats 4000000 in
theorem lp_X7_restore (l : Launch) (D : zD) (B : Nat) {L : zL} {nx : Nat} {G : zG} {m c tn : Nat} {r : Nat → Int32} {h : Nat → (Nat → Int32)} {sl : Nat → Option (Nat → Int32)} {T : Nat → Nat} (hR : zRM L m G r h c sl T tn) {r' : Nat → Int32} {j : Nat} (hj : j < 2) (hr : ∀ k, k < 228 → G m (2070 + 228 * j + k) = r' k) (hn : ¬ r' 3 < 0) : ∀ i : Nat, i ≤ 228 → zV l (fun _ => True) D B RX7 "restore" cX7_restore 3 (some .int) (zrm 1 23 0 0) (zN (zI (r' 3) L nx (fun G1 => zRM L m G1 r' (pushH h c r).1 (pushH h c r).2 sl T tn ∧ ∀ y, y ≠ m → G1 y = G y))) 0 0 L nx 31 [some (.ref m), some (.int (nI j)), some (.int (nI i))] [] (mT G m (remM (G m)) (rwR r r' i)) := by
  refine zloop 228 (fun i hi ih => ?_)
  refine zv_iload_n dX7_restore_31 rfl ?_
  refine zv_sipush (v := 228) dX7_restore_32 (by decide) ?_
  refine zv_icmp_ge (tgt := 62) dX7_restore_35 (by decide) (fun c35 => ?_) (fun c35 => ?_)
  · have e : i = 228 := by have := zge_of (N := 228) (by decide) (by omega) rfl c35; omega
    subst e
    rw [show mT G m (remM (G m)) (rwR r r' 228) = mT G m (remM (G m)) r' from mT_cg (fun k hk => if_pos hk)]
    refine zv_aload_n dX7_restore_62 rfl ?_
    refine zv_aload_n dX7_restore_63 rfl ?_
    refine zv_getS (r := 1) hR.1 rfl fl_X7_7 rfl dX7_restore_64 ?_
    refine zv_iconst (v := 3) dX7_restore_67 (by decide) ?_
    refine zv_iald (i := 1) hR.1 rfl (zix_nI (i := 3) (by omega) (by decide)) dX7_restore_68 ?_
    rw [show mT G m (remM (G m)) r' m (18 + 3) = r' 3 from mT_at (by decide)]
    refine zv_callV (m_X7_record l D B hR.1 hn hR.2.2.2.1 (mT_6 hR gF_rf)) ml_X7_63 in_X7_record sel_X7_record hR.1 rfl rfl rfl rfl (Nat.le_of_ble_eq_true rfl) dX7_restore_69 ⟨Nat.le_of_ble_eq_true rfl, Nat.le_of_ble_eq_true rfl⟩ ⟨Nat.le_refl _, Nat.le_refl _⟩ (zk_i ?_)
    exact zv_iretI dX7_restore_72 rfl rfl rfl ⟨rm_rec hR gF_rf, fun y hy => (zst_ne _ _ hy).trans (mT_ne hy)⟩
  · have hlt : i < 228 := zlt_of (N := 228) (by decide) (by omega) rfl c35
    refine zv_aload_n dX7_restore_38 rfl ?_
    refine zv_getS (r := 1) hR.1 rfl fl_X7_7 rfl dX7_restore_39 ?_
    refine zv_iload_n dX7_restore_42 rfl ?_
    refine zv_aload_n dX7_restore_43 rfl ?_
    refine zv_getS (r := 5) hR.1 rfl fl_X7_22 rfl dX7_restore_44 ?_
    refine zv_sipush (v := 228) dX7_restore_47 (by decide) ?_
    refine zv_iload_n dX7_restore_50 rfl ?_
    refine zv_imul dX7_restore_51 ?_
    refine zv_iload_n dX7_restore_52 rfl ?_
    refine zv_iadd dX7_restore_53 ?_
    rw [mI2]
    refine zv_iald (i := 5) hR.1 rfl (zix_nI (by omega) (by decide)) dX7_restore_54 ?_
    rw [show mT G m (remM (G m)) (rwR r r' i) m (2070 + (228 * j + i)) = r' i by rw [mT_o (by omega), ← hr i hlt, show 2070 + (228 * j + i) = 2070 + 228 * j + i by omega]; exact cpyM_r (by omega)]
    refine zv_iast (i := 1) hR.1 rfl (zix_nI (by omega) (by decide)) dX7_restore_55 ?_
    rw [mT_u hlt, rwR_s]
    refine zv_iinc1 dX7_restore_56 rfl (by decide) rfl ?_
    refine zv_goto (tgt := 31) dX7_restore_59 (by decide) ?_
    rw [nI_1]
    exact ih hlt

set_option maxRecDepth 100000 in
set_option maxHeartbeats 4000000 in
theorem m_X7_restore (l : Launch) (D : zD) (B : Nat) {L : zL} {nx : Nat} {G : zG} {m c tn : Nat} {r : Nat → Int32} {h : Nat → (Nat → Int32)} {sl : Nat → Option (Nat → Int32)} {T : Nat → Nat} (hR : zRM L m G r h c sl T tn) (hn3 : ∀ j r2, sl j = some r2 → ¬ r2 3 < 0) (vv : Int32) : zMet l D B yX7_restore cX7_restore 3 (some .int) 1 23 0 0 [.ref m, .int vv] L nx G (zI (opRest r sl vv).1 L nx (fun G1 => zRM L m G1 (chg r h c (opRest r sl vv)).1 (chg r h c (opRest r sl vv)).2.1 (chg r h c (opRest r sl vv)).2.2 sl T tn ∧ ∀ y, y ≠ m → G1 y = G y)) := by
  refine zMet_of (own := RX7) (mn := "restore") [some (.ref m), some (.int vv), none] (by decide +kernel) rfl rfl rfl (Nat.le_of_ble_eq_true rfl) ?_
  show zV l (fun _ => True) D B RX7 "restore" cX7_restore 3 (some .int) (zrm 1 23 0 0) (zN (zI (opRest r sl vv).1 L nx (fun G1 => zRM L m G1 (chg r h c (opRest r sl vv)).1 (chg r h c (opRest r sl vv)).2.1 (chg r h c (opRest r sl vv)).2.2 sl T tn ∧ ∀ y, y ≠ m → G1 y = G y))) 0 0 L nx 0 [some (.ref m), some (.int vv), none] [] (G)
  refine zv_iload_n dX7_restore_0 rfl ?_
  refine zv_i2l dX7_restore_1 ?_
  refine zv_iconst (v := 0) dX7_restore_2 (by decide) ?_
  refine zv_iconst (v := 1) dX7_restore_3 (by decide) ?_
  rcases hz : slI vv with _ | j
  · have hop : opRest r sl vv = (-2, r) := by unfold opRest; rw [hz]
    rw [hop, chg_neg (o := ((-2 : Int32), r)) (show (-2 : Int32) < 0 by decide)]
    refine zv_callS (m_in3 l D B _ 0 1) ml_X7_44 st_X7_in rfl rfl (Nat.le_of_ble_eq_true rfl) dX7_restore_4 ⟨Nat.le_of_ble_eq_true rfl, Nat.le_of_ble_eq_true rfl⟩ ⟨Nat.le_refl _, Nat.le_refl _⟩ (zk_i ?_)
    refine zv_if_ne (tgt := 13) dX7_restore_7 (by decide) (fun h => absurd (by rw [slI_none hz]; rfl) h) (fun _ => ?_)
    refine zv_bipush (v := (-2)) dX7_restore_10 (by decide) ?_
    exact zv_iretI dX7_restore_12 rfl rfl rfl ⟨hR, fun y hy => rfl⟩
  · obtain ⟨hj, rfl⟩ := slI_some hz
    refine zv_callS (m_in3 l D B _ 0 1) ml_X7_44 st_X7_in rfl rfl (Nat.le_of_ble_eq_true rfl) dX7_restore_4 ⟨Nat.le_of_ble_eq_true rfl, Nat.le_of_ble_eq_true rfl⟩ ⟨Nat.le_refl _, Nat.le_refl _⟩ (zk_i ?_)
    refine zv_if_ne (tgt := 13) dX7_restore_7 (by decide) (fun _ => ?_) (fun h => absurd h (by rw [slI_in hj]; decide))
    refine zv_aload_n dX7_restore_13 rfl ?_
    refine zv_getS (r := 6) hR.1 rfl fl_X7_25 rfl dX7_restore_14 ?_
    refine zv_iload_n dX7_restore_17 rfl ?_
    rcases hR.2.2.2.2.2.1 j hj with ⟨b1, b2⟩ | ⟨r', b1, b2, b3⟩
    · have hop : opRest r sl (nI j) = (-5, r) := by unfold opRest; rw [hz]; dsimp only; rw [b1]
      rw [hop, chg_neg (o := ((-5 : Int32), r)) (show (-5 : Int32) < 0 by decide)]
      refine zv_zald (i := 6) hR.1 rfl (zix_nI (by omega) (by decide)) dX7_restore_18 ?_
      rw [b2]
      refine zv_if_ne (tgt := 25) dX7_restore_19 (by decide) (fun h => absurd (rfl) h) (fun _ => ?_)
      refine zv_bipush (v := (-5)) dX7_restore_22 (by decide) ?_
      exact zv_iretI dX7_restore_24 rfl rfl rfl ⟨hR, fun y hy => rfl⟩
    · have hop : opRest r sl (nI j) = (r' 3, r') := by unfold opRest; rw [hz]; dsimp only; rw [b1]
      have hn := hn3 j r' b1
      rw [hop, chg_pos (o := (r' 3, r')) hn]
      refine zv_zald (i := 6) hR.1 rfl (zix_nI (by omega) (by decide)) dX7_restore_18 ?_
      rw [b2]
      refine zv_if_ne (tgt := 25) dX7_restore_19 (by decide) (fun _ => ?_) (fun h => absurd h (by decide))
      refine zv_aload_n dX7_restore_25 rfl ?_
      refine zv_callV (m_X7_remember l D B hR.1) ml_X7_60 in_X7_remember sel_X7_remember hR.1 rfl rfl rfl rfl (Nat.le_of_ble_eq_true rfl) dX7_restore_26 ⟨Nat.le_of_ble_eq_true rfl, Nat.le_of_ble_eq_true rfl⟩ ⟨Nat.le_refl _, Nat.le_refl _⟩ (zk_v ?_)
      rw [remM_T hR.2.1]
      refine zv_iconst (v := 0) dX7_restore_29 (by decide) ?_
      refine zv_istore_n dX7_restore_30 (by decide) rfl ?_
      refine zv_eqG ?_ (lp_X7_restore l D B hR hj b3 hn 0 (by omega))
      rw [rwR_0]

set_option maxRecDepth 100000 in
set_option maxHeartbeats 4000000 in
theorem lp_X7_empty (l : Launch) (D : zD) (B : Nat) {L : zL} {nx : Nat} {G : zG} {m c tn : Nat} {r : Nat → Int32} {h : Nat → (Nat → Int32)} {sl : Nat → Option (Nat → Int32)} {T : Nat → Nat} (hR : zRM L m G r h c sl T tn) {i : Nat} (hi : i < 3) (hn : ¬ nI (zcnt (zb (cupR r i 0)) 16) < 0) : ∀ j : Nat, j ≤ 69 → zV l (fun _ => True) D B RX7 "empty" cX7_empty 4 (some .int) (zrm 2 44 0 0) (zN (zI (nI (zcnt (zb (cupR r i 0)) 16)) L nx (fun G1 => zRM L m G1 (putC r i (fun _ => 0)) (pushH h c r).1 (pushH h c r).2 sl T tn ∧ ∀ y, y ≠ m → G1 y = G y))) 0 0 L nx 26 [some (.ref m), some (.int (nI i)), some (.int (nI (zcnt (zb (cupR r i 0)) 16))), some (.int (nI j))] [] (mS G m (remM (G m)) r i (fun k => if k < j then 0 else cupR r i k)) := by
  refine zloop 69 (fun j hj ih => ?_)
  refine zv_iload_n dX7_empty_26 rfl ?_
  refine zv_bipush (v := 69) dX7_empty_27 (by decide) ?_
  refine zv_icmp_ge (tgt := 45) dX7_empty_29 (by decide) (fun c29 => ?_) (fun c29 => ?_)
  · have e : j = 69 := by have := zge_of (N := 69) (by decide) (by omega) rfl c29; omega
    subst e
    rw [show mS G m (remM (G m)) r i (fun k => if k < 69 then 0 else cupR r i k) = mT G m (remM (G m)) (putC r i (fun _ => 0)) by
      unfold mS mT
      congr 2
      funext k
      unfold putC
      split
      · exact if_pos (by omega)
      · rfl]
    refine zv_aload_n dX7_empty_45 rfl ?_
    refine zv_iload_n dX7_empty_46 rfl ?_
    refine zv_callV (m_X7_record l D B hR.1 hn hR.2.2.2.1 (mT_6 hR gF_rf)) ml_X7_63 in_X7_record sel_X7_record hR.1 rfl rfl rfl rfl (Nat.le_of_ble_eq_true rfl) dX7_empty_47 ⟨Nat.le_of_ble_eq_true rfl, Nat.le_of_ble_eq_true rfl⟩ ⟨Nat.le_refl _, Nat.le_refl _⟩ (zk_i ?_)
    exact zv_iretI dX7_empty_50 rfl rfl rfl ⟨rm_rec hR gF_rf, fun y hy => (zst_ne _ _ hy).trans (mT_ne hy)⟩
  · have hlt : j < 69 := zlt_of (N := 69) (by decide) (by omega) rfl c29
    refine zv_aload_n dX7_empty_32 rfl ?_
    refine zv_iload_n dX7_empty_33 rfl ?_
    refine zv_iload_n dX7_empty_34 rfl ?_
    refine zv_iconst (v := 0) dX7_empty_35 (by decide) ?_
    refine zv_callV (m_lay l D B (k := j) hR.1 hi (by omega)) ml_X7_87 in_X7_lay sel_X7_lay hR.1 rfl rfl rfl rfl (Nat.le_of_ble_eq_true rfl) dX7_empty_36 ⟨Nat.le_of_ble_eq_true rfl, Nat.le_of_ble_eq_true rfl⟩ ⟨Nat.le_refl _, Nat.le_refl _⟩ (zk_v ?_)
    refine zv_iinc1 dX7_empty_39 rfl (by decide) rfl ?_
    refine zv_goto (tgt := 26) dX7_empty_42 (by decide) ?_
    rw [nI_1]
    refine zv_eqG ?_ (ih hlt)
    congr 1
    funext k
    simp only [upd]
    by_cases e : k = j
    · subst e
      rw [if_pos rfl, if_pos (by omega)]
    · rw [if_neg e]
      by_cases e2 : k < j
      · rw [if_pos e2, if_pos (by omega)]
      · rw [if_neg e2, if_neg (by omega)]

set_option maxRecDepth 100000 in
set_option maxHeartbeats 4000000 in
theorem m_X7_empty (l : Launch) (D : zD) (B : Nat) {L : zL} {nx : Nat} {G : zG} {m b c tn : Nat} {r : Nat → Int32} {h : Nat → (Nat → Int32)} {sl : Nat → Option (Nat → Int32)} {T : Nat → Nat} (hR : zRM L m G r h c sl T tn) (hS : SI b r) (y : Int32) : zMet l D B yX7_empty cX7_empty 4 (some .int) 2 44 0 0 [.ref m, .int y] L nx G (zI (opEmpty r y).1 L nx (fun G1 => zRM L m G1 (chg r h c (opEmpty r y)).1 (chg r h c (opEmpty r y)).2.1 (chg r h c (opEmpty r y)).2.2 sl T tn ∧ ∀ y, y ≠ m → G1 y = G y)) := by
  refine zMet_of (own := RX7) (mn := "empty") [some (.ref m), some (.int y), none, none] (by decide +kernel) rfl rfl rfl (Nat.le_of_ble_eq_true rfl) ?_
  show zV l (fun _ => True) D B RX7 "empty" cX7_empty 4 (some .int) (zrm 2 44 0 0) (zN (zI (opEmpty r y).1 L nx (fun G1 => zRM L m G1 (chg r h c (opEmpty r y)).1 (chg r h c (opEmpty r y)).2.1 (chg r h c (opEmpty r y)).2.2 sl T tn ∧ ∀ y, y ≠ m → G1 y = G y))) 0 0 L nx 0 [some (.ref m), some (.int y), none, none] [] (G)
  obtain ⟨w, ls, n, cn, i0, iw, i1, il, i2, i3, i4, i5, i6, i7, i8⟩ := id hS
  refine zv_aload_n dX7_empty_0 rfl ?_
  refine zv_iload_n dX7_empty_1 rfl ?_
  refine zv_callV (m_X7_isCup l D B hR.1 i4 i5 (hR.2.1 3 (by decide)) y) ml_X7_118 in_X7_isCup sel_X7_isCup hR.1 rfl rfl rfl rfl (Nat.le_of_ble_eq_true rfl) dX7_empty_2 ⟨Nat.le_of_ble_eq_true rfl, Nat.le_of_ble_eq_true rfl⟩ ⟨Nat.le_refl _, Nat.le_refl _⟩ (zk_i ?_)
  rcases hz : cpI r y with _ | i
  · have hop : opEmpty r y = (-1, r) := by unfold opEmpty; rw [hz]
    rw [hop, chg_neg (o := ((-1 : Int32), r)) (show (-1 : Int32) < 0 by decide)]
    refine zv_if_ne (tgt := 10) dX7_empty_5 (by decide) (fun h => absurd (rfl) h) (fun _ => ?_)
    refine zv_iconst (v := (-1)) dX7_empty_8 (by decide) ?_
    exact zv_iretI dX7_empty_9 rfl rfl rfl ⟨hR, fun y hy => rfl⟩
  · obtain ⟨hi, rfl⟩ := cpI_some i4 i5 hz
    have hi3 : i < 3 := by omega
    have hop : opEmpty r (nI i) = (nI (zcnt (zb (cupR r i 0)) 16), putC r i (fun _ => 0)) := by unfold opEmpty; rw [hz]
    have hcb := zcnt_le (zb (cupR r i 0)) 16
    have hn : ¬ nI (zcnt (zb (cupR r i 0)) 16) < 0 := nI_pos (by omega)
    rw [hop, chg_pos (o := (nI (zcnt (zb (cupR r i 0)) 16), putC r i (fun _ => 0))) hn]
    refine zv_if_ne (tgt := 10) dX7_empty_5 (by decide) (fun _ => ?_) (fun h => absurd h (show ¬ bI true = 0 from by decide))
    refine zv_aload_n dX7_empty_10 rfl ?_
    refine zv_callV (m_X7_remember l D B hR.1) ml_X7_60 in_X7_remember sel_X7_remember hR.1 rfl rfl rfl rfl (Nat.le_of_ble_eq_true rfl) dX7_empty_11 ⟨Nat.le_of_ble_eq_true rfl, Nat.le_of_ble_eq_true rfl⟩ ⟨Nat.le_refl _, Nat.le_refl _⟩ (zk_v ?_)
    rw [remM_T hR.2.1, mT_S (i := i)]
    refine zv_aload_n dX7_empty_14 rfl ?_
    refine zv_iload_n dX7_empty_15 rfl ?_
    refine zv_iconst (v := 0) dX7_empty_16 (by decide) ?_
    refine zv_callV (m_its l D B (k := 0) hR.1 hi3 (by omega)) ml_X7_48 in_X7_its sel_X7_its hR.1 rfl rfl rfl rfl (Nat.le_of_ble_eq_true rfl) dX7_empty_17 ⟨Nat.le_of_ble_eq_true rfl, Nat.le_of_ble_eq_true rfl⟩ ⟨Nat.le_refl _, Nat.le_refl _⟩ (zk_i ?_)
    refine zv_callS (m_X7_size l D B _) ml_X7_91 st_X7_size rfl rfl (Nat.le_of_ble_eq_true rfl) dX7_empty_20 ⟨Nat.le_of_ble_eq_true rfl, Nat.le_of_ble_eq_true rfl⟩ ⟨Nat.le_refl _, Nat.le_refl _⟩ (zk_i ?_)
    refine zv_istore_n dX7_empty_23 (by decide) rfl ?_
    refine zv_iconst (v := 0) dX7_empty_24 (by decide) ?_
    refine zv_istore_n dX7_empty_25 (by decide) rfl ?_
    refine zv_eqG ?_ (lp_X7_empty l D B hR hi3 hn 0 (by omega))
    rw [show (fun k => if k < 0 then (0 : Int32) else cupR r i k) = cupR r i from funext (fun k => if_neg (by omega))]
