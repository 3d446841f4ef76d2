set_option maxRecDepth 100000 in
set_option maxHeartbeats 4000000 in
theorem m_X7_would (l : Launch) (D : zD) (B : Nat) {L : zL} {nx : Nat} {G : zG} {m b c tn : Nat} {r : Nat → Int32} {h : Nat → (Nat → Int32)} {sl : Nat → Option (Nat → Int32)} {T : Nat → Nat} (hR : zRM L m G r h c sl T tn) (hS : SI b r) (hb : b < 2 ^ 31 - 1) (y sd : Int32) : zMet l D B yX7_would cX7_would 5 (some .int) 4 96 0 0 [.ref m, .int y, .int sd] L nx G (zI (qWould r y sd) L nx (fun G1 => zRM L m G1 r h c sl T tn ∧ ∀ y, y ≠ m → G1 y = G y)) := by
  refine zMet_of (own := RX7) (mn := "would") [some (.ref m), some (.int y), some (.int sd), none, none] (by decide +kernel) rfl rfl rfl (Nat.le_of_ble_eq_true rfl) ?_
  show zV l (fun _ => True) D B RX7 "would" cX7_would 5 (some .int) (zrm 4 96 0 0) (zN (zI (qWould r y sd) L nx (fun G1 => zRM L m G1 r h c sl T tn ∧ ∀ y, y ≠ m → G1 y = G y))) 0 0 L nx 0 [some (.ref m), some (.int y), some (.int sd), none, none] [] (G)
  obtain ⟨w, ls, n, cn, i0, iw, i1, il, i2, i3, i4, i5, i6, i7, i8⟩ := id hS
  have hm := hR.1
  have hr := hR.2.1
  refine zv_aload_n dX7_would_0 rfl ?_
  refine zv_iload_n dX7_would_1 rfl ?_
  refine zv_iload_n dX7_would_2 rfl ?_
  refine zv_callV (m_X7_refusal l D B hR hS y sd) ml_X7_151 in_X7_refusal sel_X7_refusal hR.1 rfl rfl rfl rfl (Nat.le_of_ble_eq_true rfl) dX7_would_3 ⟨Nat.le_of_ble_eq_true rfl, Nat.le_of_ble_eq_true rfl⟩ ⟨Nat.le_refl _, Nat.le_refl _⟩ (zk_i ?_)
  refine zv_istore_n dX7_would_6 (by decide) rfl ?_
  refine zv_iload_n dX7_would_7 rfl ?_
  refine zv_if_ge (tgt := 13) dX7_would_8 (by decide) (fun c8 => ?_) (fun c8 => ?_)
  · obtain ⟨i, hz⟩ : ∃ i, cpI r y = some i := by
      cases hz : cpI r y with
      | none => rw [hz] at c8; exact absurd c8 (show ¬ (0 : Int32) ≤ -1 by decide)
      | some i => exact ⟨i, rfl⟩
    obtain ⟨hi, rfl⟩ := cpI_some i4 i5 hz
    have hi3 : i < 3 := by omega
    rw [hz] at c8
    dsimp only at c8
    have he := i32_nlt.mpr c8
    obtain ⟨s0, b0, hs0, -, -, rfl, -, hn0⟩ := errD_ok i2 i3 he
    have hq : qWould r (nI i) (nI s0) = (if ¬ dPR r s0 0 = 0 then 0 else if 0 < recvR (cupR r i) (dPR r s0) then 2 + recvR (cupR r i) (dPR r s0) else if cupR r i 4 < recvP (cupR r i) (dPR r s0) 4 then 1 else 2) := by unfold qWould; rw [hz]; dsimp only; rw [if_neg he, nI_clamp (by omega)]
    rw [hq]
    refine zv_aload_n dX7_would_13 rfl ?_
    refine zv_iload_n dX7_would_14 rfl ?_
    refine zv_callV (m_X7_make l D B hm (w := w) (n := n) (ch := chR r) ((hr 2 (by decide)).trans i2) ((hr 0 (by decide)).trans i0) iw hn0 i3 (fun k hk => by rw [show 23 + k = 18 + (5 + k) by omega, hr _ (by omega)]; unfold chR hdR; rw [if_pos (by omega)]) (by omega)) ml_X7_110 in_X7_make sel_X7_make hR.1 rfl rfl rfl rfl (Nat.le_of_ble_eq_true rfl) dX7_would_15 ⟨Nat.le_of_ble_eq_true rfl, Nat.le_of_ble_eq_true rfl⟩ ⟨Nat.le_refl _, Nat.le_refl _⟩ (zk_v ?_)
    have hdd : dPR r s0 = mkP (fun _ => 0) w (r 1) n (chR r) s0 := by unfold dPR; rw [i0, i2, nI_clamp (by omega), nI_clamp (by omega)]
    rw [show G m 19 = r 1 from hr 1 (by decide), ← hdd]
    have hR1 : zRM L m (zst G m (mkM (G m) (dPR r s0))) r h c sl T tn := zRM_fr hR (fun k hk => by rw [zst_same, mkM_o (by omega)]; exact hr k hk) (fun j hj => by rw [zst_same, mkM_o (by omega)])
    refine zv_aload_n dX7_would_18 rfl ?_
    refine zv_getI hR.1 rfl fl_X7_71 rfl dX7_would_19 ?_
    rw [zst_same, show mkM (G m) (dPR r s0) 12 = dPR r s0 0 from rfl]
    refine zv_if_eq (tgt := 27) dX7_would_22 (by decide) (fun c22 => ?_) (fun c22 => ?_)
    · rw [if_neg (by simpa using c22)]
      refine zv_aload_n dX7_would_27 rfl ?_
      refine zv_callV (m_X7_layAside l D B hm) ml_X7_154 in_X7_layAside sel_X7_layAside hR.1 rfl rfl rfl rfl (Nat.le_of_ble_eq_true rfl) dX7_would_28 ⟨Nat.le_of_ble_eq_true rfl, Nat.le_of_ble_eq_true rfl⟩ ⟨Nat.le_refl _, Nat.le_refl _⟩ (zk_v ?_)
      rw [asM_T hR1.2.1, mT_S (i := i)]
      obtain ⟨t, hJ, hsz⟩ := i6 i hi3
      obtain ⟨u, hu4, hub⟩ := i8 i hi3
      have hD := dPR_DO (sd := s0) i2 hn0 i3
      refine zv_aload_n dX7_would_31 rfl ?_
      refine zv_iload_n dX7_would_32 rfl ?_
      refine zv_callV (m_X7_comes l D B hm hi3 hJ hD (by rw [zst_same]; exact cpyM_r (by omega)) (by rw [zst_same]; exact cpyM_r (by omega))) ml_X7_114 in_X7_comes sel_X7_comes hR.1 rfl rfl rfl rfl (Nat.le_of_ble_eq_true rfl) dX7_would_33 ⟨Nat.le_of_ble_eq_true rfl, Nat.le_of_ble_eq_true rfl⟩ ⟨Nat.le_refl _, Nat.le_refl _⟩ (zk_i ?_)
      refine zv_istore dX7_would_36 (by decide) rfl ?_
      refine zv_aload_n dX7_would_38 rfl ?_
      refine zv_callV (m_X7_putBack l D B hm) ml_X7_157 in_X7_putBack sel_X7_putBack hR.1 rfl rfl rfl rfl (Nat.le_of_ble_eq_true rfl) dX7_would_39 ⟨Nat.le_of_ble_eq_true rfl, Nat.le_of_ble_eq_true rfl⟩ ⟨Nat.le_refl _, Nat.le_refl _⟩ (zk_v ?_)
      rw [show zst (mS (zst G m (mkM (G m) (dPR r s0))) m (asM ((zst G m (mkM (G m) (dPR r s0))) m)) r i (comP (cupR r i) (dPR r s0))) m (cpyM (mS (zst G m (mkM (G m) (dPR r s0))) m (asM ((zst G m (mkM (G m) (dPR r s0))) m)) r i (comP (cupR r i) (dPR r s0)) m) 18 1842 228) = mT (zst G m (mkM (G m) (dPR r s0))) m (asM ((zst G m (mkM (G m) (dPR r s0))) m)) r from as_back hR1 gF_rf]
      refine zv_iconst (v := 1) dX7_would_42 (by decide) ?_
      refine zv_iload dX7_would_43 rfl ?_
      refine zv_iadd dX7_would_45 ?_
      exact zv_iretI dX7_would_46 rfl rfl (would_pure hJ hD (by simpa using c22) hu4 hub hb) ⟨as_fr hR1 gF_rf, fun y hy => (mT_ne hy).trans (zst_ne _ _ hy)⟩
    · rw [if_pos (by simpa using c22)]
      refine zv_iconst (v := 0) dX7_would_25 (by decide) ?_
      exact zv_iretI dX7_would_26 rfl rfl rfl ⟨zRM_fr hR (fun k hk => by rw [zst_same, mkM_o (by omega)]; exact hr k hk) (fun j hj => by rw [zst_same, mkM_o (by omega)]), fun y hy => zst_ne _ _ hy⟩
  · have c8' := i32_nle.mp c8
    have hq : qWould r y sd = (match cpI r y with | none => -1 | some _ => errD r sd 1) := by
      unfold qWould
      cases hz : cpI r y with
      | none => rfl
      | some i =>
        rw [hz] at c8
        dsimp only at c8 ⊢
        rw [if_pos (i32_nle.mp c8)]
    refine zv_iload_n dX7_would_11 rfl ?_
    exact zv_iretI dX7_would_12 rfl rfl hq.symm ⟨hR, fun y hy => rfl⟩

set_option maxRecDepth 100000 in
set_option maxHeartbeats 4000000 in
theorem lp_X7_needs (l : Launch) (D : zD) (B : Nat) {L : zL} {nx : Nat} {G : zG} {m b c tn : Nat} {r : Nat → Int32} {h : Nat → (Nat → Int32)} {sl : Nat → Option (Nat → Int32)} {T : Nat → Nat} (hR : zRM L m G r h c sl T tn) {n w s0 i : Nat} (hi : i < 3) (hCI : zCI n (chR r) (cupR r i)) (i0 : r 0 = nI w) (iw : w ≤ 2) (i2 : r 2 = nI n) (hn0 : 0 < n) (i3 : n ≤ 16) (hsd : s0 < 65536) : ∀ k : Nat, k ≤ 500 → ∀ (g1 : Nat → Int32) (e3 : Int32) (a5 : Option Value), gF (asM (G m)) g1 → (∀ j, j < k → (fun k => fullB r (prF r (cupR r i) s0 k)) j = false) → zV l (fun _ => True) D B RX7 "needs" cX7_needs 6 (some .int) (zrm 5 119 0 0) (zN (zI (ndV (fun k => fullB r (prF r (cupR r i) s0 k)) 501) L nx (fun G1 => zRM L m G1 r h c sl T tn ∧ ∀ y, y ≠ m → G1 y = G y))) 0 0 L nx 20 [some (.ref m), some (.int (nI i)), some (.int (nI s0)), some (.int e3), some (.int (nI k)), a5] [] ((mS G m g1 (upd r 4 (r 4 + nI k)) i (prF r (cupR r i) s0 k))) := by
  refine zloop 500 (fun k hk ih g1 e3 a5 hg1 hno => ?_)
  have hm := hR.1
  obtain ⟨t, hJ, -⟩ := prF_CI (sd := s0) i2 hn0 i3 hCI k
  refine zv_iload dX7_needs_20 rfl ?_
  refine zv_sipush (v := 500) dX7_needs_22 (by decide) ?_
  refine zv_icmp_ge (tgt := 56) dX7_needs_25 (by decide) (fun c25 => ?_) (fun c25 => ?_)
  · have e : k = 500 := by have := zge_of (N := 500) (by decide) (by omega) rfl c25; omega
    refine zv_aload_n dX7_needs_56 rfl ?_
    refine zv_iload_n dX7_needs_57 rfl ?_
    refine zv_callV (m_X7_isFull l D B (G := (mS G m g1 (upd r 4 (r 4 + nI k)) i (prF r (cupR r i) s0 k))) (r := r) (f := prF r (cupR r i) s0 k) hm hi (mS_at hi (by decide)) ((mS_hd (k := 2) (by decide)).trans rfl)) ml_X7_142 in_X7_isFull sel_X7_isFull hm rfl rfl rfl rfl (Nat.le_of_ble_eq_true rfl) dX7_needs_58 ⟨Nat.le_of_ble_eq_true rfl, Nat.le_of_ble_eq_true rfl⟩ ⟨Nat.le_refl _, Nat.le_refl _⟩ (zk_i ?_)
    refine zv_istore dX7_needs_61 (by decide) rfl ?_
    refine zv_aload_n dX7_needs_63 rfl ?_
    refine zv_callV (m_X7_putBack l D B hm) ml_X7_157 in_X7_putBack sel_X7_putBack hm rfl rfl rfl rfl (Nat.le_of_ble_eq_true rfl) dX7_needs_64 ⟨Nat.le_of_ble_eq_true rfl, Nat.le_of_ble_eq_true rfl⟩ ⟨Nat.le_refl _, Nat.le_refl _⟩ (zk_v ?_)
    rw [show zst (mS G m g1 (upd r 4 (r 4 + nI k)) i (prF r (cupR r i) s0 k)) m (cpyM ((mS G m g1 (upd r 4 (r 4 + nI k)) i (prF r (cupR r i) s0 k)) m) 18 1842 228) = mT G m g1 r from as_back hR hg1]
    refine zv_iload dX7_needs_67 rfl ?_
    refine zv_if_eq (tgt := 77) dX7_needs_69 (by decide) (fun c69 => ?_) (fun c69 => ?_)
    · have hf2 := bI_eq0.mp c69
      refine zv_bipush (v := (-6)) dX7_needs_77 (by decide) ?_
      have hfin : zRM L m (mT G m g1 r) r h c sl T tn ∧ ∀ y, y ≠ m → mT G m g1 r y = G y := ⟨as_fr hR hg1, fun y hy => mT_ne hy⟩
      first
        | exact zv_iretI dX7_needs_79 rfl rfl (ndV_some (by omega) hf2 hno).symm hfin
        | exact absurd hf2 (by rw [hf]; decide)
        | exact zv_iretI dX7_needs_79 rfl rfl (ndV_none (fun j hj => by
            rcases Nat.lt_or_ge j k with hj2 | hj2
            · exact hno j hj2
            · rw [show j = k by omega]; exact hf2)).symm hfin
    · have hf2 := bI_ne0.mp c69
      refine zv_iload dX7_needs_72 rfl ?_
      refine zv_goto (tgt := 79) dX7_needs_74 (by decide) ?_
      have hfin : zRM L m (mT G m g1 r) r h c sl T tn ∧ ∀ y, y ≠ m → mT G m g1 r y = G y := ⟨as_fr hR hg1, fun y hy => mT_ne hy⟩
      first
        | exact zv_iretI dX7_needs_79 rfl rfl (ndV_some (by omega) hf2 hno).symm hfin
        | exact absurd hf2 (by rw [hf]; decide)
        | exact zv_iretI dX7_needs_79 rfl rfl (ndV_none (fun j hj => by
            rcases Nat.lt_or_ge j k with hj2 | hj2
            · exact hno j hj2
            · rw [show j = k by omega]; exact hf2)).symm hfin
  · have hlt : k < 500 := zlt_of (N := 500) (by decide) (by omega) rfl c25
    refine zv_aload_n dX7_needs_28 rfl ?_
    refine zv_iload_n dX7_needs_29 rfl ?_
    refine zv_callV (m_X7_isFull l D B (G := (mS G m g1 (upd r 4 (r 4 + nI k)) i (prF r (cupR r i) s0 k))) (r := r) (f := prF r (cupR r i) s0 k) hm hi (mS_at hi (by decide)) ((mS_hd (k := 2) (by decide)).trans rfl)) ml_X7_142 in_X7_isFull sel_X7_isFull hm rfl rfl rfl rfl (Nat.le_of_ble_eq_true rfl) dX7_needs_30 ⟨Nat.le_of_ble_eq_true rfl, Nat.le_of_ble_eq_true rfl⟩ ⟨Nat.le_refl _, Nat.le_refl _⟩ (zk_i ?_)
    refine zv_if_ne (tgt := 56) dX7_needs_33 (by decide) (fun c33 => ?_) (fun c33 => ?_)
    · have hf := bI_ne0.mp c33
      refine zv_aload_n dX7_needs_56 rfl ?_
      refine zv_iload_n dX7_needs_57 rfl ?_
      refine zv_callV (m_X7_isFull l D B (G := (mS G m g1 (upd r 4 (r 4 + nI k)) i (prF r (cupR r i) s0 k))) (r := r) (f := prF r (cupR r i) s0 k) hm hi (mS_at hi (by decide)) ((mS_hd (k := 2) (by decide)).trans rfl)) ml_X7_142 in_X7_isFull sel_X7_isFull hm rfl rfl rfl rfl (Nat.le_of_ble_eq_true rfl) dX7_needs_58 ⟨Nat.le_of_ble_eq_true rfl, Nat.le_of_ble_eq_true rfl⟩ ⟨Nat.le_refl _, Nat.le_refl _⟩ (zk_i ?_)
      refine zv_istore dX7_needs_61 (by decide) rfl ?_
      refine zv_aload_n dX7_needs_63 rfl ?_
      refine zv_callV (m_X7_putBack l D B hm) ml_X7_157 in_X7_putBack sel_X7_putBack hm rfl rfl rfl rfl (Nat.le_of_ble_eq_true rfl) dX7_needs_64 ⟨Nat.le_of_ble_eq_true rfl, Nat.le_of_ble_eq_true rfl⟩ ⟨Nat.le_refl _, Nat.le_refl _⟩ (zk_v ?_)
      rw [show zst (mS G m g1 (upd r 4 (r 4 + nI k)) i (prF r (cupR r i) s0 k)) m (cpyM ((mS G m g1 (upd r 4 (r 4 + nI k)) i (prF r (cupR r i) s0 k)) m) 18 1842 228) = mT G m g1 r from as_back hR hg1]
      refine zv_iload dX7_needs_67 rfl ?_
      refine zv_if_eq (tgt := 77) dX7_needs_69 (by decide) (fun c69 => ?_) (fun c69 => ?_)
      · have hf2 := bI_eq0.mp c69
        refine zv_bipush (v := (-6)) dX7_needs_77 (by decide) ?_
        have hfin : zRM L m (mT G m g1 r) r h c sl T tn ∧ ∀ y, y ≠ m → mT G m g1 r y = G y := ⟨as_fr hR hg1, fun y hy => mT_ne hy⟩
        first
          | exact zv_iretI dX7_needs_79 rfl rfl (ndV_some (by omega) hf2 hno).symm hfin
          | exact absurd hf2 (by rw [hf]; decide)
          | exact zv_iretI dX7_needs_79 rfl rfl (ndV_none (fun j hj => by
              rcases Nat.lt_or_ge j k with hj2 | hj2
              · exact hno j hj2
              · rw [show j = k by omega]; exact hf2)).symm hfin
      · have hf2 := bI_ne0.mp c69
        refine zv_iload dX7_needs_72 rfl ?_
        refine zv_goto (tgt := 79) dX7_needs_74 (by decide) ?_
        have hfin : zRM L m (mT G m g1 r) r h c sl T tn ∧ ∀ y, y ≠ m → mT G m g1 r y = G y := ⟨as_fr hR hg1, fun y hy => mT_ne hy⟩
        first
          | exact zv_iretI dX7_needs_79 rfl rfl (ndV_some (by omega) hf2 hno).symm hfin
          | exact absurd hf2 (by rw [hf]; decide)
          | exact zv_iretI dX7_needs_79 rfl rfl (ndV_none (fun j hj => by
              rcases Nat.lt_or_ge j k with hj2 | hj2
              · exact hno j hj2
              · rw [show j = k by omega]; exact hf2)).symm hfin
    · have hf := bI_eq0.mp c33
      refine zv_aload_n dX7_needs_36 rfl ?_
      refine zv_iload_n dX7_needs_37 rfl ?_
      refine zv_iload_n dX7_needs_38 rfl ?_
      refine zv_iload dX7_needs_39 rfl ?_
      refine zv_iadd dX7_needs_41 ?_
      rw [nI_add]
      refine zv_ldc dX7_needs_42 kc_X7_122 ?_
      refine zv_irem dX7_needs_44 (by decide) ?_
      rw [show nI (s0 + k) - nI (s0 + k) / 65536 * 65536 = nI ((s0 + k) % 65536) from pk_rem (d := 65536) (by omega) (by omega) (by omega)]
      refine zv_callV (m_X7_drops l D B hm hi (n := n) (t := t) (w := w) (sd := (s0 + k) % 65536) (by rw [chR_4]; exact hJ) ((show upd r 4 (r 4 + nI k) 0 = r 0 from rfl).trans i0) iw ((show upd r 4 (r 4 + nI k) 2 = r 2 from rfl).trans i2) hn0 i3 (by omega)) ml_X7_123 in_X7_drops sel_X7_drops hm rfl rfl rfl rfl (Nat.le_of_ble_eq_true rfl) dX7_needs_45 ⟨Nat.le_of_ble_eq_true rfl, Nat.le_of_ble_eq_true rfl⟩ ⟨Nat.le_refl _, Nat.le_refl _⟩ (zk_i ?_)
      rw [dPR_4, upd_upd, show upd r 4 (r 4 + nI k) 4 = r 4 + nI k from rfl, Int32.add_assoc, nI_1]
      refine zv_istore dX7_needs_48 (by decide) rfl ?_
      refine zv_iinc1 dX7_needs_50 rfl (by decide) rfl ?_
      refine zv_goto (tgt := 20) dX7_needs_53 (by decide) ?_
      rw [nI_1]
      refine ih hlt _ _ _ (gF_tr hg1 gF_mk) (fun j hj => ?_)
      rcases Nat.lt_or_ge j k with hj2 | hj2
      · exact hno j hj2
      · rw [show j = k by omega]; exact hf

set_option maxRecDepth 100000 in
set_option maxHeartbeats 4000000 in
theorem m_X7_needs (l : Launch) (D : zD) (B : Nat) {L : zL} {nx : Nat} {G : zG} {m b c tn : Nat} {r : Nat → Int32} {h : Nat → (Nat → Int32)} {sl : Nat → Option (Nat → Int32)} {T : Nat → Nat} (hR : zRM L m G r h c sl T tn) (hS : SI b r) (y sd : Int32) : zMet l D B yX7_needs cX7_needs 6 (some .int) 5 119 0 0 [.ref m, .int y, .int sd] L nx G (zI (qNeeds r y sd) L nx (fun G1 => zRM L m G1 r h c sl T tn ∧ ∀ y, y ≠ m → G1 y = G y)) := by
  refine zMet_of (own := RX7) (mn := "needs") [some (.ref m), some (.int y), some (.int sd), none, none, none] (by decide +kernel) rfl rfl rfl (Nat.le_of_ble_eq_true rfl) ?_
  show zV l (fun _ => True) D B RX7 "needs" cX7_needs 6 (some .int) (zrm 5 119 0 0) (zN (zI (qNeeds r y sd) L nx (fun G1 => zRM L m G1 r h c sl T tn ∧ ∀ y, y ≠ m → G1 y = G y))) 0 0 L nx 0 [some (.ref m), some (.int y), some (.int sd), none, none, none] [] (G)
  obtain ⟨w, ls, n, cn, i0, iw, i1, il, i2, i3, i4, i5, i6, i7, i8⟩ := id hS
  have hm := hR.1
  have hr := hR.2.1
  refine zv_aload_n dX7_needs_0 rfl ?_
  refine zv_iload_n dX7_needs_1 rfl ?_
  refine zv_iload_n dX7_needs_2 rfl ?_
  refine zv_callV (m_X7_refusal l D B hR hS y sd) ml_X7_151 in_X7_refusal sel_X7_refusal hR.1 rfl rfl rfl rfl (Nat.le_of_ble_eq_true rfl) dX7_needs_3 ⟨Nat.le_of_ble_eq_true rfl, Nat.le_of_ble_eq_true rfl⟩ ⟨Nat.le_refl _, Nat.le_refl _⟩ (zk_i ?_)
  refine zv_istore_n dX7_needs_6 (by decide) rfl ?_
  refine zv_iload_n dX7_needs_7 rfl ?_
  refine zv_if_ge (tgt := 13) dX7_needs_8 (by decide) (fun c8 => ?_) (fun c8 => ?_)
  · obtain ⟨i, hz⟩ : ∃ i, cpI r y = some i := by
      cases hz : cpI r y with
      | none => rw [hz] at c8; exact absurd c8 (show ¬ (0 : Int32) ≤ -1 by decide)
      | some i => exact ⟨i, rfl⟩
    obtain ⟨hi, rfl⟩ := cpI_some i4 i5 hz
    have hi3 : i < 3 := by omega
    rw [hz] at c8
    dsimp only at c8
    have he := i32_nlt.mpr c8
    obtain ⟨s0, b0, hs0, -, -, rfl, -, hn0⟩ := errD_ok i2 i3 he
    have hq : qNeeds r (nI i) (nI s0) = (ndV (fun k => fullB r (prF r (cupR r i) s0 k)) 501) := by unfold qNeeds; rw [hz]; dsimp only; rw [if_neg he, nI_clamp (by omega)]
    rw [hq]
    refine zv_aload_n dX7_needs_13 rfl ?_
    refine zv_callV (m_X7_layAside l D B hm) ml_X7_154 in_X7_layAside sel_X7_layAside hR.1 rfl rfl rfl rfl (Nat.le_of_ble_eq_true rfl) dX7_needs_14 ⟨Nat.le_of_ble_eq_true rfl, Nat.le_of_ble_eq_true rfl⟩ ⟨Nat.le_refl _, Nat.le_refl _⟩ (zk_v ?_)
    rw [asM_T hR.2.1, mT_S (i := i)]
    refine zv_iconst (v := 0) dX7_needs_17 (by decide) ?_
    refine zv_istore dX7_needs_18 (by decide) rfl ?_
    have := lp_X7_needs l D B (G := G) (nx := nx) (r := r) (b := 0) hR (i := i) (s0 := s0) hi3 (i6 i hi3) i0 iw i2 hn0 i3 (by omega) 0 (by omega) (asM (G m)) (errD r (nI s0) 1) none gF_rf (fun j hj => by omega)
    rw [show nI 0 = 0 from rfl, i32_add0, upd_same] at this
    rw [hz]
    exact this
  · have c8' := i32_nle.mp c8
    have hq : qNeeds r y sd = (match cpI r y with | none => -1 | some _ => errD r sd 1) := by
      unfold qNeeds
      cases hz : cpI r y with
      | none => rfl
      | some i =>
        rw [hz] at c8
        dsimp only at c8 ⊢
        rw [if_pos (i32_nle.mp c8)]
    refine zv_iload_n dX7_needs_11 rfl ?_
    exact zv_iretI dX7_needs_12 rfl rfl hq.symm ⟨hR, fun y hy => rfl⟩
