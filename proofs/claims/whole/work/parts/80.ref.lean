set_option maxRecDepth 100000 in
set_option maxHeartbeats 4000000 in
theorem m_X7_drops (l : Launch) (D : zD) (B : Nat) {L : zL} {nx : Nat} {G : zG} {m i : Nat} {g r : Nat → Int32} (hm : (m, 8) ∈ L) (hi : i < 3) {n t w sd : Nat} {f : Nat → Int32} (hJ : zCJ n (chR r) f t) (i0 : r 0 = nI w) (iw : w ≤ 2) (i2 : r 2 = nI n) (hn0 : 0 < n) (i3 : n ≤ 16) (hsd : sd < 65536) : zMet l D B yX7_drops cX7_drops 4 (some .int) 4 96 0 0 [.ref m, .int (nI i), .int (nI sd)] L nx (mS G m g r i (f)) (zE (some (.int (recvR f (dPR r sd)))) L nx (mS G m (mkM g (dPR r sd)) (upd r 4 (r 4 + 1)) i (recvP f (dPR r sd)))) := by
  refine zMet_of (own := RX7) (mn := "drops") [some (.ref m), some (.int (nI i)), some (.int (nI sd)), none] (by decide +kernel) rfl rfl rfl (Nat.le_of_ble_eq_true rfl) ?_
  show zV l (fun _ => True) D B RX7 "drops" cX7_drops 4 (some .int) (zrm 4 96 0 0) (zN (zE (some (.int (recvR f (dPR r sd)))) L nx (mS G m (mkM g (dPR r sd)) (upd r 4 (r 4 + 1)) i (recvP f (dPR r sd))))) 0 0 L nx 0 [some (.ref m), some (.int (nI i)), some (.int (nI sd)), none] [] ((mS G m g r i (f)))
  have hD : zDO n (chR r) (dPR r sd) := by
    unfold dPR
    rw [i0, i2, nI_clamp (by omega), nI_clamp (by omega)]
    exact mkP_DO hn0 i3
  have hdd : (dPR r sd) = mkP (fun _ => 0) w (r 1) n (chR r) sd := by unfold dPR; rw [i0, i2, nI_clamp (by omega), nI_clamp (by omega)]
  refine zv_aload_n dX7_drops_0 rfl ?_
  refine zv_iload_n dX7_drops_1 rfl ?_
  refine zv_callV (m_X7_make l D B hm (w := w) (n := n) (ch := chR r) ((mS_hd (k := 2) (by decide)).trans i2) ((mS_hd (k := 0) (by decide)).trans i0) iw hn0 i3 (fun k hk => by rw [show 23 + k = 18 + (5 + k) by omega, mS_hd (by omega)]; unfold chR hdR; rw [if_pos (by omega)]) (by omega)) ml_X7_110 in_X7_make sel_X7_make hm rfl rfl rfl rfl (Nat.le_of_ble_eq_true rfl) dX7_drops_2 ⟨Nat.le_of_ble_eq_true rfl, Nat.le_of_ble_eq_true rfl⟩ ⟨Nat.le_refl _, Nat.le_refl _⟩ (zk_v ?_)
  rw [show mS G m g r i f m 19 = r 1 from mS_hd (k := 1) (by decide), ← hdd, mS_mk]
  refine zv_aload_n dX7_drops_5 rfl ?_
  refine zv_getS (r := 1) hm rfl fl_X7_7 rfl dX7_drops_6 ?_
  refine zv_iconst (v := 4) dX7_drops_9 (by decide) ?_
  refine zv_dup2 dX7_drops_10 rfl rfl ?_
  refine zv_iald (i := 1) hm rfl (zix_nI (i := 4) (by omega) (by decide)) dX7_drops_11 ?_
  rw [show mS G m (mkM g (dPR r sd)) r i f m (18 + 4) = r 4 from mS_hd (by decide)]
  refine zv_iconst (v := 1) dX7_drops_12 (by decide) ?_
  refine zv_iadd dX7_drops_13 ?_
  refine zv_iast (i := 1) hm rfl (zix_nI (i := 4) (by omega) (by decide)) dX7_drops_14 ?_
  rw [mS_r (by decide)]
  refine zv_aload_n dX7_drops_15 rfl ?_
  refine zv_iload_n dX7_drops_16 rfl ?_
  refine zv_iconst (v := 2) dX7_drops_17 (by decide) ?_
  refine zv_aload_n dX7_drops_18 rfl ?_
  refine zv_iload_n dX7_drops_19 rfl ?_
  refine zv_iconst (v := 2) dX7_drops_20 (by decide) ?_
  refine zv_callV (m_its l D B (k := 2) hm hi (by omega)) ml_X7_48 in_X7_its sel_X7_its hm rfl rfl rfl rfl (Nat.le_of_ble_eq_true rfl) dX7_drops_21 ⟨Nat.le_of_ble_eq_true rfl, Nat.le_of_ble_eq_true rfl⟩ ⟨Nat.le_refl _, Nat.le_refl _⟩ (zk_i ?_)
  refine zv_iconst (v := 1) dX7_drops_24 (by decide) ?_
  refine zv_iadd dX7_drops_25 ?_
  refine zv_callV (m_lay l D B (k := 2) hm hi (by omega)) ml_X7_87 in_X7_lay sel_X7_lay hm rfl rfl rfl rfl (Nat.le_of_ble_eq_true rfl) dX7_drops_26 ⟨Nat.le_of_ble_eq_true rfl, Nat.le_of_ble_eq_true rfl⟩ ⟨Nat.le_refl _, Nat.le_refl _⟩ (zk_v ?_)
  rw [show upd f 2 (f 2 + 1) = hadP f from rfl]
  refine zv_aload_n dX7_drops_29 rfl ?_
  refine zv_getI hm rfl fl_X7_71 rfl dX7_drops_30 ?_
  rw [mS_o (by omega), mkM_14.1]
  refine zv_if_eq (tgt := 52) dX7_drops_33 (by decide) (fun c33 => ?_) (fun c33 => ?_)
  · obtain ⟨pP, pR⟩ := drop_pure hJ hD c33
    refine zv_aload_n dX7_drops_52 rfl ?_
    refine zv_iload_n dX7_drops_53 rfl ?_
    refine zv_callV (m_X7_comes l D B hm hi (hadP_J hJ) hD mkM_14.2.1 mkM_14.2.2) ml_X7_114 in_X7_comes sel_X7_comes hm rfl rfl rfl rfl (Nat.le_of_ble_eq_true rfl) dX7_drops_54 ⟨Nat.le_of_ble_eq_true rfl, Nat.le_of_ble_eq_true rfl⟩ ⟨Nat.le_refl _, Nat.le_refl _⟩ (zk_i ?_)
    refine zv_istore_n dX7_drops_57 (by decide) rfl ?_
    refine zv_aload_n dX7_drops_58 rfl ?_
    refine zv_iload_n dX7_drops_59 rfl ?_
    refine zv_iconst (v := 4) dX7_drops_60 (by decide) ?_
    refine zv_aload_n dX7_drops_61 rfl ?_
    refine zv_iload_n dX7_drops_62 rfl ?_
    refine zv_iconst (v := 4) dX7_drops_63 (by decide) ?_
    refine zv_callV (m_its l D B (k := 4) hm hi (by omega)) ml_X7_48 in_X7_its sel_X7_its hm rfl rfl rfl rfl (Nat.le_of_ble_eq_true rfl) dX7_drops_64 ⟨Nat.le_of_ble_eq_true rfl, Nat.le_of_ble_eq_true rfl⟩ ⟨Nat.le_refl _, Nat.le_refl _⟩ (zk_i ?_)
    refine zv_iload_n dX7_drops_67 rfl ?_
    refine zv_if_ne (tgt := 75) dX7_drops_68 (by decide) (fun c68 => ?_) (fun c68 => ?_)
    · rw [if_neg c68] at pP
      refine zv_iconst (v := 0) dX7_drops_75 (by decide) ?_
      refine zv_iadd dX7_drops_76 ?_
      refine zv_callV (m_lay l D B (k := 4) hm hi (by omega)) ml_X7_87 in_X7_lay sel_X7_lay hm rfl rfl rfl rfl (Nat.le_of_ble_eq_true rfl) dX7_drops_77 ⟨Nat.le_of_ble_eq_true rfl, Nat.le_of_ble_eq_true rfl⟩ ⟨Nat.le_refl _, Nat.le_refl _⟩ (zk_v ?_)
      refine zv_iload_n dX7_drops_80 rfl ?_
      refine zv_iconst (v := 2) dX7_drops_81 (by decide) ?_
      refine zv_icmp_ge (tgt := 89) dX7_drops_82 (by decide) (fun c82 => ?_) (fun c82 => ?_)
      · rw [if_pos c82] at pR
        refine zv_iload_n dX7_drops_89 rfl ?_
        refine zv_iconst (v := 1) dX7_drops_90 (by decide) ?_
        refine zv_isub dX7_drops_91 ?_
        refine zv_iretE dX7_drops_92 rfl (rfl) ?_ ?_
        · exact pR.symm
        · rw [pP]
      · rw [if_neg c82] at pR
        refine zv_iconst (v := 0) dX7_drops_85 (by decide) ?_
        refine zv_goto (tgt := 92) dX7_drops_86 (by decide) ?_
        refine zv_iretE dX7_drops_92 rfl (rfl) ?_ ?_
        · exact pR.symm
        · rw [pP]
    · rw [if_pos c68] at pP
      refine zv_iconst (v := 1) dX7_drops_71 (by decide) ?_
      refine zv_goto (tgt := 76) dX7_drops_72 (by decide) ?_
      refine zv_iadd dX7_drops_76 ?_
      refine zv_callV (m_lay l D B (k := 4) hm hi (by omega)) ml_X7_87 in_X7_lay sel_X7_lay hm rfl rfl rfl rfl (Nat.le_of_ble_eq_true rfl) dX7_drops_77 ⟨Nat.le_of_ble_eq_true rfl, Nat.le_of_ble_eq_true rfl⟩ ⟨Nat.le_refl _, Nat.le_refl _⟩ (zk_v ?_)
      refine zv_iload_n dX7_drops_80 rfl ?_
      refine zv_iconst (v := 2) dX7_drops_81 (by decide) ?_
      refine zv_icmp_ge (tgt := 89) dX7_drops_82 (by decide) (fun c82 => ?_) (fun c82 => ?_)
      · rw [if_pos c82] at pR
        refine zv_iload_n dX7_drops_89 rfl ?_
        refine zv_iconst (v := 1) dX7_drops_90 (by decide) ?_
        refine zv_isub dX7_drops_91 ?_
        refine zv_iretE dX7_drops_92 rfl (rfl) ?_ ?_
        · exact pR.symm
        · rw [pP]
      · rw [if_neg c82] at pR
        refine zv_iconst (v := 0) dX7_drops_85 (by decide) ?_
        refine zv_goto (tgt := 92) dX7_drops_86 (by decide) ?_
        refine zv_iretE dX7_drops_92 rfl (rfl) ?_ ?_
        · exact pR.symm
        · rw [pP]
  · obtain ⟨pP, pR⟩ := recvP_lost (f := f) c33
    refine zv_aload_n dX7_drops_36 rfl ?_
    refine zv_iload_n dX7_drops_37 rfl ?_
    refine zv_iconst (v := 3) dX7_drops_38 (by decide) ?_
    refine zv_aload_n dX7_drops_39 rfl ?_
    refine zv_iload_n dX7_drops_40 rfl ?_
    refine zv_iconst (v := 3) dX7_drops_41 (by decide) ?_
    refine zv_callV (m_its l D B (k := 3) hm hi (by omega)) ml_X7_48 in_X7_its sel_X7_its hm rfl rfl rfl rfl (Nat.le_of_ble_eq_true rfl) dX7_drops_42 ⟨Nat.le_of_ble_eq_true rfl, Nat.le_of_ble_eq_true rfl⟩ ⟨Nat.le_refl _, Nat.le_refl _⟩ (zk_i ?_)
    refine zv_iconst (v := 1) dX7_drops_45 (by decide) ?_
    refine zv_iadd dX7_drops_46 ?_
    refine zv_callV (m_lay l D B (k := 3) hm hi (by omega)) ml_X7_87 in_X7_lay sel_X7_lay hm rfl rfl rfl rfl (Nat.le_of_ble_eq_true rfl) dX7_drops_47 ⟨Nat.le_of_ble_eq_true rfl, Nat.le_of_ble_eq_true rfl⟩ ⟨Nat.le_refl _, Nat.le_refl _⟩ (zk_v ?_)
    refine zv_iconst (v := 0) dX7_drops_50 (by decide) ?_
    refine zv_iretE dX7_drops_51 rfl (rfl) ?_ ?_
    · exact pR.symm
    · rw [pP]
