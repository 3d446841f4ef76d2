set_option maxRecDepth 100000 in
set_option maxHeartbeats 4000000 in
theorem m_X7_droplet (l : Launch) (D : zD) (B : Nat) {L : zL} {nx : Nat} {G : zG} {m b c tn : Nat} {r : Nat → Int32} {h : Nat → (Nat → Int32)} {sl : Nat → Option (Nat → Int32)} {T : Nat → Nat} (hR : zRM L m G r h c sl T tn) (hS : SI b r) (sd vv : Int32) : zMet l D B yX7_droplet cX7_droplet 3 (some .int) 2 49 0 0 [.ref m, .int sd, .int vv] L nx G (zI (qDrop r sd vv) L nx (fun G1 => zRM L m G1 r h c sl T tn ∧ ∀ y, y ≠ m → G1 y = G y)) := by
  refine zMet_of (own := RX7) (mn := "droplet") [some (.ref m), some (.int sd), some (.int vv)] (by decide +kernel) rfl rfl rfl (Nat.le_of_ble_eq_true rfl) ?_
  show zV l (fun _ => True) D B RX7 "droplet" cX7_droplet 3 (some .int) (zrm 2 49 0 0) (zN (zI (qDrop r sd vv) L nx (fun G1 => zRM L m G1 r h c sl T tn ∧ ∀ y, y ≠ m → G1 y = G y))) 0 0 L nx 0 [some (.ref m), some (.int sd), some (.int vv)] [] (G)
  obtain ⟨w, ls, n, cn, i0, iw, i1, il, i2, i3, i4, i5, i6, i7, i8⟩ := id hS
  have hm := hR.1
  have hr := hR.2.1
  refine zv_iload_n dX7_droplet_0 rfl ?_
  refine zv_i2l dX7_droplet_1 ?_
  refine zv_iconst (v := 0) dX7_droplet_2 (by decide) ?_
  refine zv_ldc dX7_droplet_3 kc_X7_117 ?_
  refine zv_callS (m_in3 l D B sd 0 65535) ml_X7_44 st_X7_in rfl rfl (Nat.le_of_ble_eq_true rfl) dX7_droplet_5 ⟨Nat.le_of_ble_eq_true rfl, Nat.le_of_ble_eq_true rfl⟩ ⟨Nat.le_refl _, Nat.le_refl _⟩ (zk_i ?_)
  refine zv_if_eq (tgt := 21) dX7_droplet_8 (by decide) (fun c8 => ?_) (fun c8 => ?_)
  · have z1 := bI_eq0.mp c8
    have hq : qDrop r sd vv = -2 := by unfold qDrop; rw [z1, Bool.false_and, if_pos rfl]
    refine zv_bipush (v := (-2)) dX7_droplet_21 (by decide) ?_
    rw [hq]
    exact zv_iretI dX7_droplet_23 rfl rfl rfl ⟨hR, fun y hy => rfl⟩
  · have z1 := bI_ne0.mp c8
    refine zv_iload_n dX7_droplet_11 rfl ?_
    refine zv_i2l dX7_droplet_12 ?_
    refine zv_iconst (v := 0) dX7_droplet_13 (by decide) ?_
    refine zv_iconst (v := 3) dX7_droplet_14 (by decide) ?_
    refine zv_callS (m_in3 l D B vv 0 3) ml_X7_44 st_X7_in rfl rfl (Nat.le_of_ble_eq_true rfl) dX7_droplet_15 ⟨Nat.le_of_ble_eq_true rfl, Nat.le_of_ble_eq_true rfl⟩ ⟨Nat.le_refl _, Nat.le_refl _⟩ (zk_i ?_)
    refine zv_if_ne (tgt := 24) dX7_droplet_18 (by decide) (fun c18 => ?_) (fun c18 => ?_)
    · have z2 := bI_ne0.mp c18
      refine zv_aload_n dX7_droplet_24 rfl ?_
      refine zv_getS (r := 1) hR.1 rfl fl_X7_7 rfl dX7_droplet_25 ?_
      refine zv_iconst (v := 2) dX7_droplet_28 (by decide) ?_
      refine zv_iald (i := 1) hR.1 rfl (zix_nI (i := 2) (by omega) (by decide)) dX7_droplet_29 ?_
      rw [show G m (18 + 2) = r 2 from hr 2 (by decide)]
      refine zv_if_ne (tgt := 36) dX7_droplet_30 (by decide) (fun c30 => ?_) (fun c30 => ?_)
      · obtain ⟨s0, hs0, rfl⟩ := (zin3_iff (m := 65535) (by decide)).mp z1
        have hn0 : 0 < n := by
          rcases Nat.eq_zero_or_pos n with g | g
          · rw [i2, g] at c30; exact absurd rfl c30
          · exact g
        have hq : qDrop r (nI s0) vv = (if vv = 0 then dPR r s0 1 else if vv = 1 then dPR r s0 2 else if vv = 2 then dPR r s0 3 else dPR r s0 0) := by unfold qDrop; rw [z1, z2, if_neg (by simp), if_neg c30, nI_clamp (by omega)]
        refine zv_aload_n dX7_droplet_36 rfl ?_
        refine zv_iload_n dX7_droplet_37 rfl ?_
        refine zv_callV (m_X7_make l D B hm (w := w) (n := n) (ch := chR r) ((hr 2 (by decide)).trans i2) ((hr 0 (by decide)).trans i0) iw hn0 i3 (fun k hk => by rw [show 23 + k = 18 + (5 + k) by omega, hr _ (by omega)]; unfold chR hdR; rw [if_pos (by omega)]) (by omega)) ml_X7_110 in_X7_make sel_X7_make hR.1 rfl rfl rfl rfl (Nat.le_of_ble_eq_true rfl) dX7_droplet_38 ⟨Nat.le_of_ble_eq_true rfl, Nat.le_of_ble_eq_true rfl⟩ ⟨Nat.le_refl _, Nat.le_refl _⟩ (zk_v ?_)
        have hdd : dPR r s0 = mkP (fun _ => 0) w (r 1) n (chR r) s0 := by unfold dPR; rw [i0, i2, nI_clamp (by omega), nI_clamp (by omega)]
        rw [show G m 19 = r 1 from hr 1 (by decide), ← hdd]
        refine zv_iload_n dX7_droplet_41 rfl ?_
        refine zv_if_ne (tgt := 52) dX7_droplet_42 (by decide) (fun c42 => ?_) (fun c42 => ?_)
        · rw [if_neg c42] at hq
          refine zv_iload_n dX7_droplet_52 rfl ?_
          refine zv_iconst (v := 1) dX7_droplet_53 (by decide) ?_
          refine zv_icmp_ne (tgt := 64) dX7_droplet_54 (by decide) (fun c54 => ?_) (fun c54 => ?_)
          · rw [if_neg c54] at hq
            refine zv_iload_n dX7_droplet_64 rfl ?_
            refine zv_iconst (v := 2) dX7_droplet_65 (by decide) ?_
            refine zv_icmp_ne (tgt := 76) dX7_droplet_66 (by decide) (fun c66 => ?_) (fun c66 => ?_)
            · rw [if_neg c66] at hq
              refine zv_aload_n dX7_droplet_76 rfl ?_
              refine zv_getI hR.1 rfl fl_X7_71 rfl dX7_droplet_77 ?_
              rw [zst_same, show mkM (G m) (dPR r s0) 12 = dPR r s0 0 from rfl]
              have hD01 := (dPR_DO (sd := s0) i2 hn0 i3).1
              refine zv_if_eq (tgt := 87) dX7_droplet_80 (by decide) (fun c80 => ?_) (fun c80 => ?_)
              · refine zv_iconst (v := 0) dX7_droplet_87 (by decide) ?_
                rw [hq]
                first
                  | exact zv_iretI dX7_droplet_88 rfl rfl (by rw [zst_same]; rfl) ⟨zRM_fr hR (fun k hk => by rw [zst_same, mkM_o (by omega)]; exact hr k hk) (fun j hj => by rw [zst_same, mkM_o (by omega)]), fun y hy => zst_ne _ _ hy⟩
                  | exact zv_iretI dX7_droplet_88 rfl rfl c80.symm ⟨zRM_fr hR (fun k hk => by rw [zst_same, mkM_o (by omega)]; exact hr k hk) (fun j hj => by rw [zst_same, mkM_o (by omega)]), fun y hy => zst_ne _ _ hy⟩
                  | exact zv_iretI dX7_droplet_88 rfl rfl (hD01.resolve_left c80).symm ⟨zRM_fr hR (fun k hk => by rw [zst_same, mkM_o (by omega)]; exact hr k hk) (fun j hj => by rw [zst_same, mkM_o (by omega)]), fun y hy => zst_ne _ _ hy⟩
              · refine zv_iconst (v := 1) dX7_droplet_83 (by decide) ?_
                refine zv_goto (tgt := 88) dX7_droplet_84 (by decide) ?_
                rw [hq]
                first
                  | exact zv_iretI dX7_droplet_88 rfl rfl (by rw [zst_same]; rfl) ⟨zRM_fr hR (fun k hk => by rw [zst_same, mkM_o (by omega)]; exact hr k hk) (fun j hj => by rw [zst_same, mkM_o (by omega)]), fun y hy => zst_ne _ _ hy⟩
                  | exact zv_iretI dX7_droplet_88 rfl rfl c80.symm ⟨zRM_fr hR (fun k hk => by rw [zst_same, mkM_o (by omega)]; exact hr k hk) (fun j hj => by rw [zst_same, mkM_o (by omega)]), fun y hy => zst_ne _ _ hy⟩
                  | exact zv_iretI dX7_droplet_88 rfl rfl (hD01.resolve_left c80).symm ⟨zRM_fr hR (fun k hk => by rw [zst_same, mkM_o (by omega)]; exact hr k hk) (fun j hj => by rw [zst_same, mkM_o (by omega)]), fun y hy => zst_ne _ _ hy⟩
            · rw [if_pos c66] at hq
              refine zv_aload_n dX7_droplet_69 rfl ?_
              refine zv_getI hR.1 rfl fl_X7_84 rfl dX7_droplet_70 ?_
              refine zv_goto (tgt := 88) dX7_droplet_73 (by decide) ?_
              rw [hq]
              first
                | exact zv_iretI dX7_droplet_88 rfl rfl (by rw [zst_same]; rfl) ⟨zRM_fr hR (fun k hk => by rw [zst_same, mkM_o (by omega)]; exact hr k hk) (fun j hj => by rw [zst_same, mkM_o (by omega)]), fun y hy => zst_ne _ _ hy⟩
                | exact zv_iretI dX7_droplet_88 rfl rfl c80.symm ⟨zRM_fr hR (fun k hk => by rw [zst_same, mkM_o (by omega)]; exact hr k hk) (fun j hj => by rw [zst_same, mkM_o (by omega)]), fun y hy => zst_ne _ _ hy⟩
                | exact zv_iretI dX7_droplet_88 rfl rfl (hD01.resolve_left c80).symm ⟨zRM_fr hR (fun k hk => by rw [zst_same, mkM_o (by omega)]; exact hr k hk) (fun j hj => by rw [zst_same, mkM_o (by omega)]), fun y hy => zst_ne _ _ hy⟩
          · rw [if_pos c54] at hq
            refine zv_aload_n dX7_droplet_57 rfl ?_
            refine zv_getI hR.1 rfl fl_X7_81 rfl dX7_droplet_58 ?_
            refine zv_goto (tgt := 88) dX7_droplet_61 (by decide) ?_
            rw [hq]
            first
              | exact zv_iretI dX7_droplet_88 rfl rfl (by rw [zst_same]; rfl) ⟨zRM_fr hR (fun k hk => by rw [zst_same, mkM_o (by omega)]; exact hr k hk) (fun j hj => by rw [zst_same, mkM_o (by omega)]), fun y hy => zst_ne _ _ hy⟩
              | exact zv_iretI dX7_droplet_88 rfl rfl c80.symm ⟨zRM_fr hR (fun k hk => by rw [zst_same, mkM_o (by omega)]; exact hr k hk) (fun j hj => by rw [zst_same, mkM_o (by omega)]), fun y hy => zst_ne _ _ hy⟩
              | exact zv_iretI dX7_droplet_88 rfl rfl (hD01.resolve_left c80).symm ⟨zRM_fr hR (fun k hk => by rw [zst_same, mkM_o (by omega)]; exact hr k hk) (fun j hj => by rw [zst_same, mkM_o (by omega)]), fun y hy => zst_ne _ _ hy⟩
        · rw [if_pos c42] at hq
          refine zv_aload_n dX7_droplet_45 rfl ?_
          refine zv_getI hR.1 rfl fl_X7_78 rfl dX7_droplet_46 ?_
          refine zv_goto (tgt := 88) dX7_droplet_49 (by decide) ?_
          rw [hq]
          first
            | exact zv_iretI dX7_droplet_88 rfl rfl (by rw [zst_same]; rfl) ⟨zRM_fr hR (fun k hk => by rw [zst_same, mkM_o (by omega)]; exact hr k hk) (fun j hj => by rw [zst_same, mkM_o (by omega)]), fun y hy => zst_ne _ _ hy⟩
            | exact zv_iretI dX7_droplet_88 rfl rfl c80.symm ⟨zRM_fr hR (fun k hk => by rw [zst_same, mkM_o (by omega)]; exact hr k hk) (fun j hj => by rw [zst_same, mkM_o (by omega)]), fun y hy => zst_ne _ _ hy⟩
            | exact zv_iretI dX7_droplet_88 rfl rfl (hD01.resolve_left c80).symm ⟨zRM_fr hR (fun k hk => by rw [zst_same, mkM_o (by omega)]; exact hr k hk) (fun j hj => by rw [zst_same, mkM_o (by omega)]), fun y hy => zst_ne _ _ hy⟩
      · have hq : qDrop r sd vv = -5 := by unfold qDrop; rw [z1, z2, if_neg (by simp), if_pos (by simpa using c30)]
        refine zv_bipush (v := (-5)) dX7_droplet_33 (by decide) ?_
        rw [hq]
        exact zv_iretI dX7_droplet_35 rfl rfl rfl ⟨hR, fun y hy => rfl⟩
    · have z2 := bI_eq0.mp c18
      have hq : qDrop r sd vv = -2 := by unfold qDrop; rw [z2, Bool.and_false, if_pos rfl]
      refine zv_bipush (v := (-2)) dX7_droplet_21 (by decide) ?_
      rw [hq]
      exact zv_iretI dX7_droplet_23 rfl rfl rfl ⟨hR, fun y hy => rfl⟩
