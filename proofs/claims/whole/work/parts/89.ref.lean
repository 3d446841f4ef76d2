set_option maxRecDepth 100000 in
set_option maxHeartbeats 4000000 in
theorem m_X7_refusal (l : Launch) (D : zD) (B : Nat) {L : zL} {nx : Nat} {G : zG} {m b c tn : Nat} {r : Nat → Int32} {h : Nat → (Nat → Int32)} {sl : Nat → Option (Nat → Int32)} {T : Nat → Nat} (hR : zRM L m G r h c sl T tn) (hS : SI b r) (y sd : Int32) : zMet l D B yX7_refusal cX7_refusal 3 (some .int) 2 44 0 0 [.ref m, .int y, .int sd] L nx G (zE (some (.int (match cpI r y with | none => -1 | some _ => errD r sd 1))) L nx (G)) := by
  refine zMet_of (own := RX7) (mn := "refusal") [some (.ref m), some (.int y), some (.int sd)] (by decide +kernel) rfl rfl rfl (Nat.le_of_ble_eq_true rfl) ?_
  show zV l (fun _ => True) D B RX7 "refusal" cX7_refusal 3 (some .int) (zrm 2 44 0 0) (zN (zE (some (.int (match cpI r y with | none => -1 | some _ => errD r sd 1))) L nx (G))) 0 0 L nx 0 [some (.ref m), some (.int y), some (.int sd)] [] (G)
  obtain ⟨w, ls, n, cn, i0, iw, i1, il, i2, i3, i4, i5, i6, i7, i8⟩ := id hS
  have hm := hR.1
  have hr := hR.2.1
  refine zv_aload_n dX7_refusal_0 rfl ?_
  refine zv_iload_n dX7_refusal_1 rfl ?_
  refine zv_callV (m_X7_isCup l D B hm i4 i5 (hr 3 (by decide)) y) ml_X7_118 in_X7_isCup sel_X7_isCup hR.1 rfl rfl rfl rfl (Nat.le_of_ble_eq_true rfl) dX7_refusal_2 ⟨Nat.le_of_ble_eq_true rfl, Nat.le_of_ble_eq_true rfl⟩ ⟨Nat.le_refl _, Nat.le_refl _⟩ (zk_i ?_)
  rcases hz : cpI r y with _ | i
  · refine zv_if_ne (tgt := 12) dX7_refusal_5 (by decide) (fun h => absurd (rfl) h) (fun _ => ?_)
    refine zv_iconst (v := (-1)) dX7_refusal_8 (by decide) ?_
    refine zv_goto (tgt := 43) dX7_refusal_9 (by decide) ?_
    refine zv_iretE dX7_refusal_43 rfl (rfl) ?_ ?_
    · first
        | rfl
        | exact he.symm
    · rfl
  · refine zv_if_ne (tgt := 12) dX7_refusal_5 (by decide) (fun _ => ?_) (fun h => absurd h (show ¬ bI true = 0 from by decide))
    refine zv_iload_n dX7_refusal_12 rfl ?_
    refine zv_i2l dX7_refusal_13 ?_
    refine zv_iconst (v := 0) dX7_refusal_14 (by decide) ?_
    refine zv_ldc dX7_refusal_15 kc_X7_117 ?_
    refine zv_callS (m_in3 l D B sd 0 65535) ml_X7_44 st_X7_in rfl rfl (Nat.le_of_ble_eq_true rfl) dX7_refusal_17 ⟨Nat.le_of_ble_eq_true rfl, Nat.le_of_ble_eq_true rfl⟩ ⟨Nat.le_refl _, Nat.le_refl _⟩ (zk_i ?_)
    refine zv_if_ne (tgt := 28) dX7_refusal_20 (by decide) (fun c20 => ?_) (fun c20 => ?_)
    · have z1 := bI_ne0.mp c20
      refine zv_aload_n dX7_refusal_28 rfl ?_
      refine zv_getS (r := 1) hR.1 rfl fl_X7_7 rfl dX7_refusal_29 ?_
      refine zv_iconst (v := 2) dX7_refusal_32 (by decide) ?_
      refine zv_iald (i := 1) hR.1 rfl (zix_nI (i := 2) (by omega) (by decide)) dX7_refusal_33 ?_
      rw [show G m (18 + 2) = r 2 from hr 2 (by decide)]
      refine zv_if_ne (tgt := 42) dX7_refusal_34 (by decide) (fun c34 => ?_) (fun c34 => ?_)
      · have he : errD r sd 1 = 0 := by unfold errD; rw [z1, show zin3 1 1 99 = true from by decide, if_neg (by simp), if_neg c34]
        refine zv_iconst (v := 0) dX7_refusal_42 (by decide) ?_
        refine zv_iretE dX7_refusal_43 rfl (rfl) ?_ ?_
        · first
            | rfl
            | exact he.symm
        · rfl
      · have he : errD r sd 1 = -5 := by unfold errD; rw [z1, show zin3 1 1 99 = true from by decide, if_neg (by simp), if_pos (by simpa using c34)]
        refine zv_bipush (v := (-5)) dX7_refusal_37 (by decide) ?_
        refine zv_goto (tgt := 43) dX7_refusal_39 (by decide) ?_
        refine zv_iretE dX7_refusal_43 rfl (rfl) ?_ ?_
        · first
            | rfl
            | exact he.symm
        · rfl
    · have z1 := bI_eq0.mp c20
      have he : errD r sd 1 = -2 := by unfold errD; rw [z1, Bool.false_and, if_pos rfl]
      refine zv_bipush (v := (-2)) dX7_refusal_23 (by decide) ?_
      refine zv_goto (tgt := 43) dX7_refusal_25 (by decide) ?_
      refine zv_iretE dX7_refusal_43 rfl (rfl) ?_ ?_
      · first
          | rfl
          | exact he.symm
      · rfl

set_option maxRecDepth 100000 in
set_option maxHeartbeats 4000000 in
theorem m_X7_wipe (l : Launch) (D : zD) (B : Nat) {L : zL} {nx : Nat} {G : zG} {m b c tn : Nat} {r : Nat → Int32} {h : Nat → (Nat → Int32)} {sl : Nat → Option (Nat → Int32)} {T : Nat → Nat} (hR : zRM L m G r h c sl T tn) : zMet l D B yX7_wipe cX7_wipe 2 (some .int) 0 0 0 0 [.ref m] L nx G (zI (nI tn) L nx (fun G1 => zRM L m G1 r h c sl T 0 ∧ ∀ y, y ≠ m → G1 y = G y)) := by
  refine zMet_of (own := RX7) (mn := "wipe") [some (.ref m), none] (by decide +kernel) rfl rfl rfl (Nat.le_of_ble_eq_true rfl) ?_
  show zV l (fun _ => True) D B RX7 "wipe" cX7_wipe 2 (some .int) (zrm 0 0 0 0) (zN (zI (nI tn) L nx (fun G1 => zRM L m G1 r h c sl T 0 ∧ ∀ y, y ≠ m → G1 y = G y))) 0 0 L nx 0 [some (.ref m), none] [] (G)
  refine zv_aload_n dX7_wipe_0 rfl ?_
  refine zv_getI hR.1 rfl fl_X7_148 rfl dX7_wipe_1 ?_
  rw [hR.2.2.2.2.2.2.2.1]
  refine zv_istore_n dX7_wipe_4 (by decide) rfl ?_
  refine zv_aload_n dX7_wipe_5 rfl ?_
  refine zv_iconst (v := 0) dX7_wipe_6 (by decide) ?_
  refine zv_putI (t := 8) hR.1 rfl fl_X7_148 ft_X7_8 rfl dX7_wipe_7 ?_
  refine zv_iload_n dX7_wipe_10 rfl ?_
  refine zv_iretI dX7_wipe_11 rfl rfl rfl ⟨?_, fun y hy => zst_ne _ _ hy⟩
  have h0 := zRM_fr (r' := r) hR (G' := G) hR.2.1 (fun j _ => rfl)
  obtain ⟨a1, a2, a3, a4, a5, a6, a7, a8, a9⟩ := h0
  have hs : ∀ j, j ≠ 8 → zst G m (upd (G m) 8 0) m j = G m j := fun j hj => by
    rw [zst_same]
    simp only [upd]
    rw [if_neg hj]
  refine ⟨a1, fun k hk => by rw [hs _ (by omega)]; exact a2 k hk, by rw [hs _ (by omega)]; exact a3, a4, fun k hk j hj => by rw [hs _ (by omega)]; exact a5 k hk j hj, fun j hj => ?_, by omega, by rw [zst_same]; exact if_pos rfl, fun i hi => by omega⟩
  rcases a6 j hj with ⟨b1, b2⟩ | ⟨q, b1, b2, b3⟩
  · exact Or.inl ⟨b1, by rw [hs _ (by omega)]; exact b2⟩
  · exact Or.inr ⟨q, b1, by rw [hs _ (by omega)]; exact b2, fun k hk => by rw [hs _ (by omega)]; exact b3 k hk⟩
