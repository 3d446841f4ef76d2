set_option maxRecDepth 100000 in
set_option maxHeartbeats 4000000 in
theorem m_X3_goToStart (l : Launch) (D : zD) (B : Nat) {L : zL} {nx : Nat} {G : zG} {p : Nat} (hp : (p, 7) ∈ L) : zMet l D B yX3_goToStart cX3_goToStart 1 none 0 0 0 0 [.ref p] L nx G (zE none L nx (zst G p (upd (G p) 2 0))) := by
  refine zMet_of (own := RX3) (mn := "goToStart") [some (.ref p)] (by decide +kernel) rfl rfl rfl (Nat.le_of_ble_eq_true rfl) ?_
  show zV l (fun _ => True) D B RX3 "goToStart" cX3_goToStart 1 none (zrm 0 0 0 0) (zN (zE none L nx (zst G p (upd (G p) 2 0)))) 0 0 L nx 0 [some (.ref p)] [] (G)
  refine zv_aload_n dX3_goToStart_0 rfl ?_
  refine zv_iconst (v := 0) dX3_goToStart_1 (by decide) ?_
  refine zv_putI (t := 7) hp rfl fl_X3_19 ft_X3_2 rfl dX3_goToStart_2 ?_
  refine zv_vretE dX3_goToStart_5 rfl ?_
  rfl

set_option maxRecDepth 100000 in
set_option maxHeartbeats 4000000 in
theorem m_X3_append (l : Launch) (D : zD) (B : Nat) {L : zL} {nx : Nat} {G : zG} {p m c : Nat} (hp : (p, 7) ∈ L) (hm : G p 1 = nI m) (hm80 : m < 80) (hc : c < 65536) : zMet l D B yX3_append cX3_append 2 none 0 0 0 0 [.ref p, .int (nI c)] L nx G (zE none L nx (zst G p (upd (upd (G p) (7 + m) (nI c)) 1 (nI (m + 1))))) := by
  refine zMet_of (own := RX3) (mn := "append") [some (.ref p), some (.int (nI c))] (by decide +kernel) rfl rfl rfl (Nat.le_of_ble_eq_true rfl) ?_
  show zV l (fun _ => True) D B RX3 "append" cX3_append 2 none (zrm 0 0 0 0) (zN (zE none L nx (zst G p (upd (upd (G p) (7 + m) (nI c)) 1 (nI (m + 1)))))) 0 0 L nx 0 [some (.ref p), some (.int (nI c))] [] (G)
  refine zv_aload_n dX3_append_0 rfl ?_
  refine zv_getI hp rfl fl_X3_15 rfl dX3_append_1 ?_
  rw [hm]
  refine zv_if_lt (tgt := 36) dX3_append_4 (by decide) (fun h => absurd h (nI_pos (by omega))) (fun _ => ?_)
  refine zv_aload_n dX3_append_7 rfl ?_
  refine zv_getI hp rfl fl_X3_15 rfl dX3_append_8 ?_
  refine zv_bipush (v := 80) dX3_append_11 (by decide) ?_
  rw [hm]
  refine zv_icmp_ge (tgt := 36) dX3_append_13 (by decide) (fun h => absurd h (nI_ge (b := 80) (by omega) (by decide))) (fun _ => ?_)
  refine zv_aload_n dX3_append_16 rfl ?_
  refine zv_getS (r := 1) hp rfl fl_X3_9 rfl dX3_append_17 ?_
  refine zv_aload_n dX3_append_20 rfl ?_
  refine zv_getI hp rfl fl_X3_15 rfl dX3_append_21 ?_
  refine zv_iload_n dX3_append_24 rfl ?_
  rw [hm]
  refine zv_cast (i := 1) hp rfl (zix_nI (i := m) (by omega) (by decide)) ((pk_charN hc).1) dX3_append_25 ?_
  refine zv_aload_n dX3_append_26 rfl ?_
  refine zv_dup dX3_append_27 rfl ?_
  refine zv_getI hp rfl fl_X3_15 rfl dX3_append_28 ?_
  refine zv_iconst (v := 1) dX3_append_31 (by decide) ?_
  refine zv_iadd dX3_append_32 ?_
  rw [zst_same, show upd (G p) (7 + m) (nI c) 1 = nI m by simp only [upd]; rw [if_neg (by omega)]; exact hm, nI_1]
  refine zv_putI (t := 7) hp rfl fl_X3_15 ft_X3_1 rfl dX3_append_33 ?_
  refine zv_vretE dX3_append_36 rfl ?_
  simp only [zst_same, zst_zst]

/-- what the reader leaves of the pad -/
def padOK (g g' : Nat → Int32) : Prop := g' 1 = g 1 ∧ ∀ j, 7 ≤ j → g' j = g j

set_option maxRecDepth 100000 in
set_option maxHeartbeats 4000000 in
theorem lp_X3_findFault (l : Launch) (D : zD) (B : Nat) {L : zL} {nx : Nat} {G : zG} {p n : Nat} {T : Nat → Nat} (hp : zPT L G p T n) : ∀ i : Nat, i ≤ 80 → ∀ (q : Nat) (g : Nat → Int32), 2 * i ≤ q → q ≤ n → padOK (G p) g → g 2 = nI q → ffL T n q (80 - i) = ffL T n 0 80 → zV l (fun _ => True) D B RX3 "findFault" cX3_findFault 2 (some .int) (zrm 5 105 0 0) (zN (zI (ffL T n 0 80) L nx (fun G1 => ∃ g, G1 = zst G p g ∧ padOK (G p) g))) 0 0 L nx 6 [some (.ref p), some (.int (nI i))] [] (zst G p g) := by
  refine zloop 80 (fun i hi ih q g hq hqn hg hg2 hf => ?_)
  have hn80 := hp.2.1
  have hp2 : zPT L (zst G p g) p T n := zPT_upd hp hg.1 hg.2
  refine zv_iload_n dX3_findFault_6 rfl ?_
  refine zv_bipush (v := 80) dX3_findFault_7 (by decide) ?_
  refine zv_icmp_ge (tgt := 58) dX3_findFault_9 (by decide) (fun h => absurd h (nI_ge (b := 80) (by omega) (by decide))) (fun _ => ?_)
  refine zv_aload_n dX3_findFault_12 rfl ?_
  have hstep : 80 - i = (80 - (i + 1)) + 1 := by omega
  rw [hstep] at hf
  unfold ffL at hf
  have hle := rdO_le (T := T) hqn
  refine zv_callV (m_X3_readOrder l D B hp2 (by rw [zst_same]; exact hg2) hqn) ml_X3_25 in_X3_readOrder sel_X3_readOrder hp.1 rfl rfl rfl rfl (Nat.le_of_ble_eq_true rfl) dX3_findFault_13 ⟨Nat.le_of_ble_eq_true rfl, Nat.le_of_ble_eq_true rfl⟩ ⟨Nat.le_refl _, Nat.le_refl _⟩ (zk_p fun G1 h1 => ?_)
  obtain ⟨g1, rfl, h1⟩ := h1
  rw [zst_same] at h1
  have hg1 : padOK (G p) g1 := ⟨h1.1.trans hg.1, fun j hj => (h1.2.1 j hj).trans (hg.2 j hj)⟩
  rw [zst_zst]
  have hp3 : zPT L (zst G p g1) p T n := zPT_upd hp hg1.1 hg1.2
  have hg12 : g1 2 = nI (rdO T n q).2.1 := h1.2.2.1
  refine zv_if_ne (tgt := 24) dX3_findFault_16 (by decide) (fun c16 => ?_) (fun c16 => ?_)
  · have hb := bI_ne0.mp c16
    rw [if_neg (by rw [hb]; simp)] at hf
    refine zv_aload_n dX3_findFault_24 rfl ?_
    refine zv_getI hp.1 rfl fl_X3_19 rfl dX3_findFault_25 ?_
    refine zv_aload_n dX3_findFault_28 rfl ?_
    refine zv_getI hp.1 rfl fl_X3_15 rfl dX3_findFault_29 ?_
    rw [zst_same, hg12, show g1 1 = nI n from hg1.1.trans hp.2.2.1]
    refine zv_icmp_lt (tgt := 38) dX3_findFault_32 (by decide) (fun c32 => ?_) (fun c32 => ?_)
    · have k32 : (rdO T n q).2.1 < n := (nI_ltI (by omega) (by omega)).mp c32
      rw [if_neg (by omega)] at hf
      refine zv_aload_n dX3_findFault_38 rfl ?_
      refine zv_bipush (v := 59) dX3_findFault_39 (by decide) ?_
      by_cases hs : sg T n (rdO T n q).2.1 = 59
      · rw [if_pos hs] at hf
        refine zv_callV (m_X3_skip l D B (w := 59) hp3 (by rw [zst_same]; exact hg12) (by omega) rfl (by decide) hs) ml_X3_29 in_X3_skip sel_X3_skip hp.1 rfl rfl rfl rfl (Nat.le_of_ble_eq_true rfl) dX3_findFault_41 ⟨Nat.le_of_ble_eq_true rfl, Nat.le_of_ble_eq_true rfl⟩ ⟨Nat.le_refl _, Nat.le_refl _⟩ (zk_i ?_)
        refine zv_if_ne (tgt := 52) dX3_findFault_44 (by decide) (fun _ => ?_) (fun h => absurd h (by decide))
        refine zv_iinc1 dX3_findFault_52 rfl (by decide) rfl ?_
        refine zv_goto (tgt := 6) dX3_findFault_55 (by decide) ?_
        rw [nI_1, zst_same, zst_zst]
        exact ih (by omega) ((rdO T n q).2.1 + 1) _ (by have := hle.2.2 hb; omega) (by omega) ⟨hg1.1, fun j hj => by simp only [upd]; rw [if_neg (by omega)]; exact hg1.2 j hj⟩ rfl hf
      · rw [if_neg hs] at hf
        refine zv_callV (m_X3_skip_n l D B (w := 59) hp3 (by rw [zst_same]; exact hg12) (by omega) rfl (by decide) hs) ml_X3_29 in_X3_skip sel_X3_skip hp.1 rfl rfl rfl rfl (Nat.le_of_ble_eq_true rfl) dX3_findFault_41 ⟨Nat.le_of_ble_eq_true rfl, Nat.le_of_ble_eq_true rfl⟩ ⟨Nat.le_refl _, Nat.le_refl _⟩ (zk_i ?_)
        refine zv_if_ne (tgt := 52) dX3_findFault_44 (by decide) (fun h => absurd (rfl) h) (fun _ => ?_)
        refine zv_aload_n dX3_findFault_47 rfl ?_
        refine zv_getI hp.1 rfl fl_X3_19 rfl dX3_findFault_48 ?_
        refine zv_iretI dX3_findFault_51 rfl rfl (by rw [zst_same, hg12]; exact hf) ⟨g1, rfl, hg1⟩
    · have k32 : n ≤ (rdO T n q).2.1 := by
        rcases Nat.lt_or_ge (rdO T n q).2.1 n with h | h
        · exact absurd (nI_lt h (by omega)) c32
        · exact h
      rw [if_pos k32] at hf
      refine zv_bipush (v := (-6)) dX3_findFault_35 (by decide) ?_
      refine zv_iretI dX3_findFault_37 rfl rfl hf ⟨g1, rfl, hg1⟩
  · have hb := bI_eq0.mp c16
    rw [if_pos hb] at hf
    refine zv_aload_n dX3_findFault_19 rfl ?_
    refine zv_getI hp.1 rfl fl_X3_19 rfl dX3_findFault_20 ?_
    refine zv_iretI dX3_findFault_23 rfl rfl (by rw [zst_same, hg12]; exact hf) ⟨g1, rfl, hg1⟩

set_option maxRecDepth 100000 in
set_option maxHeartbeats 4000000 in
theorem m_X3_findFault (l : Launch) (D : zD) (B : Nat) {L : zL} {nx : Nat} {G : zG} {p n : Nat} {T : Nat → Nat} (hp : zPT L G p T n) : zMet l D B yX3_findFault cX3_findFault 2 (some .int) 5 105 0 0 [.ref p] L nx G (zI (ffL T n 0 80) L nx (fun G1 => ∃ g, G1 = zst G p g ∧ padOK (G p) g)) := by
  refine zMet_of (own := RX3) (mn := "findFault") [some (.ref p), none] (by decide +kernel) rfl rfl rfl (Nat.le_of_ble_eq_true rfl) ?_
  show zV l (fun _ => True) D B RX3 "findFault" cX3_findFault 2 (some .int) (zrm 5 105 0 0) (zN (zI (ffL T n 0 80) L nx (fun G1 => ∃ g, G1 = zst G p g ∧ padOK (G p) g))) 0 0 L nx 0 [some (.ref p), none] [] (G)
  refine zv_aload_n dX3_findFault_0 rfl ?_
  refine zv_callV (m_X3_goToStart l D B hp.1) ml_X3_22 in_X3_goToStart sel_X3_goToStart hp.1 rfl rfl rfl rfl (Nat.le_of_ble_eq_true rfl) dX3_findFault_1 ⟨Nat.le_of_ble_eq_true rfl, Nat.le_of_ble_eq_true rfl⟩ ⟨Nat.le_refl _, Nat.le_refl _⟩ (zk_v ?_)
  refine zv_iconst (v := 0) dX3_findFault_4 (by decide) ?_
  refine zv_istore_n dX3_findFault_5 (by decide) rfl ?_
  exact lp_X3_findFault l D B hp 0 (by omega) 0 _ (by omega) (by omega) ⟨rfl, fun j hj => by simp only [upd]; rw [if_neg (by omega)]⟩ rfl rfl
