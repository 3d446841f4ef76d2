def gO (g g2 : Nat → Int32) : Prop := ∀ j, j ≠ 9 → ¬ (12 ≤ j ∧ j < 16) → ¬ 2616 ≤ j → (j < 18 ∨ 246 ≤ j) → g2 j = g j
theorem gO_W {g r g2 : Nat → Int32} (h : gW (mG g r) g2) : gO g g2 := fun j a b c d => (h j a (by omega)).trans (mG_o d)
theorem gO_F {g g1 g2 : Nat → Int32} (h : gO g g1) (h2 : gF g1 g2) : gO g g2 := fun j a b c d => (h2 j b (by omega)).trans (h j a b c d)
theorem gO_tr {g g1 g2 : Nat → Int32} (h : gO g g1) (h2 : gO g1 g2) : gO g g2 := fun j a b c d => (h2 j a b c d).trans (h j a b c d)
theorem zst_mT {G : zG} {m : Nat} {g r g2 : Nat → Int32} (h : gW (mG g r) g2) : zst G m g2 = mT G m g2 r := by
  unfold mT
  congr 1
  funext j
  by_cases e : 18 ≤ j ∧ j < 246
  · rw [show j = 18 + (j - 18) by omega, mG_r (by omega), h _ (by omega) (by omega), mG_r (by omega)]
  · rw [mG_o (by omega)]
theorem tx_mG {T : Nat → Nat} {n : Nat} {g r : Nat → Int32} (h : tx T n g) : tx T n (mG g r) :=
  ⟨(mG_o (by omega)).trans h.1, h.2.1, fun i hi => by have := h.2.1; exact ⟨(mG_o (by omega)).trans (h.2.2 i hi).1, (h.2.2 i hi).2⟩⟩
theorem tx_O {T : Nat → Nat} {n : Nat} {g g2 : Nat → Int32} (h : tx T n g) (hO : gO g g2) : tx T n g2 :=
  ⟨(hO 8 (by omega) (by omega) (by omega) (by omega)).trans h.1, h.2.1, fun i hi => by have := h.2.1; exact ⟨(hO _ (by omega) (by omega) (by omega) (by omega)).trans (h.2.2 i hi).1, (h.2.2 i hi).2⟩⟩

set_option maxRecDepth 100000 in
set_option maxHeartbeats 4000000 in
theorem sg_m_order1 (l : Launch) (D : zD) (B : Nat) {L : zL} {nx : Nat} {G : zG} {m n p b : Nat} {g r : Nat → Int32} {T : Nat → Nat} (hm : (m, 8) ∈ L) (hX0 : tx T n g) (h90 : g 9 = nI p) (hp : p ≤ n) (hro1 : (rdO T n p).1 = true) (hS : SI b r) : zV l (fun _ => True) D B RX7 "order" cX7_order 3 (some .int) (zrm 6 144 0 0) (zN (zI (opOrd r T n p).1 L nx (fun G1 => ∃ g2, G1 = mT G m g2 (opOrd r T n p).2 ∧ gO g g2 ∧ g2 9 = nI (rdO T n p).2.1))) 0 0 L nx 24 [some (.ref m), some (.int 1), none] [.int (nI (sg T n p))] ((zst G m (mG g r))) := by
  have hX := tx_mG (r := r) hX0
  have h9 : mG g r 9 = nI p := (mG_o (by omega)).trans h90
  have hn80 := hX.2.1
  have hsl := tx_sg hX (i := p)
  refine zv_istore_n dX7_order_24 (by decide) rfl ?_
  rcases (show sg T n p = 99 ∨ (¬ sg T n p = 99 ∧ sg T n p = 117) ∨ (¬ sg T n p = 99 ∧ ¬ sg T n p = 117 ∧ sg T n p = 115) ∨ (¬ sg T n p = 99 ∧ ¬ sg T n p = 117 ∧ ¬ sg T n p = 115 ∧ sg T n p = 112) ∨ (¬ sg T n p = 99 ∧ ¬ sg T n p = 117 ∧ ¬ sg T n p = 115 ∧ ¬ sg T n p = 112) by omega) with k99 | ⟨k99, k117⟩ | ⟨k99, k117, k115⟩ | ⟨k99, k117, k115, k112⟩ | ⟨k99, k117, k115, k112⟩
  · have hlt := sg_pos (show sg T n p ≠ 0 by omega)
    refine zv_iload_n dX7_order_25 rfl ?_
    refine zv_bipush (v := 99) dX7_order_26 (by decide) ?_
    refine zv_icmp_eq (tgt := 52) dX7_order_28 (by decide) (fun _ => ?_) (fun h => absurd (by rw [k99]; rfl) h)
    refine zv_aload_n dX7_order_52 rfl ?_
    refine zv_dup dX7_order_53 rfl ?_
    refine zv_getI hm rfl fl_X7_162 rfl dX7_order_54 ?_
    rw [zst_same, h9]
    refine zv_iconst (v := 1) dX7_order_57 (by decide) ?_
    refine zv_iadd dX7_order_58 ?_
    rw [nI_1]
    refine zv_putI (t := 8) hm rfl fl_X7_162 ft_X7_9 rfl dX7_order_59 ?_
    simp only [zst_same, zst_zst]
    refine zv_aload_n dX7_order_62 rfl ?_
    refine zv_iload_n dX7_order_63 rfl ?_
    refine zv_callV (m_X7_reads l D B (p := p) (g := upd (mG g r) 9 (nI (p + 1))) hm (tx_upd hX (Or.inl rfl)) rfl hlt (Or.inl k99)) ml_X7_177 in_X7_reads sel_X7_reads hm rfl rfl rfl rfl (Nat.le_of_ble_eq_true rfl) dX7_order_64 ⟨Nat.le_of_ble_eq_true rfl, Nat.le_of_ble_eq_true rfl⟩ ⟨Nat.le_refl _, Nat.le_refl _⟩ (zk_p fun G2 hG2 => ?_)
    obtain ⟨g2, rfl, hro⟩ := hG2
    refine zv_if_ne (tgt := 73) dX7_order_67 (by decide) (fun _ => ?_) (fun h => absurd h (by rw [hro1]; decide))
    refine zv_iload_n dX7_order_73 rfl ?_
    refine zv_if_ne (tgt := 79) dX7_order_74 (by decide) (fun _ => ?_) (fun h => absurd h (by decide))
    refine zv_iload_n dX7_order_79 rfl ?_
    rcases (show sg T n p = 99 by assumption) with hkk
    · have hop : opOrd r T n p = opChapter r (nI (rdO T n p).2.2.2.1) := by
        unfold opOrd
        rw [if_pos k99]
      rw [hop]
      rw [zst_mT (gW_tr gW_9 hro.1)]
      obtain ⟨hn1, hn2, hn3⟩ := hro.2.2 hro1
      have hgO := gO_W (gW_tr gW_9 hro.1)
      refine zv_lookup (off := 36) (tgt := 116) dX7_order_80 (by decide +kernel) (by rw [k99]; decide +kernel) (by decide) ?_
      refine zv_aload_n dX7_order_116 rfl ?_
      refine zv_aload_n dX7_order_117 rfl ?_
      refine zv_getS (r := 9) hm rfl fl_X7_35 rfl dX7_order_118 ?_
      refine zv_iconst (v := 0) dX7_order_121 (by decide) ?_
      refine zv_iald (i := 9) hm rfl (zix_nI (i := 0) (by omega) (by decide)) dX7_order_122 ?_
      rw [show mT G m g2 r m (2616 + 0) = nI (rdO T n p).2.2.2.1 from (mT_o (by omega)).trans (hn1 k99)]
      refine zv_callV (m_X7_begins l D B hm hS _) ml_X7_129 in_X7_begins sel_X7_begins hm rfl rfl rfl rfl (Nat.le_of_ble_eq_true rfl) dX7_order_123 ⟨Nat.le_of_ble_eq_true rfl, Nat.le_of_ble_eq_true rfl⟩ ⟨Nat.le_refl _, Nat.le_refl _⟩ (zk_i ?_)
      exact zv_iretI dX7_order_126 rfl rfl rfl ⟨g2, rfl, hgO, hro.2.1⟩
  · have hlt := sg_pos (show sg T n p ≠ 0 by omega)
    refine zv_iload_n dX7_order_25 rfl ?_
    refine zv_bipush (v := 99) dX7_order_26 (by decide) ?_
    refine zv_icmp_eq (tgt := 52) dX7_order_28 (by decide) (fun h => absurd h (fun h => by rw [k117] at h; exact absurd h (by decide))) (fun _ => ?_)
    refine zv_iload_n dX7_order_31 rfl ?_
    refine zv_bipush (v := 117) dX7_order_32 (by decide) ?_
    refine zv_icmp_eq (tgt := 52) dX7_order_34 (by decide) (fun _ => ?_) (fun h => absurd (by rw [k117]; rfl) h)
    refine zv_aload_n dX7_order_52 rfl ?_
    refine zv_dup dX7_order_53 rfl ?_
    refine zv_getI hm rfl fl_X7_162 rfl dX7_order_54 ?_
    rw [zst_same, h9]
    refine zv_iconst (v := 1) dX7_order_57 (by decide) ?_
    refine zv_iadd dX7_order_58 ?_
    rw [nI_1]
    refine zv_putI (t := 8) hm rfl fl_X7_162 ft_X7_9 rfl dX7_order_59 ?_
    simp only [zst_same, zst_zst]
    refine zv_aload_n dX7_order_62 rfl ?_
    refine zv_iload_n dX7_order_63 rfl ?_
    refine zv_callV (m_X7_reads l D B (p := p) (g := upd (mG g r) 9 (nI (p + 1))) hm (tx_upd hX (Or.inl rfl)) rfl hlt (Or.inr (Or.inl ⟨k99, k117⟩))) ml_X7_177 in_X7_reads sel_X7_reads hm rfl rfl rfl rfl (Nat.le_of_ble_eq_true rfl) dX7_order_64 ⟨Nat.le_of_ble_eq_true rfl, Nat.le_of_ble_eq_true rfl⟩ ⟨Nat.le_refl _, Nat.le_refl _⟩ (zk_p fun G2 hG2 => ?_)
    obtain ⟨g2, rfl, hro⟩ := hG2
    refine zv_if_ne (tgt := 73) dX7_order_67 (by decide) (fun _ => ?_) (fun h => absurd h (by rw [hro1]; decide))
    refine zv_iload_n dX7_order_73 rfl ?_
    refine zv_if_ne (tgt := 79) dX7_order_74 (by decide) (fun _ => ?_) (fun h => absurd h (by decide))
    refine zv_iload_n dX7_order_79 rfl ?_
    rcases (show sg T n p = 117 by assumption) with hkk
    · have hop : opOrd r T n p = opCup r := by
        unfold opOrd
        rw [if_neg k99, if_pos k117]
      rw [hop]
      rw [zst_mT (gW_tr gW_9 hro.1)]
      obtain ⟨hn1, hn2, hn3⟩ := hro.2.2 hro1
      have hgO := gO_W (gW_tr gW_9 hro.1)
      refine zv_lookup (off := 47) (tgt := 127) dX7_order_80 (by decide +kernel) (by rw [k117]; decide +kernel) (by decide) ?_
      refine zv_aload_n dX7_order_127 rfl ?_
      refine zv_callV (m_X7_cupComes l D B hm hS) ml_X7_132 in_X7_cupComes sel_X7_cupComes hm rfl rfl rfl rfl (Nat.le_of_ble_eq_true rfl) dX7_order_128 ⟨Nat.le_of_ble_eq_true rfl, Nat.le_of_ble_eq_true rfl⟩ ⟨Nat.le_refl _, Nat.le_refl _⟩ (zk_i ?_)
      exact zv_iretI dX7_order_131 rfl rfl rfl ⟨g2, rfl, hgO, hro.2.1⟩
  · have hlt := sg_pos (show sg T n p ≠ 0 by omega)
    refine zv_iload_n dX7_order_25 rfl ?_
    refine zv_bipush (v := 99) dX7_order_26 (by decide) ?_
    refine zv_icmp_eq (tgt := 52) dX7_order_28 (by decide) (fun h => absurd h (fun h => by rw [k115] at h; exact absurd h (by decide))) (fun _ => ?_)
    refine zv_iload_n dX7_order_31 rfl ?_
    refine zv_bipush (v := 117) dX7_order_32 (by decide) ?_
    refine zv_icmp_eq (tgt := 52) dX7_order_34 (by decide) (fun h => absurd h (fun h => by rw [k115] at h; exact absurd h (by decide))) (fun _ => ?_)
    refine zv_iload_n dX7_order_37 rfl ?_
    refine zv_bipush (v := 112) dX7_order_38 (by decide) ?_
    refine zv_icmp_eq (tgt := 52) dX7_order_40 (by decide) (fun h => absurd h (fun h => by rw [k115] at h; exact absurd h (by decide))) (fun _ => ?_)
    refine zv_iload_n dX7_order_43 rfl ?_
    refine zv_bipush (v := 115) dX7_order_44 (by decide) ?_
    refine zv_icmp_eq (tgt := 52) dX7_order_46 (by decide) (fun _ => ?_) (fun h => absurd (by rw [k115]; rfl) h)
    refine zv_aload_n dX7_order_52 rfl ?_
    refine zv_dup dX7_order_53 rfl ?_
    refine zv_getI hm rfl fl_X7_162 rfl dX7_order_54 ?_
    rw [zst_same, h9]
    refine zv_iconst (v := 1) dX7_order_57 (by decide) ?_
    refine zv_iadd dX7_order_58 ?_
    rw [nI_1]
    refine zv_putI (t := 8) hm rfl fl_X7_162 ft_X7_9 rfl dX7_order_59 ?_
    simp only [zst_same, zst_zst]
    refine zv_aload_n dX7_order_62 rfl ?_
    refine zv_iload_n dX7_order_63 rfl ?_
    refine zv_callV (m_X7_reads l D B (p := p) (g := upd (mG g r) 9 (nI (p + 1))) hm (tx_upd hX (Or.inl rfl)) rfl hlt (Or.inr (Or.inr (Or.inl ⟨k99, k117, k115⟩)))) ml_X7_177 in_X7_reads sel_X7_reads hm rfl rfl rfl rfl (Nat.le_of_ble_eq_true rfl) dX7_order_64 ⟨Nat.le_of_ble_eq_true rfl, Nat.le_of_ble_eq_true rfl⟩ ⟨Nat.le_refl _, Nat.le_refl _⟩ (zk_p fun G2 hG2 => ?_)
    obtain ⟨g2, rfl, hro⟩ := hG2
    refine zv_if_ne (tgt := 73) dX7_order_67 (by decide) (fun _ => ?_) (fun h => absurd h (by rw [hro1]; decide))
    refine zv_iload_n dX7_order_73 rfl ?_
    refine zv_if_ne (tgt := 79) dX7_order_74 (by decide) (fun _ => ?_) (fun h => absurd h (by decide))
    refine zv_iload_n dX7_order_79 rfl ?_
    rcases (show sg T n p = 115 by assumption) with hkk
    · have hop : opOrd r T n p = opSolve r (nI (rdO T n p).2.2.1) := by
        unfold opOrd
        rw [if_neg k99, if_neg k117, if_neg (by omega)]
      rw [hop]
      rw [zst_mT (gW_tr gW_9 hro.1)]
      obtain ⟨hn1, hn2, hn3⟩ := hro.2.2 hro1
      have hgO := gO_W (gW_tr gW_9 hro.1)
      refine zv_lookup (off := 52) (tgt := 132) dX7_order_80 (by decide +kernel) (by rw [k115]; decide +kernel) (by decide) ?_
      refine zv_aload_n dX7_order_132 rfl ?_
      refine zv_aload_n dX7_order_133 rfl ?_
      refine zv_getS (r := 9) hm rfl fl_X7_35 rfl dX7_order_134 ?_
      refine zv_iconst (v := 0) dX7_order_137 (by decide) ?_
      refine zv_iald (i := 9) hm rfl (zix_nI (i := 0) (by omega) (by decide)) dX7_order_138 ?_
      rw [show mT G m g2 r m (2616 + 0) = nI (rdO T n p).2.2.1 from (mT_o (by omega)).trans (hn2 k115)]
      refine zv_callV (m_X7_solves l D B hm hS _) ml_X7_139 in_X7_solves sel_X7_solves hm rfl rfl rfl rfl (Nat.le_of_ble_eq_true rfl) dX7_order_139 ⟨Nat.le_of_ble_eq_true rfl, Nat.le_of_ble_eq_true rfl⟩ ⟨Nat.le_refl _, Nat.le_refl _⟩ (zk_p fun G3 hG3 => ?_)
      obtain ⟨g3, hg3, rfl⟩ := hG3
      exact zv_iretI dX7_order_142 rfl rfl rfl ⟨g3, rfl, gO_F hgO hg3, (hg3 9 (by omega) (by omega)).trans hro.2.1⟩
  · have hlt := sg_pos (show sg T n p ≠ 0 by omega)
    refine zv_iload_n dX7_order_25 rfl ?_
    refine zv_bipush (v := 99) dX7_order_26 (by decide) ?_
    refine zv_icmp_eq (tgt := 52) dX7_order_28 (by decide) (fun h => absurd h (fun h => by rw [k112] at h; exact absurd h (by decide))) (fun _ => ?_)
    refine zv_iload_n dX7_order_31 rfl ?_
    refine zv_bipush (v := 117) dX7_order_32 (by decide) ?_
    refine zv_icmp_eq (tgt := 52) dX7_order_34 (by decide) (fun h => absurd h (fun h => by rw [k112] at h; exact absurd h (by decide))) (fun _ => ?_)
    refine zv_iload_n dX7_order_37 rfl ?_
    refine zv_bipush (v := 112) dX7_order_38 (by decide) ?_
    refine zv_icmp_eq (tgt := 52) dX7_order_40 (by decide) (fun _ => ?_) (fun h => absurd (by rw [k112]; rfl) h)
    refine zv_aload_n dX7_order_52 rfl ?_
    refine zv_dup dX7_order_53 rfl ?_
    refine zv_getI hm rfl fl_X7_162 rfl dX7_order_54 ?_
    rw [zst_same, h9]
    refine zv_iconst (v := 1) dX7_order_57 (by decide) ?_
    refine zv_iadd dX7_order_58 ?_
    rw [nI_1]
    refine zv_putI (t := 8) hm rfl fl_X7_162 ft_X7_9 rfl dX7_order_59 ?_
    simp only [zst_same, zst_zst]
    refine zv_aload_n dX7_order_62 rfl ?_
    refine zv_iload_n dX7_order_63 rfl ?_
    refine zv_callV (m_X7_reads l D B (p := p) (g := upd (mG g r) 9 (nI (p + 1))) hm (tx_upd hX (Or.inl rfl)) rfl hlt (Or.inr (Or.inr (Or.inr ⟨k99, k117, k115, k112⟩)))) ml_X7_177 in_X7_reads sel_X7_reads hm rfl rfl rfl rfl (Nat.le_of_ble_eq_true rfl) dX7_order_64 ⟨Nat.le_of_ble_eq_true rfl, Nat.le_of_ble_eq_true rfl⟩ ⟨Nat.le_refl _, Nat.le_refl _⟩ (zk_p fun G2 hG2 => ?_)
    obtain ⟨g2, rfl, hro⟩ := hG2
    refine zv_if_ne (tgt := 73) dX7_order_67 (by decide) (fun _ => ?_) (fun h => absurd h (by rw [hro1]; decide))
    refine zv_iload_n dX7_order_73 rfl ?_
    refine zv_if_ne (tgt := 79) dX7_order_74 (by decide) (fun _ => ?_) (fun h => absurd h (by decide))
    refine zv_iload_n dX7_order_79 rfl ?_
    rcases (show sg T n p = 112 by assumption) with hkk
    · have hop : opOrd r T n p = opPour r (nI (rdO T n p).2.2.1) (nI (rdO T n p).2.2.2.1) (nI (rdO T n p).2.2.2.2) := by
        unfold opOrd
        rw [if_neg k99, if_neg k117, if_pos k112]
      rw [hop]
      rw [zst_mT (gW_tr gW_9 hro.1)]
      obtain ⟨hn1, hn2, hn3⟩ := hro.2.2 hro1
      have hgO := gO_W (gW_tr gW_9 hro.1)
      refine zv_lookup (off := 63) (tgt := 143) dX7_order_80 (by decide +kernel) (by rw [k112]; decide +kernel) (by decide) ?_
      refine zv_aload_n dX7_order_143 rfl ?_
      refine zv_aload_n dX7_order_144 rfl ?_
      refine zv_getS (r := 9) hm rfl fl_X7_35 rfl dX7_order_145 ?_
      refine zv_iconst (v := 0) dX7_order_148 (by decide) ?_
      refine zv_iald (i := 9) hm rfl (zix_nI (i := 0) (by omega) (by decide)) dX7_order_149 ?_
      rw [show mT G m g2 r m (2616 + 0) = nI (rdO T n p).2.2.1 from (mT_o (by omega)).trans ((hn3 k112).1)]
      refine zv_aload_n dX7_order_150 rfl ?_
      refine zv_getS (r := 9) hm rfl fl_X7_35 rfl dX7_order_151 ?_
      refine zv_iconst (v := 1) dX7_order_154 (by decide) ?_
      refine zv_iald (i := 9) hm rfl (zix_nI (i := 1) (by omega) (by decide)) dX7_order_155 ?_
      rw [show mT G m g2 r m (2616 + 1) = nI (rdO T n p).2.2.2.1 from (mT_o (by omega)).trans ((hn3 k112).2.1)]
      refine zv_aload_n dX7_order_156 rfl ?_
      refine zv_getS (r := 9) hm rfl fl_X7_35 rfl dX7_order_157 ?_
      refine zv_iconst (v := 2) dX7_order_160 (by decide) ?_
      refine zv_iald (i := 9) hm rfl (zix_nI (i := 2) (by omega) (by decide)) dX7_order_161 ?_
      rw [show mT G m g2 r m (2616 + 2) = nI (rdO T n p).2.2.2.2 from (mT_o (by omega)).trans ((hn3 k112).2.2)]
      refine zv_callV (m_X7_pours l D B hm hS _ _ _) ml_X7_135 in_X7_pours sel_X7_pours hm rfl rfl rfl rfl (Nat.le_of_ble_eq_true rfl) dX7_order_162 ⟨Nat.le_of_ble_eq_true rfl, Nat.le_of_ble_eq_true rfl⟩ ⟨Nat.le_refl _, Nat.le_refl _⟩ (zk_p fun G3 hG3 => ?_)
      obtain ⟨g3, hg3, rfl⟩ := hG3
      exact zv_iretI dX7_order_165 rfl rfl rfl ⟨g3, rfl, gO_F hgO hg3, (hg3 9 (by omega) (by omega)).trans hro.2.1⟩
  · refine zv_iload_n dX7_order_25 rfl ?_
    refine zv_bipush (v := 99) dX7_order_26 (by decide) ?_
    refine zv_icmp_eq (tgt := 52) dX7_order_28 (by decide) (fun h => absurd h (fun h => k99 ((nI_eq (by omega) (by decide)).mp h))) (fun _ => ?_)
    refine zv_iload_n dX7_order_31 rfl ?_
    refine zv_bipush (v := 117) dX7_order_32 (by decide) ?_
    refine zv_icmp_eq (tgt := 52) dX7_order_34 (by decide) (fun h => absurd h (fun h => k117 ((nI_eq (by omega) (by decide)).mp h))) (fun _ => ?_)
    refine zv_iload_n dX7_order_37 rfl ?_
    refine zv_bipush (v := 112) dX7_order_38 (by decide) ?_
    refine zv_icmp_eq (tgt := 52) dX7_order_40 (by decide) (fun h => absurd h (fun h => k112 ((nI_eq (by omega) (by decide)).mp h))) (fun _ => ?_)
    refine zv_iload_n dX7_order_43 rfl ?_
    refine zv_bipush (v := 115) dX7_order_44 (by decide) ?_
    refine zv_icmp_eq (tgt := 52) dX7_order_46 (by decide) (fun h => absurd h (fun h => k115 ((nI_eq (by omega) (by decide)).mp h))) (fun _ => ?_)
    refine zv_bipush (v := (-3)) dX7_order_49 (by decide) ?_
    have hr : rdO T n p = (false, p, 0, 0, 1) := by
      unfold rdO
      rw [if_neg k99, if_neg k117, if_neg k115, if_neg k112]
    rw [hr] at hro1
    cases hro1

set_option maxRecDepth 100000 in
set_option maxHeartbeats 4000000 in
theorem m_order1 (l : Launch) (D : zD) (B : Nat) {L : zL} {nx : Nat} {G : zG} {m n p b : Nat} {g r : Nat → Int32} {T : Nat → Nat} (hm : (m, 8) ∈ L) (hX0 : tx T n g) (h90 : g 9 = nI p) (hp : p ≤ n) (hro1 : (rdO T n p).1 = true) (hS : SI b r) : zMet l D B yX7_order cX7_order 3 (some .int) 6 144 0 0 [.ref m, .int 1] L nx (zst G m (mG g r)) (zI (opOrd r T n p).1 L nx (fun G1 => ∃ g2, G1 = mT G m g2 (opOrd r T n p).2 ∧ gO g g2 ∧ g2 9 = nI (rdO T n p).2.1)) := by
  refine zMet_of (own := RX7) (mn := "order") [some (.ref m), some (.int 1), none] (by decide +kernel) rfl rfl rfl (Nat.le_of_ble_eq_true rfl) ?_
  show zV l (fun _ => True) D B RX7 "order" cX7_order 3 (some .int) (zrm 6 144 0 0) (zN (zI (opOrd r T n p).1 L nx (fun G1 => ∃ g2, G1 = mT G m g2 (opOrd r T n p).2 ∧ gO g g2 ∧ g2 9 = nI (rdO T n p).2.1))) 0 0 L nx 0 [some (.ref m), some (.int 1), none] [] ((zst G m (mG g r)))
  have hX := tx_mG (r := r) hX0
  have h9 : mG g r 9 = nI p := (mG_o (by omega)).trans h90
  have hn80 := hX.2.1
  have hsl := tx_sg hX (i := p)
  refine zv_aload_n dX7_order_0 rfl ?_
  refine zv_getI hm rfl fl_X7_162 rfl dX7_order_1 ?_
  refine zv_aload_n dX7_order_4 rfl ?_
  refine zv_getI hm rfl fl_X7_148 rfl dX7_order_5 ?_
  rw [zst_same, h9, hX.1]
  refine zv_icmp_ge (tgt := 23) dX7_order_8 (by decide) (fun c8 => ?_) (fun c8 => ?_)
  · have hge : n ≤ p := (nI_leI (by omega) (by omega)).mp c8
    have e0 : sg T n p = 0 := if_neg (by omega)
    refine zv_iconst (v := 0) dX7_order_23 (by decide) ?_
    have := sg_m_order1 l D B (nx := nx) (G := G) hm hX0 h90 hp hro1 hS
    rw [e0] at this
    exact this
  · have hlt : p < n := by
      rcases Nat.lt_or_ge p n with h | h
      · exact h
      · exact absurd (nI_le h (by omega)) c8
    have hT := hX.2.2 p hlt
    have e0 : sg T n p = T p := if_pos hlt
    refine zv_aload_n dX7_order_11 rfl ?_
    refine zv_getS (r := 7) hm rfl fl_X7_29 rfl dX7_order_12 ?_
    refine zv_aload_n dX7_order_15 rfl ?_
    refine zv_getI hm rfl fl_X7_162 rfl dX7_order_16 ?_
    rw [zst_same, h9]
    refine zv_iald (i := 7) hm rfl (zix_nI (by omega) (by decide)) dX7_order_19 ?_
    rw [zst_same, hT.1]
    refine zv_goto (tgt := 24) dX7_order_20 (by decide) ?_
    have := sg_m_order1 l D B (nx := nx) (G := G) hm hX0 h90 hp hro1 hS
    rw [e0] at this
    exact this

/-- what is left when an order has been read -/
def wwL (T : Nat → Nat) (n q k : Nat) : Int32 := if n ≤ q then -6 else if sg T n q = 59 then ffL T n (q + 1) k else nI q
theorem ffL_s {T : Nat → Nat} {n p k : Nat} : ffL T n p (k + 1) = if (rdO T n p).1 = false then nI (rdO T n p).2.1 else wwL T n (rdO T n p).2.1 k := rfl
theorem nI_m6 {q : Nat} (h : q < 2 ^ 31) : ¬ nI q = -6 := fun e => nI_pos h (by rw [e]; decide)

set_option maxRecDepth 100000 in
set_option maxHeartbeats 4000000 in
theorem le_X7_isWell (l : Launch) (D : zD) (B : Nat) {L : zL} {nx : Nat} {G : zG} {m n : Nat} {g0 : Nat → Int32} {T : Nat → Nat} (hm : (m, 8) ∈ L) (hX0 : tx T n g0) {z : Int32} {g : Nat → Int32} (hW : gW g0 g) (hz : ¬ z = -6) (h9 : g 9 = z) : zV l (fun _ => True) D B RX7 "isWell" cX7_isWell 2 (some .boolean) (zrm 7 166 0 0) (zN (zI (bI (decide (z = -6))) L nx (fun G1 => ∃ g', G1 = zst G m g' ∧ gW g0 g' ∧ (¬ z = -6 → g' 9 = z)))) 0 0 L nx 19 [some (.ref m), some (.int 0)] [] ((zst G m g)) := by
  refine zv_iload_n dX7_isWell_19 rfl ?_
  refine zv_if_eq (tgt := 60) dX7_isWell_20 (by decide) (fun _ => ?_) (fun h => absurd (rfl) h)
  refine zv_iload_n dX7_isWell_60 rfl ?_
  exact zv_iretI dX7_isWell_61 rfl rfl (by rw [decide_eq_false hz]; rfl) ⟨g, rfl, hW, fun _ => h9⟩

set_option maxRecDepth 100000 in
set_option maxHeartbeats 4000000 in
theorem lp_X7_isWell (l : Launch) (D : zD) (B : Nat) {L : zL} {nx : Nat} {G : zG} {m n : Nat} {g0 : Nat → Int32} {T : Nat → Nat} (hm : (m, 8) ∈ L) (hX0 : tx T n g0) {z : Int32} : ∀ (k q : Nat) (g : Nat → Int32), q ≤ n → n < q + 1 + 2 * k → gW g0 g → g 9 = nI q → wwL T n q k = z → zV l (fun _ => True) D B RX7 "isWell" cX7_isWell 2 (some .boolean) (zrm 7 166 0 0) (zN (zI (bI (decide (z = -6))) L nx (fun G1 => ∃ g', G1 = zst G m g' ∧ gW g0 g' ∧ (¬ z = -6 → g' 9 = z)))) 0 0 L nx 19 [some (.ref m), some (.int 1)] [] ((zst G m g)) := by
  have hn80 := hX0.2.1
  intro k
  induction k with
  | zero =>
    intro q g hq hk hW h9 hz
    have hX := tx_of hX0 hW
    unfold wwL at hz
    refine zv_iload_n dX7_isWell_19 rfl ?_
    refine zv_if_eq (tgt := 60) dX7_isWell_20 (by decide) (fun h => absurd h (by decide)) (fun _ => ?_)
    refine zv_aload_n dX7_isWell_23 rfl ?_
    refine zv_getI hm rfl fl_X7_162 rfl dX7_isWell_24 ?_
    refine zv_aload_n dX7_isWell_27 rfl ?_
    refine zv_getI hm rfl fl_X7_148 rfl dX7_isWell_28 ?_
    rw [zst_same, h9, hX.1]
    refine zv_icmp_ge (tgt := 60) dX7_isWell_31 (by decide) (fun c31 => ?_) (fun c31 => ?_)
    · have hge : n ≤ q := (nI_leI (by omega) (by omega)).mp c31
      rw [if_pos hge] at hz
      refine zv_iload_n dX7_isWell_60 rfl ?_
      exact zv_iretI dX7_isWell_61 rfl rfl (by rw [← hz]; rfl) ⟨g, rfl, hW, fun h => absurd hz.symm h⟩
    · exfalso
      have : q < n := by
        rcases Nat.lt_or_ge q n with h | h
        · exact h
        · exact absurd (nI_le h (by omega)) c31
      omega
  | succ k ih =>
    intro q g hq hk hW h9 hz
    have hX := tx_of hX0 hW
    unfold wwL at hz
    refine zv_iload_n dX7_isWell_19 rfl ?_
    refine zv_if_eq (tgt := 60) dX7_isWell_20 (by decide) (fun h => absurd h (by decide)) (fun _ => ?_)
    refine zv_aload_n dX7_isWell_23 rfl ?_
    refine zv_getI hm rfl fl_X7_162 rfl dX7_isWell_24 ?_
    refine zv_aload_n dX7_isWell_27 rfl ?_
    refine zv_getI hm rfl fl_X7_148 rfl dX7_isWell_28 ?_
    rw [zst_same, h9, hX.1]
    refine zv_icmp_ge (tgt := 60) dX7_isWell_31 (by decide) (fun c31 => ?_) (fun c31 => ?_)
    · have hge : n ≤ q := (nI_leI (by omega) (by omega)).mp c31
      rw [if_pos hge] at hz
      refine zv_iload_n dX7_isWell_60 rfl ?_
      exact zv_iretI dX7_isWell_61 rfl rfl (by rw [← hz]; rfl) ⟨g, rfl, hW, fun h => absurd hz.symm h⟩
    · have hlt : q < n := by
        rcases Nat.lt_or_ge q n with h | h
        · exact h
        · exact absurd (nI_le h (by omega)) c31
      rw [if_neg (by omega)] at hz
      refine zv_aload_n dX7_isWell_34 rfl ?_
      refine zv_bipush (v := 59) dX7_isWell_35 (by decide) ?_
      by_cases hs : sg T n q = 59
      · rw [if_pos hs] at hz
        refine zv_callV (m_takes_y l D B (c := 59) hm hX h9 hq (by decide) (by decide) hs) ml_X7_174 in_X7_takes sel_X7_takes hm rfl rfl rfl rfl (Nat.le_of_ble_eq_true rfl) dX7_isWell_37 ⟨Nat.le_of_ble_eq_true rfl, Nat.le_of_ble_eq_true rfl⟩ ⟨Nat.le_refl _, Nat.le_refl _⟩ (zk_i ?_)
        refine zv_if_eq (tgt := 55) dX7_isWell_40 (by decide) (fun h => absurd h (by decide)) (fun _ => ?_)
        refine zv_aload_n dX7_isWell_43 rfl ?_
        refine zv_iconst (v := 0) dX7_isWell_44 (by decide) ?_
        refine zv_callV (m_order0 l D B (p := q + 1) hm (tx_upd hX (Or.inl rfl)) rfl (by omega)) ml_X7_180 in_X7_order sel_X7_order hm rfl rfl rfl rfl (Nat.le_of_ble_eq_true rfl) dX7_isWell_45 ⟨Nat.le_of_ble_eq_true rfl, Nat.le_of_ble_eq_true rfl⟩ ⟨Nat.le_refl _, Nat.le_refl _⟩ (zk_p fun G2 hG2 => ?_)
        obtain ⟨g2, rfl, hro⟩ := hG2
        have hW2 := gW_tr hW (gW_tr gW_9 hro.1)
        have hle := rdO_le (T := T) (n := n) (p := q + 1) (by omega)
        rw [ffL_s] at hz
        cases hb : (rdO T n (q + 1)).1
        · rw [hb, if_pos rfl] at hz
          refine zv_if_ne (tgt := 55) dX7_isWell_48 (by decide) (fun _ => ?_) (fun h => absurd h (show ¬ (-3 : Int32) = 0 from by decide))
          refine zv_iconst (v := 0) dX7_isWell_55 (by decide) ?_
          refine zv_istore_n dX7_isWell_56 (by decide) rfl ?_
          refine zv_goto (tgt := 19) dX7_isWell_57 (by decide) ?_
          exact le_X7_isWell l D B hm hX0 hW2 (by rw [← hz]; exact nI_m6 (by omega)) (hro.2.1.trans hz)
        · rw [hb, if_neg (by simp)] at hz
          refine zv_if_ne (tgt := 55) dX7_isWell_48 (by decide) (fun h => absurd (rfl) h) (fun _ => ?_)
          refine zv_iconst (v := 1) dX7_isWell_51 (by decide) ?_
          refine zv_goto (tgt := 56) dX7_isWell_52 (by decide) ?_
          refine zv_istore_n dX7_isWell_56 (by decide) rfl ?_
          refine zv_goto (tgt := 19) dX7_isWell_57 (by decide) ?_
          exact ih _ _ hle.1 (by have := hle.2.2 hb; omega) hW2 hro.2.1 hz
      · rw [if_neg hs] at hz
        refine zv_callV (m_takes_n l D B (c := 59) hm hX h9 hq (by decide) (by decide) hs) ml_X7_174 in_X7_takes sel_X7_takes hm rfl rfl rfl rfl (Nat.le_of_ble_eq_true rfl) dX7_isWell_37 ⟨Nat.le_of_ble_eq_true rfl, Nat.le_of_ble_eq_true rfl⟩ ⟨Nat.le_refl _, Nat.le_refl _⟩ (zk_i ?_)
        refine zv_if_eq (tgt := 55) dX7_isWell_40 (by decide) (fun _ => ?_) (fun h => absurd (rfl) h)
        refine zv_iconst (v := 0) dX7_isWell_55 (by decide) ?_
        refine zv_istore_n dX7_isWell_56 (by decide) rfl ?_
        refine zv_goto (tgt := 19) dX7_isWell_57 (by decide) ?_
        exact le_X7_isWell l D B hm hX0 hW (by rw [← hz]; exact nI_m6 (by omega)) (h9.trans hz)

set_option maxRecDepth 100000 in
set_option maxHeartbeats 4000000 in
theorem m_X7_isWell (l : Launch) (D : zD) (B : Nat) {L : zL} {nx : Nat} {G : zG} {m n : Nat} {g0 : Nat → Int32} {T : Nat → Nat} (hm : (m, 8) ∈ L) (hX0 : tx T n g0) : zMet l D B yX7_isWell cX7_isWell 2 (some .boolean) 7 166 0 0 [.ref m] L nx (zst G m g0) (zI (bI (decide (ffL T n 0 80 = -6))) L nx (fun G1 => ∃ g', G1 = zst G m g' ∧ gW g0 g' ∧ (¬ ffL T n 0 80 = -6 → g' 9 = ffL T n 0 80))) := by
  refine zMet_of (own := RX7) (mn := "isWell") [some (.ref m), none] (by decide +kernel) rfl rfl rfl (Nat.le_of_ble_eq_true rfl) ?_
  show zV l (fun _ => True) D B RX7 "isWell" cX7_isWell 2 (some .boolean) (zrm 7 166 0 0) (zN (zI (bI (decide (ffL T n 0 80 = -6))) L nx (fun G1 => ∃ g', G1 = zst G m g' ∧ gW g0 g' ∧ (¬ ffL T n 0 80 = -6 → g' 9 = ffL T n 0 80)))) 0 0 L nx 0 [some (.ref m), none] [] ((zst G m g0))
  have hn80 := hX0.2.1
  refine zv_aload_n dX7_isWell_0 rfl ?_
  refine zv_iconst (v := 0) dX7_isWell_1 (by decide) ?_
  refine zv_putI (t := 8) hm rfl fl_X7_162 ft_X7_9 rfl dX7_isWell_2 ?_
  simp only [zst_same, zst_zst]
  refine zv_aload_n dX7_isWell_5 rfl ?_
  refine zv_iconst (v := 0) dX7_isWell_6 (by decide) ?_
  refine zv_callV (m_order0 l D B (p := 0) hm (tx_upd hX0 (Or.inl rfl)) rfl (by omega)) ml_X7_180 in_X7_order sel_X7_order hm rfl rfl rfl rfl (Nat.le_of_ble_eq_true rfl) dX7_isWell_7 ⟨Nat.le_of_ble_eq_true rfl, Nat.le_of_ble_eq_true rfl⟩ ⟨Nat.le_refl _, Nat.le_refl _⟩ (zk_p fun G2 hG2 => ?_)
  obtain ⟨g2, rfl, hro⟩ := hG2
  have hW2 := gW_tr gW_9 hro.1
  have hle := rdO_le (T := T) (n := n) (p := 0) (by omega)
  have hz : ffL T n 0 80 = if (rdO T n 0).1 = false then nI (rdO T n 0).2.1 else wwL T n (rdO T n 0).2.1 79 := rfl
  cases hb : (rdO T n 0).1
  · rw [hb, if_pos rfl] at hz
    refine zv_if_ne (tgt := 17) dX7_isWell_10 (by decide) (fun _ => ?_) (fun h => absurd h (show ¬ (-3 : Int32) = 0 from by decide))
    refine zv_iconst (v := 0) dX7_isWell_17 (by decide) ?_
    refine zv_istore_n dX7_isWell_18 (by decide) rfl ?_
    exact le_X7_isWell l D B hm hX0 hW2 (by rw [hz]; exact nI_m6 (by omega)) (hro.2.1.trans hz.symm)
  · rw [hb, if_neg (by simp)] at hz
    refine zv_if_ne (tgt := 17) dX7_isWell_10 (by decide) (fun h => absurd (rfl) h) (fun _ => ?_)
    refine zv_iconst (v := 1) dX7_isWell_13 (by decide) ?_
    refine zv_goto (tgt := 18) dX7_isWell_14 (by decide) ?_
    refine zv_istore_n dX7_isWell_18 (by decide) rfl ?_
    exact lp_X7_isWell l D B hm hX0 79 _ _ hle.1 (by omega) hW2 hro.2.1 hz.symm
