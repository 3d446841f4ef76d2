def gW (g g' : Nat → Int32) : Prop := ∀ j, j ≠ 9 → ¬ (2616 ≤ j ∧ j < 2619) → g' j = g j
theorem gW_rf {g : Nat → Int32} : gW g g := fun _ _ _ => rfl
theorem gW_tr {g g1 g2 : Nat → Int32} (h1 : gW g g1) (h2 : gW g1 g2) : gW g g2 := fun j a b => (h2 j a b).trans (h1 j a b)
theorem gW_9 {g : Nat → Int32} {v : Int32} : gW g (upd g 9 v) := fun j a _ => if_neg a
/-- what reading an order leaves -/
def roM (T : Nat → Nat) (n p : Nat) (g g' : Nat → Int32) : Prop := gW g g' ∧ g' 9 = nI (rdO T n p).2.1 ∧
  ((rdO T n p).1 = true → (sg T n p = 99 → g' 2616 = nI (rdO T n p).2.2.2.1) ∧ (sg T n p = 115 → g' 2616 = nI (rdO T n p).2.2.1) ∧
    (sg T n p = 112 → g' 2616 = nI (rdO T n p).2.2.1 ∧ g' 2617 = nI (rdO T n p).2.2.2.1 ∧ g' 2618 = nI (rdO T n p).2.2.2.2))
theorem roM_9 {T : Nat → Nat} {n p : Nat} {g g' : Nat → Int32} {v : Int32} (h : roM T n p (upd g 9 v) g') : roM T n p g g' := ⟨gW_tr gW_9 h.1, h.2⟩

set_option maxRecDepth 100000 in
set_option maxHeartbeats 4000000 in
theorem m_X7_reads (l : Launch) (D : zD) (B : Nat) {L : zL} {nx : Nat} {G : zG} {m n p : Nat} {g : Nat → Int32} {T : Nat → Nat} (hm : (m, 8) ∈ L) (hX : tx T n g) (h9 : g 9 = nI (p + 1)) (hlt : p < n) (hk : sg T n p = 99 ∨ (¬ sg T n p = 99 ∧ sg T n p = 117) ∨ (¬ sg T n p = 99 ∧ ¬ sg T n p = 117 ∧ sg T n p = 115) ∨ (¬ sg T n p = 99 ∧ ¬ sg T n p = 117 ∧ ¬ sg T n p = 115 ∧ sg T n p = 112)) : zMet l D B yX7_reads cX7_reads 2 (some .boolean) 4 87 0 0 [.ref m, .int (nI (sg T n p))] L nx (zst G m g) (zI (bI (rdO T n p).1) L nx (fun G1 => ∃ g', G1 = zst G m g' ∧ roM T n p g g')) := by
  refine zMet_of (own := RX7) (mn := "reads") [some (.ref m), some (.int (nI (sg T n p)))] (by decide +kernel) rfl rfl rfl (Nat.le_of_ble_eq_true rfl) ?_
  show zV l (fun _ => True) D B RX7 "reads" cX7_reads 2 (some .boolean) (zrm 4 87 0 0) (zN (zI (bI (rdO T n p).1) L nx (fun G1 => ∃ g', G1 = zst G m g' ∧ roM T n p g g'))) 0 0 L nx 0 [some (.ref m), some (.int (nI (sg T n p)))] [] ((zst G m g))
  have hn80 := hX.2.1
  refine zv_aload_n dX7_reads_0 rfl ?_
  refine zv_getS (r := 9) hm rfl fl_X7_35 rfl dX7_reads_1 ?_
  refine zv_iconst (v := 2) dX7_reads_4 (by decide) ?_
  refine zv_iconst (v := 1) dX7_reads_5 (by decide) ?_
  refine zv_iast (i := 9) hm rfl (zix_nI (i := 2) (by omega) (by decide)) dX7_reads_6 ?_
  simp only [zst_same, zst_zst]
  refine zv_iload_n dX7_reads_7 rfl ?_
  rcases hk with k99 | ⟨k99, k117⟩ | ⟨k99, k117, k115⟩ | ⟨k99, k117, k115, k112⟩
  · refine zv_lookup (off := 38) (tgt := 46) dX7_reads_8 (by decide +kernel) (by rw [k99]; decide +kernel) (by decide) ?_
    refine zv_aload_n dX7_reads_46 rfl ?_
    refine zv_iconst (v := 0) dX7_reads_47 (by decide) ?_
    cases hz : zdg T n (p + 1)
    · refine zv_callV (m_number_n l D B (p := p + 1) (j := 0) hm (by repeat (first | exact hX | refine tx_upd ?_ (by omega))) (by first | rfl | exact h9) (by omega) (by decide) hz) ml_X7_172 in_X7_number sel_X7_number hm rfl rfl rfl rfl (Nat.le_of_ble_eq_true rfl) dX7_reads_48 ⟨Nat.le_of_ble_eq_true rfl, Nat.le_of_ble_eq_true rfl⟩ ⟨Nat.le_refl _, Nat.le_refl _⟩ (zk_i ?_)
      have hr : rdO T n p = (false, p + 1, 0, 0, 1) := by
        unfold rdO
        rw [if_pos k99, hz]; rfl
      refine zv_iretI dX7_reads_51 rfl rfl (by rw [hr]; rfl) ⟨_, rfl, ?_⟩
      unfold roM gW
      rw [hr]
      refine ⟨fun j h1 h2 => by simp only [upd]; (repeat rw [if_neg (by omega)]), by first | rfl | exact h9, fun hb => ?_⟩
      cases hb
    · refine zv_callV (m_number_y l D B (p := p + 1) (j := 0) hm (by repeat (first | exact hX | refine tx_upd ?_ (by omega))) (by first | rfl | exact h9) (by omega) (by decide) hz) ml_X7_172 in_X7_number sel_X7_number hm rfl rfl rfl rfl (Nat.le_of_ble_eq_true rfl) dX7_reads_48 ⟨Nat.le_of_ble_eq_true rfl, Nat.le_of_ble_eq_true rfl⟩ ⟨Nat.le_refl _, Nat.le_refl _⟩ (zk_i ?_)
      have hr : rdO T n p = (true, (rdN T n (p + 1)).2, 0, (rdN T n (p + 1)).1, 1) := by
        unfold rdO
        rw [if_pos k99, hz]; rfl
      refine zv_iretI dX7_reads_51 rfl rfl (by rw [hr]; rfl) ⟨_, rfl, ?_⟩
      unfold roM gW
      rw [hr]
      refine ⟨fun j h1 h2 => by simp only [upd]; (repeat rw [if_neg (by omega)]), by first | rfl | exact h9, fun hb => ?_⟩
      exact ⟨fun h => by first | rfl | (exfalso; omega), fun h => by first | rfl | (exfalso; omega), fun h => by first | exact ⟨rfl, rfl, rfl⟩ | (exfalso; omega)⟩
  · refine zv_lookup (off := 36) (tgt := 44) dX7_reads_8 (by decide +kernel) (by rw [k117]; decide +kernel) (by decide) ?_
    refine zv_iconst (v := 1) dX7_reads_44 (by decide) ?_
    have hr : rdO T n p = (true, p + 1, 0, 0, 1) := by
      unfold rdO
      rw [if_neg k99, if_pos k117]
    refine zv_iretI dX7_reads_45 rfl rfl (by rw [hr]; rfl) ⟨_, rfl, ?_⟩
    unfold roM gW
    rw [hr]
    refine ⟨fun j h1 h2 => by simp only [upd]; (repeat rw [if_neg (by omega)]), by first | rfl | exact h9, fun hb => ?_⟩
    exact ⟨fun h => by first | rfl | (exfalso; omega), fun h => by first | rfl | (exfalso; omega), fun h => by first | exact ⟨rfl, rfl, rfl⟩ | (exfalso; omega)⟩
  · refine zv_lookup (off := 44) (tgt := 52) dX7_reads_8 (by decide +kernel) (by rw [k115]; decide +kernel) (by decide) ?_
    refine zv_aload_n dX7_reads_52 rfl ?_
    refine zv_iconst (v := 0) dX7_reads_53 (by decide) ?_
    cases hz : zdg T n (p + 1)
    · refine zv_callV (m_digit_n l D B (p := p + 1) (j := 0) hm (by repeat (first | exact hX | refine tx_upd ?_ (by omega))) (by first | rfl | exact h9) (by omega) (by decide) hz) ml_X7_169 in_X7_digit sel_X7_digit hm rfl rfl rfl rfl (Nat.le_of_ble_eq_true rfl) dX7_reads_54 ⟨Nat.le_of_ble_eq_true rfl, Nat.le_of_ble_eq_true rfl⟩ ⟨Nat.le_refl _, Nat.le_refl _⟩ (zk_i ?_)
      have hr : rdO T n p = (false, p + 1, 0, 0, 1) := by
        unfold rdO
        rw [if_neg k99, if_neg k117, if_pos k115, hz]; rfl
      refine zv_iretI dX7_reads_57 rfl rfl (by rw [hr]; rfl) ⟨_, rfl, ?_⟩
      unfold roM gW
      rw [hr]
      refine ⟨fun j h1 h2 => by simp only [upd]; (repeat rw [if_neg (by omega)]), by first | rfl | exact h9, fun hb => ?_⟩
      cases hb
    · refine zv_callV (m_digit_y l D B (p := p + 1) (j := 0) hm (by repeat (first | exact hX | refine tx_upd ?_ (by omega))) (by first | rfl | exact h9) (by omega) (by decide) hz) ml_X7_169 in_X7_digit sel_X7_digit hm rfl rfl rfl rfl (Nat.le_of_ble_eq_true rfl) dX7_reads_54 ⟨Nat.le_of_ble_eq_true rfl, Nat.le_of_ble_eq_true rfl⟩ ⟨Nat.le_refl _, Nat.le_refl _⟩ (zk_i ?_)
      have hr : rdO T n p = (true, p + 2, sg T n (p + 1) - 48, 0, 1) := by
        unfold rdO
        rw [if_neg k99, if_neg k117, if_pos k115, hz]; rfl
      refine zv_iretI dX7_reads_57 rfl rfl (by rw [hr]; rfl) ⟨_, rfl, ?_⟩
      unfold roM gW
      rw [hr]
      refine ⟨fun j h1 h2 => by simp only [upd]; (repeat rw [if_neg (by omega)]), by first | rfl | exact h9, fun hb => ?_⟩
      exact ⟨fun h => by first | rfl | (exfalso; omega), fun h => by first | rfl | (exfalso; omega), fun h => by first | exact ⟨rfl, rfl, rfl⟩ | (exfalso; omega)⟩
  · refine zv_lookup (off := 50) (tgt := 58) dX7_reads_8 (by decide +kernel) (by rw [k112]; decide +kernel) (by decide) ?_
    refine zv_aload_n dX7_reads_58 rfl ?_
    refine zv_iconst (v := 0) dX7_reads_59 (by decide) ?_
    cases hz : zdg T n (p + 1)
    · refine zv_callV (m_digit_n l D B (p := p + 1) (j := 0) hm (by repeat (first | exact hX | refine tx_upd ?_ (by omega))) (by first | rfl | exact h9) (by omega) (by decide) hz) ml_X7_169 in_X7_digit sel_X7_digit hm rfl rfl rfl rfl (Nat.le_of_ble_eq_true rfl) dX7_reads_60 ⟨Nat.le_of_ble_eq_true rfl, Nat.le_of_ble_eq_true rfl⟩ ⟨Nat.le_refl _, Nat.le_refl _⟩ (zk_i ?_)
      refine zv_if_eq (tgt := 104) dX7_reads_63 (by decide) (fun _ => ?_) (fun h => absurd (rfl) h)
      refine zv_iconst (v := 0) dX7_reads_104 (by decide) ?_
      have hr : rdO T n p = (false, p + 1, 0, 0, 1) := by
        unfold rdO
        rw [if_neg k99, if_neg k117, if_neg k115, if_pos k112, hz]; rfl
      refine zv_iretI dX7_reads_105 rfl rfl (by rw [hr]; rfl) ⟨_, rfl, ?_⟩
      unfold roM gW
      rw [hr]
      refine ⟨fun j h1 h2 => by simp only [upd]; (repeat rw [if_neg (by omega)]), by first | rfl | exact h9, fun hb => ?_⟩
      cases hb
    · refine zv_callV (m_digit_y l D B (p := p + 1) (j := 0) hm (by repeat (first | exact hX | refine tx_upd ?_ (by omega))) (by first | rfl | exact h9) (by omega) (by decide) hz) ml_X7_169 in_X7_digit sel_X7_digit hm rfl rfl rfl rfl (Nat.le_of_ble_eq_true rfl) dX7_reads_60 ⟨Nat.le_of_ble_eq_true rfl, Nat.le_of_ble_eq_true rfl⟩ ⟨Nat.le_refl _, Nat.le_refl _⟩ (zk_i ?_)
      refine zv_if_eq (tgt := 104) dX7_reads_63 (by decide) (fun h => absurd h (by decide)) (fun _ => ?_)
      refine zv_aload_n dX7_reads_66 rfl ?_
      refine zv_bipush (v := 46) dX7_reads_67 (by decide) ?_
      have hd1 := zdg_lt hz
      by_cases hs : sg T n (p + 2) = 46
      · refine zv_callV (m_takes_y l D B (p := p + 2) (c := 46) hm (by repeat (first | exact hX | refine tx_upd ?_ (by omega))) (by first | rfl | exact h9) (by omega) (by decide) (by decide) hs) ml_X7_174 in_X7_takes sel_X7_takes hm rfl rfl rfl rfl (Nat.le_of_ble_eq_true rfl) dX7_reads_69 ⟨Nat.le_of_ble_eq_true rfl, Nat.le_of_ble_eq_true rfl⟩ ⟨Nat.le_refl _, Nat.le_refl _⟩ (zk_i ?_)
        have hd2 := sg_pos (show sg T n (p + 2) ≠ 0 by omega)
        refine zv_if_eq (tgt := 104) dX7_reads_72 (by decide) (fun h => absurd h (by decide)) (fun _ => ?_)
        refine zv_aload_n dX7_reads_75 rfl ?_
        refine zv_iconst (v := 1) dX7_reads_76 (by decide) ?_
        cases hz3 : zdg T n (p + 3)
        · refine zv_callV (m_number_n l D B (p := p + 3) (j := 1) hm (by repeat (first | exact hX | refine tx_upd ?_ (by omega))) (by first | rfl | exact h9) (by omega) (by decide) hz3) ml_X7_172 in_X7_number sel_X7_number hm rfl rfl rfl rfl (Nat.le_of_ble_eq_true rfl) dX7_reads_77 ⟨Nat.le_of_ble_eq_true rfl, Nat.le_of_ble_eq_true rfl⟩ ⟨Nat.le_refl _, Nat.le_refl _⟩ (zk_i ?_)
          refine zv_if_eq (tgt := 104) dX7_reads_80 (by decide) (fun _ => ?_) (fun h => absurd (rfl) h)
          refine zv_iconst (v := 0) dX7_reads_104 (by decide) ?_
          have hr : rdO T n p = (false, p + 3, 0, 0, 1) := by
            unfold rdO
            rw [if_neg k99, if_neg k117, if_neg k115, if_pos k112, hz, if_pos hs, hz3]; rfl
          refine zv_iretI dX7_reads_105 rfl rfl (by rw [hr]; rfl) ⟨_, rfl, ?_⟩
          unfold roM gW
          rw [hr]
          refine ⟨fun j h1 h2 => by simp only [upd]; (repeat rw [if_neg (by omega)]), by first | rfl | exact h9, fun hb => ?_⟩
          cases hb
        · refine zv_callV (m_number_y l D B (p := p + 3) (j := 1) hm (by repeat (first | exact hX | refine tx_upd ?_ (by omega))) (by first | rfl | exact h9) (by omega) (by decide) hz3) ml_X7_172 in_X7_number sel_X7_number hm rfl rfl rfl rfl (Nat.le_of_ble_eq_true rfl) dX7_reads_77 ⟨Nat.le_of_ble_eq_true rfl, Nat.le_of_ble_eq_true rfl⟩ ⟨Nat.le_refl _, Nat.le_refl _⟩ (zk_i ?_)
          have hrn := rdN_le hz3
          refine zv_if_eq (tgt := 104) dX7_reads_80 (by decide) (fun h => absurd h (by decide)) (fun _ => ?_)
          refine zv_aload_n dX7_reads_83 rfl ?_
          refine zv_bipush (v := 42) dX7_reads_84 (by decide) ?_
          by_cases hs4 : sg T n (rdN T n (p + 3)).2 = 42
          · refine zv_callV (m_takes_y l D B (p := (rdN T n (p + 3)).2) (c := 42) hm (by repeat (first | exact hX | refine tx_upd ?_ (by omega))) (by first | rfl | exact h9) (by omega) (by decide) (by decide) hs4) ml_X7_174 in_X7_takes sel_X7_takes hm rfl rfl rfl rfl (Nat.le_of_ble_eq_true rfl) dX7_reads_86 ⟨Nat.le_of_ble_eq_true rfl, Nat.le_of_ble_eq_true rfl⟩ ⟨Nat.le_refl _, Nat.le_refl _⟩ (zk_i ?_)
            have hd4 := sg_pos (show sg T n (rdN T n (p + 3)).2 ≠ 0 by omega)
            refine zv_if_eq (tgt := 100) dX7_reads_89 (by decide) (fun h => absurd h (by decide)) (fun _ => ?_)
            refine zv_aload_n dX7_reads_92 rfl ?_
            refine zv_iconst (v := 2) dX7_reads_93 (by decide) ?_
            cases hz5 : zdg T n ((rdN T n (p + 3)).2 + 1)
            · refine zv_callV (m_number_n l D B (p := (rdN T n (p + 3)).2 + 1) (j := 2) hm (by repeat (first | exact hX | refine tx_upd ?_ (by omega))) (by first | rfl | exact h9) (by omega) (by decide) hz5) ml_X7_172 in_X7_number sel_X7_number hm rfl rfl rfl rfl (Nat.le_of_ble_eq_true rfl) dX7_reads_94 ⟨Nat.le_of_ble_eq_true rfl, Nat.le_of_ble_eq_true rfl⟩ ⟨Nat.le_refl _, Nat.le_refl _⟩ (zk_i ?_)
              refine zv_if_eq (tgt := 104) dX7_reads_97 (by decide) (fun _ => ?_) (fun h => absurd (rfl) h)
              refine zv_iconst (v := 0) dX7_reads_104 (by decide) ?_
              have hr : rdO T n p = (false, (rdN T n (p + 3)).2 + 1, 0, 0, 1) := by
                unfold rdO
                rw [if_neg k99, if_neg k117, if_neg k115, if_pos k112, hz, if_pos hs, hz3, if_pos hs4, hz5]; rfl
              refine zv_iretI dX7_reads_105 rfl rfl (by rw [hr]; rfl) ⟨_, rfl, ?_⟩
              unfold roM gW
              rw [hr]
              refine ⟨fun j h1 h2 => by simp only [upd]; (repeat rw [if_neg (by omega)]), by first | rfl | exact h9, fun hb => ?_⟩
              cases hb
            · refine zv_callV (m_number_y l D B (p := (rdN T n (p + 3)).2 + 1) (j := 2) hm (by repeat (first | exact hX | refine tx_upd ?_ (by omega))) (by first | rfl | exact h9) (by omega) (by decide) hz5) ml_X7_172 in_X7_number sel_X7_number hm rfl rfl rfl rfl (Nat.le_of_ble_eq_true rfl) dX7_reads_94 ⟨Nat.le_of_ble_eq_true rfl, Nat.le_of_ble_eq_true rfl⟩ ⟨Nat.le_refl _, Nat.le_refl _⟩ (zk_i ?_)
              refine zv_if_eq (tgt := 104) dX7_reads_97 (by decide) (fun h => absurd h (by decide)) (fun _ => ?_)
              refine zv_iconst (v := 1) dX7_reads_100 (by decide) ?_
              refine zv_goto (tgt := 105) dX7_reads_101 (by decide) ?_
              have hr : rdO T n p = (true, (rdN T n ((rdN T n (p + 3)).2 + 1)).2, sg T n (p + 1) - 48, (rdN T n (p + 3)).1, (rdN T n ((rdN T n (p + 3)).2 + 1)).1) := by
                unfold rdO
                rw [if_neg k99, if_neg k117, if_neg k115, if_pos k112, hz, if_pos hs, hz3, if_pos hs4, hz5]; rfl
              refine zv_iretI dX7_reads_105 rfl rfl (by rw [hr]; rfl) ⟨_, rfl, ?_⟩
              unfold roM gW
              rw [hr]
              refine ⟨fun j h1 h2 => by simp only [upd]; (repeat rw [if_neg (by omega)]), by first | rfl | exact h9, fun hb => ?_⟩
              exact ⟨fun h => by first | rfl | (exfalso; omega), fun h => by first | rfl | (exfalso; omega), fun h => by first | exact ⟨rfl, rfl, rfl⟩ | (exfalso; omega)⟩
          · refine zv_callV (m_takes_n l D B (p := (rdN T n (p + 3)).2) (c := 42) hm (by repeat (first | exact hX | refine tx_upd ?_ (by omega))) (by first | rfl | exact h9) (by omega) (by decide) (by decide) hs4) ml_X7_174 in_X7_takes sel_X7_takes hm rfl rfl rfl rfl (Nat.le_of_ble_eq_true rfl) dX7_reads_86 ⟨Nat.le_of_ble_eq_true rfl, Nat.le_of_ble_eq_true rfl⟩ ⟨Nat.le_refl _, Nat.le_refl _⟩ (zk_i ?_)
            refine zv_if_eq (tgt := 100) dX7_reads_89 (by decide) (fun _ => ?_) (fun h => absurd (rfl) h)
            refine zv_iconst (v := 1) dX7_reads_100 (by decide) ?_
            refine zv_goto (tgt := 105) dX7_reads_101 (by decide) ?_
            have hr : rdO T n p = (true, (rdN T n (p + 3)).2, sg T n (p + 1) - 48, (rdN T n (p + 3)).1, 1) := by
              unfold rdO
              rw [if_neg k99, if_neg k117, if_neg k115, if_pos k112, hz, if_pos hs, hz3, if_neg hs4]; rfl
            refine zv_iretI dX7_reads_105 rfl rfl (by rw [hr]; rfl) ⟨_, rfl, ?_⟩
            unfold roM gW
            rw [hr]
            refine ⟨fun j h1 h2 => by simp only [upd]; (repeat rw [if_neg (by omega)]), by first | rfl | exact h9, fun hb => ?_⟩
            exact ⟨fun h => by first | rfl | (exfalso; omega), fun h => by first | rfl | (exfalso; omega), fun h => by first | exact ⟨rfl, rfl, rfl⟩ | (exfalso; omega)⟩
      · refine zv_callV (m_takes_n l D B (p := p + 2) (c := 46) hm (by repeat (first | exact hX | refine tx_upd ?_ (by omega))) (by first | rfl | exact h9) (by omega) (by decide) (by decide) hs) ml_X7_174 in_X7_takes sel_X7_takes hm rfl rfl rfl rfl (Nat.le_of_ble_eq_true rfl) dX7_reads_69 ⟨Nat.le_of_ble_eq_true rfl, Nat.le_of_ble_eq_true rfl⟩ ⟨Nat.le_refl _, Nat.le_refl _⟩ (zk_i ?_)
        refine zv_if_eq (tgt := 104) dX7_reads_72 (by decide) (fun _ => ?_) (fun h => absurd (rfl) h)
        refine zv_iconst (v := 0) dX7_reads_104 (by decide) ?_
        have hr : rdO T n p = (false, p + 2, 0, 0, 1) := by
          unfold rdO
          rw [if_neg k99, if_neg k117, if_neg k115, if_pos k112, hz, if_neg hs]; rfl
        refine zv_iretI dX7_reads_105 rfl rfl (by rw [hr]; rfl) ⟨_, rfl, ?_⟩
        unfold roM gW
        rw [hr]
        refine ⟨fun j h1 h2 => by simp only [upd]; (repeat rw [if_neg (by omega)]), by first | rfl | exact h9, fun hb => ?_⟩
        cases hb

set_option maxRecDepth 100000 in
set_option maxHeartbeats 4000000 in
theorem sg_m_order0 (l : Launch) (D : zD) (B : Nat) {L : zL} {nx : Nat} {G : zG} {m n p : Nat} {g : Nat → Int32} {T : Nat → Nat} (hm : (m, 8) ∈ L) (hX : tx T n g) (h9 : g 9 = nI p) (hp : p ≤ n) : zV l (fun _ => True) D B RX7 "order" cX7_order 3 (some .int) (zrm 6 144 0 0) (zN (zI (if (rdO T n p).1 then 0 else -3) L nx (fun G1 => ∃ g', G1 = zst G m g' ∧ roM T n p g g'))) 0 0 L nx 24 [some (.ref m), some (.int 0), none] [.int (nI (sg T n p))] ((zst G m g)) := by
  have hn80 := hX.2.1
  have hsl := tx_sg hX (i := p)
  refine zv_istore_n dX7_order_24 (by decide) rfl ?_
  rcases (show sg T n p = 99 ∨ (¬ sg T n p = 99 ∧ sg T n p = 117) ∨ (¬ sg T n p = 99 ∧ ¬ sg T n p = 117 ∧ sg T n p = 115) ∨ (¬ sg T n p = 99 ∧ ¬ sg T n p = 117 ∧ ¬ sg T n p = 115 ∧ sg T n p = 112) ∨ (¬ sg T n p = 99 ∧ ¬ sg T n p = 117 ∧ ¬ sg T n p = 115 ∧ ¬ sg T n p = 112) by omega) with k99 | ⟨k99, k117⟩ | ⟨k99, k117, k115⟩ | ⟨k99, k117, k115, k112⟩ | ⟨k99, k117, k115, k112⟩
  · have hlt := sg_pos (show sg T n p ≠ 0 by omega)
    refine zv_iload_n dX7_order_25 rfl ?_
    refine zv_bipush (v := 99) dX7_order_26 (by decide) ?_
    refine zv_icmp_eq (tgt := 52) dX7_order_28 (by decide) (fun _ => ?_) (fun h => absurd (by rw [k99]; rfl) h)
    refine zv_aload_n dX7_order_52 rfl ?_
    refine zv_dup dX7_order_53 rfl ?_
    refine zv_getI hm rfl fl_X7_162 rfl dX7_order_54 ?_
    rw [zst_same, h9]
    refine zv_iconst (v := 1) dX7_order_57 (by decide) ?_
    refine zv_iadd dX7_order_58 ?_
    rw [nI_1]
    refine zv_putI (t := 8) hm rfl fl_X7_162 ft_X7_9 rfl dX7_order_59 ?_
    simp only [zst_same, zst_zst]
    refine zv_aload_n dX7_order_62 rfl ?_
    refine zv_iload_n dX7_order_63 rfl ?_
    refine zv_callV (m_X7_reads l D B (p := p) (g := upd g 9 (nI (p + 1))) hm (tx_upd hX (Or.inl rfl)) rfl hlt (Or.inl k99)) ml_X7_177 in_X7_reads sel_X7_reads hm rfl rfl rfl rfl (Nat.le_of_ble_eq_true rfl) dX7_order_64 ⟨Nat.le_of_ble_eq_true rfl, Nat.le_of_ble_eq_true rfl⟩ ⟨Nat.le_refl _, Nat.le_refl _⟩ (zk_p fun G2 hG2 => ?_)
    obtain ⟨g2, rfl, hro⟩ := hG2
    cases hb : (rdO T n p).1
    · refine zv_if_ne (tgt := 73) dX7_order_67 (by decide) (fun h => absurd (rfl) h) (fun _ => ?_)
      refine zv_bipush (v := (-3)) dX7_order_70 (by decide) ?_
      exact zv_iretI dX7_order_72 rfl rfl rfl ⟨g2, rfl, roM_9 hro⟩
    · refine zv_if_ne (tgt := 73) dX7_order_67 (by decide) (fun _ => ?_) (fun h => absurd h (by decide))
      refine zv_iload_n dX7_order_73 rfl ?_
      refine zv_if_ne (tgt := 79) dX7_order_74 (by decide) (fun h => absurd (rfl) h) (fun _ => ?_)
      refine zv_iconst (v := 0) dX7_order_77 (by decide) ?_
      exact zv_iretI dX7_order_78 rfl rfl rfl ⟨g2, rfl, roM_9 hro⟩
  · have hlt := sg_pos (show sg T n p ≠ 0 by omega)
    refine zv_iload_n dX7_order_25 rfl ?_
    refine zv_bipush (v := 99) dX7_order_26 (by decide) ?_
    refine zv_icmp_eq (tgt := 52) dX7_order_28 (by decide) (fun h => absurd h (fun h => by rw [k117] at h; exact absurd h (by decide))) (fun _ => ?_)
    refine zv_iload_n dX7_order_31 rfl ?_
    refine zv_bipush (v := 117) dX7_order_32 (by decide) ?_
    refine zv_icmp_eq (tgt := 52) dX7_order_34 (by decide) (fun _ => ?_) (fun h => absurd (by rw [k117]; rfl) h)
    refine zv_aload_n dX7_order_52 rfl ?_
    refine zv_dup dX7_order_53 rfl ?_
    refine zv_getI hm rfl fl_X7_162 rfl dX7_order_54 ?_
    rw [zst_same, h9]
    refine zv_iconst (v := 1) dX7_order_57 (by decide) ?_
    refine zv_iadd dX7_order_58 ?_
    rw [nI_1]
    refine zv_putI (t := 8) hm rfl fl_X7_162 ft_X7_9 rfl dX7_order_59 ?_
    simp only [zst_same, zst_zst]
    refine zv_aload_n dX7_order_62 rfl ?_
    refine zv_iload_n dX7_order_63 rfl ?_
    refine zv_callV (m_X7_reads l D B (p := p) (g := upd g 9 (nI (p + 1))) hm (tx_upd hX (Or.inl rfl)) rfl hlt (Or.inr (Or.inl ⟨k99, k117⟩))) ml_X7_177 in_X7_reads sel_X7_reads hm rfl rfl rfl rfl (Nat.le_of_ble_eq_true rfl) dX7_order_64 ⟨Nat.le_of_ble_eq_true rfl, Nat.le_of_ble_eq_true rfl⟩ ⟨Nat.le_refl _, Nat.le_refl _⟩ (zk_p fun G2 hG2 => ?_)
    obtain ⟨g2, rfl, hro⟩ := hG2
    cases hb : (rdO T n p).1
    · refine zv_if_ne (tgt := 73) dX7_order_67 (by decide) (fun h => absurd (rfl) h) (fun _ => ?_)
      refine zv_bipush (v := (-3)) dX7_order_70 (by decide) ?_
      exact zv_iretI dX7_order_72 rfl rfl rfl ⟨g2, rfl, roM_9 hro⟩
    · refine zv_if_ne (tgt := 73) dX7_order_67 (by decide) (fun _ => ?_) (fun h => absurd h (by decide))
      refine zv_iload_n dX7_order_73 rfl ?_
      refine zv_if_ne (tgt := 79) dX7_order_74 (by decide) (fun h => absurd (rfl) h) (fun _ => ?_)
      refine zv_iconst (v := 0) dX7_order_77 (by decide) ?_
      exact zv_iretI dX7_order_78 rfl rfl rfl ⟨g2, rfl, roM_9 hro⟩
  · have hlt := sg_pos (show sg T n p ≠ 0 by omega)
    refine zv_iload_n dX7_order_25 rfl ?_
    refine zv_bipush (v := 99) dX7_order_26 (by decide) ?_
    refine zv_icmp_eq (tgt := 52) dX7_order_28 (by decide) (fun h => absurd h (fun h => by rw [k115] at h; exact absurd h (by decide))) (fun _ => ?_)
    refine zv_iload_n dX7_order_31 rfl ?_
    refine zv_bipush (v := 117) dX7_order_32 (by decide) ?_
    refine zv_icmp_eq (tgt := 52) dX7_order_34 (by decide) (fun h => absurd h (fun h => by rw [k115] at h; exact absurd h (by decide))) (fun _ => ?_)
    refine zv_iload_n dX7_order_37 rfl ?_
    refine zv_bipush (v := 112) dX7_order_38 (by decide) ?_
    refine zv_icmp_eq (tgt := 52) dX7_order_40 (by decide) (fun h => absurd h (fun h => by rw [k115] at h; exact absurd h (by decide))) (fun _ => ?_)
    refine zv_iload_n dX7_order_43 rfl ?_
    refine zv_bipush (v := 115) dX7_order_44 (by decide) ?_
    refine zv_icmp_eq (tgt := 52) dX7_order_46 (by decide) (fun _ => ?_) (fun h => absurd (by rw [k115]; rfl) h)
    refine zv_aload_n dX7_order_52 rfl ?_
    refine zv_dup dX7_order_53 rfl ?_
    refine zv_getI hm rfl fl_X7_162 rfl dX7_order_54 ?_
    rw [zst_same, h9]
    refine zv_iconst (v := 1) dX7_order_57 (by decide) ?_
    refine zv_iadd dX7_order_58 ?_
    rw [nI_1]
    refine zv_putI (t := 8) hm rfl fl_X7_162 ft_X7_9 rfl dX7_order_59 ?_
    simp only [zst_same, zst_zst]
    refine zv_aload_n dX7_order_62 rfl ?_
    refine zv_iload_n dX7_order_63 rfl ?_
    refine zv_callV (m_X7_reads l D B (p := p) (g := upd g 9 (nI (p + 1))) hm (tx_upd hX (Or.inl rfl)) rfl hlt (Or.inr (Or.inr (Or.inl ⟨k99, k117, k115⟩)))) ml_X7_177 in_X7_reads sel_X7_reads hm rfl rfl rfl rfl (Nat.le_of_ble_eq_true rfl) dX7_order_64 ⟨Nat.le_of_ble_eq_true rfl, Nat.le_of_ble_eq_true rfl⟩ ⟨Nat.le_refl _, Nat.le_refl _⟩ (zk_p fun G2 hG2 => ?_)
    obtain ⟨g2, rfl, hro⟩ := hG2
    cases hb : (rdO T n p).1
    · refine zv_if_ne (tgt := 73) dX7_order_67 (by decide) (fun h => absurd (rfl) h) (fun _ => ?_)
      refine zv_bipush (v := (-3)) dX7_order_70 (by decide) ?_
      exact zv_iretI dX7_order_72 rfl rfl rfl ⟨g2, rfl, roM_9 hro⟩
    · refine zv_if_ne (tgt := 73) dX7_order_67 (by decide) (fun _ => ?_) (fun h => absurd h (by decide))
      refine zv_iload_n dX7_order_73 rfl ?_
      refine zv_if_ne (tgt := 79) dX7_order_74 (by decide) (fun h => absurd (rfl) h) (fun _ => ?_)
      refine zv_iconst (v := 0) dX7_order_77 (by decide) ?_
      exact zv_iretI dX7_order_78 rfl rfl rfl ⟨g2, rfl, roM_9 hro⟩
  · have hlt := sg_pos (show sg T n p ≠ 0 by omega)
    refine zv_iload_n dX7_order_25 rfl ?_
    refine zv_bipush (v := 99) dX7_order_26 (by decide) ?_
    refine zv_icmp_eq (tgt := 52) dX7_order_28 (by decide) (fun h => absurd h (fun h => by rw [k112] at h; exact absurd h (by decide))) (fun _ => ?_)
    refine zv_iload_n dX7_order_31 rfl ?_
    refine zv_bipush (v := 117) dX7_order_32 (by decide) ?_
    refine zv_icmp_eq (tgt := 52) dX7_order_34 (by decide) (fun h => absurd h (fun h => by rw [k112] at h; exact absurd h (by decide))) (fun _ => ?_)
    refine zv_iload_n dX7_order_37 rfl ?_
    refine zv_bipush (v := 112) dX7_order_38 (by decide) ?_
    refine zv_icmp_eq (tgt := 52) dX7_order_40 (by decide) (fun _ => ?_) (fun h => absurd (by rw [k112]; rfl) h)
    refine zv_aload_n dX7_order_52 rfl ?_
    refine zv_dup dX7_order_53 rfl ?_
    refine zv_getI hm rfl fl_X7_162 rfl dX7_order_54 ?_
    rw [zst_same, h9]
    refine zv_iconst (v := 1) dX7_order_57 (by decide) ?_
    refine zv_iadd dX7_order_58 ?_
    rw [nI_1]
    refine zv_putI (t := 8) hm rfl fl_X7_162 ft_X7_9 rfl dX7_order_59 ?_
    simp only [zst_same, zst_zst]
    refine zv_aload_n dX7_order_62 rfl ?_
    refine zv_iload_n dX7_order_63 rfl ?_
    refine zv_callV (m_X7_reads l D B (p := p) (g := upd g 9 (nI (p + 1))) hm (tx_upd hX (Or.inl rfl)) rfl hlt (Or.inr (Or.inr (Or.inr ⟨k99, k117, k115, k112⟩)))) ml_X7_177 in_X7_reads sel_X7_reads hm rfl rfl rfl rfl (Nat.le_of_ble_eq_true rfl) dX7_order_64 ⟨Nat.le_of_ble_eq_true rfl, Nat.le_of_ble_eq_true rfl⟩ ⟨Nat.le_refl _, Nat.le_refl _⟩ (zk_p fun G2 hG2 => ?_)
    obtain ⟨g2, rfl, hro⟩ := hG2
    cases hb : (rdO T n p).1
    · refine zv_if_ne (tgt := 73) dX7_order_67 (by decide) (fun h => absurd (rfl) h) (fun _ => ?_)
      refine zv_bipush (v := (-3)) dX7_order_70 (by decide) ?_
      exact zv_iretI dX7_order_72 rfl rfl rfl ⟨g2, rfl, roM_9 hro⟩
    · refine zv_if_ne (tgt := 73) dX7_order_67 (by decide) (fun _ => ?_) (fun h => absurd h (by decide))
      refine zv_iload_n dX7_order_73 rfl ?_
      refine zv_if_ne (tgt := 79) dX7_order_74 (by decide) (fun h => absurd (rfl) h) (fun _ => ?_)
      refine zv_iconst (v := 0) dX7_order_77 (by decide) ?_
      exact zv_iretI dX7_order_78 rfl rfl rfl ⟨g2, rfl, roM_9 hro⟩
  · refine zv_iload_n dX7_order_25 rfl ?_
    refine zv_bipush (v := 99) dX7_order_26 (by decide) ?_
    refine zv_icmp_eq (tgt := 52) dX7_order_28 (by decide) (fun h => absurd h (fun h => k99 ((nI_eq (by omega) (by decide)).mp h))) (fun _ => ?_)
    refine zv_iload_n dX7_order_31 rfl ?_
    refine zv_bipush (v := 117) dX7_order_32 (by decide) ?_
    refine zv_icmp_eq (tgt := 52) dX7_order_34 (by decide) (fun h => absurd h (fun h => k117 ((nI_eq (by omega) (by decide)).mp h))) (fun _ => ?_)
    refine zv_iload_n dX7_order_37 rfl ?_
    refine zv_bipush (v := 112) dX7_order_38 (by decide) ?_
    refine zv_icmp_eq (tgt := 52) dX7_order_40 (by decide) (fun h => absurd h (fun h => k112 ((nI_eq (by omega) (by decide)).mp h))) (fun _ => ?_)
    refine zv_iload_n dX7_order_43 rfl ?_
    refine zv_bipush (v := 115) dX7_order_44 (by decide) ?_
    refine zv_icmp_eq (tgt := 52) dX7_order_46 (by decide) (fun h => absurd h (fun h => k115 ((nI_eq (by omega) (by decide)).mp h))) (fun _ => ?_)
    refine zv_bipush (v := (-3)) dX7_order_49 (by decide) ?_
    have hr : rdO T n p = (false, p, 0, 0, 1) := by
      unfold rdO
      rw [if_neg k99, if_neg k117, if_neg k115, if_neg k112]
    refine zv_iretI dX7_order_51 rfl rfl (by rw [hr]; rfl) ⟨g, rfl, ?_⟩
    unfold roM
    rw [hr]
    exact ⟨gW_rf, h9, fun hb => by cases hb⟩

set_option maxRecDepth 100000 in
set_option maxHeartbeats 4000000 in
theorem m_order0 (l : Launch) (D : zD) (B : Nat) {L : zL} {nx : Nat} {G : zG} {m n p : Nat} {g : Nat → Int32} {T : Nat → Nat} (hm : (m, 8) ∈ L) (hX : tx T n g) (h9 : g 9 = nI p) (hp : p ≤ n) : zMet l D B yX7_order cX7_order 3 (some .int) 6 144 0 0 [.ref m, .int 0] L nx (zst G m g) (zI (if (rdO T n p).1 then 0 else -3) L nx (fun G1 => ∃ g', G1 = zst G m g' ∧ roM T n p g g')) := by
  refine zMet_of (own := RX7) (mn := "order") [some (.ref m), some (.int 0), none] (by decide +kernel) rfl rfl rfl (Nat.le_of_ble_eq_true rfl) ?_
  show zV l (fun _ => True) D B RX7 "order" cX7_order 3 (some .int) (zrm 6 144 0 0) (zN (zI (if (rdO T n p).1 then 0 else -3) L nx (fun G1 => ∃ g', G1 = zst G m g' ∧ roM T n p g g'))) 0 0 L nx 0 [some (.ref m), some (.int 0), none] [] ((zst G m g))
  have hn80 := hX.2.1
  have hsl := tx_sg hX (i := p)
  refine zv_aload_n dX7_order_0 rfl ?_
  refine zv_getI hm rfl fl_X7_162 rfl dX7_order_1 ?_
  refine zv_aload_n dX7_order_4 rfl ?_
  refine zv_getI hm rfl fl_X7_148 rfl dX7_order_5 ?_
  rw [zst_same, h9, hX.1]
  refine zv_icmp_ge (tgt := 23) dX7_order_8 (by decide) (fun c8 => ?_) (fun c8 => ?_)
  · have hge : n ≤ p := (nI_leI (by omega) (by omega)).mp c8
    have e0 : sg T n p = 0 := if_neg (by omega)
    refine zv_iconst (v := 0) dX7_order_23 (by decide) ?_
    have := sg_m_order0 l D B (nx := nx) (G := G) hm hX h9 hp
    rw [e0] at this
    exact this
  · have hlt : p < n := by
      rcases Nat.lt_or_ge p n with h | h
      · exact h
      · exact absurd (nI_le h (by omega)) c8
    have hT := hX.2.2 p hlt
    have e0 : sg T n p = T p := if_pos hlt
    refine zv_aload_n dX7_order_11 rfl ?_
    refine zv_getS (r := 7) hm rfl fl_X7_29 rfl dX7_order_12 ?_
    refine zv_aload_n dX7_order_15 rfl ?_
    refine zv_getI hm rfl fl_X7_162 rfl dX7_order_16 ?_
    rw [zst_same, h9]
    refine zv_iald (i := 7) hm rfl (zix_nI (by omega) (by decide)) dX7_order_19 ?_
    rw [zst_same, hT.1]
    refine zv_goto (tgt := 24) dX7_order_20 (by decide) ?_
    have := sg_m_order0 l D B (nx := nx) (G := G) hm hX h9 hp
    rw [e0] at this
    exact this
