theorem tx_R {L : zL} {m : Nat} {G : zG} {r : Nat → Int32} {h : Nat → (Nat → Int32)} {c : Nat} {sl : Nat → Option (Nat → Int32)} {T : Nat → Nat} {tn : Nat} (hR : zRM L m G r h c sl T tn) : tx T tn (G m) := ⟨hR.2.2.2.2.2.2.2.1, hR.2.2.2.2.2.2.1, hR.2.2.2.2.2.2.2.2⟩
theorem zRM_W {L : zL} {m : Nat} {G : zG} {r : Nat → Int32} {h : Nat → (Nat → Int32)} {c : Nat} {sl : Nat → Option (Nat → Int32)} {T : Nat → Nat} {tn : Nat} (hR : zRM L m G r h c sl T tn) {g' : Nat → Int32} (hW : gW (G m) g') : zRM L m (zst G m g') r h c sl T tn :=
  zRM_fr hR (fun k hk => by rw [zst_same, hW _ (by omega) (by omega)]; exact hR.2.1 k hk) (fun j hj => by rw [zst_same, hW _ (by omega) (by omega)])
theorem m_isWellR (l : Launch) (D : zD) (B : Nat) {L : zL} {nx : Nat} {G : zG} {m : Nat} {r : Nat → Int32} {h : Nat → (Nat → Int32)} {c : Nat} {sl : Nat → Option (Nat → Int32)} {T : Nat → Nat} {tn : Nat} (hR : zRM L m G r h c sl T tn) : zMet l D B yX7_isWell cX7_isWell 2 (some .boolean) 7 166 0 0 [.ref m] L nx G (zI (bI (decide (ffL T tn 0 80 = -6))) L nx (fun G1 => ∃ g', G1 = zst G m g' ∧ gW (G m) g' ∧ (¬ ffL T tn 0 80 = -6 → g' 9 = ffL T tn 0 80))) := by
  have h := m_X7_isWell l D B (G := G) (nx := nx) hR.1 (tx_R hR)
  rw [zst_self] at h
  exact h
theorem gO_9 {g g2 : Nat → Int32} {v : Int32} (h : gO g g2) : gO g (upd g2 9 v) := fun j a b c d => (if_neg a).trans (h j a b c d)
theorem rdO_end {T : Nat → Nat} {n p : Nat} (h : n ≤ p) : (rdO T n p).1 = false := by
  have e : sg T n p = 0 := if_neg (by omega)
  unfold rdO
  rw [if_neg (by omega), if_neg (by omega), if_neg (by omega), if_neg (by omega)]
theorem exL_end {T : Nat → Nat} {n p k c : Nat} {r : Nat → Int32} (h : n ≤ p) : exL T n k p r c = (c, r) := by
  cases k with
  | zero => rfl
  | succ k =>
    unfold exL
    rw [if_pos (rdO_end h)]
theorem rm_car {L : zL} {m : Nat} {G : zG} {r : Nat → Int32} {h : Nat → (Nat → Int32)} {c : Nat} {sl : Nat → Option (Nat → Int32)} {T : Nat → Nat} {tn : Nat} (hR : zRM L m G r h c sl T tn) {g rf : Nat → Int32} (hg : gO (remM (G m)) g) : zRM L m (zst (mT G m (upd g 8 0) rf) m (recM (mT G m (upd g 8 0) rf m) c)) rf (pushH h c r).1 (pushH h c r).2 sl T 0 := by
  have hs : ∀ j, j ≠ 8 → (j = 6 ∨ (246 ≤ j ∧ j < 1614) ∨ (1842 ≤ j ∧ j < 2608)) → mT G m (upd g 8 0) rf m j = G m j := fun j h1 h2 => by
    rw [mT_o (by omega)]
    refine (if_neg h1).trans ?_
    rw [hg j (by omega) (by omega) (by omega) (by omega)]
    exact cpyM_r (by omega)
  have hb : ∀ k, k < 228 → mT G m (upd g 8 0) rf m (1614 + k) = r k := fun k hk => by
    rw [mT_o (by omega)]
    refine (if_neg (by omega)).trans ?_
    rw [hg _ (by omega) (by omega) (by omega) (by omega), ← hR.2.1 k hk]
    exact cpyM_i hk
  obtain ⟨a1, a2, a3, a4, a5, a6, a7, a8, a9⟩ := hR
  refine zRM_rec ⟨a1, fun k hk => mT_at hk, by rw [hs _ (by omega) (by omega)]; exact a3, a4, fun k hk j hj => by rw [hs _ (by omega) (by omega)]; exact a5 k hk j hj, fun j hj => ?_, by omega, by rw [mT_o (by omega)]; rfl, fun i hi => by omega⟩ hb
  rcases a6 j hj with ⟨b1, b2⟩ | ⟨q, b1, b2, b3⟩
  · exact Or.inl ⟨b1, by rw [hs _ (by omega) (by omega)]; exact b2⟩
  · exact Or.inr ⟨q, b1, by rw [hs _ (by omega) (by omega)]; exact b2, fun k hk => by rw [hs _ (by omega) (by omega)]; exact b3 k hk⟩

set_option maxRecDepth 100000 in
set_option maxHeartbeats 4000000 in
theorem m_X7_fault (l : Launch) (D : zD) (B : Nat) {L : zL} {nx : Nat} {G : zG} {m c tn : Nat} {r : Nat → Int32} {h : Nat → (Nat → Int32)} {sl : Nat → Option (Nat → Int32)} {T : Nat → Nat} (hR : zRM L m G r h c sl T tn) : zMet l D B yX7_fault cX7_fault 1 (some .int) 8 187 0 0 [.ref m] L nx G (zI (ffL T tn 0 80) L nx (fun G1 => zRM L m G1 r h c sl T tn ∧ ∀ y, y ≠ m → G1 y = G y)) := by
  refine zMet_of (own := RX7) (mn := "fault") [some (.ref m)] (by decide +kernel) rfl rfl rfl (Nat.le_of_ble_eq_true rfl) ?_
  show zV l (fun _ => True) D B RX7 "fault" cX7_fault 1 (some .int) (zrm 8 187 0 0) (zN (zI (ffL T tn 0 80) L nx (fun G1 => zRM L m G1 r h c sl T tn ∧ ∀ y, y ≠ m → G1 y = G y))) 0 0 L nx 0 [some (.ref m)] [] (G)
  refine zv_aload_n dX7_fault_0 rfl ?_
  refine zv_callV (m_isWellR l D B hR) ml_X7_184 in_X7_isWell sel_X7_isWell hR.1 rfl rfl rfl rfl (Nat.le_of_ble_eq_true rfl) dX7_fault_1 ⟨Nat.le_of_ble_eq_true rfl, Nat.le_of_ble_eq_true rfl⟩ ⟨Nat.le_refl _, Nat.le_refl _⟩ (zk_p fun G2 hG2 => ?_)
  obtain ⟨g2, rfl, hW, hE⟩ := hG2
  by_cases hz : ffL T tn 0 80 = -6
  · rw [decide_eq_true hz]
    refine zv_if_eq (tgt := 12) dX7_fault_4 (by decide) (fun h => absurd h (by decide)) (fun _ => ?_)
    refine zv_bipush (v := (-6)) dX7_fault_7 (by decide) ?_
    refine zv_goto (tgt := 16) dX7_fault_9 (by decide) ?_
    exact zv_iretI dX7_fault_16 rfl rfl hz.symm ⟨zRM_W hR hW, fun y hy => zst_ne _ _ hy⟩
  · rw [decide_eq_false hz]
    refine zv_if_eq (tgt := 12) dX7_fault_4 (by decide) (fun _ => ?_) (fun h => absurd (rfl) h)
    refine zv_aload_n dX7_fault_12 rfl ?_
    refine zv_getI hR.1 rfl fl_X7_162 rfl dX7_fault_13 ?_
    exact zv_iretI dX7_fault_16 rfl rfl (by rw [zst_same]; exact hE hz) ⟨zRM_W hR hW, fun y hy => zst_ne _ _ hy⟩

set_option maxRecDepth 100000 in
set_option maxHeartbeats 4000000 in
theorem le_X7_carryOut (l : Launch) (D : zD) (B : Nat) {L : zL} {nx : Nat} {G : zG} {m c tn : Nat} {r : Nat → Int32} {h : Nat → (Nat → Int32)} {sl : Nat → Option (Nat → Int32)} {T : Nat → Nat} (hR : zRM L m G r h c sl T tn) {z : Nat × (Nat → Int32)} (hz80 : z.1 ≤ 80) {g : Nat → Int32} {a : Int32} {p : Nat} (hg : gO (remM (G m)) g) (h9 : g 9 = nI p) (hp : p < 2 ^ 31) (ha : a = 0 ∨ tn ≤ p) : zV l (fun _ => True) D B RX7 "carryOut" cX7_carryOut 3 (some .int) (zrm 8 187 0 0) (zN (zI (nI z.1) L nx (fun G1 => zRM L m G1 z.2 (pushH h c r).1 (pushH h c r).2 sl T 0 ∧ ∀ y, y ≠ m → G1 y = G y))) 0 0 L nx 23 [some (.ref m), some (.int (nI z.1)), some (.int a)] [] ((mT G m g z.2)) := by
  have hm := hR.1
  have htn := hR.2.2.2.2.2.2.1
  have hn : ¬ nI z.1 < 0 := nI_pos (by omega)
  have h8 : g 8 = nI tn := by
    rw [hg 8 (by omega) (by omega) (by omega) (by omega), ← hR.2.2.2.2.2.2.2.1]
    exact cpyM_r (by omega)
  have h6 : mT G m (upd g 8 0) z.2 m 6 = nI c := by
    rw [mT_o (by omega)]
    refine (if_neg (by omega)).trans ?_
    rw [hg 6 (by omega) (by omega) (by omega) (by omega), ← hR.2.2.1]
    exact cpyM_r (by omega)
  refine zv_iload_n dX7_carryOut_23 rfl ?_
  refine zv_if_eq (tgt := 77) dX7_carryOut_24 (by decide) (fun c24 => ?_) (fun c24 => ?_)
  · refine zv_aload_n dX7_carryOut_77 rfl ?_
    refine zv_iconst (v := 0) dX7_carryOut_78 (by decide) ?_
    refine zv_putI (t := 8) hR.1 rfl fl_X7_148 ft_X7_8 rfl dX7_carryOut_79 ?_
    rw [mT_f (by omega)]
    refine zv_aload_n dX7_carryOut_82 rfl ?_
    refine zv_iload_n dX7_carryOut_83 rfl ?_
    refine zv_callV (m_X7_record l D B hm hn hR.2.2.2.1 h6) ml_X7_63 in_X7_record sel_X7_record hR.1 rfl rfl rfl rfl (Nat.le_of_ble_eq_true rfl) dX7_carryOut_84 ⟨Nat.le_of_ble_eq_true rfl, Nat.le_of_ble_eq_true rfl⟩ ⟨Nat.le_refl _, Nat.le_refl _⟩ (zk_i ?_)
    exact zv_iretI dX7_carryOut_87 rfl rfl rfl ⟨rm_car hR hg, fun y hy => (zst_ne _ _ hy).trans (mT_ne hy)⟩
  · have hpn := ha.resolve_left c24
    refine zv_aload_n dX7_carryOut_27 rfl ?_
    refine zv_getI hR.1 rfl fl_X7_162 rfl dX7_carryOut_28 ?_
    refine zv_aload_n dX7_carryOut_31 rfl ?_
    refine zv_getI hR.1 rfl fl_X7_148 rfl dX7_carryOut_32 ?_
    rw [mT_o (by omega), mT_o (by omega), h9, h8]
    refine zv_icmp_ge (tgt := 77) dX7_carryOut_35 (by decide) (fun _ => ?_) (fun h => absurd (nI_le hpn hp) h)
    refine zv_aload_n dX7_carryOut_77 rfl ?_
    refine zv_iconst (v := 0) dX7_carryOut_78 (by decide) ?_
    refine zv_putI (t := 8) hR.1 rfl fl_X7_148 ft_X7_8 rfl dX7_carryOut_79 ?_
    rw [mT_f (by omega)]
    refine zv_aload_n dX7_carryOut_82 rfl ?_
    refine zv_iload_n dX7_carryOut_83 rfl ?_
    refine zv_callV (m_X7_record l D B hm hn hR.2.2.2.1 h6) ml_X7_63 in_X7_record sel_X7_record hR.1 rfl rfl rfl rfl (Nat.le_of_ble_eq_true rfl) dX7_carryOut_84 ⟨Nat.le_of_ble_eq_true rfl, Nat.le_of_ble_eq_true rfl⟩ ⟨Nat.le_refl _, Nat.le_refl _⟩ (zk_i ?_)
    exact zv_iretI dX7_carryOut_87 rfl rfl rfl ⟨rm_car hR hg, fun y hy => (zst_ne _ _ hy).trans (mT_ne hy)⟩

set_option maxRecDepth 100000 in
set_option maxHeartbeats 4000000 in
theorem lp_X7_carryOut (l : Launch) (D : zD) (B : Nat) {L : zL} {nx : Nat} {G : zG} {m c tn : Nat} {r : Nat → Int32} {h : Nat → (Nat → Int32)} {sl : Nat → Option (Nat → Int32)} {T : Nat → Nat} (hR : zRM L m G r h c sl T tn) {z : Nat × (Nat → Int32)} (hz80 : z.1 ≤ 80) : ∀ (k p b ct : Nat) (r' g : Nat → Int32), gO (remM (G m)) g → g 9 = nI p → p ≤ tn → tn < p + 2 * k → ffL T tn p k = -6 → SI b r' → exL T tn k p r' ct = z → zV l (fun _ => True) D B RX7 "carryOut" cX7_carryOut 3 (some .int) (zrm 8 187 0 0) (zN (zI (nI z.1) L nx (fun G1 => zRM L m G1 z.2 (pushH h c r).1 (pushH h c r).2 sl T 0 ∧ ∀ y, y ≠ m → G1 y = G y))) 0 0 L nx 23 [some (.ref m), some (.int (nI ct)), some (.int 1)] [] ((mT G m g r')) := by
  have hm := hR.1
  have htn := hR.2.2.2.2.2.2.1
  have hX : tx T tn (remM (G m)) := tx_of (tx_R hR) (fun j _ _ => rfl) |> fun _ => ⟨(cpyM_r (by omega)).trans (tx_R hR).1, (tx_R hR).2.1, fun i hi => ⟨(cpyM_r (by omega)).trans ((tx_R hR).2.2 i hi).1, ((tx_R hR).2.2 i hi).2⟩⟩
  intro k
  induction k with
  | zero =>
    intro p b ct r' g hg h9 hp hk
    exact absurd hk (by omega)
  | succ k ih =>
    intro p b ct r' g hg h9 hp hk hF hS hE
    have hlt : p < tn := by
      rcases Nat.lt_or_ge p tn with h | h
      · exact h
      · rw [ffL_s, if_pos (rdO_end h)] at hF
        have := rdO_le (T := T) (n := tn) (p := p) hp
        exact absurd hF (nI_m6 (by omega))
    have hle := rdO_le (T := T) (n := tn) (p := p) hp
    have hb : (rdO T tn p).1 = true := by
      cases hb : (rdO T tn p).1 with
      | true => rfl
      | false =>
        rw [ffL_s, if_pos hb] at hF
        exact absurd hF (nI_m6 (by omega))
    rw [ffL_s, if_neg (by rw [hb]; simp)] at hF
    unfold exL at hE
    rw [if_neg (by rw [hb]; simp)] at hE
    have h8 : g 8 = nI tn := by
      rw [hg 8 (by omega) (by omega) (by omega) (by omega), ← hR.2.2.2.2.2.2.2.1]
      exact cpyM_r (by omega)
    refine zv_iload_n dX7_carryOut_23 rfl ?_
    refine zv_if_eq (tgt := 77) dX7_carryOut_24 (by decide) (fun h => absurd h (by decide)) (fun _ => ?_)
    refine zv_aload_n dX7_carryOut_27 rfl ?_
    refine zv_getI hR.1 rfl fl_X7_162 rfl dX7_carryOut_28 ?_
    refine zv_aload_n dX7_carryOut_31 rfl ?_
    refine zv_getI hR.1 rfl fl_X7_148 rfl dX7_carryOut_32 ?_
    rw [mT_o (by omega), mT_o (by omega), h9, h8]
    refine zv_icmp_ge (tgt := 77) dX7_carryOut_35 (by decide) (fun h => absurd h (fun h => absurd ((nI_leI (by omega) (by omega)).mp h) (by omega))) (fun _ => ?_)
    refine zv_aload_n dX7_carryOut_38 rfl ?_
    refine zv_iconst (v := 1) dX7_carryOut_39 (by decide) ?_
    refine zv_callV (m_order1 l D B (g := g) (r := r') hm (tx_O hX hg) h9 hp hb hS) ml_X7_180 in_X7_order sel_X7_order hR.1 rfl rfl rfl rfl (Nat.le_of_ble_eq_true rfl) dX7_carryOut_40 ⟨Nat.le_of_ble_eq_true rfl, Nat.le_of_ble_eq_true rfl⟩ ⟨Nat.le_refl _, Nat.le_refl _⟩ (zk_p fun G2 hG2 => ?_)
    obtain ⟨g2, rfl, hg2, h92⟩ := hG2
    by_cases hn : (opOrd r' T tn p).1 < 0
    · rw [opOrd_neg hS hn]
      rw [if_pos hn] at hE
      subst hE
      refine zv_if_lt (tgt := 50) dX7_carryOut_43 (by decide) (fun _ => ?_) (fun h => absurd (hn) h)
      refine zv_iconst (v := 0) dX7_carryOut_50 (by decide) ?_
      refine zv_istore_n dX7_carryOut_51 (by decide) rfl ?_
      refine zv_iload_n dX7_carryOut_52 rfl ?_
      refine zv_iload_n dX7_carryOut_53 rfl ?_
      refine zv_if_eq (tgt := 61) dX7_carryOut_54 (by decide) (fun _ => ?_) (fun h => absurd (rfl) h)
      refine zv_iconst (v := 0) dX7_carryOut_61 (by decide) ?_
      refine zv_iadd dX7_carryOut_62 ?_
      rw [i32_add0]
      refine zv_istore_n dX7_carryOut_63 (by decide) rfl ?_
      refine zv_aload_n dX7_carryOut_64 rfl ?_
      refine zv_dup dX7_carryOut_65 rfl ?_
      refine zv_getI hR.1 rfl fl_X7_162 rfl dX7_carryOut_66 ?_
      rw [mT_o (by omega), h92]
      refine zv_iconst (v := 1) dX7_carryOut_69 (by decide) ?_
      refine zv_iadd dX7_carryOut_70 ?_
      rw [nI_1]
      refine zv_putI (t := 8) hR.1 rfl fl_X7_162 ft_X7_9 rfl dX7_carryOut_71 ?_
      rw [mT_f (by omega)]
      refine zv_goto (tgt := 23) dX7_carryOut_74 (by decide) ?_
      exact le_X7_carryOut l D B hR (z := (ct, r')) hz80 (gO_9 (gO_tr hg hg2)) (if_pos rfl) (by omega) (Or.inl rfl)
    · rw [if_neg hn] at hE
      have hS2 := SI_ord (T := T) (n := tn) (p := p) hS
      refine zv_if_lt (tgt := 50) dX7_carryOut_43 (by decide) (fun h => absurd h (hn)) (fun _ => ?_)
      refine zv_iconst (v := 1) dX7_carryOut_46 (by decide) ?_
      refine zv_goto (tgt := 51) dX7_carryOut_47 (by decide) ?_
      refine zv_istore_n dX7_carryOut_51 (by decide) rfl ?_
      refine zv_iload_n dX7_carryOut_52 rfl ?_
      refine zv_iload_n dX7_carryOut_53 rfl ?_
      refine zv_if_eq (tgt := 61) dX7_carryOut_54 (by decide) (fun h => absurd h (by decide)) (fun _ => ?_)
      refine zv_iconst (v := 1) dX7_carryOut_57 (by decide) ?_
      refine zv_goto (tgt := 62) dX7_carryOut_58 (by decide) ?_
      refine zv_iadd dX7_carryOut_62 ?_
      rw [nI_1]
      refine zv_istore_n dX7_carryOut_63 (by decide) rfl ?_
      refine zv_aload_n dX7_carryOut_64 rfl ?_
      refine zv_dup dX7_carryOut_65 rfl ?_
      refine zv_getI hR.1 rfl fl_X7_162 rfl dX7_carryOut_66 ?_
      rw [mT_o (by omega), h92]
      refine zv_iconst (v := 1) dX7_carryOut_69 (by decide) ?_
      refine zv_iadd dX7_carryOut_70 ?_
      rw [nI_1]
      refine zv_putI (t := 8) hR.1 rfl fl_X7_162 ft_X7_9 rfl dX7_carryOut_71 ?_
      rw [mT_f (by omega)]
      refine zv_goto (tgt := 23) dX7_carryOut_74 (by decide) ?_
      unfold wwL at hF
      by_cases hend : tn ≤ (rdO T tn p).2.1
      · rw [if_neg (show ¬ sg T tn (rdO T tn p).2.1 = 59 from by rw [show sg T tn (rdO T tn p).2.1 = 0 from if_neg (by omega)]; omega), exL_end (by omega)] at hE
        subst hE
        exact le_X7_carryOut l D B hR (z := (ct + 1, (opOrd r' T tn p).2)) hz80 (gO_9 (gO_tr hg hg2)) (if_pos rfl) (by omega) (Or.inr (by omega))
      · rw [if_neg hend] at hF
        by_cases hs : sg T tn (rdO T tn p).2.1 = 59
        · rw [if_pos hs] at hF hE
          exact ih _ _ _ _ _ (gO_9 (gO_tr hg hg2)) (if_pos rfl) (by omega) (by have := hle.2.2 hb; omega) hF hS2 hE
        · rw [if_neg hs] at hF
          exact absurd hF (nI_m6 (by omega))

set_option maxRecDepth 100000 in
set_option maxHeartbeats 4000000 in
theorem tl_X7_carryOut (l : Launch) (D : zD) (B : Nat) {L : zL} {nx : Nat} {G : zG} {m c tn : Nat} {r : Nat → Int32} {h : Nat → (Nat → Int32)} {sl : Nat → Option (Nat → Int32)} {T : Nat → Nat} (hR : zRM L m G r h c sl T tn) {b : Nat} (hS : SI b r) (hF : ffL T tn 0 80 = -6) : zV l (fun _ => True) D B RX7 "carryOut" cX7_carryOut 3 (some .int) (zrm 8 187 0 0) (zN (zI (opCar r h c T tn).1 L nx (fun G1 => zRM L m G1 (opCar r h c T tn).2.1 (opCar r h c T tn).2.2.1 (opCar r h c T tn).2.2.2.1 sl T (opCar r h c T tn).2.2.2.2 ∧ ∀ y, y ≠ m → G1 y = G y))) 0 0 L nx 10 [some (.ref m), none, none] [] (G) := by
  have hm := hR.1
  have hex := exL_SI (T := T) (n := tn) 80 0 r 0 b hS
  have hop : opCar r h c T tn = (nI (exL T tn 80 0 r 0).1, (exL T tn 80 0 r 0).2, (pushH h c r).1, (pushH h c r).2, 0) := if_pos hF
  rw [hop]
  refine zv_aload_n dX7_carryOut_10 rfl ?_
  refine zv_callV (m_X7_remember l D B hm) ml_X7_60 in_X7_remember sel_X7_remember hR.1 rfl rfl rfl rfl (Nat.le_of_ble_eq_true rfl) dX7_carryOut_11 ⟨Nat.le_of_ble_eq_true rfl, Nat.le_of_ble_eq_true rfl⟩ ⟨Nat.le_refl _, Nat.le_refl _⟩ (zk_v ?_)
  rw [remM_T hR.2.1]
  refine zv_aload_n dX7_carryOut_14 rfl ?_
  refine zv_iconst (v := 0) dX7_carryOut_15 (by decide) ?_
  refine zv_putI (t := 8) hR.1 rfl fl_X7_162 ft_X7_9 rfl dX7_carryOut_16 ?_
  rw [mT_f (by omega)]
  refine zv_iconst (v := 0) dX7_carryOut_19 (by decide) ?_
  refine zv_istore_n dX7_carryOut_20 (by decide) rfl ?_
  refine zv_iconst (v := 1) dX7_carryOut_21 (by decide) ?_
  refine zv_istore_n dX7_carryOut_22 (by decide) rfl ?_
  exact lp_X7_carryOut l D B hR (z := exL T tn 80 0 r 0) (by omega) 80 0 b 0 r _ (gO_9 (fun j _ _ _ _ => rfl)) rfl (by omega) (by have := hR.2.2.2.2.2.2.1; omega) hF hS rfl

set_option maxRecDepth 100000 in
set_option maxHeartbeats 4000000 in
theorem m_X7_carryOut (l : Launch) (D : zD) (B : Nat) {L : zL} {nx : Nat} {G : zG} {m c tn : Nat} {r : Nat → Int32} {h : Nat → (Nat → Int32)} {sl : Nat → Option (Nat → Int32)} {T : Nat → Nat} (hR : zRM L m G r h c sl T tn) {b : Nat} (hS : SI b r) : zMet l D B yX7_carryOut cX7_carryOut 3 (some .int) 8 187 0 0 [.ref m] L nx G (zI (opCar r h c T tn).1 L nx (fun G1 => zRM L m G1 (opCar r h c T tn).2.1 (opCar r h c T tn).2.2.1 (opCar r h c T tn).2.2.2.1 sl T (opCar r h c T tn).2.2.2.2 ∧ ∀ y, y ≠ m → G1 y = G y)) := by
  refine zMet_of (own := RX7) (mn := "carryOut") [some (.ref m), none, none] (by decide +kernel) rfl rfl rfl (Nat.le_of_ble_eq_true rfl) ?_
  show zV l (fun _ => True) D B RX7 "carryOut" cX7_carryOut 3 (some .int) (zrm 8 187 0 0) (zN (zI (opCar r h c T tn).1 L nx (fun G1 => zRM L m G1 (opCar r h c T tn).2.1 (opCar r h c T tn).2.2.1 (opCar r h c T tn).2.2.2.1 sl T (opCar r h c T tn).2.2.2.2 ∧ ∀ y, y ≠ m → G1 y = G y))) 0 0 L nx 0 [some (.ref m), none, none] [] (G)
  refine zv_aload_n dX7_carryOut_0 rfl ?_
  refine zv_callV (m_isWellR l D B hR) ml_X7_184 in_X7_isWell sel_X7_isWell hR.1 rfl rfl rfl rfl (Nat.le_of_ble_eq_true rfl) dX7_carryOut_1 ⟨Nat.le_of_ble_eq_true rfl, Nat.le_of_ble_eq_true rfl⟩ ⟨Nat.le_refl _, Nat.le_refl _⟩ (zk_p fun G2 hG2 => ?_)
  obtain ⟨g2, rfl, hW, hE⟩ := hG2
  by_cases hz : ffL T tn 0 80 = -6
  · rw [decide_eq_true hz]
    refine zv_if_ne (tgt := 10) dX7_carryOut_4 (by decide) (fun _ => ?_) (fun h => absurd h (by decide))
    refine zv_post (tl_X7_carryOut l D B (zRM_W hR hW) hS hz) ?_
    rintro v L1 n1 G1 ⟨e1, e2, e3, h1, h2⟩
    exact ⟨e1, e2, e3, h1, fun y hy => (h2 y hy).trans (zst_ne _ _ hy)⟩
  · rw [decide_eq_false hz]
    have hop : opCar r h c T tn = (-3, r, h, c, tn) := if_neg hz
    rw [hop]
    refine zv_if_ne (tgt := 10) dX7_carryOut_4 (by decide) (fun h => absurd (rfl) h) (fun _ => ?_)
    refine zv_bipush (v := (-3)) dX7_carryOut_7 (by decide) ?_
    exact zv_iretI dX7_carryOut_9 rfl rfl rfl ⟨zRM_W hR hW, fun y hy => zst_ne _ _ hy⟩
