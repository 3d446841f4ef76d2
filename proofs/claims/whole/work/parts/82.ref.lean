set_option maxRecDepth 100000 in
set_option maxHeartbeats 4000000 in
theorem m_X7_begins (l : Launch) (D : zD) (B : Nat) {L : zL} {nx : Nat} {G : zG} {m : Nat} {g r : Nat → Int32} (hm : (m, 8) ∈ L) {b : Nat} (hS : SI b r) (vv : Int32) : zMet l D B yX7_begins cX7_begins 3 (some .int) 1 23 0 0 [.ref m, .int vv] L nx (mT G m g r) (zE (some (.int (opChapter r vv).1)) L nx (mT G m g (opChapter r vv).2)) := by
  refine zMet_of (own := RX7) (mn := "begins") [some (.ref m), some (.int vv), none] (by decide +kernel) rfl rfl rfl (Nat.le_of_ble_eq_true rfl) ?_
  show zV l (fun _ => True) D B RX7 "begins" cX7_begins 3 (some .int) (zrm 1 23 0 0) (zN (zE (some (.int (opChapter r vv).1)) L nx (mT G m g (opChapter r vv).2))) 0 0 L nx 0 [some (.ref m), some (.int vv), none] [] ((mT G m g r))
  obtain ⟨w, ls, n, cn, i0, iw, i1, il, i2, i3, i4, i5, i6, i7, i8⟩ := id hS
  refine zv_iload_n dX7_begins_0 rfl ?_
  refine zv_i2l dX7_begins_1 ?_
  refine zv_iconst (v := 0) dX7_begins_2 (by decide) ?_
  refine zv_ldc dX7_begins_3 kc_X7_117 ?_
  refine zv_callS (m_in3 l D B vv 0 65535) ml_X7_44 st_X7_in rfl rfl (Nat.le_of_ble_eq_true rfl) dX7_begins_5 ⟨Nat.le_of_ble_eq_true rfl, Nat.le_of_ble_eq_true rfl⟩ ⟨Nat.le_refl _, Nat.le_refl _⟩ (zk_i ?_)
  refine zv_if_ne (tgt := 14) dX7_begins_8 (by decide) (fun c8 => ?_) (fun c8 => ?_)
  · have h1 := bI_ne0.mp c8
    refine zv_aload_n dX7_begins_14 rfl ?_
    refine zv_getS (r := 1) hm rfl fl_X7_7 rfl dX7_begins_15 ?_
    refine zv_iconst (v := 3) dX7_begins_18 (by decide) ?_
    refine zv_iald (i := 1) hm rfl (zix_nI (i := 3) (by omega) (by decide)) dX7_begins_19 ?_
    rw [show (mT G m g r) m (18 + 3) = r 3 from mT_at (by decide)]
    refine zv_if_le (tgt := 26) dX7_begins_20 (by decide) (fun c20 => ?_) (fun c20 => ?_)
    · have h2 : ¬ 0 < r 3 := i32_nlt.mpr c20
      refine zv_aload_n dX7_begins_26 rfl ?_
      refine zv_getS (r := 1) hm rfl fl_X7_7 rfl dX7_begins_27 ?_
      refine zv_iconst (v := 2) dX7_begins_30 (by decide) ?_
      refine zv_iald (i := 1) hm rfl (zix_nI (i := 2) (by omega) (by decide)) dX7_begins_31 ?_
      rw [show (mT G m g r) m (18 + 2) = nI n from (mT_at (by decide)).trans i2]
      refine zv_istore_n dX7_begins_32 (by decide) rfl ?_
      refine zv_iload_n dX7_begins_33 rfl ?_
      refine zv_bipush (v := 16) dX7_begins_34 (by decide) ?_
      refine zv_icmp_ne (tgt := 42) dX7_begins_36 (by decide) (fun c36 => ?_) (fun c36 => ?_)
      · have h3 : ¬ n = 16 := fun e => c36 (by rw [e]; rfl)
        have hop : opChapter r vv = (nI n, upd (upd r (5 + n) vv) 2 (nI (n + 1))) := by
          unfold opChapter
          rw [if_neg (by rw [h1]; simp), if_neg h2, i2, if_neg c36, nI_clamp (by omega), nI_1]
        refine zv_aload_n dX7_begins_42 rfl ?_
        refine zv_getS (r := 1) hm rfl fl_X7_7 rfl dX7_begins_43 ?_
        refine zv_iconst (v := 5) dX7_begins_46 (by decide) ?_
        refine zv_iload_n dX7_begins_47 rfl ?_
        refine zv_iadd dX7_begins_48 ?_
        refine zv_iload_n dX7_begins_49 rfl ?_
        rw [ix5]
        refine zv_iast (i := 1) hm rfl (zix_nI (by omega) (by decide)) dX7_begins_50 ?_
        rw [mT_u (by omega)]
        refine zv_aload_n dX7_begins_51 rfl ?_
        refine zv_getS (r := 1) hm rfl fl_X7_7 rfl dX7_begins_52 ?_
        refine zv_iconst (v := 2) dX7_begins_55 (by decide) ?_
        refine zv_dup2 dX7_begins_56 rfl rfl ?_
        refine zv_iald (i := 1) hm rfl (zix_nI (i := 2) (by omega) (by decide)) dX7_begins_57 ?_
        rw [show mT G m g (upd r (5 + n) vv) m (18 + 2) = nI n by rw [mT_at (by decide)]; simp only [upd]; rw [if_neg (by omega)]; exact i2]
        refine zv_iconst (v := 1) dX7_begins_58 (by decide) ?_
        refine zv_iadd dX7_begins_59 ?_
        rw [nI_1]
        refine zv_iast (i := 1) hm rfl (zix_nI (i := 2) (by omega) (by decide)) dX7_begins_60 ?_
        rw [mT_u (by decide)]
        refine zv_iload_n dX7_begins_61 rfl ?_
        refine zv_iretE dX7_begins_62 rfl (rfl) ?_ ?_
        · rw [hop]
        · rw [hop]
      · have hop : opChapter r vv = (-4, r) := by
          unfold opChapter
          rw [if_neg (by rw [h1]; simp), if_neg h2, i2, if_pos c36]
        refine zv_bipush (v := (-4)) dX7_begins_39 (by decide) ?_
        refine zv_iretE dX7_begins_41 rfl (rfl) ?_ ?_
        · rw [hop]
        · rw [hop]
    · have h2 : 0 < r 3 := i32_nle.mp c20
      have hop : opChapter r vv = (-5, r) := by unfold opChapter; rw [if_neg (by rw [h1]; simp), if_pos h2]
      refine zv_bipush (v := (-5)) dX7_begins_23 (by decide) ?_
      refine zv_iretE dX7_begins_25 rfl (rfl) ?_ ?_
      · rw [hop]
      · rw [hop]
  · have h1 := bI_eq0.mp c8
    have hop : opChapter r vv = (-2, r) := by unfold opChapter; rw [if_pos h1]
    refine zv_bipush (v := (-2)) dX7_begins_11 (by decide) ?_
    refine zv_iretE dX7_begins_13 rfl (rfl) ?_ ?_
    · rw [hop]
    · rw [hop]

set_option maxRecDepth 100000 in
set_option maxHeartbeats 4000000 in
theorem m_X7_cupComes (l : Launch) (D : zD) (B : Nat) {L : zL} {nx : Nat} {G : zG} {m : Nat} {g r : Nat → Int32} (hm : (m, 8) ∈ L) {b : Nat} (hS : SI b r) : zMet l D B yX7_cupComes cX7_cupComes 2 (some .int) 0 0 0 0 [.ref m] L nx (mT G m g r) (zE (some (.int (opCup r).1)) L nx (mT G m g (opCup r).2)) := by
  refine zMet_of (own := RX7) (mn := "cupComes") [some (.ref m), none] (by decide +kernel) rfl rfl rfl (Nat.le_of_ble_eq_true rfl) ?_
  show zV l (fun _ => True) D B RX7 "cupComes" cX7_cupComes 2 (some .int) (zrm 0 0 0 0) (zN (zE (some (.int (opCup r).1)) L nx (mT G m g (opCup r).2))) 0 0 L nx 0 [some (.ref m), none] [] ((mT G m g r))
  refine zv_aload_n dX7_cupComes_0 rfl ?_
  refine zv_getS (r := 1) hm rfl fl_X7_7 rfl dX7_cupComes_1 ?_
  refine zv_iconst (v := 3) dX7_cupComes_4 (by decide) ?_
  refine zv_iald (i := 1) hm rfl (zix_nI (i := 3) (by omega) (by decide)) dX7_cupComes_5 ?_
  rw [show (mT G m g r) m (18 + 3) = r 3 from mT_at (by decide)]
  refine zv_istore_n dX7_cupComes_6 (by decide) rfl ?_
  refine zv_iload_n dX7_cupComes_7 rfl ?_
  refine zv_iconst (v := 3) dX7_cupComes_8 (by decide) ?_
  refine zv_icmp_ne (tgt := 15) dX7_cupComes_9 (by decide) (fun c9 => ?_) (fun c9 => ?_)
  · have hop : opCup r = (r 3, upd r 3 (r 3 + 1)) := by unfold opCup; rw [if_neg c9]
    refine zv_aload_n dX7_cupComes_15 rfl ?_
    refine zv_getS (r := 1) hm rfl fl_X7_7 rfl dX7_cupComes_16 ?_
    refine zv_iconst (v := 3) dX7_cupComes_19 (by decide) ?_
    refine zv_dup2 dX7_cupComes_20 rfl rfl ?_
    refine zv_iald (i := 1) hm rfl (zix_nI (i := 3) (by omega) (by decide)) dX7_cupComes_21 ?_
    rw [show (mT G m g r) m (18 + 3) = r 3 from mT_at (by decide)]
    refine zv_iconst (v := 1) dX7_cupComes_22 (by decide) ?_
    refine zv_iadd dX7_cupComes_23 ?_
    refine zv_iast (i := 1) hm rfl (zix_nI (i := 3) (by omega) (by decide)) dX7_cupComes_24 ?_
    rw [mT_u (by decide)]
    refine zv_iload_n dX7_cupComes_25 rfl ?_
    refine zv_iretE dX7_cupComes_26 rfl (rfl) ?_ ?_
    · rw [hop]
    · rw [hop]
  · have hop : opCup r = (-4, r) := by unfold opCup; rw [if_pos c9]
    refine zv_bipush (v := (-4)) dX7_cupComes_12 (by decide) ?_
    refine zv_iretE dX7_cupComes_14 rfl (rfl) ?_ ?_
    · rw [hop]
    · rw [hop]

set_option maxRecDepth 100000 in
set_option maxHeartbeats 4000000 in
theorem lp_X7_pours (l : Launch) (D : zD) (B : Nat) {L : zL} {nx : Nat} {G : zG} {m : Nat} {g r : Nat → Int32} (hm : (m, 8) ∈ L) {i n w sd mn c : Nat} {f : Nat → Int32} (hi : i < 3) (hc : c = 0) (hCI : zCI n (chR r) f) (i0 : r 0 = nI w) (iw : w ≤ 2) (i2 : r 2 = nI n) (hn0 : 0 < n) (i3 : n ≤ 16) (hsd : sd < 65536) (hmn : mn < 100) : ∀ k : Nat, k ≤ mn → ∀ g1 : Nat → Int32, gF g g1 → zV l (fun _ => True) D B RX7 "pours" cX7_pours 6 (some .int) (zrm 5 119 0 0) (zN (zI (prR r f sd mn) L nx (fun G1 => ∃ g1, gF g g1 ∧ G1 = (mS G m g1 (upd r 4 (r 4 + nI mn)) i (prF r f sd mn))))) 0 0 L nx 53 [some (.ref m), some (.int (nI i)), some (.int (nI sd)), some (.int (nI mn)), some (.int (prR r f sd k)), some (.int (nI k))] [] ((mS G m g1 (upd r 4 (r 4 + nI k)) i (prF r f sd k))) := by
  refine zloop mn (fun k hk ih g1 hg1 => ?_)
  obtain ⟨t, hJ, -⟩ := prF_CI (sd := sd) i2 hn0 i3 hCI k
  refine zv_iload dX7_pours_53 rfl ?_
  refine zv_iload_n dX7_pours_55 rfl ?_
  refine zv_icmp_ge (tgt := 82) dX7_pours_56 (by decide) (fun c56 => ?_) (fun c56 => ?_)
  · have e : k = mn := by have := (nI_leI (by omega) (by omega)).mp c56; omega
    subst e
    refine zv_iload dX7_pours_82 rfl ?_
    exact zv_iretI dX7_pours_84 rfl rfl rfl ⟨_, hg1, rfl⟩
  · have hlt : k < mn := by
      rcases Nat.lt_or_ge k mn with h | h
      · exact h
      · exact absurd (nI_le h (by omega)) c56
    refine zv_iload dX7_pours_59 rfl ?_
    refine zv_aload_n dX7_pours_61 rfl ?_
    refine zv_iload_n dX7_pours_62 rfl ?_
    refine zv_iload_n dX7_pours_63 rfl ?_
    refine zv_iload dX7_pours_64 rfl ?_
    refine zv_iadd dX7_pours_66 ?_
    rw [nI_add]
    refine zv_ldc dX7_pours_67 kc_X7_122 ?_
    refine zv_irem dX7_pours_69 (by decide) ?_
    rw [show nI (sd + k) - nI (sd + k) / 65536 * 65536 = nI ((sd + k) % 65536) from pk_rem (d := 65536) (by omega) (by omega) (by omega)]
    refine zv_callV (m_X7_drops l D B hm hi (n := n) (t := t) (w := w) (sd := (sd + k) % 65536) (by rw [chR_4]; exact hJ) ((show upd r 4 (r 4 + nI k) 0 = r 0 from rfl).trans i0) iw ((show upd r 4 (r 4 + nI k) 2 = r 2 from rfl).trans i2) hn0 i3 (by omega)) ml_X7_123 in_X7_drops sel_X7_drops hm rfl rfl rfl rfl (Nat.le_of_ble_eq_true rfl) dX7_pours_70 ⟨Nat.le_of_ble_eq_true rfl, Nat.le_of_ble_eq_true rfl⟩ ⟨Nat.le_refl _, Nat.le_refl _⟩ (zk_i ?_)
    rw [dPR_4, upd_upd, show upd r 4 (r 4 + nI k) 4 = r 4 + nI k from rfl, Int32.add_assoc, nI_1]
    refine zv_iadd dX7_pours_73 ?_
    refine zv_istore dX7_pours_74 (by decide) rfl ?_
    refine zv_iinc1 dX7_pours_76 rfl (by decide) rfl ?_
    refine zv_goto (tgt := 53) dX7_pours_79 (by decide) ?_
    rw [nI_1]
    exact ih hlt _ (gF_tr hg1 gF_mk)

set_option maxRecDepth 100000 in
set_option maxHeartbeats 4000000 in
theorem m_X7_pours (l : Launch) (D : zD) (B : Nat) {L : zL} {nx : Nat} {G : zG} {m : Nat} {g r : Nat → Int32} (hm : (m, 8) ∈ L) {b : Nat} (hS : SI b r) (y sd mn : Int32) : zMet l D B yX7_pours cX7_pours 6 (some .int) 5 119 0 0 [.ref m, .int y, .int sd, .int mn] L nx (mT G m g r) (zI (opPour r y sd mn).1 L nx (fun G1 => ∃ g1, gF g g1 ∧ G1 = mT G m g1 (opPour r y sd mn).2)) := by
  refine zMet_of (own := RX7) (mn := "pours") [some (.ref m), some (.int y), some (.int sd), some (.int mn), none, none] (by decide +kernel) rfl rfl rfl (Nat.le_of_ble_eq_true rfl) ?_
  show zV l (fun _ => True) D B RX7 "pours" cX7_pours 6 (some .int) (zrm 5 119 0 0) (zN (zI (opPour r y sd mn).1 L nx (fun G1 => ∃ g1, gF g g1 ∧ G1 = mT G m g1 (opPour r y sd mn).2))) 0 0 L nx 0 [some (.ref m), some (.int y), some (.int sd), some (.int mn), none, none] [] ((mT G m g r))
  obtain ⟨w, ls, n, cn, i0, iw, i1, il, i2, i3, i4, i5, i6, i7, i8⟩ := id hS
  refine zv_aload_n dX7_pours_0 rfl ?_
  refine zv_iload_n dX7_pours_1 rfl ?_
  refine zv_callV (m_X7_isCup l D B hm i4 i5 (mT_at (k := 3) (by decide)) y) ml_X7_118 in_X7_isCup sel_X7_isCup hm rfl rfl rfl rfl (Nat.le_of_ble_eq_true rfl) dX7_pours_2 ⟨Nat.le_of_ble_eq_true rfl, Nat.le_of_ble_eq_true rfl⟩ ⟨Nat.le_refl _, Nat.le_refl _⟩ (zk_i ?_)
  rcases hz : cpI r y with _ | i
  · have hop : opPour r y sd mn = (-1, r) := by unfold opPour; rw [hz]
    rw [hop]
    refine zv_if_ne (tgt := 10) dX7_pours_5 (by decide) (fun h => absurd (rfl) h) (fun _ => ?_)
    refine zv_iconst (v := (-1)) dX7_pours_8 (by decide) ?_
    exact zv_iretI dX7_pours_9 rfl rfl rfl ⟨_, gF_rf, rfl⟩
  · obtain ⟨hi, rfl⟩ := cpI_some i4 i5 hz
    have hi3 : i < 3 := by omega
    refine zv_if_ne (tgt := 10) dX7_pours_5 (by decide) (fun _ => ?_) (fun h => absurd h (show ¬ bI true = 0 from by decide))
    refine zv_iload_n dX7_pours_10 rfl ?_
    refine zv_i2l dX7_pours_11 ?_
    refine zv_iconst (v := 0) dX7_pours_12 (by decide) ?_
    refine zv_ldc dX7_pours_13 kc_X7_117 ?_
    refine zv_callS (m_in3 l D B sd 0 65535) ml_X7_44 st_X7_in rfl rfl (Nat.le_of_ble_eq_true rfl) dX7_pours_15 ⟨Nat.le_of_ble_eq_true rfl, Nat.le_of_ble_eq_true rfl⟩ ⟨Nat.le_refl _, Nat.le_refl _⟩ (zk_i ?_)
    refine zv_if_eq (tgt := 32) dX7_pours_18 (by decide) (fun c18 => ?_) (fun c18 => ?_)
    · have z1 := bI_eq0.mp c18
      have he : errD r sd mn = -2 := by unfold errD; rw [z1, Bool.false_and, if_pos rfl]
      refine zv_bipush (v := (-2)) dX7_pours_32 (by decide) ?_
      have hop : opPour r (nI i) sd mn = (-2, r) := by unfold opPour; rw [hz]; dsimp only; rw [he, if_pos (by decide)]
      rw [hop]
      exact zv_iretI dX7_pours_34 rfl rfl rfl ⟨_, gF_rf, rfl⟩
    · have z1 := bI_ne0.mp c18
      refine zv_iload_n dX7_pours_21 rfl ?_
      refine zv_i2l dX7_pours_22 ?_
      refine zv_iconst (v := 1) dX7_pours_23 (by decide) ?_
      refine zv_bipush (v := 99) dX7_pours_24 (by decide) ?_
      refine zv_callS (m_in3 l D B mn 1 99) ml_X7_44 st_X7_in rfl rfl (Nat.le_of_ble_eq_true rfl) dX7_pours_26 ⟨Nat.le_of_ble_eq_true rfl, Nat.le_of_ble_eq_true rfl⟩ ⟨Nat.le_refl _, Nat.le_refl _⟩ (zk_i ?_)
      refine zv_if_ne (tgt := 35) dX7_pours_29 (by decide) (fun c29 => ?_) (fun c29 => ?_)
      · have z2 := bI_ne0.mp c29
        refine zv_aload_n dX7_pours_35 rfl ?_
        refine zv_getS (r := 1) hm rfl fl_X7_7 rfl dX7_pours_36 ?_
        refine zv_iconst (v := 2) dX7_pours_39 (by decide) ?_
        refine zv_iald (i := 1) hm rfl (zix_nI (i := 2) (by omega) (by decide)) dX7_pours_40 ?_
        rw [show (mT G m g r) m (18 + 2) = r 2 from mT_at (by decide)]
        refine zv_if_ne (tgt := 47) dX7_pours_41 (by decide) (fun c41 => ?_) (fun c41 => ?_)
        · have he : errD r sd mn = 0 := by unfold errD; rw [z1, z2, if_neg (by simp), if_neg c41]
          refine zv_iconst (v := 0) dX7_pours_47 (by decide) ?_
          refine zv_istore dX7_pours_48 (by decide) rfl ?_
          refine zv_iconst (v := 0) dX7_pours_50 (by decide) ?_
          refine zv_istore dX7_pours_51 (by decide) rfl ?_
          have he0 : ¬ errD r sd mn < 0 := by rw [he]; decide
          have hop : opPour r (nI i) sd mn = (prR r (cupR r i) sd.toNatClampNeg mn.toNatClampNeg, upd (putC r i (prF r (cupR r i) sd.toNatClampNeg mn.toNatClampNeg)) 4 (r 4 + mn)) := by unfold opPour; rw [hz]; dsimp only; rw [if_neg he0]
          obtain ⟨sd', mn', hsd, hmn0, hmn, rfl, rfl, hn0⟩ := errD_ok i2 i3 he0
          rw [nI_clamp (by omega), nI_clamp (by omega)] at hop
          rw [hop]
          refine zv_post (q := zI (prR r (cupR r i) sd' mn') L nx (fun G1 => ∃ g1, gF g g1 ∧ G1 = mS G m g1 (upd r 4 (r 4 + nI mn')) i (prF r (cupR r i) sd' mn'))) ?_ ?_
          · have := lp_X7_pours l D B (G := G) (nx := nx) (r := r) (g := g) (f := cupR r i) (c := 0) hm hi3 rfl (i6 i hi3) i0 iw i2 hn0 i3 hsd hmn 0 (by omega) g gF_rf
            rw [show nI 0 = 0 from rfl, i32_add0, upd_same] at this
            rw [mT_S (i := i)]
            exact this
          · rintro v L1 n1 G1 ⟨e1, e2, e3, g1, hg, rfl⟩
            refine ⟨e1, e2, e3, g1, hg, ?_⟩
            show zst G m (mG g1 (putC (upd r 4 (r 4 + nI mn')) i (prF r (cupR r i) sd' mn'))) = mT G m g1 (upd (putC r i (prF r (cupR r i) sd' mn')) 4 (r 4 + nI mn'))
            rw [upd_putC (by decide)]
            rfl
        · have he : errD r sd mn = -5 := by unfold errD; rw [z1, z2, if_neg (by simp), if_pos (by simpa using c41)]
          refine zv_bipush (v := (-5)) dX7_pours_44 (by decide) ?_
          have hop : opPour r (nI i) sd mn = (-5, r) := by unfold opPour; rw [hz]; dsimp only; rw [he, if_pos (by decide)]
          rw [hop]
          exact zv_iretI dX7_pours_46 rfl rfl rfl ⟨_, gF_rf, rfl⟩
      · have z2 := bI_eq0.mp c29
        have he : errD r sd mn = -2 := by unfold errD; rw [z2, Bool.and_false, if_pos rfl]
        refine zv_bipush (v := (-2)) dX7_pours_32 (by decide) ?_
        have hop : opPour r (nI i) sd mn = (-2, r) := by unfold opPour; rw [hz]; dsimp only; rw [he, if_pos (by decide)]
        rw [hop]
        exact zv_iretI dX7_pours_34 rfl rfl rfl ⟨_, gF_rf, rfl⟩
