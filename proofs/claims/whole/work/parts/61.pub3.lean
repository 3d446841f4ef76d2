set_option maxRecDepth 100000 in
set_option maxHeartbeats 4000000 in
theorem lp_X6_put (l : Launch) (D : zD) (B : Nat) {L : zL} {nx : Nat} {G0 : zG} {x tn u c : Nat} {T : Nat → Nat} (hb : zBD L x) (hu : u < 2 ^ 64) (hc : c ≤ 8) (hok : ∀ j, j < c → 33 ≤ chB u j ∧ chB u j ≤ 126) (h80 : tn + c ≤ 80) : ∀ k : Nat, k ≤ c → ∀ G : zG, (∃ g, G = zst G0 (x + 124) g) → zPT L G (x + 124) (putT T tn u c k) (tn + (c - k)) → zV l (fun _ => True) D B RX6 "put" cX6_put 5 (some .int) (zrm 2 46 0 0) (zN (zI (nI (tn + c)) L nx (fun G1 => (∃ g, G1 = zst G0 (x + 124) g) ∧ zPT L G1 (x + 124) (putT T tn u c 0) (tn + c)))) 0 0 L nx 34 [some (.ref x), some (.long (lN u)), none, some (.int (nI c)), some (.int (nI k - 1))] [] (G) := by
  intro k
  induction k with
  | zero =>
    intro hk G hg hp
    refine zv_iload dX6_put_34 rfl ?_
    refine zv_if_lt (tgt := 65) dX6_put_36 (by decide) (fun _ => ?_) (fun h => absurd (by decide) h)
    refine zv_aload_n dX6_put_65 rfl ?_
    refine zv_getS (r := 124) hb.1 rfl fl_X6_30 rfl dX6_put_66 ?_
    refine zv_getI hb.2.2.2.2.1 rfl fl_X6_165 rfl dX6_put_69 ?_
    exact zv_iretI dX6_put_72 rfl rfl hp.2.2.1 ⟨hg, hp⟩
  | succ k ih =>
    intro hk G hg hp
    rw [nI_pred]
    have hB := hok k (by omega)
    refine zv_iload dX6_put_34 rfl ?_
    refine zv_if_lt (tgt := 65) dX6_put_36 (by decide) (fun h => absurd h (nI_pos (by omega))) (fun _ => ?_)
    refine zv_aload_n dX6_put_39 rfl ?_
    refine zv_getS (r := 124) hb.1 rfl fl_X6_30 rfl dX6_put_40 ?_
    refine zv_lload_n dX6_put_43 rfl ?_
    refine zv_bipush (v := 8) dX6_put_44 (by decide) ?_
    refine zv_iload dX6_put_46 rfl ?_
    refine zv_imul dX6_put_48 ?_
    rw [show (8 : Int32) * nI k = nI (8 * k) from pk_mul 8 k]
    refine zv_lushr dX6_put_49 ?_
    rw [lN_shr hu (by omega)]
    refine zv_ldc2 dX6_put_50 kc_X6_188 ?_
    refine zv_land dX6_put_53 ?_
    refine zv_l2i dX6_put_54 ?_
    rw [lN_and (Nat.lt_of_le_of_lt (Nat.shiftRight_le _ _) hu)]
    refine zv_i2c dX6_put_55 ?_
    rw [nI_i2c (by omega)]
    refine zv_callV (m_X3_append l D B (c := chB u k) hp.1 hp.2.2.1 (by omega) (by omega)) ml_X6_190 in_X3_append sel_X3_append hb.2.2.2.2.1 rfl rfl rfl rfl (Nat.le_of_ble_eq_true rfl) dX6_put_56 ⟨Nat.le_of_ble_eq_true rfl, Nat.le_of_ble_eq_true rfl⟩ ⟨Nat.le_refl _, Nat.le_refl _⟩ (zk_v ?_)
    refine zv_iincm dX6_put_59 rfl (by decide) rfl ?_
    refine zv_goto (tgt := 34) dX6_put_62 (by decide) ?_
    obtain ⟨g, rfl⟩ := hg
    refine ih (by omega) _ ⟨_, zst_zst _ _ _ _⟩ ?_
    have := zPT_app hp (b := chB u k) (by omega) (by omega)
    rw [← putT_s (by omega)] at this
    rw [show tn + (c - k) = tn + (c - (k + 1)) + 1 by omega]
    exact this

set_option maxRecDepth 100000 in
set_option maxHeartbeats 4000000 in
theorem m_X6_put (l : Launch) (D : zD) (B : Nat) {L : zL} {nx : Nat} {G : zG} {x c tn : Nat} {r : Nat → Int32} {h : Nat → (Nat → Int32)} {sl : Nat → Option (Nat → Int32)} {T : Nat → Nat} (hR : zRC L x nx G r h c sl T tn) {u : Nat} (hu : u < 2 ^ 64) : zMet l D B yX6_put cX6_put 5 (some .int) 2 46 0 0 [.ref x, .long (lN u)] L nx G (zI ((opPut T tn u).1) L nx (fun G1 => zRC L x nx G1 (r) (h) (c) sl ((opPut T tn u).2.1) ((opPut T tn u).2.2) ∧ G1 (x + 134) = G (x + 134))) := by
  refine zMet_of (own := RX6) (mn := "put") [some (.ref x), some (.long (lN u)), none, none, none] (by decide +kernel) rfl rfl rfl (Nat.le_of_ble_eq_true rfl) ?_
  show zV l (fun _ => True) D B RX6 "put" cX6_put 5 (some .int) (zrm 2 46 0 0) (zN (zI ((opPut T tn u).1) L nx (fun G1 => zRC L x nx G1 (r) (h) (c) sl ((opPut T tn u).2.1) ((opPut T tn u).2.2) ∧ G1 (x + 134) = G (x + 134)))) 0 0 L nx 0 [some (.ref x), some (.long (lN u)), none, none, none] [] (G)
  obtain ⟨hb, hC, ⟨f, hh⟩, hs, hp⟩ := id hR
  refine zv_lload_n dX6_put_0 rfl ?_
  refine zv_callS (m_X6_charactersIn l D B hu) ml_X6_184 st_X6_charactersIn rfl rfl (Nat.le_of_ble_eq_true rfl) dX6_put_1 ⟨Nat.le_of_ble_eq_true rfl, Nat.le_of_ble_eq_true rfl⟩ ⟨Nat.le_refl _, Nat.le_refl _⟩ (zk_i ?_)
  refine zv_istore_n dX6_put_4 (by decide) rfl ?_
  refine zv_iload_n dX6_put_5 rfl ?_
  refine zv_if_ne (tgt := 12) dX6_put_6 (by decide) (fun c6 => ?_) (fun c6 => ?_)
  · have h0 : ¬ chN u = 0 := fun e => c6 (by rw [e]; rfl)
    refine zv_aload_n dX6_put_12 rfl ?_
    refine zv_getS (r := 124) hR.1.1 rfl fl_X6_30 rfl dX6_put_13 ?_
    refine zv_getI hb.2.2.2.2.1 rfl fl_X6_165 rfl dX6_put_16 ?_
    rw [hp.2.2.1]
    refine zv_iload_n dX6_put_19 rfl ?_
    refine zv_iadd dX6_put_20 ?_
    rw [nI_add]
    refine zv_bipush (v := 80) dX6_put_21 (by decide) ?_
    have h8 := chN_le (u := u)
    have h80 := hp.2.1
    refine zv_icmp_le (tgt := 29) dX6_put_23 (by decide) (fun c23 => ?_) (fun c23 => ?_)
    · have h1 : tn + chN u ≤ 80 := (nI_leI (a := tn + chN u) (b := 80) (by omega) (by decide)).mp c23
      have hop : opPut T tn u = (nI (tn + chN u), putT T tn u (chN u) 0, tn + chN u) := by unfold opPut; rw [if_neg h0, if_neg (by omega)]
      rw [hop]
      refine zv_iload_n dX6_put_29 rfl ?_
      refine zv_iconst (v := 1) dX6_put_30 (by decide) ?_
      refine zv_isub dX6_put_31 ?_
      refine zv_istore dX6_put_32 (by decide) rfl ?_
      refine zv_post (q := zI (nI (tn + chN u)) L nx (fun G1 => (∃ g, G1 = zst G (x + 124) g) ∧ zPT L G1 (x + 124) (putT T tn u (chN u) 0) (tn + chN u))) ?_ ?_
      · exact lp_X6_put l D B hb hu h8 (fun j hj => chN_ok hj) h1 (chN u) (Nat.le_refl _) G ⟨G (x + 124), (zst_self _ _).symm⟩ (by rw [putT_0, Nat.sub_self]; exact hp)
      · rintro v L1 n1 G1 ⟨e1, e2, e3, ⟨g, rfl⟩, hp2⟩
        exact ⟨e1, e2, e3, zRC_pad hR hp2⟩
    · have h1 : 80 < tn + chN u := by
        rcases Nat.lt_or_ge 80 (tn + chN u) with g | g
        · exact g
        · exact absurd (nI_le g (by decide)) c23
      have hop : opPut T tn u = (-4, T, tn) := by unfold opPut; rw [if_neg h0, if_pos h1]
      rw [hop]
      refine zv_bipush (v := (-4)) dX6_put_26 (by decide) ?_
      exact zv_iretI dX6_put_28 rfl rfl rfl ⟨hR, rfl⟩
  · have h0 : chN u = 0 := (nI_eq (by have := chN_le (u := u); omega) (by decide)).mp (show nI (chN u) = nI 0 from c6)
    have hop : opPut T tn u = (-2, T, tn) := if_pos h0
    rw [hop]
    refine zv_bipush (v := (-2)) dX6_put_9 (by decide) ?_
    exact zv_iretI dX6_put_11 rfl rfl rfl ⟨hR, rfl⟩

set_option maxRecDepth 100000 in
set_option maxHeartbeats 4000000 in
theorem m_X6_carryOneOut (l : Launch) (D : zD) (B : Nat) {L : zL} {nx : Nat} {G : zG} {x b n p : Nat} {r : Nat → Int32} {T : Nat → Nat} (hb : zBD L x) (hC : CR x r G) (hS : SI b r) (hsg : sg T n p < 128) (hr : roP T n p (G (x + 124))) : zMet l D B yX6_carryOneOut cX6_carryOneOut 1 (some .int) 5 117 0 0 [.ref x] L nx G (zI (opOrd r T n p).1 L nx (fun G1 => CR x (opOrd r T n p).2 G1 ∧ zFr x G G1)) := by
  refine zMet_of (own := RX6) (mn := "carryOneOut") [some (.ref x)] (by decide +kernel) rfl rfl rfl (Nat.le_of_ble_eq_true rfl) ?_
  show zV l (fun _ => True) D B RX6 "carryOneOut" cX6_carryOneOut 1 (some .int) (zrm 5 117 0 0) (zN (zI (opOrd r T n p).1 L nx (fun G1 => CR x (opOrd r T n p).2 G1 ∧ zFr x G G1))) 0 0 L nx 0 [some (.ref x)] [] (G)
  refine zv_aload_n dX6_carryOneOut_0 rfl ?_
  refine zv_getS (r := 124) hb.1 rfl fl_X6_30 rfl dX6_carryOneOut_1 ?_
  refine zv_getI hb.2.2.2.2.1 rfl fl_X6_230 rfl dX6_carryOneOut_4 ?_
  obtain ⟨q3, qk, q5, q4, q6⟩ := hr
  rw [q3]
  rcases (show sg T n p = 99 ∨ (¬ sg T n p = 99 ∧ sg T n p = 112) ∨ (¬ sg T n p = 99 ∧ ¬ sg T n p = 112 ∧ sg T n p = 117) ∨ (¬ sg T n p = 99 ∧ ¬ sg T n p = 112 ∧ ¬ sg T n p = 117) by omega) with k1 | ⟨k1, k2⟩ | ⟨k1, k2, k3⟩ | ⟨k1, k2, k3⟩
  · have hop : opOrd r T n p = opChapter r (nI (rdO T n p).2.2.2.1) := by
      unfold opOrd
      rw [if_pos k1]
    refine zv_lookup (off := 33) (tgt := 40) dX6_carryOneOut_7 (by decide +kernel) (by rw [k1]; decide +kernel) (by decide) ?_
    refine zv_aload_n dX6_carryOneOut_40 rfl ?_
    refine zv_aload_n dX6_carryOneOut_41 rfl ?_
    refine zv_getS (r := 124) hb.1 rfl fl_X6_30 rfl dX6_carryOneOut_42 ?_
    refine zv_getI hb.2.2.2.2.1 rfl fl_X6_234 rfl dX6_carryOneOut_45 ?_
    rw [q5 k1]
    refine zv_callV (m_X6_addChapter l D B hb hC hS _) ml_X6_67 in_X6_addChapter sel_X6_addChapter hb.1 rfl rfl rfl rfl (Nat.le_of_ble_eq_true rfl) dX6_carryOneOut_48 ⟨Nat.le_of_ble_eq_true rfl, Nat.le_of_ble_eq_true rfl⟩ ⟨Nat.le_refl _, Nat.le_refl _⟩ (zk_p fun G2 hG2 => ?_)
    rw [hop]
    exact zv_iretI dX6_carryOneOut_51 rfl rfl rfl hG2
  · have hop : opOrd r T n p = opPour r (nI (rdO T n p).2.2.1) (nI (rdO T n p).2.2.2.1) (nI (rdO T n p).2.2.2.2) := by
      unfold opOrd
      rw [if_neg k1, if_neg (by omega), if_pos k2]
    refine zv_lookup (off := 50) (tgt := 57) dX6_carryOneOut_7 (by decide +kernel) (by rw [k2]; decide +kernel) (by decide) ?_
    refine zv_aload_n dX6_carryOneOut_57 rfl ?_
    refine zv_aload_n dX6_carryOneOut_58 rfl ?_
    refine zv_getS (r := 124) hb.1 rfl fl_X6_30 rfl dX6_carryOneOut_59 ?_
    refine zv_getI hb.2.2.2.2.1 rfl fl_X6_235 rfl dX6_carryOneOut_62 ?_
    refine zv_aload_n dX6_carryOneOut_65 rfl ?_
    refine zv_getS (r := 124) hb.1 rfl fl_X6_30 rfl dX6_carryOneOut_66 ?_
    refine zv_getI hb.2.2.2.2.1 rfl fl_X6_234 rfl dX6_carryOneOut_69 ?_
    refine zv_aload_n dX6_carryOneOut_72 rfl ?_
    refine zv_getS (r := 124) hb.1 rfl fl_X6_30 rfl dX6_carryOneOut_73 ?_
    refine zv_getI hb.2.2.2.2.1 rfl fl_X6_238 rfl dX6_carryOneOut_76 ?_
    rw [(q6 k2).1, (q6 k2).2.1, (q6 k2).2.2]
    refine zv_callV (m_X6_pourDroplets l D B hb hC hS _ _ _) ml_X6_77 in_X6_pourDroplets sel_X6_pourDroplets hb.1 rfl rfl rfl rfl (Nat.le_of_ble_eq_true rfl) dX6_carryOneOut_79 ⟨Nat.le_of_ble_eq_true rfl, Nat.le_of_ble_eq_true rfl⟩ ⟨Nat.le_refl _, Nat.le_refl _⟩ (zk_p fun G2 hG2 => ?_)
    rw [hop]
    exact zv_iretI dX6_carryOneOut_82 rfl rfl rfl hG2
  · have hop : opOrd r T n p = opCup r := by
      unfold opOrd
      rw [if_neg k1, if_pos k3]
    refine zv_lookup (off := 45) (tgt := 52) dX6_carryOneOut_7 (by decide +kernel) (by rw [k3]; decide +kernel) (by decide) ?_
    refine zv_aload_n dX6_carryOneOut_52 rfl ?_
    refine zv_callV (m_X6_addCup l D B hb hC hS ) ml_X6_70 in_X6_addCup sel_X6_addCup hb.1 rfl rfl rfl rfl (Nat.le_of_ble_eq_true rfl) dX6_carryOneOut_53 ⟨Nat.le_of_ble_eq_true rfl, Nat.le_of_ble_eq_true rfl⟩ ⟨Nat.le_refl _, Nat.le_refl _⟩ (zk_p fun G2 hG2 => ?_)
    rw [hop]
    exact zv_iretI dX6_carryOneOut_56 rfl rfl rfl hG2
  · have hop : opOrd r T n p = opSolve r (nI (rdO T n p).2.2.1) := by
      unfold opOrd
      rw [if_neg k1, if_neg k3, if_neg k2]
    refine zv_lookup (off := 76) (tgt := 83) dX6_carryOneOut_7 (by decide +kernel) ((lv_osw (k := 99) (fun e => k1 ((nI_eq (by omega) (by decide)).mp e)) rfl).trans ((lv_osw (k := 112) (fun e => k2 ((nI_eq (by omega) (by decide)).mp e)) rfl).trans ((lv_osw (k := 117) (fun e => k3 ((nI_eq (by omega) (by decide)).mp e)) rfl).trans rfl))) (by decide) ?_
    refine zv_aload_n dX6_carryOneOut_83 rfl ?_
    refine zv_aload_n dX6_carryOneOut_84 rfl ?_
    refine zv_getS (r := 124) hb.1 rfl fl_X6_30 rfl dX6_carryOneOut_85 ?_
    refine zv_getI hb.2.2.2.2.1 rfl fl_X6_235 rfl dX6_carryOneOut_88 ?_
    rw [q4 (by omega)]
    refine zv_callV (m_X6_solveCup l D B hb hC hS _) ml_X6_81 in_X6_solveCup sel_X6_solveCup hb.1 rfl rfl rfl rfl (Nat.le_of_ble_eq_true rfl) dX6_carryOneOut_91 ⟨Nat.le_of_ble_eq_true rfl, Nat.le_of_ble_eq_true rfl⟩ ⟨Nat.le_refl _, Nat.le_refl _⟩ (zk_p fun G2 hG2 => ?_)
    rw [hop]
    exact zv_iretI dX6_carryOneOut_94 rfl rfl rfl hG2

set_option maxRecDepth 100000 in
set_option maxHeartbeats 4000000 in
theorem fn_X6_carryOut (l : Launch) (D : zD) (B : Nat) {L : zL} {nx : Nat} {G0 : zG} {x c tn f : Nat} {r : Nat → Int32} {h : Nat → (Nat → Int32)} {sl : Nat → Option (Nat → Int32)} {T : Nat → Nat} {E : Nat × (Nat → Int32)} (hb : zBD L x) (hh : zHs x G0 h c f) (hs : ∃ ad, zSl L x nx G0 sl ad) (h80 : tn ≤ 80)  (hE80 : E.1 ≤ 80) {a : Option Value} {G : zG} (hC : CR x E.2 G) (hp : (x + 124, 7) ∈ L) (hF : zFp x (stPut G0 (x + 16 + (2 + 15 * ((f + c) % 7))) r) G) : zV l (fun _ => True) D B RX6 "carryOut" cX6_carryOut 3 (some .int) (zrm 6 137 0 0) (zN (zI (nI E.1) L nx (fun G1 => zRC L x nx G1 E.2 (pushH h c r).1 (pushH h c r).2 sl T 0 ∧ G1 (x + 134) = G0 (x + 134)))) 0 0 L nx 82 [some (.ref x), some (.int (nI E.1)), a] [] (G) := by
  refine zv_aload_n dX6_carryOut_82 rfl ?_
  refine zv_getS (r := 124) hb.1 rfl fl_X6_30 rfl dX6_carryOut_83 ?_
  refine zv_iconst (v := 0) dX6_carryOut_86 (by decide) ?_
  refine zv_putI (t := 7) hb.2.2.2.2.1 rfl fl_X6_165 ft_X3_1 rfl dX6_carryOut_87 ?_
  have hC2 := CR_pad (g := upd (G (x + 124)) 1 0) hC
  have hF2 := zFp_pad (g := upd (G (x + 124)) 1 0) hF
  have h16 : zst G (x + 124) (upd (G (x + 124)) 1 0) (x + 16) = G0 (x + 16) := by rw [hF2 _ (by omega), stPut_ne _ _ (by omega)]
  refine zv_aload_n dX6_carryOut_90 rfl ?_
  refine zv_getS (r := 16) hb.1 rfl fl_X6_19 rfl dX6_carryOut_91 ?_
  refine zv_iload_n dX6_carryOut_94 rfl ?_
  refine zv_callV (m_X2_keepUnlessError l D B hb.2.2.1 (by rw [h16]; exact hh.2.1) hh.1 (by rw [h16]; exact hh.2.2.1) hh.2.2.2.1 (nI_pos (by omega))) ml_X6_63 in_X2_keepUnlessError sel_X2_keepUnlessError hb.2.2.1.1 rfl rfl rfl rfl (Nat.le_of_ble_eq_true rfl) dX6_carryOut_95 ⟨Nat.le_of_ble_eq_true rfl, Nat.le_of_ble_eq_true rfl⟩ ⟨Nat.le_refl _, Nat.le_refl _⟩ (zk_i ?_)
  exact zv_iretI dX6_carryOut_98 rfl rfl rfl (zRC_car (T := T) hb hh hs ⟨hp, by omega, by rw [zst_same]; exact if_pos rfl, fun i hi => by omega⟩ hC2 hF2)

set_option maxRecDepth 100000 in
set_option maxHeartbeats 4000000 in
theorem lp_X6_carryOut (l : Launch) (D : zD) (B : Nat) {L : zL} {nx : Nat} {G0 : zG} {x c tn f : Nat} {r : Nat → Int32} {h : Nat → (Nat → Int32)} {sl : Nat → Option (Nat → Int32)} {T : Nat → Nat} {E : Nat × (Nat → Int32)} (hb : zBD L x) (hh : zHs x G0 h c f) (hs : ∃ ad, zSl L x nx G0 sl ad) (h80 : tn ≤ 80)  : ∀ i : Nat, i ≤ 80 → ∀ (p b : Nat) (r1 : Nat → Int32) (G : zG), p ≤ tn → SI b r1 → exL T tn (80 - i) p r1 i = E → CR x r1 G → zPT L G (x + 124) T tn → G (x + 124) 2 = nI p → zFp x (stPut G0 (x + 16 + (2 + 15 * ((f + c) % 7))) r) G → zV l (fun _ => True) D B RX6 "carryOut" cX6_carryOut 3 (some .int) (zrm 6 137 0 0) (zN (zI (nI E.1) L nx (fun G1 => zRC L x nx G1 E.2 (pushH h c r).1 (pushH h c r).2 sl T 0 ∧ G1 (x + 134) = G0 (x + 134)))) 0 0 L nx 37 [some (.ref x), some (.int (nI i)), some (.int (nI i))] [] (G) := by
  refine zloop 80 (fun i hi ih p b r1 G hpn hS hE hC hp h2 hF => ?_)
  refine zv_iload_n dX6_carryOut_37 rfl ?_
  refine zv_bipush (v := 80) dX6_carryOut_38 (by decide) ?_
  refine zv_icmp_ge (tgt := 82) dX6_carryOut_40 (by decide) (fun c40 => ?_) (fun c40 => ?_)
  · have e : i = 80 := by have := zge_of (N := 80) (by decide) (by omega) rfl c40; omega
    subst e
    rw [Nat.sub_self] at hE
    unfold exL at hE
    subst hE
    first
      | exact fn_X6_carryOut l D B hb hh hs h80 (by show 80 ≤ 80; omega) hC hp.1 hF
      | exact fn_X6_carryOut l D B hb hh hs h80 (by show i ≤ 80; omega) (CR_pad hC) hp.1 (zFp_pad hF)
      | exact fn_X6_carryOut l D B hb hh hs h80 (by show i ≤ 80; omega) hC2 hp.1 (zFp_fr (zFp_pad hF) hF2)
  · have hlt : i < 80 := zlt_of (N := 80) (by decide) (by omega) rfl c40
    rw [show 80 - i = (80 - (i + 1)) + 1 by omega] at hE
    unfold exL at hE
    have hle := rdO_le (T := T) hpn
    refine zv_aload_n dX6_carryOut_43 rfl ?_
    refine zv_getS (r := 124) hb.1 rfl fl_X6_30 rfl dX6_carryOut_44 ?_
    refine zv_callV (m_X3_readOrder l D B hp h2 hpn) ml_X6_200 in_X3_readOrder sel_X3_readOrder hb.2.2.2.2.1 rfl rfl rfl rfl (Nat.le_of_ble_eq_true rfl) dX6_carryOut_47 ⟨Nat.le_of_ble_eq_true rfl, Nat.le_of_ble_eq_true rfl⟩ ⟨Nat.le_refl _, Nat.le_refl _⟩ (zk_p fun G2 hG2 => ?_)
    obtain ⟨g, rfl, hg⟩ := hG2
    refine zv_if_eq (tgt := 82) dX6_carryOut_50 (by decide) (fun c50 => ?_) (fun c50 => ?_)
    · have hb0 := bI_eq0.mp c50
      rw [if_pos hb0] at hE
      subst hE
      first
        | exact fn_X6_carryOut l D B hb hh hs h80 (by show 80 ≤ 80; omega) hC hp.1 hF
        | exact fn_X6_carryOut l D B hb hh hs h80 (by show i ≤ 80; omega) (CR_pad hC) hp.1 (zFp_pad hF)
        | exact fn_X6_carryOut l D B hb hh hs h80 (by show i ≤ 80; omega) hC2 hp.1 (zFp_fr (zFp_pad hF) hF2)
    · have hb0 := bI_ne0.mp c50
      rw [if_neg (by rw [hb0]; simp)] at hE
      have hp1 := zPT_upd (g := g) hp hg.1 hg.2.1
      refine zv_aload_n dX6_carryOut_53 rfl ?_
      refine zv_callV (m_X6_carryOneOut l D B hb (CR_pad hC) hS (sg_lt hp p) (by rw [zst_same]; exact roP_of hg hb0)) ml_X6_204 in_X6_carryOneOut sel_X6_carryOneOut hb.1 rfl rfl rfl rfl (Nat.le_of_ble_eq_true rfl) dX6_carryOut_54 ⟨Nat.le_of_ble_eq_true rfl, Nat.le_of_ble_eq_true rfl⟩ ⟨Nat.le_refl _, Nat.le_refl _⟩ (zk_p fun G2 hG2 => ?_)
      obtain ⟨hC2, hF2⟩ := hG2
      refine zv_if_ge (tgt := 63) dX6_carryOut_57 (by decide) (fun c57 => ?_) (fun c57 => ?_)
      · have hn := c57
        rw [if_neg (i32_nlt.mpr hn)] at hE
        have e124 : G2 (x + 124) = g := by rw [hF2 _ (by omega), zst_same]
        have hp2 : zPT L G2 (x + 124) T tn := zPT_of hp1 (by rw [e124, zst_same])
        have e2 : G2 (x + 124) 2 = nI (rdO T tn p).2.1 := by rw [e124]; exact hg.2.2.1
        have hF3 := zFp_fr (zFp_pad hF) hF2
        refine zv_iinc1 dX6_carryOut_63 rfl (by decide) rfl ?_
        refine zv_aload_n dX6_carryOut_66 rfl ?_
        refine zv_getS (r := 124) hb.1 rfl fl_X6_30 rfl dX6_carryOut_67 ?_
        refine zv_bipush (v := 59) dX6_carryOut_70 (by decide) ?_
        by_cases hs9 : sg T tn (rdO T tn p).2.1 = 59
        · rw [if_pos hs9] at hE
          have hlt9 : (rdO T tn p).2.1 < tn := by
            rcases Nat.lt_or_ge (rdO T tn p).2.1 tn with g | g
            · exact g
            · simp only [sg, if_neg (Nat.not_lt.mpr g)] at hs9; omega
          refine zv_callV (m_X3_skip l D B (w := 59) hp2 e2 hle.1 rfl (by decide) hs9) ml_X6_207 in_X3_skip sel_X3_skip hb.2.2.2.2.1 rfl rfl rfl rfl (Nat.le_of_ble_eq_true rfl) dX6_carryOut_72 ⟨Nat.le_of_ble_eq_true rfl, Nat.le_of_ble_eq_true rfl⟩ ⟨Nat.le_refl _, Nat.le_refl _⟩ (zk_i ?_)
          refine zv_pop dX6_carryOut_75 rfl ?_
          refine zv_iinc1 dX6_carryOut_76 rfl (by decide) rfl ?_
          refine zv_goto (tgt := 37) dX6_carryOut_79 (by decide) ?_
          rw [nI_1]
          exact ih hlt _ (b + 99) _ _ (by omega) (SI_ord hS) hE (CR_pad hC2) (zPT_upd hp2 rfl (fun j hj => by simp only [upd]; rw [if_neg (by omega)])) (by rw [zst_same]; exact if_pos rfl) (zFp_pad hF3)
        · rw [if_neg hs9] at hE
          refine zv_callV (m_X3_skip_n l D B (w := 59) hp2 e2 hle.1 rfl (by decide) hs9) ml_X6_207 in_X3_skip sel_X3_skip hb.2.2.2.2.1 rfl rfl rfl rfl (Nat.le_of_ble_eq_true rfl) dX6_carryOut_72 ⟨Nat.le_of_ble_eq_true rfl, Nat.le_of_ble_eq_true rfl⟩ ⟨Nat.le_refl _, Nat.le_refl _⟩ (zk_i ?_)
          refine zv_pop dX6_carryOut_75 rfl ?_
          refine zv_iinc1 dX6_carryOut_76 rfl (by decide) rfl ?_
          refine zv_goto (tgt := 37) dX6_carryOut_79 (by decide) ?_
          rw [nI_1]
          exact ih hlt _ (b + 99) _ _ (by omega) (SI_ord hS) hE hC2 hp2 e2 hF3
      · have hn : (opOrd r1 T tn p).1 < 0 := i32_nle.mp c57
        rw [if_pos hn] at hE
        rw [opOrd_neg hS hn] at hC2
        refine zv_goto (tgt := 82) dX6_carryOut_60 (by decide) ?_
        subst hE
        first
          | exact fn_X6_carryOut l D B hb hh hs h80 (by show 80 ≤ 80; omega) hC hp.1 hF
          | exact fn_X6_carryOut l D B hb hh hs h80 (by show i ≤ 80; omega) (CR_pad hC) hp.1 (zFp_pad hF)
          | exact fn_X6_carryOut l D B hb hh hs h80 (by show i ≤ 80; omega) hC2 hp.1 (zFp_fr (zFp_pad hF) hF2)

set_option maxRecDepth 100000 in
set_option maxHeartbeats 4000000 in
theorem m_X6_carryOut (l : Launch) (D : zD) (B : Nat) {L : zL} {nx : Nat} {G : zG} {x c tn : Nat} {r : Nat → Int32} {h : Nat → (Nat → Int32)} {sl : Nat → Option (Nat → Int32)} {T : Nat → Nat} (hR : zRC L x nx G r h c sl T tn) {b : Nat} (hS : SI b r) : zMet l D B yX6_carryOut cX6_carryOut 3 (some .int) 6 137 0 0 [.ref x] L nx G (zI ((opCar r h c T tn).1) L nx (fun G1 => zRC L x nx G1 ((opCar r h c T tn).2.1) ((opCar r h c T tn).2.2.1) ((opCar r h c T tn).2.2.2.1) sl (T) ((opCar r h c T tn).2.2.2.2) ∧ G1 (x + 134) = G (x + 134))) := by
  refine zMet_of (own := RX6) (mn := "carryOut") [some (.ref x), none, none] (by decide +kernel) rfl rfl rfl (Nat.le_of_ble_eq_true rfl) ?_
  show zV l (fun _ => True) D B RX6 "carryOut" cX6_carryOut 3 (some .int) (zrm 6 137 0 0) (zN (zI ((opCar r h c T tn).1) L nx (fun G1 => zRC L x nx G1 ((opCar r h c T tn).2.1) ((opCar r h c T tn).2.2.1) ((opCar r h c T tn).2.2.2.1) sl (T) ((opCar r h c T tn).2.2.2.2) ∧ G1 (x + 134) = G (x + 134)))) 0 0 L nx 0 [some (.ref x), none, none] [] (G)
  obtain ⟨hb, hC, ⟨f, hh⟩, hs, hp⟩ := id hR
  have hK : (f + c) % 7 < 7 := by omega
  obtain ⟨f1, f2, f3, f4, f5, f6⟩ := id hh
  refine zv_aload_n dX6_carryOut_0 rfl ?_
  refine zv_getS (r := 124) hR.1.1 rfl fl_X6_30 rfl dX6_carryOut_1 ?_
  refine zv_callV (m_X3_findFault l D B hp) ml_X6_194 in_X3_findFault sel_X3_findFault hb.2.2.2.2.1 rfl rfl rfl rfl (Nat.le_of_ble_eq_true rfl) dX6_carryOut_4 ⟨Nat.le_of_ble_eq_true rfl, Nat.le_of_ble_eq_true rfl⟩ ⟨Nat.le_refl _, Nat.le_refl _⟩ (zk_p fun G2 hG2 => ?_)
  obtain ⟨g, rfl, hg⟩ := hG2
  have hq := zRC_pad hR (zPT_pad hp hg)
  refine zv_bipush (v := (-6)) dX6_carryOut_7 (by decide) ?_
  refine zv_icmp_eq (tgt := 15) dX6_carryOut_9 (by decide) (fun c9 => ?_) (fun c9 => ?_)
  · have hop : opCar r h c T tn = (nI (exL T tn 80 0 r 0).1, (exL T tn 80 0 r 0).2, (pushH h c r).1, (pushH h c r).2, 0) := if_pos c9
    rw [hop]
    obtain ⟨⟨-, hC0, -, hs0, hp0⟩, h134⟩ := hq
    have hh0 : zHs x (zst G (x + 124) g) h c f := by
      refine ⟨f1, by rw [zst_ne _ _ (by omega)]; exact f2, by rw [zst_ne _ _ (by omega)]; exact f3, f4, fun j hj => ?_, fun k hk => ?_⟩
      · obtain ⟨q, hq1⟩ := f5 j hj
        exact ⟨q, stOK_of hq1 (fun y g1 g2 => zst_ne _ _ (by omega))⟩
      · exact stOK_of (f6 k hk) (fun y g1 g2 => zst_ne _ _ (by omega))
    obtain ⟨rK, hrK⟩ := hh0.2.2.2.2.1 _ hK
    refine zv_aload_n dX6_carryOut_15 rfl ?_
    refine zv_getS (r := 16) hR.1.1 rfl fl_X6_19 rfl dX6_carryOut_16 ?_
    refine zv_aload_n dX6_carryOut_19 rfl ?_
    refine zv_getS (r := 1) hR.1.1 rfl fl_X6_10 rfl dX6_carryOut_20 ?_
    refine zv_callV (m_X2_note l D B (f := f) (c := c) hb.2.2.1 hh0.2.1 f1 hh0.2.2.1 f4 hb.2.1 (by unfold apart; omega) hrK hC0.1) ml_X6_55 in_X2_note sel_X2_note hb.2.2.1.1 rfl rfl rfl rfl (Nat.le_of_ble_eq_true rfl) dX6_carryOut_23 ⟨Nat.le_of_ble_eq_true rfl, Nat.le_of_ble_eq_true rfl⟩ ⟨Nat.le_refl _, Nat.le_refl _⟩ (zk_v ?_)
    refine zv_iconst (v := 0) dX6_carryOut_26 (by decide) ?_
    refine zv_istore_n dX6_carryOut_27 (by decide) rfl ?_
    refine zv_aload_n dX6_carryOut_28 rfl ?_
    refine zv_getS (r := 124) hR.1.1 rfl fl_X6_30 rfl dX6_carryOut_29 ?_
    refine zv_callV (m_X3_goToStart l D B hp0.1) ml_X6_197 in_X3_goToStart sel_X3_goToStart hb.2.2.2.2.1 rfl rfl rfl rfl (Nat.le_of_ble_eq_true rfl) dX6_carryOut_32 ⟨Nat.le_of_ble_eq_true rfl, Nat.le_of_ble_eq_true rfl⟩ ⟨Nat.le_refl _, Nat.le_refl _⟩ (zk_v ?_)
    refine zv_iconst (v := 0) dX6_carryOut_35 (by decide) ?_
    refine zv_istore_n dX6_carryOut_36 (by decide) rfl ?_
    rw [← h134]
    refine lp_X6_carryOut l D B (f := f) hb hh0 hs0 hp0.2.1 0 (by omega) 0 b r _ (by omega) hS rfl (CR_pad (CR_note hC0 hK)) ?_ (by rw [zst_same]; exact if_pos rfl) (zFp_pad zFp_rf)
    exact zPT_upd (zPT_of hp0 (stPut_ne _ _ (by omega))) rfl (fun j hj => by simp only [upd]; rw [if_neg (by omega)])
  · have hop : opCar r h c T tn = (-3, r, h, c, tn) := if_neg c9
    rw [hop]
    refine zv_bipush (v := (-3)) dX6_carryOut_12 (by decide) ?_
    exact zv_iretI dX6_carryOut_14 rfl rfl rfl hq
