set_option maxRecDepth 100000 in
set_option maxHeartbeats 4000000 in
theorem m_X5_cupAt (l : Launch) (D : zD) (B : Nat) {L : zL} {nx : Nat} {G : zG} {s cn i : Nat} (hs : zSt L s) (hn : G s 3 = nI cn) (hcn : cn ≤ 3) (hi : i < cn) : zMet l D B yX5_cupAt cX5_cupAt 2 (some (.object "BookDroplets$Cup")) 0 0 0 0 [.ref s, .int (nI i)] L nx G (zE (some (.ref (s + (3 + 4 * i)))) L nx (G)) := by
  refine zMet_of (own := RX5) (mn := "cupAt") [some (.ref s), some (.int (nI i))] (by decide +kernel) rfl rfl rfl (Nat.le_of_ble_eq_true rfl) ?_
  show zV l (fun _ => True) D B RX5 "cupAt" cX5_cupAt 2 (some (.object "BookDroplets$Cup")) (zrm 0 0 0 0) (zN (zE (some (.ref (s + (3 + 4 * i)))) L nx (G))) 0 0 L nx 0 [some (.ref s), some (.int (nI i))] [] (G)
  refine zv_iload_n dX5_cupAt_0 rfl ?_
  refine zv_if_lt (tgt := 26) dX5_cupAt_1 (by decide) (fun h => absurd h (nI_pos (by omega))) (fun _ => ?_)
  refine zv_iload_n dX5_cupAt_4 rfl ?_
  refine zv_aload_n dX5_cupAt_5 rfl ?_
  refine zv_getI hs.1 rfl fl_X5_26 rfl dX5_cupAt_6 ?_
  refine zv_icmp_ge (tgt := 26) dX5_cupAt_9 (by decide) (fun h => absurd h (by rw [hn]; exact nI_ge hi (by omega))) (fun _ => ?_)
  refine zv_iload_n dX5_cupAt_12 rfl ?_
  refine zv_iconst (v := 3) dX5_cupAt_13 (by decide) ?_
  refine zv_icmp_ge (tgt := 26) dX5_cupAt_14 (by decide) (fun h => absurd h (nI_ge (b := 3) (by omega) (by decide))) (fun _ => ?_)
  refine zv_aload_n dX5_cupAt_17 rfl ?_
  refine zv_getS (r := 2) hs.1 rfl fl_X5_21 rfl dX5_cupAt_18 ?_
  refine zv_iload_n dX5_cupAt_21 rfl ?_
  refine zv_aaldS (i := 2) (by omega) (by omega) hs.1 rfl (zix_nI (by omega) (by decide)) dX5_cupAt_22 ?_
  refine zv_goto (tgt := 27) dX5_cupAt_23 (by decide) ?_
  exact zv_aretE dX5_cupAt_27 rfl (Or.inr ⟨_, rfl⟩) rfl rfl

set_option maxRecDepth 100000 in
set_option maxHeartbeats 4000000 in
theorem m_X5_cupAt_no (l : Launch) (D : zD) (B : Nat) {L : zL} {nx : Nat} {G : zG} {s cn : Nat} {x : Int32} (hs : zSt L s) (hn : G s 3 = nI cn) (hcn : cn ≤ 3) (hx : ¬ ∃ i, i < cn ∧ x = nI i) : zMet l D B yX5_cupAt cX5_cupAt 2 (some (.object "BookDroplets$Cup")) 0 0 0 0 [.ref s, .int x] L nx G (zE (some .null) L nx (G)) := by
  refine zMet_of (own := RX5) (mn := "cupAt") [some (.ref s), some (.int x)] (by decide +kernel) rfl rfl rfl (Nat.le_of_ble_eq_true rfl) ?_
  show zV l (fun _ => True) D B RX5 "cupAt" cX5_cupAt 2 (some (.object "BookDroplets$Cup")) (zrm 0 0 0 0) (zN (zE (some .null) L nx (G))) 0 0 L nx 0 [some (.ref s), some (.int x)] [] (G)
  refine zv_iload_n dX5_cupAt_0 rfl ?_
  refine zv_if_lt (tgt := 26) dX5_cupAt_1 (by decide) (fun c1 => ?_) (fun c1 => ?_)
  · refine zv_null dX5_cupAt_26 ?_
    exact zv_aretE dX5_cupAt_27 rfl (Or.inl rfl) rfl rfl
  · refine zv_iload_n dX5_cupAt_4 rfl ?_
    refine zv_aload_n dX5_cupAt_5 rfl ?_
    refine zv_getI hs.1 rfl fl_X5_26 rfl dX5_cupAt_6 ?_
    rw [hn]
    refine zv_icmp_ge (tgt := 26) dX5_cupAt_9 (by decide) (fun c9 => ?_) (fun c9 => ?_)
    · refine zv_null dX5_cupAt_26 ?_
      exact zv_aretE dX5_cupAt_27 rfl (Or.inl rfl) rfl rfl
    · exfalso
      obtain ⟨j, hj, rfl⟩ := nI_of c1
      refine hx ⟨j, ?_, rfl⟩
      rcases Nat.lt_or_ge j cn with h | h
      · exact h
      · exact absurd (nI_le h hj) c9

set_option maxRecDepth 100000 in
set_option maxHeartbeats 4000000 in
theorem lp_X5_copyFrom (l : Launch) (D : zD) (B : Nat) {L : zL} {nx : Nat} {G : zG} {s p : Nat} {r r2 : Nat → Int32} (hs : zSt L s) (hp : zSt L p) (ha : apart s p) (h1 : stOK G s r) (h2 : stOK G p r2) : ∀ i : Nat, i ≤ 3 → ∀ b c : Option Value, zV l (fun _ => True) D B RX5 "copyFrom" cX5_copyFrom 5 none (zrm 2 61 0 0) (zN (zE none L nx (stPut G s r2))) 0 0 L nx 57 [some (.ref s), some (.ref p), some (.int (nI i)), b, c] [] (stPutI G s r2 i) := by
  refine zloop 3 (fun i hi ih b c => ?_)
  refine zv_iload_n dX5_copyFrom_57 rfl ?_
  refine zv_iconst (v := 3) dX5_copyFrom_58 (by decide) ?_
  refine zv_icmp_ge (tgt := 98) dX5_copyFrom_59 (by decide) (fun c59 => ?_) (fun c59 => ?_)
  · have e : i = 3 := by have := zge_of (N := 3) (by decide) (by omega) rfl c59; omega
    subst e
    refine zv_vretE dX5_copyFrom_98 rfl ?_
    rfl
  · have hlt : i < 3 := zlt_of (N := 3) (by decide) (by omega) rfl c59
    have hap := ha
    unfold apart at hap
    refine zv_aload_n dX5_copyFrom_62 rfl ?_
    refine zv_getS (r := 2) hs.1 rfl fl_X5_21 rfl dX5_copyFrom_63 ?_
    refine zv_iload_n dX5_copyFrom_66 rfl ?_
    refine zv_aaldS (i := 2) (by omega) (by omega) hs.1 rfl (zix_nI (by omega) (by decide)) dX5_copyFrom_67 ?_
    refine zv_astore_n dX5_copyFrom_68 (by decide) rfl ?_
    refine zv_aload_n dX5_copyFrom_69 rfl ?_
    refine zv_getS (r := 2) hp.1 rfl fl_X5_21 rfl dX5_copyFrom_70 ?_
    refine zv_iload_n dX5_copyFrom_73 rfl ?_
    refine zv_aaldS (i := 2) (by omega) (by omega) hp.1 rfl (zix_nI (by omega) (by decide)) dX5_copyFrom_74 ?_
    refine zv_astore dX5_copyFrom_75 (by decide) rfl ?_
    refine zv_aload_n dX5_copyFrom_77 rfl ?_
    refine zv_ifnull_r dX5_copyFrom_78 ?_
    refine zv_aload dX5_copyFrom_81 rfl ?_
    refine zv_ifnull_r dX5_copyFrom_83 ?_
    refine zv_aload_n dX5_copyFrom_86 rfl ?_
    refine zv_aload dX5_copyFrom_87 rfl ?_
    refine zv_callV (m_X0_copyFrom l D B (hs.2 i hlt) (hp.2 i hlt) (by omega)) ml_X5_44 in_X0_copyFrom sel_X0_copyFrom (hs.2 i hlt) rfl rfl rfl rfl (Nat.le_of_ble_eq_true rfl) dX5_copyFrom_89 ⟨Nat.le_of_ble_eq_true rfl, Nat.le_of_ble_eq_true rfl⟩ ⟨Nat.le_refl _, Nat.le_refl _⟩ (zk_v ?_)
    rw [stPutI_ne (x := s + (3 + 4 * i)) (Or.inr (Or.inr ⟨i, Nat.le_refl _, hlt, rfl⟩)), stPutI_ne (x := p + (3 + 4 * i)) (by omega), h1.2 i hlt, h2.2 i hlt, cpP_cup, stPutI_s hlt]
    refine zv_iinc1 dX5_copyFrom_92 rfl (by decide) rfl ?_
    refine zv_goto (tgt := 57) dX5_copyFrom_95 (by decide) ?_
    rw [nI_1]
    exact ih hlt _ _

set_option maxRecDepth 100000 in
set_option maxHeartbeats 4000000 in
theorem m_X5_copyFrom (l : Launch) (D : zD) (B : Nat) {L : zL} {nx : Nat} {G : zG} {s p : Nat} {r r2 : Nat → Int32} (hs : zSt L s) (hp : zSt L p) (ha : apart s p) (h1 : stOK G s r) (h2 : stOK G p r2) : zMet l D B yX5_copyFrom cX5_copyFrom 5 none 2 61 0 0 [.ref s, .ref p] L nx G (zE none L nx (stPut G s r2)) := by
  refine zMet_of (own := RX5) (mn := "copyFrom") [some (.ref s), some (.ref p), none, none, none] (by decide +kernel) rfl rfl rfl (Nat.le_of_ble_eq_true rfl) ?_
  show zV l (fun _ => True) D B RX5 "copyFrom" cX5_copyFrom 5 none (zrm 2 61 0 0) (zN (zE none L nx (stPut G s r2))) 0 0 L nx 0 [some (.ref s), some (.ref p), none, none, none] [] (G)
  refine zv_aload_n dX5_copyFrom_0 rfl ?_
  refine zv_aload_n dX5_copyFrom_1 rfl ?_
  refine zv_getI hp.1 rfl fl_X5_9 rfl dX5_copyFrom_2 ?_
  refine zv_putI (t := 2) hs.1 rfl fl_X5_9 ft_X5_0 rfl dX5_copyFrom_5 ?_
  refine zv_aload_n dX5_copyFrom_8 rfl ?_
  refine zv_aload_n dX5_copyFrom_9 rfl ?_
  refine zv_getI hp.1 rfl fl_X5_32 rfl dX5_copyFrom_10 ?_
  refine zv_putI (t := 2) hs.1 rfl fl_X5_32 ft_X5_1 rfl dX5_copyFrom_13 ?_
  refine zv_aload_n dX5_copyFrom_16 rfl ?_
  refine zv_aload_n dX5_copyFrom_17 rfl ?_
  refine zv_getI hp.1 rfl fl_X5_29 rfl dX5_copyFrom_18 ?_
  refine zv_putI (t := 2) hs.1 rfl fl_X5_29 ft_X5_2 rfl dX5_copyFrom_21 ?_
  refine zv_aload_n dX5_copyFrom_24 rfl ?_
  refine zv_aload_n dX5_copyFrom_25 rfl ?_
  refine zv_getI hp.1 rfl fl_X5_26 rfl dX5_copyFrom_26 ?_
  refine zv_putI (t := 2) hs.1 rfl fl_X5_26 ft_X5_3 rfl dX5_copyFrom_29 ?_
  refine zv_aload_n dX5_copyFrom_32 rfl ?_
  refine zv_aload_n dX5_copyFrom_33 rfl ?_
  refine zv_getI hp.1 rfl fl_X5_35 rfl dX5_copyFrom_34 ?_
  refine zv_putI (t := 2) hs.1 rfl fl_X5_35 ft_X5_4 rfl dX5_copyFrom_37 ?_
  refine zv_aload_n dX5_copyFrom_40 rfl ?_
  refine zv_getS (r := 1) hp.1 rfl fl_X5_15 rfl dX5_copyFrom_41 ?_
  refine zv_iconst (v := 0) dX5_copyFrom_44 (by decide) ?_
  refine zv_aload_n dX5_copyFrom_45 rfl ?_
  refine zv_getS (r := 1) hs.1 rfl fl_X5_15 rfl dX5_copyFrom_46 ?_
  refine zv_iconst (v := 0) dX5_copyFrom_49 (by decide) ?_
  refine zv_bipush (v := 16) dX5_copyFrom_50 (by decide) ?_
  refine zv_copy cl_X5_38 znat_copy zst_copy zini_sys (i0 := 1) hp.1 rfl (i := 1) hs.1 rfl (by decide) rfl (by decide) (by decide) (by decide) (by decide) dX5_copyFrom_52 ?_
  refine zv_iconst (v := 0) dX5_copyFrom_55 (by decide) ?_
  refine zv_istore_n dX5_copyFrom_56 (by decide) rfl ?_
  refine zv_eqG ?_ (lp_X5_copyFrom l D B hs hp ha h1 h2 0 (by omega) _ _)
  have hne : p ≠ s := by unfold apart at ha; omega
  simp only [zst_same, zst_zst, zst_ne _ _ hne]
  rw [h1.1, h2.1, ← stPutI_0]
  exact congrArg (zst G s) cpH_hd

set_option maxRecDepth 100000 in
set_option maxHeartbeats 4000000 in
theorem m_X2_placeBehindLast (l : Launch) (D : zD) (B : Nat) {L : zL} {nx : Nat} {G : zG} {h f c : Nat} (hh : zHi L h) (hf : G h 1 = nI f) (hf7 : f < 7) (hc : G h 2 = nI c) (hc6 : c ≤ 6) : zMet l D B yX2_placeBehindLast cX2_placeBehindLast 1 (some .int) 1 22 0 0 [.ref h] L nx G (zE (some (.int (nI ((f + c) % 7)))) L nx (G)) := by
  refine zMet_of (own := RX2) (mn := "placeBehindLast") [some (.ref h)] (by decide +kernel) rfl rfl rfl (Nat.le_of_ble_eq_true rfl) ?_
  show zV l (fun _ => True) D B RX2 "placeBehindLast" cX2_placeBehindLast 1 (some .int) (zrm 1 22 0 0) (zN (zE (some (.int (nI ((f + c) % 7)))) L nx (G))) 0 0 L nx 0 [some (.ref h)] [] (G)
  refine zv_aload_n dX2_placeBehindLast_0 rfl ?_
  refine zv_getI hh.1 rfl fl_X2_30 rfl dX2_placeBehindLast_1 ?_
  refine zv_aload_n dX2_placeBehindLast_4 rfl ?_
  refine zv_getI hh.1 rfl fl_X2_26 rfl dX2_placeBehindLast_5 ?_
  refine zv_iadd dX2_placeBehindLast_8 ?_
  refine zv_bipush (v := 7) dX2_placeBehindLast_9 (by decide) ?_
  rw [hf, hc, nI_add]
  refine zv_callS (m_J9_floorMod_7cf53 l D B (f + c) 7 (by omega) (by omega) (by omega) rfl rfl) ml_X2_33 st_J9_floorMod_7cf53 rfl rfl (Nat.le_of_ble_eq_true rfl) dX2_placeBehindLast_11 ⟨Nat.le_of_ble_eq_true rfl, Nat.le_of_ble_eq_true rfl⟩ ⟨Nat.le_refl _, Nat.le_refl _⟩ (zk_i ?_)
  refine zv_iretE dX2_placeBehindLast_14 rfl (rfl) ?_ ?_
  · rfl
  · rfl

set_option maxRecDepth 100000 in
set_option maxHeartbeats 4000000 in
theorem m_X2_note (l : Launch) (D : zD) (B : Nat) {L : zL} {nx : Nat} {G : zG} {h f c : Nat} (hh : zHi L h) (hf : G h 1 = nI f) (hf7 : f < 7) (hc : G h 2 = nI c) (hc6 : c ≤ 6) {s : Nat} {r r2 : Nat → Int32} (hs : zSt L s) (ha : apart (h + (2 + 15 * ((f + c) % 7))) s) (h1 : stOK G (h + (2 + 15 * ((f + c) % 7))) r) (h2 : stOK G s r2) : zMet l D B yX2_note cX2_note 3 none 3 85 0 0 [.ref h, .ref s] L nx G (zE none L nx (stPut G (h + (2 + 15 * ((f + c) % 7))) r2)) := by
  refine zMet_of (own := RX2) (mn := "note") [some (.ref h), some (.ref s), none] (by decide +kernel) rfl rfl rfl (Nat.le_of_ble_eq_true rfl) ?_
  show zV l (fun _ => True) D B RX2 "note" cX2_note 3 none (zrm 3 85 0 0) (zN (zE none L nx (stPut G (h + (2 + 15 * ((f + c) % 7))) r2))) 0 0 L nx 0 [some (.ref h), some (.ref s), none] [] (G)
  refine zv_aload_n dX2_note_0 rfl ?_
  refine zv_getS (r := 1) hh.1 rfl fl_X2_13 rfl dX2_note_1 ?_
  refine zv_aload_n dX2_note_4 rfl ?_
  refine zv_callV (m_X2_placeBehindLast l D B hh hf hf7 hc hc6) ml_X2_18 in_X2_placeBehindLast sel_X2_placeBehindLast hh.1 rfl rfl rfl rfl (Nat.le_of_ble_eq_true rfl) dX2_note_5 ⟨Nat.le_of_ble_eq_true rfl, Nat.le_of_ble_eq_true rfl⟩ ⟨Nat.le_refl _, Nat.le_refl _⟩ (zk_i ?_)
  refine zv_aaldS (i := 1) (by omega) (by omega) hh.1 rfl (zix_nI (show (f + c) % 7 < 7 by omega) (by decide)) dX2_note_8 ?_
  refine zv_astore_n dX2_note_9 (by decide) rfl ?_
  refine zv_aload_n dX2_note_10 rfl ?_
  refine zv_ifnull_r dX2_note_11 ?_
  refine zv_aload_n dX2_note_14 rfl ?_
  refine zv_aload_n dX2_note_15 rfl ?_
  refine zv_callV (m_X5_copyFrom l D B (hh.2 ((f + c) % 7) (by omega)) hs ha h1 h2) ml_X2_22 in_X5_copyFrom sel_X5_copyFrom (hh.2 ((f + c) % 7) (by omega)).1 rfl rfl rfl rfl (Nat.le_of_ble_eq_true rfl) dX2_note_16 ⟨Nat.le_of_ble_eq_true rfl, Nat.le_of_ble_eq_true rfl⟩ ⟨Nat.le_refl _, Nat.le_refl _⟩ (zk_v ?_)
  refine zv_vretE dX2_note_19 rfl ?_
  rfl

def keepH (g : Nat → Int32) (f c : Nat) : Nat → Int32 := if c < 6 then upd g 2 (nI (c + 1)) else upd g 1 (nI ((f + 1) % 7))

set_option maxRecDepth 100000 in
set_option maxHeartbeats 4000000 in
theorem m_X2_keepUnlessError_e (l : Launch) (D : zD) (B : Nat) {L : zL} {nx : Nat} {G : zG} {h : Nat} {x : Int32} (hh : (h, 6) ∈ L) (hx : x < 0) : zMet l D B yX2_keepUnlessError cX2_keepUnlessError 2 (some .int) 1 22 0 0 [.ref h, .int x] L nx G (zE (some (.int x)) L nx (G)) := by
  refine zMet_of (own := RX2) (mn := "keepUnlessError") [some (.ref h), some (.int x)] (by decide +kernel) rfl rfl rfl (Nat.le_of_ble_eq_true rfl) ?_
  show zV l (fun _ => True) D B RX2 "keepUnlessError" cX2_keepUnlessError 2 (some .int) (zrm 1 22 0 0) (zN (zE (some (.int x)) L nx (G))) 0 0 L nx 0 [some (.ref h), some (.int x)] [] (G)
  refine zv_iload_n dX2_keepUnlessError_0 rfl ?_
  refine zv_if_ge (tgt := 6) dX2_keepUnlessError_1 (by decide) (fun h => absurd h (i32_nle.mpr hx)) (fun _ => ?_)
  refine zv_iload_n dX2_keepUnlessError_4 rfl ?_
  refine zv_iretE dX2_keepUnlessError_5 rfl (rfl) ?_ ?_
  · rfl
  · rfl

set_option maxRecDepth 100000 in
set_option maxHeartbeats 4000000 in
theorem m_X2_keepUnlessError (l : Launch) (D : zD) (B : Nat) {L : zL} {nx : Nat} {G : zG} {h f c : Nat} (hh : zHi L h) (hf : G h 1 = nI f) (hf7 : f < 7) (hc : G h 2 = nI c) (hc6 : c ≤ 6) {x : Int32} (hx : ¬ x < 0) : zMet l D B yX2_keepUnlessError cX2_keepUnlessError 2 (some .int) 1 22 0 0 [.ref h, .int x] L nx G (zE (some (.int x)) L nx (zst G h (keepH (G h) f c))) := by
  refine zMet_of (own := RX2) (mn := "keepUnlessError") [some (.ref h), some (.int x)] (by decide +kernel) rfl rfl rfl (Nat.le_of_ble_eq_true rfl) ?_
  show zV l (fun _ => True) D B RX2 "keepUnlessError" cX2_keepUnlessError 2 (some .int) (zrm 1 22 0 0) (zN (zE (some (.int x)) L nx (zst G h (keepH (G h) f c)))) 0 0 L nx 0 [some (.ref h), some (.int x)] [] (G)
  refine zv_iload_n dX2_keepUnlessError_0 rfl ?_
  refine zv_if_ge (tgt := 6) dX2_keepUnlessError_1 (by decide) (fun _ => ?_) (fun h => absurd (i32_nlt.mp hx) h)
  refine zv_aload_n dX2_keepUnlessError_6 rfl ?_
  refine zv_getI hh.1 rfl fl_X2_26 rfl dX2_keepUnlessError_7 ?_
  refine zv_bipush (v := 6) dX2_keepUnlessError_10 (by decide) ?_
  rw [hc]
  refine zv_icmp_ge (tgt := 28) dX2_keepUnlessError_12 (by decide) (fun c12 => ?_) (fun c12 => ?_)
  · have k : ¬ c < 6 := by have := zge_of (N := 6) (by decide) (by omega) rfl c12; omega
    refine zv_aload_n dX2_keepUnlessError_28 rfl ?_
    refine zv_aload_n dX2_keepUnlessError_29 rfl ?_
    refine zv_getI hh.1 rfl fl_X2_30 rfl dX2_keepUnlessError_30 ?_
    refine zv_iconst (v := 1) dX2_keepUnlessError_33 (by decide) ?_
    refine zv_iadd dX2_keepUnlessError_34 ?_
    refine zv_bipush (v := 7) dX2_keepUnlessError_35 (by decide) ?_
    rw [hf, nI_1]
    refine zv_callS (m_J9_floorMod_7cf53 l D B (f + 1) 7 (by omega) (by omega) (by omega) rfl rfl) ml_X2_33 st_J9_floorMod_7cf53 rfl rfl (Nat.le_of_ble_eq_true rfl) dX2_keepUnlessError_37 ⟨Nat.le_of_ble_eq_true rfl, Nat.le_of_ble_eq_true rfl⟩ ⟨Nat.le_refl _, Nat.le_refl _⟩ (zk_i ?_)
    refine zv_putI (t := 6) hh.1 rfl fl_X2_30 ft_X2_1 rfl dX2_keepUnlessError_40 ?_
    refine zv_iload_n dX2_keepUnlessError_43 rfl ?_
    refine zv_iretE dX2_keepUnlessError_44 rfl (rfl) ?_ ?_
    · rfl
    · unfold keepH
      first
        | rw [if_pos k]
        | rw [if_neg k]
  · have k : c < 6 := zlt_of (N := 6) (by decide) (by omega) rfl c12
    refine zv_aload_n dX2_keepUnlessError_15 rfl ?_
    refine zv_dup dX2_keepUnlessError_16 rfl ?_
    refine zv_getI hh.1 rfl fl_X2_26 rfl dX2_keepUnlessError_17 ?_
    refine zv_iconst (v := 1) dX2_keepUnlessError_20 (by decide) ?_
    refine zv_iadd dX2_keepUnlessError_21 ?_
    rw [hc, nI_1]
    refine zv_putI (t := 6) hh.1 rfl fl_X2_26 ft_X2_2 rfl dX2_keepUnlessError_22 ?_
    refine zv_goto (tgt := 43) dX2_keepUnlessError_25 (by decide) ?_
    refine zv_iload_n dX2_keepUnlessError_43 rfl ?_
    refine zv_iretE dX2_keepUnlessError_44 rfl (rfl) ?_ ?_
    · rfl
    · unfold keepH
      first
        | rw [if_pos k]
        | rw [if_neg k]

set_option maxRecDepth 100000 in
set_option maxHeartbeats 4000000 in
theorem m_X2_takeBackInto_no (l : Launch) (D : zD) (B : Nat) {L : zL} {nx : Nat} {G : zG} {h s : Nat} (hh : (h, 6) ∈ L) (hc : G h 2 = 0) : zMet l D B yX2_takeBackInto cX2_takeBackInto 3 (some .boolean) 3 85 0 0 [.ref h, .ref s] L nx G (zE (some (.int 0)) L nx (G)) := by
  refine zMet_of (own := RX2) (mn := "takeBackInto") [some (.ref h), some (.ref s), none] (by decide +kernel) rfl rfl rfl (Nat.le_of_ble_eq_true rfl) ?_
  show zV l (fun _ => True) D B RX2 "takeBackInto" cX2_takeBackInto 3 (some .boolean) (zrm 3 85 0 0) (zN (zE (some (.int 0)) L nx (G))) 0 0 L nx 0 [some (.ref h), some (.ref s), none] [] (G)
  refine zv_aload_n dX2_takeBackInto_0 rfl ?_
  refine zv_getI hh rfl fl_X2_26 rfl dX2_takeBackInto_1 ?_
  rw [hc]
  refine zv_if_gt (tgt := 9) dX2_takeBackInto_4 (by decide) (fun h => absurd h (by decide)) (fun _ => ?_)
  refine zv_iconst (v := 0) dX2_takeBackInto_7 (by decide) ?_
  refine zv_iretE dX2_takeBackInto_8 rfl (by first | rfl | exact bI_nar _) ?_ ?_
  · rfl
  · rfl

set_option maxRecDepth 100000 in
set_option maxHeartbeats 4000000 in
theorem m_X2_takeBackInto (l : Launch) (D : zD) (B : Nat) {L : zL} {nx : Nat} {G : zG} {h f c : Nat} (hh : zHi L h) (hf : G h 1 = nI f) (hf7 : f < 7) (hc : G h 2 = nI c) (hc6 : c ≤ 6) (hc0 : 0 < c) {s : Nat} {r r2 : Nat → Int32} (hs : zSt L s) (ha : apart s (h + (2 + 15 * ((f + (c - 1)) % 7)))) (hsh : h < s ∨ s + 15 ≤ h) (h1 : stOK G s r) (h2 : stOK G (h + (2 + 15 * ((f + (c - 1)) % 7))) r2) : zMet l D B yX2_takeBackInto cX2_takeBackInto 3 (some .boolean) 3 85 0 0 [.ref h, .ref s] L nx G (zE (some (.int 1)) L nx (stPut (zst G h (upd (G h) 2 (nI (c - 1)))) s r2)) := by
  refine zMet_of (own := RX2) (mn := "takeBackInto") [some (.ref h), some (.ref s), none] (by decide +kernel) rfl rfl rfl (Nat.le_of_ble_eq_true rfl) ?_
  show zV l (fun _ => True) D B RX2 "takeBackInto" cX2_takeBackInto 3 (some .boolean) (zrm 3 85 0 0) (zN (zE (some (.int 1)) L nx (stPut (zst G h (upd (G h) 2 (nI (c - 1)))) s r2))) 0 0 L nx 0 [some (.ref h), some (.ref s), none] [] (G)
  refine zv_aload_n dX2_takeBackInto_0 rfl ?_
  refine zv_getI hh.1 rfl fl_X2_26 rfl dX2_takeBackInto_1 ?_
  rw [hc]
  refine zv_if_gt (tgt := 9) dX2_takeBackInto_4 (by decide) (fun _ => ?_) (fun h => absurd (nI_lt (a := 0) hc0 (by omega)) h)
  refine zv_aload_n dX2_takeBackInto_9 rfl ?_
  refine zv_dup dX2_takeBackInto_10 rfl ?_
  refine zv_getI hh.1 rfl fl_X2_26 rfl dX2_takeBackInto_11 ?_
  refine zv_iconst (v := 1) dX2_takeBackInto_14 (by decide) ?_
  refine zv_isub dX2_takeBackInto_15 ?_
  rw [hc, show nI c - 1 = nI (c - 1) from pk_sub (b := 1) (by omega)]
  refine zv_putI (t := 6) hh.1 rfl fl_X2_26 ft_X2_2 rfl dX2_takeBackInto_16 ?_
  refine zv_aload_n dX2_takeBackInto_19 rfl ?_
  refine zv_getS (r := 1) hh.1 rfl fl_X2_13 rfl dX2_takeBackInto_20 ?_
  refine zv_aload_n dX2_takeBackInto_23 rfl ?_
  refine zv_callV (m_X2_placeBehindLast l D B (f := f) (c := c - 1) hh (by rw [zst_same]; exact hf) hf7 (by rw [zst_same]; rfl) (by omega)) ml_X2_18 in_X2_placeBehindLast sel_X2_placeBehindLast hh.1 rfl rfl rfl rfl (Nat.le_of_ble_eq_true rfl) dX2_takeBackInto_24 ⟨Nat.le_of_ble_eq_true rfl, Nat.le_of_ble_eq_true rfl⟩ ⟨Nat.le_refl _, Nat.le_refl _⟩ (zk_i ?_)
  refine zv_aaldS (i := 1) (by omega) (by omega) hh.1 rfl (zix_nI (show (f + (c - 1)) % 7 < 7 by omega) (by decide)) dX2_takeBackInto_27 ?_
  refine zv_astore_n dX2_takeBackInto_28 (by decide) rfl ?_
  refine zv_aload_n dX2_takeBackInto_29 rfl ?_
  refine zv_ifnull_r dX2_takeBackInto_30 ?_
  refine zv_aload_n dX2_takeBackInto_33 rfl ?_
  refine zv_aload_n dX2_takeBackInto_34 rfl ?_
  refine zv_callV (m_X5_copyFrom l D B (r := r) (r2 := r2) hs (hh.2 ((f + (c - 1)) % 7) (by omega)) ha (stOK_of h1 (fun x a b => zst_ne _ _ (by omega))) (stOK_of h2 (fun x a b => zst_ne _ _ (by omega)))) ml_X2_22 in_X5_copyFrom sel_X5_copyFrom hs.1 rfl rfl rfl rfl (Nat.le_of_ble_eq_true rfl) dX2_takeBackInto_35 ⟨Nat.le_of_ble_eq_true rfl, Nat.le_of_ble_eq_true rfl⟩ ⟨Nat.le_refl _, Nat.le_refl _⟩ (zk_v ?_)
  refine zv_iconst (v := 1) dX2_takeBackInto_38 (by decide) ?_
  refine zv_iretE dX2_takeBackInto_39 rfl (by first | rfl | exact bI_nar _) ?_ ?_
  · rfl
  · rfl
