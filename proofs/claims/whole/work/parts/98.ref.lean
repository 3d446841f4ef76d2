theorem lN_shr8 {u i : Nat} (h : u < 2 ^ 64) : ((lN (u >>> (8 * i))).toUInt64 >>> ((8 : Int32).toInt64.toUInt64 &&& Int64.toUInt64 63)).toInt64 = lN (u >>> (8 * (i + 1))) := by
  have := lN_shr (m := u >>> (8 * i)) (i := 1) (Nat.lt_of_le_of_lt (Nat.shiftRight_le _ _) h) (by decide)
  rw [← Nat.shiftRight_add] at this
  exact this
def cdP (G : zG) (m u i : Nat) (g : Nat → Int32) : Prop := (∀ j, (j < 2608 ∨ 2616 ≤ j) → g j = G m j) ∧ ∀ j, j < i → g (2608 + j) = nI (chB u j)
def puP (G : zG) (m : Nat) (T : Nat → Nat) (tn u c k : Nat) (g : Nat → Int32) : Prop :=
  (∀ j, j ≠ 8 → (j < 2528 ∨ 2616 ≤ j) → g j = G m j) ∧ g 8 = nI (tn + (c - k)) ∧ (∀ i, i < tn + (c - k) → g (2528 + i) = nI (putT T tn u c k i)) ∧ ∀ j, j < c → g (2608 + j) = nI (chB u j)
theorem cdP_s {G : zG} {m u i : Nat} {g : Nat → Int32} {v : Int32} (h : cdP G m u i g) (hi : i < 8) (hv : v = nI (chB u i)) : cdP G m u (i + 1) (upd g (2608 + i) v) := by
  refine ⟨fun j hj => ?_, fun j hj => ?_⟩
  · simp only [upd]
    rw [if_neg (by omega)]
    exact h.1 j hj
  · simp only [upd]
    by_cases e : j = i
    · rw [if_pos (by omega), hv, e]
    · rw [if_neg (by omega)]
      exact h.2 j (by omega)
theorem puP_s {G : zG} {m tn u c k : Nat} {T : Nat → Nat} {g : Nat → Int32} (h : puP G m T tn u c (k + 1) g) (hk : k < c) (h80 : tn + c ≤ 80) : puP G m T tn u c k (upd (upd g (2528 + (tn + (c - (k + 1)))) (nI (chB u k))) 8 (nI (tn + (c - (k + 1)) + 1))) := by
  obtain ⟨h1, h2, h3, h4⟩ := h
  have e : c - k = c - (k + 1) + 1 := by omega
  refine ⟨fun j h8 hj => ?_, ?_, fun i hi => ?_, fun j hj => ?_⟩
  · simp only [upd]
    rw [if_neg (by omega), if_neg (by omega)]
    exact h1 j h8 hj
  · rw [e]
    rfl
  · simp only [upd]
    rw [if_neg (by omega), putT_s hk]
    dsimp only
    by_cases e2 : i = tn + (c - (k + 1))
    · rw [if_pos (by omega), if_pos e2]
    · rw [if_neg (by omega), if_neg e2]
      exact h3 i (by omega)
  · simp only [upd]
    rw [if_neg (by omega), if_neg (by omega)]
    exact h4 j hj
theorem putT_b {T : Nat → Nat} {tn u c : Nat} (hT : ∀ i, i < tn → T i < 128) (hok : ∀ j, j < c → 33 ≤ chB u j ∧ chB u j ≤ 126) {i : Nat} (hi : i < tn + c) : putT T tn u c 0 i < 128 := by
  unfold putT
  split
  · have := hok (c - 1 - (i - tn)) (by omega)
    omega
  · exact hT i (by omega)
theorem cdP_pu {G : zG} {m tn u c : Nat} {T : Nat → Nat} {g : Nat → Int32} (h : cdP G m u c g) (h8 : G m 8 = nI tn) (htn : tn ≤ 80) (hT : ∀ i, i < tn → G m (2528 + i) = nI (T i)) : puP G m T tn u c c g := by
  refine ⟨fun j _ hj => h.1 j (by omega), by rw [h.1 8 (by omega), h8, Nat.sub_self]; rfl, fun i hi => ?_, h.2⟩
  rw [putT_0, h.1 _ (by omega)]
  exact hT i (by omega)
theorem zRM_put {L : zL} {m : Nat} {G : zG} {g r : Nat → Int32} {h : Nat → (Nat → Int32)} {c : Nat} {sl : Nat → Option (Nat → Int32)} {T : Nat → Nat} {tn u n : Nat} (hR : zRM L m G r h c sl T tn) (hp : puP G m T tn u n 0 g) (hok : ∀ j, j < n → 33 ≤ chB u j ∧ chB u j ≤ 126) (h80 : tn + n ≤ 80) : zRM L m (zst G m g) r h c sl (putT T tn u n 0) (tn + n) := by
  obtain ⟨a1, a2, a3, a4, a5, a6, a7, a8, a9⟩ := hR
  obtain ⟨p1, p2, p3, p4⟩ := hp
  have hs : ∀ j, j ≠ 8 → (j < 2528 ∨ 2616 ≤ j) → zst G m g m j = G m j := fun j h1 h2 => by rw [zst_same]; exact p1 j h1 h2
  refine ⟨a1, fun k hk => by rw [hs _ (by omega) (by omega)]; exact a2 k hk, by rw [hs _ (by omega) (by omega)]; exact a3, a4, fun k hk j hj => by rw [hs _ (by omega) (by omega)]; exact a5 k hk j hj, fun j hj => ?_, h80, by rw [zst_same]; exact p2, fun i hi => ⟨by rw [zst_same]; exact p3 i hi, putT_b (fun i hi => (a9 i hi).2) hok hi⟩⟩
  rcases a6 j hj with ⟨b1, b2⟩ | ⟨q, b1, b2, b3⟩
  · exact Or.inl ⟨b1, by rw [hs _ (by omega) (by omega)]; exact b2⟩
  · exact Or.inr ⟨q, b1, by rw [hs _ (by omega) (by omega)]; exact b2, fun k hk => by rw [hs _ (by omega) (by omega)]; exact b3 k hk⟩
theorem zRM_cd {L : zL} {m : Nat} {G : zG} {g r : Nat → Int32} {h : Nat → (Nat → Int32)} {c : Nat} {sl : Nat → Option (Nat → Int32)} {T : Nat → Nat} {tn u n : Nat} (hR : zRM L m G r h c sl T tn) (hp : cdP G m u n g) : zRM L m (zst G m g) r h c sl T tn :=
  zRM_fr hR (fun k hk => by rw [zst_same, hp.1 _ (by omega)]; exact hR.2.1 k hk) (fun j hj => by rw [zst_same, hp.1 _ (by omega)])

set_option maxRecDepth 100000 in
set_option maxHeartbeats 4000000 in
theorem lp_X7_put2 (l : Launch) (D : zD) (B : Nat) {L : zL} {nx : Nat} {G : zG} {m tn u n : Nat} {T : Nat → Nat} (hm : (m, 8) ∈ L) {z : Int64} (hn : n ≤ 8) (h80 : tn + n ≤ 80) : ∀ k : Nat, k ≤ n → ∀ g, puP G m T tn u n k g → zV l (fun _ => True) D B RX7 "put" cX7_put 7 (some .int) (zrm 1 23 0 0) (zN (zI (nI (tn + n)) L nx (fun G1 => ∃ g, G1 = zst G m g ∧ puP G m T tn u n 0 g))) 0 0 L nx 92 [some (.ref m), some (.long (lN u)), none, some (.long z), none, some (.int (nI n)), some (.int (nI k - 1))] [] (zst G m g) := by
  intro k
  induction k with
  | zero =>
    intro hk g hg
    refine zv_iload dX7_put_92 rfl ?_
    refine zv_if_lt (tgt := 129) dX7_put_94 (by decide) (fun _ => ?_) (fun h => absurd (by decide) h)
    refine zv_aload_n dX7_put_129 rfl ?_
    refine zv_getI hm rfl fl_X7_148 rfl dX7_put_130 ?_
    exact zv_iretI dX7_put_133 rfl rfl (by rw [zst_same]; exact hg.2.1) ⟨g, rfl, hg⟩
  | succ k ih =>
    intro hk g hg
    rw [nI_pred]
    refine zv_iload dX7_put_92 rfl ?_
    refine zv_if_lt (tgt := 129) dX7_put_94 (by decide) (fun h => absurd h (nI_pos (by omega))) (fun _ => ?_)
    refine zv_aload_n dX7_put_97 rfl ?_
    refine zv_getS (r := 7) hm rfl fl_X7_29 rfl dX7_put_98 ?_
    refine zv_aload_n dX7_put_101 rfl ?_
    refine zv_getI hm rfl fl_X7_148 rfl dX7_put_102 ?_
    rw [zst_same, hg.2.1]
    refine zv_aload_n dX7_put_105 rfl ?_
    refine zv_getS (r := 8) hm rfl fl_X7_32 rfl dX7_put_106 ?_
    refine zv_iload dX7_put_109 rfl ?_
    refine zv_iald (i := 8) hm rfl (zix_nI (by omega) (by decide)) dX7_put_111 ?_
    rw [zst_same, hg.2.2.2 k (by omega)]
    refine zv_iast (i := 7) hm rfl (zix_nI (by omega) (by decide)) dX7_put_112 ?_
    simp only [zst_same, zst_zst]
    refine zv_aload_n dX7_put_113 rfl ?_
    refine zv_dup dX7_put_114 rfl ?_
    refine zv_getI hm rfl fl_X7_148 rfl dX7_put_115 ?_
    rw [show zst G m (upd g (2528 + (tn + (n - (k + 1)))) (nI (chB u k))) m 8 = nI (tn + (n - (k + 1))) by rw [zst_same]; exact (if_neg (by omega)).trans hg.2.1]
    refine zv_iconst (v := 1) dX7_put_118 (by decide) ?_
    refine zv_iadd dX7_put_119 ?_
    rw [nI_1]
    refine zv_putI (t := 8) hm rfl fl_X7_148 ft_X7_8 rfl dX7_put_120 ?_
    simp only [zst_same, zst_zst]
    refine zv_iincm dX7_put_123 rfl (by decide) rfl ?_
    refine zv_goto (tgt := 92) dX7_put_126 (by decide) ?_
    exact ih (by omega) _ (puP_s hg (by omega) h80)

set_option maxRecDepth 100000 in
set_option maxHeartbeats 4000000 in
theorem lp_X7_put (l : Launch) (D : zD) (B : Nat) {L : zL} {nx : Nat} {G : zG} {m c tn : Nat} {r : Nat → Int32} {h : Nat → (Nat → Int32)} {sl : Nat → Option (Nat → Int32)} {T : Nat → Nat} (hR : zRM L m G r h c sl T tn) {u : Nat} (hu : u < 2 ^ 64) : ∀ i : Nat, i ≤ 8 → ∀ g, cdP G m u i g → chS u i (8 - i) = chN u → (∀ j, j < i → 33 ≤ chB u j ∧ chB u j ≤ 126) → zV l (fun _ => True) D B RX7 "put" cX7_put 7 (some .int) (zrm 1 23 0 0) (zN (zI (opPut T tn u).1 L nx (fun G1 => zRM L m G1 r h c sl (opPut T tn u).2.1 (opPut T tn u).2.2 ∧ ∀ y, y ≠ m → G1 y = G y))) 0 0 L nx 5 [some (.ref m), some (.long (lN u)), none, some (.long (lN (u >>> (8 * i)))), none, some (.int (nI i)), none] [] (zst G m g) := by
  refine zloop 8 (fun i hi ih g hg hE hok => ?_)
  have hlt : u >>> (8 * i) < 2 ^ 64 := Nat.lt_of_le_of_lt (Nat.shiftRight_le _ _) hu
  have h8n := hR.2.2.2.2.2.2.2.1
  have htn := hR.2.2.2.2.2.2.1
  refine zv_lload_n dX7_put_5 rfl ?_
  refine zv_lconst (v := 0) dX7_put_6 rfl ?_
  refine zv_lcmp dX7_put_7 ?_
  refine zv_if_eq (tgt := 63) dX7_put_8 (by decide) (fun c8 => ?_) (fun c8 => ?_)
  · have h0 : u >>> (8 * i) = 0 := (lN_0 hlt).mp ((lg_cmp_eq _ _).mp c8)
    have hN : chN u = i := by
      rw [← hE]
      rcases Nat.lt_or_ge i 8 with h | h
      · rw [show 8 - i = (8 - (i + 1)) + 1 by omega]
        unfold chS
        rw [if_pos h0]
      · rw [show 8 - i = 0 by omega]
        rfl
    refine zv_iload dX7_put_63 rfl ?_
    refine zv_if_ne (tgt := 71) dX7_put_65 (by decide) (fun c65 => ?_) (fun c65 => ?_)
    · have hi0 : ¬ i = 0 := fun e => c65 (by rw [e]; rfl)
      refine zv_aload_n dX7_put_71 rfl ?_
      refine zv_getI hR.1 rfl fl_X7_148 rfl dX7_put_72 ?_
      rw [show zst G m g m 8 = nI tn by rw [zst_same, hg.1 8 (by omega), h8n]]
      refine zv_iload dX7_put_75 rfl ?_
      refine zv_iadd dX7_put_77 ?_
      rw [nI_add]
      refine zv_bipush (v := 80) dX7_put_78 (by decide) ?_
      refine zv_icmp_le (tgt := 86) dX7_put_80 (by decide) (fun c80 => ?_) (fun c80 => ?_)
      · have h80 : tn + i ≤ 80 := (nI_leI (a := tn + i) (b := 80) (by omega) (by decide)).mp c80
        have hop : opPut T tn u = (nI (tn + i), putT T tn u i 0, tn + i) := by unfold opPut; rw [hN, if_neg hi0, if_neg (by omega)]
        rw [hop]
        refine zv_iload dX7_put_86 rfl ?_
        refine zv_iconst (v := 1) dX7_put_88 (by decide) ?_
        refine zv_isub dX7_put_89 ?_
        refine zv_istore dX7_put_90 (by decide) rfl ?_
        refine zv_post (q := zI (nI (tn + i)) L nx (fun G1 => ∃ g, G1 = zst G m g ∧ puP G m T tn u i 0 g)) ?_ ?_
        · exact lp_X7_put2 l D B hR.1 hi h80 i (Nat.le_refl _) g (cdP_pu hg h8n htn (fun i hi => (hR.2.2.2.2.2.2.2.2 i hi).1))
        · rintro v L1 n1 G1 ⟨e1, e2, e3, g1, rfl, hp⟩
          exact ⟨e1, e2, e3, zRM_put hR hp hok h80, fun y hy => zst_ne _ _ hy⟩
      · have h80 : 80 < tn + i := by
          rcases Nat.lt_or_ge 80 (tn + i) with g | g
          · exact g
          · exact absurd (nI_le g (by decide)) c80
        have hop : opPut T tn u = (-4, T, tn) := by unfold opPut; rw [hN, if_neg hi0, if_pos h80]
        rw [hop]
        refine zv_bipush (v := (-4)) dX7_put_83 (by decide) ?_
        exact zv_iretI dX7_put_85 rfl rfl rfl ⟨zRM_cd hR hg, fun y hy => zst_ne _ _ hy⟩
    · have hi0 : i = 0 := (nI_eq (by omega) (by decide)).mp (show nI i = nI 0 from c65)
      have hop : opPut T tn u = (-2, T, tn) := if_pos (hN.trans hi0)
      rw [hop]
      refine zv_bipush (v := (-2)) dX7_put_68 (by decide) ?_
      exact zv_iretI dX7_put_70 rfl rfl rfl ⟨zRM_cd hR hg, fun y hy => zst_ne _ _ hy⟩
  · have h0 : ¬ u >>> (8 * i) = 0 := fun e => c8 ((lg_cmp_eq _ _).mpr ((lN_0 hlt).mpr e))
    refine zv_iload dX7_put_11 rfl ?_
    refine zv_bipush (v := 8) dX7_put_13 (by decide) ?_
    refine zv_icmp_ge (tgt := 63) dX7_put_15 (by decide) (fun h => absurd h (by
      intro h15
      have : i = 8 := by have := zge_of (N := 8) (by decide) (by omega) rfl h15; omega
      subst this
      exact h0 (by rw [Nat.shiftRight_eq_div_pow]; exact Nat.div_eq_of_lt hu))) (fun _ => ?_)
    have hi8 : i < 8 := by
      rcases Nat.lt_or_ge i 8 with h | h
      · exact h
      · exfalso
        have : i = 8 := by omega
        subst this
        exact h0 (by rw [Nat.shiftRight_eq_div_pow]; exact Nat.div_eq_of_lt hu)
    rw [show 8 - i = (8 - (i + 1)) + 1 by omega] at hE
    unfold chS at hE
    rw [if_neg h0] at hE
    refine zv_aload_n dX7_put_18 rfl ?_
    refine zv_getS (r := 8) hR.1 rfl fl_X7_32 rfl dX7_put_19 ?_
    refine zv_iload dX7_put_22 rfl ?_
    refine zv_lload_n dX7_put_24 rfl ?_
    refine zv_ldc2 dX7_put_25 kc_X7_160 ?_
    refine zv_land dX7_put_28 ?_
    refine zv_l2i dX7_put_29 ?_
    rw [lN_and hlt]
    refine zv_iast (i := 8) hR.1 rfl (zix_nI (by omega) (by decide)) dX7_put_30 ?_
    simp only [zst_same, zst_zst]
    have hg2 := cdP_s (v := nI (u >>> (8 * i) % 256)) hg hi8 rfl
    refine zv_aload_n dX7_put_31 rfl ?_
    refine zv_getS (r := 8) hR.1 rfl fl_X7_32 rfl dX7_put_32 ?_
    refine zv_iload dX7_put_35 rfl ?_
    refine zv_iald (i := 8) hR.1 rfl (zix_nI (by omega) (by decide)) dX7_put_37 ?_
    rw [show zst G m (upd g (2608 + i) (nI (u >>> (8 * i) % 256))) m (2608 + i) = nI (u >>> (8 * i) % 256) by rw [zst_same]; exact if_pos rfl]
    refine zv_i2l dX7_put_38 ?_
    refine zv_bipush (v := 33) dX7_put_39 (by decide) ?_
    refine zv_bipush (v := 126) dX7_put_41 (by decide) ?_
    refine zv_callS (m_in3 l D B _ 33 126) ml_X7_44 st_X7_in rfl rfl (Nat.le_of_ble_eq_true rfl) dX7_put_43 ⟨Nat.le_of_ble_eq_true rfl, Nat.le_of_ble_eq_true rfl⟩ ⟨Nat.le_refl _, Nat.le_refl _⟩ (zk_i ?_)
    refine zv_if_ne (tgt := 52) dX7_put_46 (by decide) (fun c46 => ?_) (fun c46 => ?_)
    · have h1 : 33 ≤ chB u i ∧ chB u i ≤ 126 := by
        obtain ⟨b, g1, g2, g3⟩ := (zin3_iff2 (l := 33) (m := 126) (by decide) (by decide)).mp (bI_ne0.mp c46)
        have : chB u i = b := (nI_eq (by unfold chB; omega) (by omega)).mp g3
        omega
      rw [if_pos h1] at hE
      refine zv_lload_n dX7_put_52 rfl ?_
      refine zv_bipush (v := 8) dX7_put_53 (by decide) ?_
      refine zv_lushr dX7_put_55 ?_
      rw [lN_shr8 hu]
      refine zv_lstore_n dX7_put_56 (by decide) rfl ?_
      refine zv_iinc1 dX7_put_57 rfl (by decide) rfl ?_
      refine zv_goto (tgt := 5) dX7_put_60 (by decide) ?_
      rw [nI_1]
      refine ih hi8 _ hg2 hE (fun j hj => ?_)
      by_cases e : j = i
      · rw [e]; exact h1
      · exact hok j (by omega)
    · have h1 : ¬ (33 ≤ chB u i ∧ chB u i ≤ 126) := fun h => absurd (bI_eq0.mp c46) (by
        have := (zin3_iff2 (x := nI (u >>> (8 * i) % 256)) (l := 33) (m := 126) (by decide) (by decide)).mpr ⟨_, h.1, h.2, rfl⟩
        rw [show zin3 (nI (u >>> (8 * i) % 256)) 33 126 = true from this]; simp)
      rw [if_neg h1] at hE
      have hop : opPut T tn u = (-2, T, tn) := if_pos hE.symm
      rw [hop]
      refine zv_bipush (v := (-2)) dX7_put_49 (by decide) ?_
      exact zv_iretI dX7_put_51 rfl rfl rfl ⟨zRM_cd hR hg2, fun y hy => zst_ne _ _ hy⟩

set_option maxRecDepth 100000 in
set_option maxHeartbeats 4000000 in
theorem m_X7_put (l : Launch) (D : zD) (B : Nat) {L : zL} {nx : Nat} {G : zG} {m c tn : Nat} {r : Nat → Int32} {h : Nat → (Nat → Int32)} {sl : Nat → Option (Nat → Int32)} {T : Nat → Nat} (hR : zRM L m G r h c sl T tn) {u : Nat} (hu : u < 2 ^ 64) : zMet l D B yX7_put cX7_put 7 (some .int) 1 23 0 0 [.ref m, .long (lN u)] L nx G (zI (opPut T tn u).1 L nx (fun G1 => zRM L m G1 r h c sl (opPut T tn u).2.1 (opPut T tn u).2.2 ∧ ∀ y, y ≠ m → G1 y = G y)) := by
  refine zMet_of (own := RX7) (mn := "put") [some (.ref m), some (.long (lN u)), none, none, none, none, none] (by decide +kernel) rfl rfl rfl (Nat.le_of_ble_eq_true rfl) ?_
  show zV l (fun _ => True) D B RX7 "put" cX7_put 7 (some .int) (zrm 1 23 0 0) (zN (zI (opPut T tn u).1 L nx (fun G1 => zRM L m G1 r h c sl (opPut T tn u).2.1 (opPut T tn u).2.2 ∧ ∀ y, y ≠ m → G1 y = G y))) 0 0 L nx 0 [some (.ref m), some (.long (lN u)), none, none, none, none, none] [] (G)
  refine zv_lload_n dX7_put_0 rfl ?_
  refine zv_lstore_n dX7_put_1 (by decide) rfl ?_
  refine zv_iconst (v := 0) dX7_put_2 (by decide) ?_
  refine zv_istore dX7_put_3 (by decide) rfl ?_
  refine zv_eqG ?_ (lp_X7_put l D B hR hu 0 (by omega) (G m) ⟨fun j _ => rfl, fun j hj => by omega⟩ rfl (fun j hj => by omega))
  rw [zst_self]
