set_option maxRecDepth 100000 in
set_option maxHeartbeats 4000000 in
theorem tl_X7_comes (l : Launch) (D : zD) (B : Nat) {L : zL} {nx : Nat} {G : zG} {m i : Nat} {g r : Nat → Int32} (hm : (m, 8) ∈ L) (hi : i < 3) {n t : Nat} {ch f d : Nat → Int32} (hJ : zCJ n ch f t) (hD : zDO n ch d) (h14 : g 14 = d 2) (h15 : g 15 = d 3) : zV l (fun _ => True) D B RX7 "comes" cX7_comes 5 (some .int) (zrm 3 72 0 0) (zN (zE (some (.int (comV f d))) L nx (mS G m g r i (comP f d)))) 0 0 L nx 71 [some (.ref m), some (.int (nI i)), some (.int (recvS f d)), some (.int (recvV f d)), some (.int (nI 16))] [] ((mS G m g r i (f))) := by
  have hlim := recvS_lim (f := f) hD
  have h0 := zcnt_lim0 hJ.1 hlim
  have hcl := zcnt_le (zb (recvS f d)) 16
  refine zv_iload_n dX7_comes_71 rfl ?_
  refine zv_if_eq (tgt := 101) dX7_comes_72 (by decide) (fun c72 => ?_) (fun c72 => ?_)
  · have z0 := h0.mpr c72
    have hP : comP f d = f := by unfold comP; rw [if_neg (by omega), if_pos (Or.inl z0)]
    have hV : comV f d = 0 := by unfold comV; rw [if_neg (by omega), if_pos (Or.inl z0)]
    refine zv_aload_n dX7_comes_101 rfl ?_
    refine zv_iload_n dX7_comes_102 rfl ?_
    refine zv_iconst (v := 1) dX7_comes_103 (by decide) ?_
    refine zv_callV (m_its l D B (k := 1) hm hi (by omega)) ml_X7_48 in_X7_its sel_X7_its hm rfl rfl rfl rfl (Nat.le_of_ble_eq_true rfl) dX7_comes_104 ⟨Nat.le_of_ble_eq_true rfl, Nat.le_of_ble_eq_true rfl⟩ ⟨Nat.le_refl _, Nat.le_refl _⟩ (zk_i ?_)
    rw [hJ.2.2.1]
    refine zv_istore dX7_comes_107 (by decide) rfl ?_
    refine zv_iload_n dX7_comes_109 rfl ?_
    by_cases hs0 : recvS f d = 0
    · have z0 := h0.mpr hs0
      have hP : comP f d = f := by unfold comP; rw [if_neg (by omega), if_pos (Or.inl z0)]
      have hV : comV f d = 0 := by unfold comV; rw [if_neg (by omega), if_pos (Or.inl z0)]
      refine zv_if_eq (tgt := 120) dX7_comes_110 (by decide) (fun _ => ?_) (fun h => absurd (hs0) h)
      refine zv_iconst (v := 0) dX7_comes_120 (by decide) ?_
      refine zv_iretE dX7_comes_121 rfl (rfl) ?_ ?_
      · exact hV.symm
      · rw [hP]
    · refine zv_if_eq (tgt := 120) dX7_comes_110 (by decide) (fun h => absurd h (hs0)) (fun _ => ?_)
      refine zv_iload dX7_comes_113 rfl ?_
      refine zv_bipush (v := 24) dX7_comes_115 (by decide) ?_
      refine zv_icmp_ne (tgt := 122) dX7_comes_117 (by decide) (fun c117 => ?_) (fun c117 => ?_)
      · have ht24 : ¬ t = 24 := fun e => c117 (by rw [e]; rfl)
        have htl := hJ.2.1
        have hz : ¬ (zcnt (zb (recvS f d)) 16 = 0 ∨ f 1 = 24) := by
          rintro (e | e)
          · exact hs0 (h0.mp e)
          · rw [hJ.2.2.1] at e
            exact c117 e
        have hP : comP f d = keepP f t (recvS f d) (recvV f d) := by unfold comP; rw [if_neg (by omega), if_neg hz, hJ.2.2.1, nI_clamp (by omega)]
        have hV : comV f d = 1 := by unfold comV; rw [if_neg (by omega), if_neg hz]
        refine zv_aload_n dX7_comes_122 rfl ?_
        refine zv_iload_n dX7_comes_123 rfl ?_
        refine zv_bipush (v := 21) dX7_comes_124 (by decide) ?_
        refine zv_iload dX7_comes_126 rfl ?_
        refine zv_iadd dX7_comes_128 ?_
        rw [ix21]
        refine zv_iload_n dX7_comes_129 rfl ?_
        refine zv_callV (m_lay l D B (k := 21 + t) hm hi (by omega)) ml_X7_87 in_X7_lay sel_X7_lay hm rfl rfl rfl rfl (Nat.le_of_ble_eq_true rfl) dX7_comes_130 ⟨Nat.le_of_ble_eq_true rfl, Nat.le_of_ble_eq_true rfl⟩ ⟨Nat.le_refl _, Nat.le_refl _⟩ (zk_v ?_)
        refine zv_aload_n dX7_comes_133 rfl ?_
        refine zv_iload_n dX7_comes_134 rfl ?_
        refine zv_bipush (v := 45) dX7_comes_135 (by decide) ?_
        refine zv_iload dX7_comes_137 rfl ?_
        refine zv_iadd dX7_comes_139 ?_
        rw [ix45]
        refine zv_iload_n dX7_comes_140 rfl ?_
        refine zv_callV (m_lay l D B (k := 45 + t) hm hi (by omega)) ml_X7_87 in_X7_lay sel_X7_lay hm rfl rfl rfl rfl (Nat.le_of_ble_eq_true rfl) dX7_comes_141 ⟨Nat.le_of_ble_eq_true rfl, Nat.le_of_ble_eq_true rfl⟩ ⟨Nat.le_refl _, Nat.le_refl _⟩ (zk_v ?_)
        refine zv_aload_n dX7_comes_144 rfl ?_
        refine zv_iload_n dX7_comes_145 rfl ?_
        refine zv_iconst (v := 1) dX7_comes_146 (by decide) ?_
        refine zv_iload dX7_comes_147 rfl ?_
        refine zv_iconst (v := 1) dX7_comes_149 (by decide) ?_
        refine zv_iadd dX7_comes_150 ?_
        rw [nI_1]
        refine zv_callV (m_lay l D B (k := 1) hm hi (by omega)) ml_X7_87 in_X7_lay sel_X7_lay hm rfl rfl rfl rfl (Nat.le_of_ble_eq_true rfl) dX7_comes_151 ⟨Nat.le_of_ble_eq_true rfl, Nat.le_of_ble_eq_true rfl⟩ ⟨Nat.le_refl _, Nat.le_refl _⟩ (zk_v ?_)
        refine zv_iconst (v := 1) dX7_comes_154 (by decide) ?_
        refine zv_iretE dX7_comes_155 rfl (rfl) ?_ ?_
        · exact hV.symm
        · rw [hP]; rfl
      · have hz : zcnt (zb (recvS f d)) 16 = 0 ∨ f 1 = 24 := Or.inr (hJ.2.2.1.trans c117)
        have hP : comP f d = f := by unfold comP; rw [if_neg (by omega), if_pos hz]
        have hV : comV f d = 0 := by unfold comV; rw [if_neg (by omega), if_pos hz]
        refine zv_iconst (v := 0) dX7_comes_120 (by decide) ?_
        refine zv_iretE dX7_comes_121 rfl (rfl) ?_ ?_
        · exact hV.symm
        · rw [hP]
  · have z0 : ¬ zcnt (zb (recvS f d)) 16 = 0 := fun e => c72 (h0.mp e)
    refine zv_iload_n dX7_comes_75 rfl ?_
    refine zv_callS (m_X7_size l D B (recvS f d)) ml_X7_91 st_X7_size rfl rfl (Nat.le_of_ble_eq_true rfl) dX7_comes_76 ⟨Nat.le_of_ble_eq_true rfl, Nat.le_of_ble_eq_true rfl⟩ ⟨Nat.le_refl _, Nat.le_refl _⟩ (zk_i ?_)
    refine zv_iconst (v := 2) dX7_comes_79 (by decide) ?_
    refine zv_icmp_ge (tgt := 101) dX7_comes_80 (by decide) (fun c80 => ?_) (fun c80 => ?_)
    · have z2 : ¬ zcnt (zb (recvS f d)) 16 = 1 := by
        have := (nI_leI (a := 2) (b := zcnt (zb (recvS f d)) 16) (by omega) (by omega)).mp c80
        omega
      refine zv_aload_n dX7_comes_101 rfl ?_
      refine zv_iload_n dX7_comes_102 rfl ?_
      refine zv_iconst (v := 1) dX7_comes_103 (by decide) ?_
      refine zv_callV (m_its l D B (k := 1) hm hi (by omega)) ml_X7_48 in_X7_its sel_X7_its hm rfl rfl rfl rfl (Nat.le_of_ble_eq_true rfl) dX7_comes_104 ⟨Nat.le_of_ble_eq_true rfl, Nat.le_of_ble_eq_true rfl⟩ ⟨Nat.le_refl _, Nat.le_refl _⟩ (zk_i ?_)
      rw [hJ.2.2.1]
      refine zv_istore dX7_comes_107 (by decide) rfl ?_
      refine zv_iload_n dX7_comes_109 rfl ?_
      by_cases hs0 : recvS f d = 0
      · have z0 := h0.mpr hs0
        have hP : comP f d = f := by unfold comP; rw [if_neg (by omega), if_pos (Or.inl z0)]
        have hV : comV f d = 0 := by unfold comV; rw [if_neg (by omega), if_pos (Or.inl z0)]
        refine zv_if_eq (tgt := 120) dX7_comes_110 (by decide) (fun _ => ?_) (fun h => absurd (hs0) h)
        refine zv_iconst (v := 0) dX7_comes_120 (by decide) ?_
        refine zv_iretE dX7_comes_121 rfl (rfl) ?_ ?_
        · exact hV.symm
        · rw [hP]
      · refine zv_if_eq (tgt := 120) dX7_comes_110 (by decide) (fun h => absurd h (hs0)) (fun _ => ?_)
        refine zv_iload dX7_comes_113 rfl ?_
        refine zv_bipush (v := 24) dX7_comes_115 (by decide) ?_
        refine zv_icmp_ne (tgt := 122) dX7_comes_117 (by decide) (fun c117 => ?_) (fun c117 => ?_)
        · have ht24 : ¬ t = 24 := fun e => c117 (by rw [e]; rfl)
          have htl := hJ.2.1
          have hz : ¬ (zcnt (zb (recvS f d)) 16 = 0 ∨ f 1 = 24) := by
            rintro (e | e)
            · exact hs0 (h0.mp e)
            · rw [hJ.2.2.1] at e
              exact c117 e
          have hP : comP f d = keepP f t (recvS f d) (recvV f d) := by unfold comP; rw [if_neg (by omega), if_neg hz, hJ.2.2.1, nI_clamp (by omega)]
          have hV : comV f d = 1 := by unfold comV; rw [if_neg (by omega), if_neg hz]
          refine zv_aload_n dX7_comes_122 rfl ?_
          refine zv_iload_n dX7_comes_123 rfl ?_
          refine zv_bipush (v := 21) dX7_comes_124 (by decide) ?_
          refine zv_iload dX7_comes_126 rfl ?_
          refine zv_iadd dX7_comes_128 ?_
          rw [ix21]
          refine zv_iload_n dX7_comes_129 rfl ?_
          refine zv_callV (m_lay l D B (k := 21 + t) hm hi (by omega)) ml_X7_87 in_X7_lay sel_X7_lay hm rfl rfl rfl rfl (Nat.le_of_ble_eq_true rfl) dX7_comes_130 ⟨Nat.le_of_ble_eq_true rfl, Nat.le_of_ble_eq_true rfl⟩ ⟨Nat.le_refl _, Nat.le_refl _⟩ (zk_v ?_)
          refine zv_aload_n dX7_comes_133 rfl ?_
          refine zv_iload_n dX7_comes_134 rfl ?_
          refine zv_bipush (v := 45) dX7_comes_135 (by decide) ?_
          refine zv_iload dX7_comes_137 rfl ?_
          refine zv_iadd dX7_comes_139 ?_
          rw [ix45]
          refine zv_iload_n dX7_comes_140 rfl ?_
          refine zv_callV (m_lay l D B (k := 45 + t) hm hi (by omega)) ml_X7_87 in_X7_lay sel_X7_lay hm rfl rfl rfl rfl (Nat.le_of_ble_eq_true rfl) dX7_comes_141 ⟨Nat.le_of_ble_eq_true rfl, Nat.le_of_ble_eq_true rfl⟩ ⟨Nat.le_refl _, Nat.le_refl _⟩ (zk_v ?_)
          refine zv_aload_n dX7_comes_144 rfl ?_
          refine zv_iload_n dX7_comes_145 rfl ?_
          refine zv_iconst (v := 1) dX7_comes_146 (by decide) ?_
          refine zv_iload dX7_comes_147 rfl ?_
          refine zv_iconst (v := 1) dX7_comes_149 (by decide) ?_
          refine zv_iadd dX7_comes_150 ?_
          rw [nI_1]
          refine zv_callV (m_lay l D B (k := 1) hm hi (by omega)) ml_X7_87 in_X7_lay sel_X7_lay hm rfl rfl rfl rfl (Nat.le_of_ble_eq_true rfl) dX7_comes_151 ⟨Nat.le_of_ble_eq_true rfl, Nat.le_of_ble_eq_true rfl⟩ ⟨Nat.le_refl _, Nat.le_refl _⟩ (zk_v ?_)
          refine zv_iconst (v := 1) dX7_comes_154 (by decide) ?_
          refine zv_iretE dX7_comes_155 rfl (rfl) ?_ ?_
          · exact hV.symm
          · rw [hP]; rfl
        · have hz : zcnt (zb (recvS f d)) 16 = 0 ∨ f 1 = 24 := Or.inr (hJ.2.2.1.trans c117)
          have hP : comP f d = f := by unfold comP; rw [if_neg (by omega), if_pos hz]
          have hV : comV f d = 0 := by unfold comV; rw [if_neg (by omega), if_pos hz]
          refine zv_iconst (v := 0) dX7_comes_120 (by decide) ?_
          refine zv_iretE dX7_comes_121 rfl (rfl) ?_ ?_
          · exact hV.symm
          · rw [hP]
    · have z1 : zcnt (zb (recvS f d)) 16 = 1 := by
        rcases Nat.lt_or_ge (zcnt (zb (recvS f d)) 16) 2 with h | h
        · omega
        · exact absurd (nI_le h (by omega)) c80
      obtain ⟨e1, e2, e3, e4⟩ := recv_one hJ hD z1
      have hn16 := hJ.1
      have hP : comP f d = peelP 24 (knowP f (zlow (recvS f d)) (recvV f d)) := by unfold comP; rw [if_pos z1]
      have hJk : zCJ n ch (knowP f (zlow (recvS f d)) (recvV f d)) t := by rw [e4]; exact zCJ_know hJ e2 e3
      have hV : comV f d = 2 + nI (zcnt (zb (comP f d 0)) 16 - (zcnt (zb (f 0)) 16 + 1)) := by unfold comV; rw [if_pos z1]
      have hcn : zcnt (zb (knowP f (zlow (recvS f d)) (recvV f d) 0)) 16 = zcnt (zb (f 0)) 16 + 1 := zcnt_know (by omega) e3
      refine zv_aload_n dX7_comes_83 rfl ?_
      refine zv_iload_n dX7_comes_84 rfl ?_
      refine zv_iload_n dX7_comes_85 rfl ?_
      refine zv_callS (m_X7_lowest l D B _) ml_X7_101 st_X7_lowest rfl rfl (Nat.le_of_ble_eq_true rfl) dX7_comes_86 ⟨Nat.le_of_ble_eq_true rfl, Nat.le_of_ble_eq_true rfl⟩ ⟨Nat.le_refl _, Nat.le_refl _⟩ (zk_i ?_)
      rw [lowM_z]
      refine zv_iload_n dX7_comes_89 rfl ?_
      refine zv_callV (m_X7_knows l D B hm hi (t := t) (show zlow (recvS f d) < 16 by omega) hJ.2.1 hJ.2.2.1 (fun k2 hk1 hk2 => by rw [(hJ.2.2.2.2.2 k2 hk2).2.2.2 hk1]; exact zb_zero _)) ml_X7_104 in_X7_knows sel_X7_knows hm rfl rfl rfl rfl (Nat.le_of_ble_eq_true rfl) dX7_comes_90 ⟨Nat.le_of_ble_eq_true rfl, Nat.le_of_ble_eq_true rfl⟩ ⟨Nat.le_refl _, Nat.le_refl _⟩ (zk_v ?_)
      refine zv_iconst (v := 2) dX7_comes_93 (by decide) ?_
      refine zv_aload_n dX7_comes_94 rfl ?_
      refine zv_iload_n dX7_comes_95 rfl ?_
      refine zv_callV (m_X7_peel l D B hm hi hJk) ml_X7_107 in_X7_peel sel_X7_peel hm rfl rfl rfl rfl (Nat.le_of_ble_eq_true rfl) dX7_comes_96 ⟨Nat.le_of_ble_eq_true rfl, Nat.le_of_ble_eq_true rfl⟩ ⟨Nat.le_refl _, Nat.le_refl _⟩ (zk_i ?_)
      refine zv_iadd dX7_comes_99 ?_
      refine zv_iretE dX7_comes_100 rfl (rfl) ?_ ?_
      · rw [hV, hP, hcn]
      · rw [hP]

set_option maxRecDepth 100000 in
set_option maxHeartbeats 4000000 in
theorem lp_X7_comes (l : Launch) (D : zD) (B : Nat) {L : zL} {nx : Nat} {G : zG} {m i : Nat} {g r : Nat → Int32} (hm : (m, 8) ∈ L) (hi : i < 3) {n t : Nat} {ch f d : Nat → Int32} (hJ : zCJ n ch f t) (hD : zDO n ch d) (h14 : g 14 = d 2) (h15 : g 15 = d 3) : ∀ k : Nat, k ≤ 16 → zV l (fun _ => True) D B RX7 "comes" cX7_comes 5 (some .int) (zrm 3 72 0 0) (zN (zE (some (.int (comV f d))) L nx (mS G m g r i (comP f d)))) 0 0 L nx 22 [some (.ref m), some (.int (nI i)), some (.int (recvS f d)), some (.int (d 3 ^^^ xsN (fun k => f (5 + k)) (d 2 &&& f 0) k)), some (.int (nI k))] [] ((mS G m g r i (f))) := by
  refine zloop 16 (fun k hk ih => ?_)
  refine zv_iload dX7_comes_22 rfl ?_
  refine zv_bipush (v := 16) dX7_comes_24 (by decide) ?_
  refine zv_icmp_ge (tgt := 71) dX7_comes_26 (by decide) (fun c26 => ?_) (fun c26 => ?_)
  · have e : k = 16 := by have := zge_of (N := 16) (by decide) (by omega) rfl c26; omega
    subst e
    exact tl_X7_comes l D B hm hi hJ hD h14 h15
  · have hlt : k < 16 := zlt_of (N := 16) (by decide) (by omega) rfl c26
    refine zv_iload_n dX7_comes_29 rfl ?_
    refine zv_aload_n dX7_comes_30 rfl ?_
    refine zv_getI hm rfl fl_X7_81 rfl dX7_comes_31 ?_
    rw [mS_o (by omega), h14]
    refine zv_aload_n dX7_comes_34 rfl ?_
    refine zv_iload_n dX7_comes_35 rfl ?_
    refine zv_iconst (v := 0) dX7_comes_36 (by decide) ?_
    refine zv_callV (m_its l D B (k := 0) hm hi (by omega)) ml_X7_48 in_X7_its sel_X7_its hm rfl rfl rfl rfl (Nat.le_of_ble_eq_true rfl) dX7_comes_37 ⟨Nat.le_of_ble_eq_true rfl, Nat.le_of_ble_eq_true rfl⟩ ⟨Nat.le_refl _, Nat.le_refl _⟩ (zk_i ?_)
    refine zv_iand dX7_comes_40 ?_
    refine zv_iload dX7_comes_41 rfl ?_
    refine zv_ishr dX7_comes_43 ?_
    refine zv_iconst (v := 1) dX7_comes_44 (by decide) ?_
    refine zv_iand dX7_comes_45 ?_
    rw [zb_test _ (by omega)]
    refine zv_iconst (v := 1) dX7_comes_46 (by decide) ?_
    refine zv_icmp_ne (tgt := 62) dX7_comes_47 (by decide) (fun c47 => ?_) (fun c47 => ?_)
    · have hzb : zb (d 2 &&& f 0) k = false := by
        cases h : zb (d 2 &&& f 0) k with
        | false => rfl
        | true => exact absurd (bI_1.mpr h) c47
      have hv : xsN (fun k => f (5 + k)) (d 2 &&& f 0) (k + 1) = xsN (fun k => f (5 + k)) (d 2 &&& f 0) k := by
        simp only [xsN]
        rw [hzb]
        simp
      refine zv_iconst (v := 0) dX7_comes_62 (by decide) ?_
      refine zv_ixor dX7_comes_63 ?_
      refine zv_istore_n dX7_comes_64 (by decide) rfl ?_
      refine zv_iinc1 dX7_comes_65 rfl (by decide) rfl ?_
      refine zv_goto (tgt := 22) dX7_comes_68 (by decide) ?_
      rw [nI_1]
      have ih1 := ih hlt
      rw [hv] at ih1
      first
        | (rw [i32_xor_zero]; exact ih1)
        | (rw [i32_xor_assoc]; exact ih1)
    · have hzb := bI_1.mp c47
      have hv : xsN (fun k => f (5 + k)) (d 2 &&& f 0) (k + 1) = xsN (fun k => f (5 + k)) (d 2 &&& f 0) k ^^^ f (5 + k) := by
        simp only [xsN]
        rw [hzb]
        simp
      refine zv_aload_n dX7_comes_50 rfl ?_
      refine zv_iload_n dX7_comes_51 rfl ?_
      refine zv_iconst (v := 5) dX7_comes_52 (by decide) ?_
      refine zv_iload dX7_comes_53 rfl ?_
      refine zv_iadd dX7_comes_55 ?_
      rw [ix5]
      refine zv_callV (m_its l D B (k := 5 + k) hm hi (by omega)) ml_X7_48 in_X7_its sel_X7_its hm rfl rfl rfl rfl (Nat.le_of_ble_eq_true rfl) dX7_comes_56 ⟨Nat.le_of_ble_eq_true rfl, Nat.le_of_ble_eq_true rfl⟩ ⟨Nat.le_refl _, Nat.le_refl _⟩ (zk_i ?_)
      refine zv_goto (tgt := 63) dX7_comes_59 (by decide) ?_
      refine zv_ixor dX7_comes_63 ?_
      refine zv_istore_n dX7_comes_64 (by decide) rfl ?_
      refine zv_iinc1 dX7_comes_65 rfl (by decide) rfl ?_
      refine zv_goto (tgt := 22) dX7_comes_68 (by decide) ?_
      rw [nI_1]
      have ih1 := ih hlt
      rw [hv] at ih1
      first
        | (rw [i32_xor_zero]; exact ih1)
        | (rw [i32_xor_assoc]; exact ih1)

set_option maxRecDepth 100000 in
set_option maxHeartbeats 4000000 in
theorem m_X7_comes (l : Launch) (D : zD) (B : Nat) {L : zL} {nx : Nat} {G : zG} {m i : Nat} {g r : Nat → Int32} (hm : (m, 8) ∈ L) (hi : i < 3) {n t : Nat} {ch f d : Nat → Int32} (hJ : zCJ n ch f t) (hD : zDO n ch d) (h14 : g 14 = d 2) (h15 : g 15 = d 3) : zMet l D B yX7_comes cX7_comes 5 (some .int) 3 72 0 0 [.ref m, .int (nI i)] L nx (mS G m g r i (f)) (zE (some (.int (comV f d))) L nx (mS G m g r i (comP f d))) := by
  refine zMet_of (own := RX7) (mn := "comes") [some (.ref m), some (.int (nI i)), none, none, none] (by decide +kernel) rfl rfl rfl (Nat.le_of_ble_eq_true rfl) ?_
  show zV l (fun _ => True) D B RX7 "comes" cX7_comes 5 (some .int) (zrm 3 72 0 0) (zN (zE (some (.int (comV f d))) L nx (mS G m g r i (comP f d)))) 0 0 L nx 0 [some (.ref m), some (.int (nI i)), none, none, none] [] ((mS G m g r i (f)))
  refine zv_aload_n dX7_comes_0 rfl ?_
  refine zv_getI hm rfl fl_X7_81 rfl dX7_comes_1 ?_
  rw [mS_o (by omega), h14]
  refine zv_aload_n dX7_comes_4 rfl ?_
  refine zv_iload_n dX7_comes_5 rfl ?_
  refine zv_iconst (v := 0) dX7_comes_6 (by decide) ?_
  refine zv_callV (m_its l D B (k := 0) hm hi (by omega)) ml_X7_48 in_X7_its sel_X7_its hm rfl rfl rfl rfl (Nat.le_of_ble_eq_true rfl) dX7_comes_7 ⟨Nat.le_of_ble_eq_true rfl, Nat.le_of_ble_eq_true rfl⟩ ⟨Nat.le_refl _, Nat.le_refl _⟩ (zk_i ?_)
  refine zv_iconst (v := (-1)) dX7_comes_10 (by decide) ?_
  refine zv_ixor dX7_comes_11 ?_
  refine zv_iand dX7_comes_12 ?_
  refine zv_istore_n dX7_comes_13 (by decide) rfl ?_
  refine zv_aload_n dX7_comes_14 rfl ?_
  refine zv_getI hm rfl fl_X7_84 rfl dX7_comes_15 ?_
  rw [mS_o (by omega), h15]
  refine zv_istore_n dX7_comes_18 (by decide) rfl ?_
  refine zv_iconst (v := 0) dX7_comes_19 (by decide) ?_
  refine zv_istore dX7_comes_20 (by decide) rfl ?_
  have := lp_X7_comes l D B (G := G) (nx := nx) (r := r) hm hi hJ hD h14 h15 0 (by omega)
  rw [show xsN (fun k => f (5 + k)) (d 2 &&& f 0) 0 = 0 from rfl, i32_xor_zero] at this
  exact this
