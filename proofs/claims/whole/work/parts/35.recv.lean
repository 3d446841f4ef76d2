theorem recv_test {a b : Int32} {k : Nat} (hk : k < 32) : (a &&& b) &&& (1 <<< (nI k &&& 31)) = 0 ↔ zb (a &&& b) k = false := zb_and_bt _ hk

set_option maxRecDepth 100000 in
set_option maxHeartbeats 4000000 in
theorem lp_X0_receive (l : Launch) (D : zD) (B : Nat) {L : zL} {nx : Nat} {G : zG} {q r : Nat} {cn s w : Int32} {post : zQ} (hq : (q, 3) ∈ L) (hr : (r, 4) ∈ L) (hk : ∀ v, v = w ^^^ xsN (fun k => G q (5 + k)) (G r 2 &&& G q 0) 16 → zV l (fun _ => True) D B RX0 "receive" cX0_receive 6 (some .int) (zrm 3 65 0 0) (zN post) 0 0 L nx 97 [some (.ref q), some (.ref r), some (.int cn), some (.int s), some (.int v), some (.int 16)] [] (G)) : ∀ i : Nat, i ≤ 16 → zV l (fun _ => True) D B RX0 "receive" cX0_receive 6 (some .int) (zrm 3 65 0 0) (zN (post)) 0 0 L nx 55 [some (.ref q), some (.ref r), some (.int cn), some (.int s), some (.int (w ^^^ xsN (fun k => G q (5 + k)) (G r 2 &&& G q 0) i)), some (.int (nI i))] [] (G) := by
  refine zloop 16 (fun i hi ih => ?_)
  refine zv_iload dX0_receive_55 rfl ?_
  refine zv_bipush (v := 16) dX0_receive_57 (by decide) ?_
  refine zv_icmp_ge (tgt := 97) dX0_receive_59 (by decide) (fun c59 => ?_) (fun c59 => ?_)
  · have e : i = 16 := by have := zge_of (N := 16) (by decide) (by omega) rfl c59; omega
    subst e
    exact hk _ rfl
  · have hlt : i < 16 := zlt_of (N := 16) (by decide) (by omega) rfl c59
    refine zv_aload_n dX0_receive_62 rfl ?_
    refine zv_getI hr rfl fl_X0_58 rfl dX0_receive_63 ?_
    refine zv_aload_n dX0_receive_66 rfl ?_
    refine zv_getI hq rfl fl_X0_21 rfl dX0_receive_67 ?_
    refine zv_iand dX0_receive_70 ?_
    refine zv_iconst (v := 1) dX0_receive_71 (by decide) ?_
    refine zv_iload dX0_receive_72 rfl ?_
    refine zv_ishl dX0_receive_74 ?_
    refine zv_iand dX0_receive_75 ?_
    refine zv_if_eq (tgt := 91) dX0_receive_76 (by decide) (fun c76 => ?_) (fun c76 => ?_)
    · have hz := (recv_test (by omega)).mp c76
      have hv : xsN (fun k => G q (5 + k)) (G r 2 &&& G q 0) (i + 1) = xsN (fun k => G q (5 + k)) (G r 2 &&& G q 0) i := by
        simp only [xsN]
        rw [hz]
        simp
      refine zv_iinc1 dX0_receive_91 rfl (by decide) rfl ?_
      refine zv_goto (tgt := 55) dX0_receive_94 (by decide) ?_
      rw [nI_1]
      have ih1 := ih hlt
      rw [hv] at ih1
      first
        | exact ih1
        | (rw [i32_xor_assoc]; exact ih1)
    · have hz : zb (G r 2 &&& G q 0) i = true := by
        cases h : zb (G r 2 &&& G q 0) i with
        | true => rfl
        | false => exact absurd ((recv_test (by omega)).mpr h) c76
      have hv : xsN (fun k => G q (5 + k)) (G r 2 &&& G q 0) (i + 1) = xsN (fun k => G q (5 + k)) (G r 2 &&& G q 0) i ^^^ G q (5 + i) := by
        simp only [xsN]
        rw [hz]
        simp
      refine zv_iload dX0_receive_79 rfl ?_
      refine zv_aload_n dX0_receive_81 rfl ?_
      refine zv_getS (r := 1) hq rfl fl_X0_9 rfl dX0_receive_82 ?_
      refine zv_iload dX0_receive_85 rfl ?_
      refine zv_iald (i := 1) hq rfl (zix_nI (by omega) (by decide)) dX0_receive_87 ?_
      refine zv_ixor dX0_receive_88 ?_
      refine zv_istore dX0_receive_89 (by decide) rfl ?_
      refine zv_iinc1 dX0_receive_91 rfl (by decide) rfl ?_
      refine zv_goto (tgt := 55) dX0_receive_94 (by decide) ?_
      rw [nI_1]
      have ih1 := ih hlt
      rw [hv] at ih1
      first
        | exact ih1
        | (rw [i32_xor_assoc]; exact ih1)

set_option maxRecDepth 100000 in
set_option maxHeartbeats 4000000 in
theorem tl_X0_receive (l : Launch) (D : zD) (B : Nat) {L : zL} {nx : Nat} {G : zG} {q r n m : Nat} {ch : Nat → Int32} (hq : (q, 3) ∈ L) (hr : (r, 4) ∈ L) (hrq : r ≠ q) (hJ : zCJ n ch (G q) m) (hs : zsz (G q) m) (hD : zDO n ch (G r)) (hl : G r 0 = 0) : zV l (fun _ => True) D B RX0 "receive" cX0_receive 6 (some .int) (zrm 3 65 0 0) (zN (zE (some (.int (recvR (G q) (G r)))) L nx (zst G q (recvP (G q) (G r))))) 0 0 L nx 97 [some (.ref q), some (.ref r), some (.int (nI (zcnt (zb (G q 0)) 16))), some (.int (recvS (G q) (G r))), some (.int (recvV (G q) (G r))), some (.int 16)] [] (zst G q (upd (G q) 2 (G q 2 + 1))) := by
  obtain ⟨m', hJ2, hs2⟩ := zCI_recv ⟨m, hJ, hs⟩ hD
  have hz0 : zm (G q 0) < 65536 := zlim_zm hJ.1 hJ.2.2.2.1
  have hz2 : zm (recvP (G q) (G r) 0) < 65536 := zlim_zm hJ2.1 hJ2.2.2.2.1
  have g0 : (upd (G q) 2 (G q 2 + 1)) 0 = G q 0 := rfl
  have hJ1 : zCJ n ch (upd (G q) 2 (G q 2 + 1)) m := zCJ_congr hJ rfl rfl (fun j h1 h2 => by simp only [upd]; rw [if_neg (by omega)])
  have hzs : zm (recvS (G q) (G r)) < 65536 := zlim_zm hJ.1 (recvS_lim hD)
  have hcl := zcnt_le (zb (recvS (G q) (G r))) 16
  refine zv_iload_n dX0_receive_97 rfl ?_
  refine zv_callS (m_bitCount l D B hzs) ml_X0_43 st_J6_bitCount_0f7a4 rfl rfl (Nat.le_of_ble_eq_true rfl) dX0_receive_98 ⟨Nat.le_of_ble_eq_true rfl, Nat.le_of_ble_eq_true rfl⟩ ⟨Nat.le_refl _, Nat.le_refl _⟩ (zk_i ?_)
  refine zv_istore dX0_receive_101 (by decide) rfl ?_
  refine zv_iload dX0_receive_103 rfl ?_
  refine zv_iconst (v := 1) dX0_receive_105 (by decide) ?_
  refine zv_icmp_ne (tgt := 123) dX0_receive_106 (by decide) (fun c106 => ?_) (fun c106 => ?_)
  · have h1 : ¬ zcnt (zb (recvS (G q) (G r))) 16 = 1 := fun e => c106 (by rw [e]; rfl)
    refine zv_iload dX0_receive_123 rfl ?_
    refine zv_if_eq (tgt := 138) dX0_receive_125 (by decide) (fun c125 => ?_) (fun c125 => ?_)
    · have h2 : zcnt (zb (recvS (G q) (G r))) 16 = 0 := (nI_eq (by omega) (by decide)).mp c125
      have hR : recvP (G q) (G r) = upd (upd (G q) 2 (G q 2 + 1)) 4 (G q 4 + 1) := by
        unfold recvP
        rw [if_neg (by simp [hl]), if_neg h1, if_pos (Or.inl h2)]
      refine zv_aload_n dX0_receive_138 rfl ?_
      refine zv_dup dX0_receive_139 rfl ?_
      refine zv_getI hq rfl fl_X0_34 rfl dX0_receive_140 ?_
      refine zv_iconst (v := 1) dX0_receive_143 (by decide) ?_
      refine zv_iadd dX0_receive_144 ?_
      refine zv_putI (t := 3) hq rfl fl_X0_34 ft_X0_4 rfl dX0_receive_145 ?_
      try simp only [zst_same, zst_zst]
      try rw [show upd (upd (G q) 2 (G q 2 + 1)) 4 (upd (G q) 2 (G q 2 + 1) 4 + 1) = recvP (G q) (G r) from hR.symm]
      refine zv_aload_n dX0_receive_148 rfl ?_
      refine zv_callV (m_knownCount l D B hq (by rw [zst_same]; exact hz2)) ml_X0_54 in_X0_knownCount sel_X0_knownCount hq rfl rfl rfl rfl (Nat.le_of_ble_eq_true rfl) dX0_receive_149 ⟨Nat.le_of_ble_eq_true rfl, Nat.le_of_ble_eq_true rfl⟩ ⟨Nat.le_refl _, Nat.le_refl _⟩ (zk_i ?_)
      rw [zst_same]
      refine zv_iload_n dX0_receive_152 rfl ?_
      refine zv_isub dX0_receive_153 ?_
      refine zv_iretE dX0_receive_154 rfl (rfl) ?_ ?_
      · unfold recvR; rw [if_neg (by simp [hl])]
      · rfl
    · have h2 : ¬ zcnt (zb (recvS (G q) (G r))) 16 = 0 := fun e => c125 (by rw [e]; rfl)
      refine zv_aload_n dX0_receive_128 rfl ?_
      refine zv_iload_n dX0_receive_129 rfl ?_
      refine zv_iload dX0_receive_130 rfl ?_
      rcases Nat.lt_or_ge m 24 with hm | hm
      · have hne : ¬ G q 1 = 24 := fun e => by
          rw [hJ.2.2.1] at e
          have := (nI_eq (by omega) (by decide)).mp (show nI m = nI 24 from e)
          omega
        have hR : recvP (G q) (G r) = keepP (upd (G q) 2 (G q 2 + 1)) m (recvS (G q) (G r)) (recvV (G q) (G r)) := by
          unfold recvP
          rw [if_neg (by simp [hl]), if_neg h1, if_neg (fun h => h.elim h2 hne), hJ.2.2.1, nI_clamp (by omega)]
        refine zv_callV (m_X0_keepIfRoom l D B hq hm (by rw [zst_same]; exact hJ.2.2.1)) ml_X0_71 in_X0_keepIfRoom sel_X0_keepIfRoom hq rfl rfl rfl rfl (Nat.le_of_ble_eq_true rfl) dX0_receive_132 ⟨Nat.le_of_ble_eq_true rfl, Nat.le_of_ble_eq_true rfl⟩ ⟨Nat.le_refl _, Nat.le_refl _⟩ (zk_i ?_)
        rw [zst_same, zst_zst, ← hR]
        refine zv_if_ne (tgt := 148) dX0_receive_135 (by decide) (fun _ => ?_) (fun h => absurd h (by decide))
        try simp only [zst_same, zst_zst]
        try rw [show upd (upd (G q) 2 (G q 2 + 1)) 4 (upd (G q) 2 (G q 2 + 1) 4 + 1) = recvP (G q) (G r) from hR.symm]
        refine zv_aload_n dX0_receive_148 rfl ?_
        refine zv_callV (m_knownCount l D B hq (by rw [zst_same]; exact hz2)) ml_X0_54 in_X0_knownCount sel_X0_knownCount hq rfl rfl rfl rfl (Nat.le_of_ble_eq_true rfl) dX0_receive_149 ⟨Nat.le_of_ble_eq_true rfl, Nat.le_of_ble_eq_true rfl⟩ ⟨Nat.le_refl _, Nat.le_refl _⟩ (zk_i ?_)
        rw [zst_same]
        refine zv_iload_n dX0_receive_152 rfl ?_
        refine zv_isub dX0_receive_153 ?_
        refine zv_iretE dX0_receive_154 rfl (rfl) ?_ ?_
        · unfold recvR; rw [if_neg (by simp [hl])]
        · rfl
      · have hm24 : m = 24 := by have := hJ.2.1; omega
        have hR : recvP (G q) (G r) = upd (upd (G q) 2 (G q 2 + 1)) 4 (G q 4 + 1) := by
          unfold recvP
          rw [if_neg (by simp [hl]), if_neg h1, if_pos (Or.inr (by rw [hJ.2.2.1, hm24]; rfl))]
        refine zv_callV (m_X0_keepIfRoom_no l D B hq (by rw [zst_same, ← hm24]; exact hJ.2.2.1)) ml_X0_71 in_X0_keepIfRoom sel_X0_keepIfRoom hq rfl rfl rfl rfl (Nat.le_of_ble_eq_true rfl) dX0_receive_132 ⟨Nat.le_of_ble_eq_true rfl, Nat.le_of_ble_eq_true rfl⟩ ⟨Nat.le_refl _, Nat.le_refl _⟩ (zk_i ?_)
        refine zv_if_ne (tgt := 148) dX0_receive_135 (by decide) (fun h => absurd (rfl) h) (fun _ => ?_)
        refine zv_aload_n dX0_receive_138 rfl ?_
        refine zv_dup dX0_receive_139 rfl ?_
        refine zv_getI hq rfl fl_X0_34 rfl dX0_receive_140 ?_
        refine zv_iconst (v := 1) dX0_receive_143 (by decide) ?_
        refine zv_iadd dX0_receive_144 ?_
        refine zv_putI (t := 3) hq rfl fl_X0_34 ft_X0_4 rfl dX0_receive_145 ?_
        try simp only [zst_same, zst_zst]
        try rw [show upd (upd (G q) 2 (G q 2 + 1)) 4 (upd (G q) 2 (G q 2 + 1) 4 + 1) = recvP (G q) (G r) from hR.symm]
        refine zv_aload_n dX0_receive_148 rfl ?_
        refine zv_callV (m_knownCount l D B hq (by rw [zst_same]; exact hz2)) ml_X0_54 in_X0_knownCount sel_X0_knownCount hq rfl rfl rfl rfl (Nat.le_of_ble_eq_true rfl) dX0_receive_149 ⟨Nat.le_of_ble_eq_true rfl, Nat.le_of_ble_eq_true rfl⟩ ⟨Nat.le_refl _, Nat.le_refl _⟩ (zk_i ?_)
        rw [zst_same]
        refine zv_iload_n dX0_receive_152 rfl ?_
        refine zv_isub dX0_receive_153 ?_
        refine zv_iretE dX0_receive_154 rfl (rfl) ?_ ?_
        · unfold recvR; rw [if_neg (by simp [hl])]
        · rfl
  · have h1 : zcnt (zb (recvS (G q) (G r))) 16 = 1 := (nI_eq (by omega) (by decide)).mp c106
    obtain ⟨e1, e2, e3, e4⟩ := recv_one hJ hD h1
    have hR : recvP (G q) (G r) = peelP 24 (knowP (upd (G q) 2 (G q 2 + 1)) (zlow (recvS (G q) (G r))) (recvV (G q) (G r))) := by
      unfold recvP
      rw [if_neg (by simp [hl]), if_pos h1]
    refine zv_aload_n dX0_receive_109 rfl ?_
    refine zv_iload_n dX0_receive_110 rfl ?_
    refine zv_iload dX0_receive_111 rfl ?_
    refine zv_callV (m_X0_learn l D B hq (show zlow (recvS (G q) (G r)) < 16 by have := hJ.1; omega) e1) ml_X0_64 in_X0_learn sel_X0_learn hq rfl rfl rfl rfl (Nat.le_of_ble_eq_true rfl) dX0_receive_113 ⟨Nat.le_of_ble_eq_true rfl, Nat.le_of_ble_eq_true rfl⟩ ⟨Nat.le_refl _, Nat.le_refl _⟩ (zk_v ?_)
    rw [zst_same, zst_zst]
    refine zv_aload_n dX0_receive_116 rfl ?_
    refine zv_callV (m_X0_peel l D B (n := n) (ch := ch) (m := m) hq (by rw [zst_same, e4]; exact zCJ_know hJ1 e2 e3)) ml_X0_68 in_X0_peel sel_X0_peel hq rfl rfl rfl rfl (Nat.le_of_ble_eq_true rfl) dX0_receive_117 ⟨Nat.le_of_ble_eq_true rfl, Nat.le_of_ble_eq_true rfl⟩ ⟨Nat.le_refl _, Nat.le_refl _⟩ (zk_v ?_)
    rw [zst_same, zst_zst, ← hR]
    refine zv_goto (tgt := 148) dX0_receive_120 (by decide) ?_
    try simp only [zst_same, zst_zst]
    try rw [show upd (upd (G q) 2 (G q 2 + 1)) 4 (upd (G q) 2 (G q 2 + 1) 4 + 1) = recvP (G q) (G r) from hR.symm]
    refine zv_aload_n dX0_receive_148 rfl ?_
    refine zv_callV (m_knownCount l D B hq (by rw [zst_same]; exact hz2)) ml_X0_54 in_X0_knownCount sel_X0_knownCount hq rfl rfl rfl rfl (Nat.le_of_ble_eq_true rfl) dX0_receive_149 ⟨Nat.le_of_ble_eq_true rfl, Nat.le_of_ble_eq_true rfl⟩ ⟨Nat.le_refl _, Nat.le_refl _⟩ (zk_i ?_)
    rw [zst_same]
    refine zv_iload_n dX0_receive_152 rfl ?_
    refine zv_isub dX0_receive_153 ?_
    refine zv_iretE dX0_receive_154 rfl (rfl) ?_ ?_
    · unfold recvR; rw [if_neg (by simp [hl])]
    · rfl

set_option maxRecDepth 100000 in
set_option maxHeartbeats 4000000 in
theorem m_X0_receive (l : Launch) (D : zD) (B : Nat) {L : zL} {nx : Nat} {G : zG} {q r n m : Nat} {ch : Nat → Int32} (hq : (q, 3) ∈ L) (hr : (r, 4) ∈ L) (hrq : r ≠ q) (hJ : zCJ n ch (G q) m) (hs : zsz (G q) m) (hD : zDO n ch (G r)) : zMet l D B yX0_receive cX0_receive 6 (some .int) 3 65 0 0 [.ref q, .ref r] L nx G (zE (some (.int (recvR (G q) (G r)))) L nx (zst G q (recvP (G q) (G r)))) := by
  refine zMet_of (own := RX0) (mn := "receive") [some (.ref q), some (.ref r), none, none, none, none] (by decide +kernel) rfl rfl rfl (Nat.le_of_ble_eq_true rfl) ?_
  show zV l (fun _ => True) D B RX0 "receive" cX0_receive 6 (some .int) (zrm 3 65 0 0) (zN (zE (some (.int (recvR (G q) (G r)))) L nx (zst G q (recvP (G q) (G r))))) 0 0 L nx 0 [some (.ref q), some (.ref r), none, none, none, none] [] (G)
  obtain ⟨m', hJ2, hs2⟩ := zCI_recv ⟨m, hJ, hs⟩ hD
  have hz0 : zm (G q 0) < 65536 := zlim_zm hJ.1 hJ.2.2.2.1
  have hz2 : zm (recvP (G q) (G r) 0) < 65536 := zlim_zm hJ2.1 hJ2.2.2.2.1
  have g0 : (upd (G q) 2 (G q 2 + 1)) 0 = G q 0 := rfl
  have hJ1 : zCJ n ch (upd (G q) 2 (G q 2 + 1)) m := zCJ_congr hJ rfl rfl (fun j h1 h2 => by simp only [upd]; rw [if_neg (by omega)])
  have hzs : zm (recvS (G q) (G r)) < 65536 := zlim_zm hJ.1 (recvS_lim hD)
  have hcl := zcnt_le (zb (recvS (G q) (G r))) 16
  refine zv_aload_n dX0_receive_0 rfl ?_
  refine zv_dup dX0_receive_1 rfl ?_
  refine zv_getI hq rfl fl_X0_28 rfl dX0_receive_2 ?_
  refine zv_iconst (v := 1) dX0_receive_5 (by decide) ?_
  refine zv_iadd dX0_receive_6 ?_
  refine zv_putI (t := 3) hq rfl fl_X0_28 ft_X0_2 rfl dX0_receive_7 ?_
  refine zv_aload_n dX0_receive_10 rfl ?_
  skip
  refine zv_getI hr rfl fl_X0_49 rfl dX0_receive_11 ?_
  rw [zst_ne _ _ hrq]
  refine zv_if_eq (tgt := 29) dX0_receive_14 (by decide) (fun c14 => ?_) (fun c14 => ?_)
  · have hl0 : ¬ ¬ G r 0 = 0 := by simp [c14]
    refine zv_aload_n dX0_receive_29 rfl ?_
    refine zv_callV (m_knownCount l D B hq (by rw [zst_same]; exact hz0)) ml_X0_54 in_X0_knownCount sel_X0_knownCount hq rfl rfl rfl rfl (Nat.le_of_ble_eq_true rfl) dX0_receive_30 ⟨Nat.le_of_ble_eq_true rfl, Nat.le_of_ble_eq_true rfl⟩ ⟨Nat.le_refl _, Nat.le_refl _⟩ (zk_i ?_)
    rw [zst_same, g0]
    refine zv_istore_n dX0_receive_33 (by decide) rfl ?_
    refine zv_aload_n dX0_receive_34 rfl ?_
    refine zv_getI hr rfl fl_X0_58 rfl dX0_receive_35 ?_
    rw [zst_ne _ _ hrq]
    refine zv_aload_n dX0_receive_38 rfl ?_
    refine zv_getI hq rfl fl_X0_21 rfl dX0_receive_39 ?_
    rw [zst_same, g0]
    refine zv_iconst (v := (-1)) dX0_receive_42 (by decide) ?_
    refine zv_ixor dX0_receive_43 ?_
    refine zv_iand dX0_receive_44 ?_
    refine zv_istore_n dX0_receive_45 (by decide) rfl ?_
    refine zv_aload_n dX0_receive_46 rfl ?_
    refine zv_getI hr rfl fl_X0_61 rfl dX0_receive_47 ?_
    rw [zst_ne _ _ hrq]
    refine zv_istore dX0_receive_50 (by decide) rfl ?_
    refine zv_iconst (v := 0) dX0_receive_52 (by decide) ?_
    refine zv_istore dX0_receive_53 (by decide) rfl ?_
    refine zv_lv ?_ (lp_X0_receive l D B (w := G r 3) (s := recvS (G q) (G r)) (cn := nI (zcnt (zb (G q 0)) 16)) hq hr (fun v hv => ?_) 0 (by omega))
    · simp only [xsN, i32_xor_zero]
      rfl
    · have hv2 : v = recvV (G q) (G r) := by
        rw [hv, zst_same, zst_ne _ _ hrq]
        rfl
      rw [hv2]
      exact tl_X0_receive l D B hq hr hrq hJ hs hD (by simpa using hl0)
  · have hR : recvP (G q) (G r) = upd (upd (G q) 2 (G q 2 + 1)) 3 (G q 3 + 1) := by unfold recvP; rw [if_pos c14]
    have hV : recvR (G q) (G r) = 0 := by unfold recvR; rw [if_pos c14]
    refine zv_aload_n dX0_receive_17 rfl ?_
    refine zv_dup dX0_receive_18 rfl ?_
    refine zv_getI hq rfl fl_X0_31 rfl dX0_receive_19 ?_
    refine zv_iconst (v := 1) dX0_receive_22 (by decide) ?_
    refine zv_iadd dX0_receive_23 ?_
    refine zv_putI (t := 3) hq rfl fl_X0_31 ft_X0_3 rfl dX0_receive_24 ?_
    refine zv_iconst (v := 0) dX0_receive_27 (by decide) ?_
    refine zv_iretE dX0_receive_28 rfl (rfl) ?_ ?_
    · exact hV.symm
    · rw [hR]; simp only [zst_same, zst_zst]; rfl
