set_option maxRecDepth 100000 in
set_option maxHeartbeats 4000000 in
theorem m_X7_in (l : Launch) (D : zD) (B : Nat) {L : zL} {nx : Nat} {G : zG} (z : Int64) (a b : Int32) : zMet l D B yX7_in cX7_in 4 (some .boolean) 0 0 0 0 [.long z, .int a, .int b] L nx G (zE (some (.int (bI (zinL z a b)))) L nx (G)) := by
  refine zMet_of (own := RX7) (mn := "in") [some (.long z), none, some (.int a), some (.int b)] (by decide +kernel) rfl rfl rfl (Nat.le_of_ble_eq_true rfl) ?_
  show zV l (fun _ => True) D B RX7 "in" cX7_in 4 (some .boolean) (zrm 0 0 0 0) (zN (zE (some (.int (bI (zinL z a b)))) L nx (G))) 0 0 L nx 0 [some (.long z), none, some (.int a), some (.int b)] [] (G)
  refine zv_lload_n dX7_in_0 rfl ?_
  refine zv_iload_n dX7_in_1 rfl ?_
  refine zv_i2l dX7_in_2 ?_
  refine zv_lcmp dX7_in_3 ?_
  refine zv_if_lt (tgt := 18) dX7_in_4 (by decide) (fun c4 => ?_) (fun c4 => ?_)
  · have hz := zinL_f1 (b := b) c4
    refine zv_iconst (v := 0) dX7_in_18 (by decide) ?_
    refine zv_iretE dX7_in_19 rfl (by first | rfl | exact bI_nar _) ?_ ?_
    · rw [hz]; rfl
    · rfl
  · refine zv_lload_n dX7_in_7 rfl ?_
    refine zv_iload_n dX7_in_8 rfl ?_
    refine zv_i2l dX7_in_9 ?_
    refine zv_lcmp dX7_in_10 ?_
    refine zv_if_gt (tgt := 18) dX7_in_11 (by decide) (fun c11 => ?_) (fun c11 => ?_)
    · have hz := zinL_f2 (a := a) c11
      refine zv_iconst (v := 0) dX7_in_18 (by decide) ?_
      refine zv_iretE dX7_in_19 rfl (by first | rfl | exact bI_nar _) ?_ ?_
      · rw [hz]; rfl
      · rfl
    · have hz := zinL_t c4 (Int32.not_lt.mp c11)
      refine zv_iconst (v := 1) dX7_in_14 (by decide) ?_
      refine zv_goto (tgt := 19) dX7_in_15 (by decide) ?_
      refine zv_iretE dX7_in_19 rfl (by first | rfl | exact bI_nar _) ?_ ?_
      · rw [hz]; rfl
      · rfl

theorem m_in3 (l : Launch) (D : zD) (B : Nat) {L : zL} {nx : Nat} {G : zG} (x a b : Int32) : zMet l D B yX7_in cX7_in 4 (some .boolean) 0 0 0 0 [.long x.toInt64, .int a, .int b] L nx G (zE (some (.int (bI (zin3 x a b)))) L nx G) := by
  rw [← zinL_3]
  exact m_X7_in l D B _ a b

set_option maxRecDepth 100000 in
set_option maxHeartbeats 4000000 in
theorem lp_X7_size (l : Launch) (D : zD) (B : Nat) {L : zL} {nx : Nat} {G : zG} {z : Int32} : ∀ i : Nat, i ≤ 16 → zV l (fun _ => True) D B RX7 "size" cX7_size 3 (some .int) (zrm 0 0 0 0) (zN (zE (some (.int (nI (zcnt (zb z) 16)))) L nx G)) 0 0 L nx 4 [some (.int z), some (.int (nI (zcnt (zb z) i))), some (.int (nI i))] [] (G) := by
  refine zloop 16 (fun i hi ih => ?_)
  refine zv_iload_n dX7_size_4 rfl ?_
  refine zv_bipush (v := 16) dX7_size_5 (by decide) ?_
  refine zv_icmp_ge (tgt := 24) dX7_size_7 (by decide) (fun c7 => ?_) (fun c7 => ?_)
  · have e : i = 16 := by have := zge_of (N := 16) (by decide) (by omega) rfl c7; omega
    subst e
    refine zv_iload_n dX7_size_24 rfl ?_
    refine zv_iretE dX7_size_25 rfl (rfl) ?_ ?_
    · rfl
    · rfl
  · have hlt : i < 16 := zlt_of (N := 16) (by decide) (by omega) rfl c7
    refine zv_iload_n dX7_size_10 rfl ?_
    refine zv_iload_n dX7_size_11 rfl ?_
    refine zv_iload_n dX7_size_12 rfl ?_
    refine zv_ishr dX7_size_13 ?_
    refine zv_iconst (v := 1) dX7_size_14 (by decide) ?_
    refine zv_iand dX7_size_15 ?_
    refine zv_iadd dX7_size_16 ?_
    rw [cnt_s (by omega)]
    refine zv_istore_n dX7_size_17 (by decide) rfl ?_
    refine zv_iinc1 dX7_size_18 rfl (by decide) rfl ?_
    refine zv_goto (tgt := 4) dX7_size_21 (by decide) ?_
    rw [nI_1]
    exact ih hlt

set_option maxRecDepth 100000 in
set_option maxHeartbeats 4000000 in
theorem m_X7_size (l : Launch) (D : zD) (B : Nat) {L : zL} {nx : Nat} {G : zG} (z : Int32) : zMet l D B yX7_size cX7_size 3 (some .int) 0 0 0 0 [.int z] L nx G (zE (some (.int (nI (zcnt (zb z) 16)))) L nx (G)) := by
  refine zMet_of (own := RX7) (mn := "size") [some (.int z), none, none] (by decide +kernel) rfl rfl rfl (Nat.le_of_ble_eq_true rfl) ?_
  show zV l (fun _ => True) D B RX7 "size" cX7_size 3 (some .int) (zrm 0 0 0 0) (zN (zE (some (.int (nI (zcnt (zb z) 16)))) L nx (G))) 0 0 L nx 0 [some (.int z), none, none] [] (G)
  refine zv_iconst (v := 0) dX7_size_0 (by decide) ?_
  refine zv_istore_n dX7_size_1 (by decide) rfl ?_
  refine zv_iconst (v := 0) dX7_size_2 (by decide) ?_
  refine zv_istore_n dX7_size_3 (by decide) rfl ?_
  exact lp_X7_size l D B 0 (by omega)

set_option maxRecDepth 100000 in
set_option maxHeartbeats 4000000 in
theorem lp_X7_lowest (l : Launch) (D : zD) (B : Nat) {L : zL} {nx : Nat} {G : zG} {z : Int32} : ∀ i : Nat, i ≤ 16 → (∀ k, k < i → zb z k = false) → zV l (fun _ => True) D B RX7 "lowest" cX7_lowest 2 (some .int) (zrm 0 0 0 0) (zN (zE (some (.int (nI (lowM z)))) L nx G)) 0 0 L nx 2 [some (.int z), some (.int (nI i))] [] (G) := by
  refine zloop 16 (fun i hi ih hno => ?_)
  refine zv_iload_n dX7_lowest_2 rfl ?_
  refine zv_bipush (v := 16) dX7_lowest_3 (by decide) ?_
  refine zv_icmp_ge (tgt := 22) dX7_lowest_5 (by decide) (fun c5 => ?_) (fun c5 => ?_)
  · have e : i = 16 := by have := zge_of (N := 16) (by decide) (by omega) rfl c5; omega
    subst e
    have hv : lowM z = 16 := by unfold lowM; rw [zfind_of_none hno]
    refine zv_iload_n dX7_lowest_22 rfl ?_
    refine zv_iretE dX7_lowest_23 rfl (rfl) ?_ ?_
    · rw [hv]
    · rfl
  · have hlt : i < 16 := zlt_of (N := 16) (by decide) (by omega) rfl c5
    refine zv_iload_n dX7_lowest_8 rfl ?_
    refine zv_iload_n dX7_lowest_9 rfl ?_
    refine zv_ishr dX7_lowest_10 ?_
    refine zv_iconst (v := 1) dX7_lowest_11 (by decide) ?_
    refine zv_iand dX7_lowest_12 ?_
    rw [zb_test z (by omega)]
    refine zv_if_ne (tgt := 22) dX7_lowest_13 (by decide) (fun c13 => ?_) (fun c13 => ?_)
    · have hv : lowM z = i := by unfold lowM; rw [zfind_of hlt (bI_ne0.mp c13) hno]
      refine zv_iload_n dX7_lowest_22 rfl ?_
      refine zv_iretE dX7_lowest_23 rfl (rfl) ?_ ?_
      · rw [hv]
      · rfl
    · refine zv_iinc1 dX7_lowest_16 rfl (by decide) rfl ?_
      refine zv_goto (tgt := 2) dX7_lowest_19 (by decide) ?_
      rw [nI_1]
      refine ih hlt (fun k hk => ?_)
      rcases Nat.lt_or_ge k i with h | h
      · exact hno k h
      · rw [show k = i by omega]; exact bI_eq0.mp c13

set_option maxRecDepth 100000 in
set_option maxHeartbeats 4000000 in
theorem m_X7_lowest (l : Launch) (D : zD) (B : Nat) {L : zL} {nx : Nat} {G : zG} (z : Int32) : zMet l D B yX7_lowest cX7_lowest 2 (some .int) 0 0 0 0 [.int z] L nx G (zE (some (.int (nI (lowM z)))) L nx (G)) := by
  refine zMet_of (own := RX7) (mn := "lowest") [some (.int z), none] (by decide +kernel) rfl rfl rfl (Nat.le_of_ble_eq_true rfl) ?_
  show zV l (fun _ => True) D B RX7 "lowest" cX7_lowest 2 (some .int) (zrm 0 0 0 0) (zN (zE (some (.int (nI (lowM z)))) L nx (G))) 0 0 L nx 0 [some (.int z), none] [] (G)
  refine zv_iconst (v := 0) dX7_lowest_0 (by decide) ?_
  refine zv_istore_n dX7_lowest_1 (by decide) rfl ?_
  exact lp_X7_lowest l D B 0 (by omega) (fun k hk => by omega)

set_option maxRecDepth 100000 in
set_option maxHeartbeats 4000000 in
theorem m_X7_its (l : Launch) (D : zD) (B : Nat) {L : zL} {nx : Nat} {G : zG} {m : Nat} (hm : (m, 8) ∈ L) {i k : Nat} (hk : 21 + 69 * i + k < 228) : zMet l D B yX7_its cX7_its 3 (some .int) 0 0 0 0 [.ref m, .int (nI i), .int (nI k)] L nx G (zE (some (.int (G m (18 + (21 + 69 * i + k))))) L nx (G)) := by
  refine zMet_of (own := RX7) (mn := "its") [some (.ref m), some (.int (nI i)), some (.int (nI k))] (by decide +kernel) rfl rfl rfl (Nat.le_of_ble_eq_true rfl) ?_
  show zV l (fun _ => True) D B RX7 "its" cX7_its 3 (some .int) (zrm 0 0 0 0) (zN (zE (some (.int (G m (18 + (21 + 69 * i + k))))) L nx (G))) 0 0 L nx 0 [some (.ref m), some (.int (nI i)), some (.int (nI k))] [] (G)
  refine zv_aload_n dX7_its_0 rfl ?_
  refine zv_getS (r := 1) hm rfl fl_X7_7 rfl dX7_its_1 ?_
  refine zv_bipush (v := 21) dX7_its_4 (by decide) ?_
  refine zv_bipush (v := 69) dX7_its_6 (by decide) ?_
  refine zv_iload_n dX7_its_8 rfl ?_
  refine zv_imul dX7_its_9 ?_
  refine zv_iadd dX7_its_10 ?_
  refine zv_iload_n dX7_its_11 rfl ?_
  refine zv_iadd dX7_its_12 ?_
  rw [mIx]
  refine zv_iald (i := 1) hm rfl (zix_nI (by omega) (by decide)) dX7_its_13 ?_
  refine zv_iretE dX7_its_14 rfl (rfl) ?_ ?_
  · rfl
  · rfl

set_option maxRecDepth 100000 in
set_option maxHeartbeats 4000000 in
theorem m_X7_lay (l : Launch) (D : zD) (B : Nat) {L : zL} {nx : Nat} {G : zG} {m : Nat} (hm : (m, 8) ∈ L) {i k : Nat} {v : Int32} (hk : 21 + 69 * i + k < 228) : zMet l D B yX7_lay cX7_lay 4 none 0 0 0 0 [.ref m, .int (nI i), .int (nI k), .int v] L nx G (zE none L nx (zst G m (upd (G m) (18 + (21 + 69 * i + k)) v))) := by
  refine zMet_of (own := RX7) (mn := "lay") [some (.ref m), some (.int (nI i)), some (.int (nI k)), some (.int v)] (by decide +kernel) rfl rfl rfl (Nat.le_of_ble_eq_true rfl) ?_
  show zV l (fun _ => True) D B RX7 "lay" cX7_lay 4 none (zrm 0 0 0 0) (zN (zE none L nx (zst G m (upd (G m) (18 + (21 + 69 * i + k)) v)))) 0 0 L nx 0 [some (.ref m), some (.int (nI i)), some (.int (nI k)), some (.int v)] [] (G)
  refine zv_aload_n dX7_lay_0 rfl ?_
  refine zv_getS (r := 1) hm rfl fl_X7_7 rfl dX7_lay_1 ?_
  refine zv_bipush (v := 21) dX7_lay_4 (by decide) ?_
  refine zv_bipush (v := 69) dX7_lay_6 (by decide) ?_
  refine zv_iload_n dX7_lay_8 rfl ?_
  refine zv_imul dX7_lay_9 ?_
  refine zv_iadd dX7_lay_10 ?_
  refine zv_iload_n dX7_lay_11 rfl ?_
  refine zv_iadd dX7_lay_12 ?_
  rw [mIx]
  refine zv_iload_n dX7_lay_13 rfl ?_
  refine zv_iast (i := 1) hm rfl (zix_nI (by omega) (by decide)) dX7_lay_14 ?_
  refine zv_vretE dX7_lay_15 rfl ?_
  rfl

set_option maxRecDepth 100000 in
set_option maxHeartbeats 4000000 in
theorem lp_X7_remember (l : Launch) (D : zD) (B : Nat) {L : zL} {nx : Nat} {G : zG} {m : Nat} (hm : (m, 8) ∈ L) : ∀ i : Nat, i ≤ 228 → zV l (fun _ => True) D B RX7 "remember" cX7_remember 2 none (zrm 0 0 0 0) (zN (zE none L nx (zst G m (cpyM (G m) 1614 18 228)))) 0 0 L nx 2 [some (.ref m), some (.int (nI i))] [] (zst G m (cpyM (G m) 1614 18 i)) := by
  refine zloop 228 (fun i hi ih => ?_)
  refine zv_iload_n dX7_remember_2 rfl ?_
  refine zv_sipush (v := 228) dX7_remember_3 (by decide) ?_
  refine zv_icmp_ge (tgt := 27) dX7_remember_6 (by decide) (fun c6 => ?_) (fun c6 => ?_)
  · have e : i = 228 := by have := zge_of (N := 228) (by decide) (by omega) rfl c6; omega
    subst e
    refine zv_vretE dX7_remember_27 rfl ?_
    rfl
  · have hlt : i < 228 := zlt_of (N := 228) (by decide) (by omega) rfl c6
    refine zv_aload_n dX7_remember_9 rfl ?_
    refine zv_getS (r := 3) hm rfl fl_X7_16 rfl dX7_remember_10 ?_
    refine zv_iload_n dX7_remember_13 rfl ?_
    refine zv_aload_n dX7_remember_14 rfl ?_
    refine zv_getS (r := 1) hm rfl fl_X7_7 rfl dX7_remember_15 ?_
    refine zv_iload_n dX7_remember_18 rfl ?_
    refine zv_iald (i := 1) hm rfl (zix_nI (by omega) (by decide)) dX7_remember_19 ?_
    refine zv_iast (i := 3) hm rfl (zix_nI (by omega) (by decide)) dX7_remember_20 ?_
    refine zv_iinc1 dX7_remember_21 rfl (by decide) rfl ?_
    refine zv_goto (tgt := 2) dX7_remember_24 (by decide) ?_
    simp only [zst_same, zst_zst]
    rw [nI_1, cpyM_r (by omega), cpyM_s]
    exact ih hlt

set_option maxRecDepth 100000 in
set_option maxHeartbeats 4000000 in
theorem m_X7_remember (l : Launch) (D : zD) (B : Nat) {L : zL} {nx : Nat} {G : zG} {m : Nat} (hm : (m, 8) ∈ L) : zMet l D B yX7_remember cX7_remember 2 none 0 0 0 0 [.ref m] L nx G (zE none L nx (zst G m (cpyM (G m) 1614 18 228))) := by
  refine zMet_of (own := RX7) (mn := "remember") [some (.ref m), none] (by decide +kernel) rfl rfl rfl (Nat.le_of_ble_eq_true rfl) ?_
  show zV l (fun _ => True) D B RX7 "remember" cX7_remember 2 none (zrm 0 0 0 0) (zN (zE none L nx (zst G m (cpyM (G m) 1614 18 228)))) 0 0 L nx 0 [some (.ref m), none] [] (G)
  refine zv_iconst (v := 0) dX7_remember_0 (by decide) ?_
  refine zv_istore_n dX7_remember_1 (by decide) rfl ?_
  refine zv_eqG ?_ (lp_X7_remember l D B hm 0 (by omega))
  rw [cpyM_0, zst_self]

set_option maxRecDepth 100000 in
set_option maxHeartbeats 4000000 in
theorem lp_X7_layAside (l : Launch) (D : zD) (B : Nat) {L : zL} {nx : Nat} {G : zG} {m : Nat} (hm : (m, 8) ∈ L) : ∀ i : Nat, i ≤ 228 → zV l (fun _ => True) D B RX7 "layAside" cX7_layAside 2 none (zrm 0 0 0 0) (zN (zE none L nx (zst G m (cpyM (G m) 1842 18 228)))) 0 0 L nx 2 [some (.ref m), some (.int (nI i))] [] (zst G m (cpyM (G m) 1842 18 i)) := by
  refine zloop 228 (fun i hi ih => ?_)
  refine zv_iload_n dX7_layAside_2 rfl ?_
  refine zv_sipush (v := 228) dX7_layAside_3 (by decide) ?_
  refine zv_icmp_ge (tgt := 27) dX7_layAside_6 (by decide) (fun c6 => ?_) (fun c6 => ?_)
  · have e : i = 228 := by have := zge_of (N := 228) (by decide) (by omega) rfl c6; omega
    subst e
    refine zv_vretE dX7_layAside_27 rfl ?_
    rfl
  · have hlt : i < 228 := zlt_of (N := 228) (by decide) (by omega) rfl c6
    refine zv_aload_n dX7_layAside_9 rfl ?_
    refine zv_getS (r := 4) hm rfl fl_X7_19 rfl dX7_layAside_10 ?_
    refine zv_iload_n dX7_layAside_13 rfl ?_
    refine zv_aload_n dX7_layAside_14 rfl ?_
    refine zv_getS (r := 1) hm rfl fl_X7_7 rfl dX7_layAside_15 ?_
    refine zv_iload_n dX7_layAside_18 rfl ?_
    refine zv_iald (i := 1) hm rfl (zix_nI (by omega) (by decide)) dX7_layAside_19 ?_
    refine zv_iast (i := 4) hm rfl (zix_nI (by omega) (by decide)) dX7_layAside_20 ?_
    refine zv_iinc1 dX7_layAside_21 rfl (by decide) rfl ?_
    refine zv_goto (tgt := 2) dX7_layAside_24 (by decide) ?_
    simp only [zst_same, zst_zst]
    rw [nI_1, cpyM_r (by omega), cpyM_s]
    exact ih hlt

set_option maxRecDepth 100000 in
set_option maxHeartbeats 4000000 in
theorem m_X7_layAside (l : Launch) (D : zD) (B : Nat) {L : zL} {nx : Nat} {G : zG} {m : Nat} (hm : (m, 8) ∈ L) : zMet l D B yX7_layAside cX7_layAside 2 none 0 0 0 0 [.ref m] L nx G (zE none L nx (zst G m (cpyM (G m) 1842 18 228))) := by
  refine zMet_of (own := RX7) (mn := "layAside") [some (.ref m), none] (by decide +kernel) rfl rfl rfl (Nat.le_of_ble_eq_true rfl) ?_
  show zV l (fun _ => True) D B RX7 "layAside" cX7_layAside 2 none (zrm 0 0 0 0) (zN (zE none L nx (zst G m (cpyM (G m) 1842 18 228)))) 0 0 L nx 0 [some (.ref m), none] [] (G)
  refine zv_iconst (v := 0) dX7_layAside_0 (by decide) ?_
  refine zv_istore_n dX7_layAside_1 (by decide) rfl ?_
  refine zv_eqG ?_ (lp_X7_layAside l D B hm 0 (by omega))
  rw [cpyM_0, zst_self]

set_option maxRecDepth 100000 in
set_option maxHeartbeats 4000000 in
theorem lp_X7_putBack (l : Launch) (D : zD) (B : Nat) {L : zL} {nx : Nat} {G : zG} {m : Nat} (hm : (m, 8) ∈ L) : ∀ i : Nat, i ≤ 228 → zV l (fun _ => True) D B RX7 "putBack" cX7_putBack 2 none (zrm 0 0 0 0) (zN (zE none L nx (zst G m (cpyM (G m) 18 1842 228)))) 0 0 L nx 2 [some (.ref m), some (.int (nI i))] [] (zst G m (cpyM (G m) 18 1842 i)) := by
  refine zloop 228 (fun i hi ih => ?_)
  refine zv_iload_n dX7_putBack_2 rfl ?_
  refine zv_sipush (v := 228) dX7_putBack_3 (by decide) ?_
  refine zv_icmp_ge (tgt := 27) dX7_putBack_6 (by decide) (fun c6 => ?_) (fun c6 => ?_)
  · have e : i = 228 := by have := zge_of (N := 228) (by decide) (by omega) rfl c6; omega
    subst e
    refine zv_vretE dX7_putBack_27 rfl ?_
    rfl
  · have hlt : i < 228 := zlt_of (N := 228) (by decide) (by omega) rfl c6
    refine zv_aload_n dX7_putBack_9 rfl ?_
    refine zv_getS (r := 1) hm rfl fl_X7_7 rfl dX7_putBack_10 ?_
    refine zv_iload_n dX7_putBack_13 rfl ?_
    refine zv_aload_n dX7_putBack_14 rfl ?_
    refine zv_getS (r := 4) hm rfl fl_X7_19 rfl dX7_putBack_15 ?_
    refine zv_iload_n dX7_putBack_18 rfl ?_
    refine zv_iald (i := 4) hm rfl (zix_nI (by omega) (by decide)) dX7_putBack_19 ?_
    refine zv_iast (i := 1) hm rfl (zix_nI (by omega) (by decide)) dX7_putBack_20 ?_
    refine zv_iinc1 dX7_putBack_21 rfl (by decide) rfl ?_
    refine zv_goto (tgt := 2) dX7_putBack_24 (by decide) ?_
    simp only [zst_same, zst_zst]
    rw [nI_1, cpyM_r (by omega), cpyM_s]
    exact ih hlt

set_option maxRecDepth 100000 in
set_option maxHeartbeats 4000000 in
theorem m_X7_putBack (l : Launch) (D : zD) (B : Nat) {L : zL} {nx : Nat} {G : zG} {m : Nat} (hm : (m, 8) ∈ L) : zMet l D B yX7_putBack cX7_putBack 2 none 0 0 0 0 [.ref m] L nx G (zE none L nx (zst G m (cpyM (G m) 18 1842 228))) := by
  refine zMet_of (own := RX7) (mn := "putBack") [some (.ref m), none] (by decide +kernel) rfl rfl rfl (Nat.le_of_ble_eq_true rfl) ?_
  show zV l (fun _ => True) D B RX7 "putBack" cX7_putBack 2 none (zrm 0 0 0 0) (zN (zE none L nx (zst G m (cpyM (G m) 18 1842 228)))) 0 0 L nx 0 [some (.ref m), none] [] (G)
  refine zv_iconst (v := 0) dX7_putBack_0 (by decide) ?_
  refine zv_istore_n dX7_putBack_1 (by decide) rfl ?_
  refine zv_eqG ?_ (lp_X7_putBack l D B hm 0 (by omega))
  rw [cpyM_0, zst_self]
