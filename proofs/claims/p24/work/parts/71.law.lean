set_option maxRecDepth 100000 in
set_option maxHeartbeats 4000000 in
theorem m_L_cell (l : Launch) (D : zD) (B : Nat) {L : zL} {nx : Nat} {G : zG} {b S : Nat} {xs : Nat → Int32} {j : Nat} (hS : S < 2 ^ 31) (hj : j < 2 ^ 31) : zMetS l D B yL_cell cL_cell 2 (some .int) 0 0 b S xs [.ref b, .int (nI j)] L nx G (zEx (fun _ => True) L nx G) := by
  refine zMetS_of (own := RL) (mn := "cell") [some (.ref b), some (.int (nI j))] (by decide +kernel) rfl rfl rfl (Nat.le_of_ble_eq_true rfl) ?_
  show zV l (lX B b S xs) D B RL "cell" cL_cell 2 (some .int) (zrm 0 0 0 0) (zN (zEx (fun _ => True) L nx G)) 0 0 L nx 0 [some (.ref b), some (.int (nI j))] [] G
  refine zv_iload_n dL_cell_0 rfl ?_
  refine zv_aload_n dL_cell_1 rfl ?_
  refine zv_slen dL_cell_2 ?_
  refine zv_icmp_ge (tgt := 12) dL_cell_3 (by decide) (fun c3 => ?_) (fun c3 => ?_)
  · refine zv_ldc dL_cell_12 kc_L_7 ?_
    refine zv_iload_n dL_cell_14 rfl ?_
    refine zv_imul dL_cell_15 ?_
    refine zv_sipush (v := 24407) dL_cell_16 (by decide) ?_
    refine zv_iadd dL_cell_19 ?_
    exact zv_iret dL_cell_20 rfl rfl ⟨⟨_, rfl, trivial, rfl, rfl, rfl⟩, Nat.le_refl _, Nat.le_refl _⟩
  · have hlt : j < S := by
      rcases Nat.lt_or_ge j S with h | h
      · exact h
      · exact absurd (nI_le h hj) c3
    refine zv_aload_n dL_cell_6 rfl ?_
    refine zv_iload_n dL_cell_7 rfl ?_
    refine zv_sld hlt hS dL_cell_8 ?_
    refine zv_goto (tgt := 20) dL_cell_9 (by decide) ?_
    exact zv_iret dL_cell_20 rfl rfl ⟨⟨_, rfl, trivial, rfl, rfl, rfl⟩, Nat.le_refl _, Nat.le_refl _⟩

set_option maxRecDepth 100000 in
set_option maxHeartbeats 4000000 in
theorem m_L_low (l : Launch) (D : zD) (B : Nat) {L : zL} {nx : Nat} {G : zG} (z : Int32) {d : Nat} (h0 : 0 < d) (hd : d < 2 ^ 31) : zMet l D B yL_low cL_low 2 (some .int) 0 0 0 0 [.int z, .int (nI d)] L nx G (zEx (fun y => ∃ m, m < d ∧ y = nI m) L nx G) := by
  refine zMet_of (own := RL) (mn := "low") [some (.int z), some (.int (nI d))] (by decide +kernel) rfl rfl rfl (Nat.le_of_ble_eq_true rfl) ?_
  show zV l (fun _ => True) D B RL "low" cL_low 2 (some .int) (zrm 0 0 0 0) (zN (zEx (fun y => ∃ m, m < d ∧ y = nI m) L nx G)) 0 0 L nx 0 [some (.int z), some (.int (nI d))] [] (G)
  refine zv_iload_n dL_low_0 rfl ?_
  refine zv_ldc dL_low_1 kc_L_8 ?_
  refine zv_iand dL_low_3 ?_
  refine zv_iload_n dL_low_4 rfl ?_
  refine zv_irem dL_low_5 (nI_ne0 h0 hd) ?_
  rw [low_eq z h0 hd]
  exact zv_iret dL_low_6 rfl rfl ⟨⟨_, rfl, ⟨_, Nat.mod_lt _ h0, rfl⟩, rfl, rfl, rfl⟩, Nat.le_refl _, Nat.le_refl _⟩

set_option maxRecDepth 100000 in
set_option maxHeartbeats 4000000 in
theorem lp_L_size (l : Launch) (D : zD) (B : Nat) {L : zL} {nx : Nat} {G : zG} {z : Int32} : ∀ i : Nat, i ≤ 16 → zV l (fun _ => True) D B RL "size" cL_size 3 (some .int) (zrm 0 0 0 0) (zN (zE (some (.int (nI (zcnt (zb z) 16)))) L nx G)) 0 0 L nx 4 [some (.int z), some (.int (nI (zcnt (zb z) i))), some (.int (nI i))] [] (G) := by
  refine zloop 16 (fun i hi ih => ?_)
  refine zv_iload_n dL_size_4 rfl ?_
  refine zv_bipush (v := 16) dL_size_5 (by decide) ?_
  refine zv_icmp_ge (tgt := 24) dL_size_7 (by decide) (fun c7 => ?_) (fun c7 => ?_)
  · have e : i = 16 := by have := zge_of (N := 16) (by decide) (by omega) rfl c7; omega
    subst e
    refine zv_iload_n dL_size_24 rfl ?_
    refine zv_iretE dL_size_25 rfl (rfl) ?_ ?_
    · rfl
    · rfl
  · have hlt : i < 16 := zlt_of (N := 16) (by decide) (by omega) rfl c7
    refine zv_iload_n dL_size_10 rfl ?_
    refine zv_iload_n dL_size_11 rfl ?_
    refine zv_iload_n dL_size_12 rfl ?_
    refine zv_ishr dL_size_13 ?_
    refine zv_iconst (v := 1) dL_size_14 (by decide) ?_
    refine zv_iand dL_size_15 ?_
    refine zv_iadd dL_size_16 ?_
    rw [cnt_s (by omega)]
    refine zv_istore_n dL_size_17 (by decide) rfl ?_
    refine zv_iinc1 dL_size_18 rfl (by decide) rfl ?_
    refine zv_goto (tgt := 4) dL_size_21 (by decide) ?_
    rw [nI_1]
    exact ih hlt

set_option maxRecDepth 100000 in
set_option maxHeartbeats 4000000 in
theorem m_L_size (l : Launch) (D : zD) (B : Nat) {L : zL} {nx : Nat} {G : zG} (z : Int32) : zMet l D B yL_size cL_size 3 (some .int) 0 0 0 0 [.int z] L nx G (zE (some (.int (nI (zcnt (zb z) 16)))) L nx (G)) := by
  refine zMet_of (own := RL) (mn := "size") [some (.int z), none, none] (by decide +kernel) rfl rfl rfl (Nat.le_of_ble_eq_true rfl) ?_
  show zV l (fun _ => True) D B RL "size" cL_size 3 (some .int) (zrm 0 0 0 0) (zN (zE (some (.int (nI (zcnt (zb z) 16)))) L nx (G))) 0 0 L nx 0 [some (.int z), none, none] [] (G)
  refine zv_iconst (v := 0) dL_size_0 (by decide) ?_
  refine zv_istore_n dL_size_1 (by decide) rfl ?_
  refine zv_iconst (v := 0) dL_size_2 (by decide) ?_
  refine zv_istore_n dL_size_3 (by decide) rfl ?_
  exact lp_L_size l D B 0 (by omega)

set_option maxRecDepth 100000 in
set_option maxHeartbeats 4000000 in
theorem m_L_draw (l : Launch) (D : zD) (B : Nat) {L : zL} {nx : Nat} {G : zG} {a : Nat} (ha : a < 65537) : zMet l D B yL_draw cL_draw 1 (some .int) 0 0 0 0 [.int (nI a)] L nx G (zE (some (.int (nI (zdw a)))) L nx (G)) := by
  refine zMet_of (own := RL) (mn := "draw") [some (.int (nI a))] (by decide +kernel) rfl rfl rfl (Nat.le_of_ble_eq_true rfl) ?_
  show zV l (fun _ => True) D B RL "draw" cL_draw 1 (some .int) (zrm 0 0 0 0) (zN (zE (some (.int (nI (zdw a)))) L nx (G))) 0 0 L nx 0 [some (.int (nI a))] [] (G)
  refine zv_bipush (v := 75) dL_draw_0 (by decide) ?_
  refine zv_iload_n dL_draw_2 rfl ?_
  refine zv_imul dL_draw_3 ?_
  refine zv_bipush (v := 74) dL_draw_4 (by decide) ?_
  refine zv_iadd dL_draw_6 ?_
  refine zv_ldc dL_draw_7 kc_L_9 ?_
  refine zv_irem dL_draw_9 (by decide) ?_
  rw [zdw_eq ha]
  refine zv_iretE dL_draw_10 rfl (rfl) ?_ ?_
  · rfl
  · rfl
