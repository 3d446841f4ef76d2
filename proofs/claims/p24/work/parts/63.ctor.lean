set_option maxRecDepth 100000 in
set_option maxHeartbeats 4000000 in
theorem m_X1_init (l : Launch) (D : zD) (B : Nat) {L : zL} {G : zG} {q : Nat} (hB : B ≤ q) (hL : ∀ b ∈ L, b.1 < q) (h0 : G q = fun _ => 0) : zMet l D B yX1_init cX1_init 1 none 1 12 0 0 [.ref q] (L ++ [(q, 11)]) (q + 1) G (zE none (L ++ [(q, 4)]) (q + 1) (G)) := by
  refine zMet_of (own := RX1) (mn := "<init>") [some (.ref q)] (by decide +kernel) rfl rfl rfl (Nat.le_of_ble_eq_true rfl) ?_
  show zV l (fun _ => True) D B RX1 "<init>" cX1_init 1 none (zrm 1 12 0 0) (fun v L' nx' G' k n => (zE none (L ++ [(q, 4)]) (q + 1) (G)) v L' nx' G' ∧ k ≤ 0 ∧ n ≤ 0) 0 0 (L ++ [(q, 11)]) (q + 1) 0 [some (.ref q)] [] G
  refine zv_aload_n dX1_init_0 rfl ?_
  refine zv_objInit ol_X1_3 zobj_in zobj_code dX1_init_1 (by decide) (by decide) ?_
  refine zv_lay (L0 := L) (X := [(q, 11)]) (Y := [(q, 4)]) (q := q) (G' := G) hL (by simp) (fun y hy => ?_) (fun D => ?_) (zfun_1 (by omega)) (fun b hb => by rw [List.mem_singleton.mp hb]; exact Nat.le_refl _) (by omega) ?_
  · simp only [zst]; repeat rw [if_neg (by omega)]
  · simp [zcs, zpl, zbT, zce, zfl, zfv, zac, zst, upd, h0, zdr_l, zdr_0, va_rf, zai_0, Nat.add_assoc]
  · exact zv_vretC dX1_init_4 rfl (by decide) (by decide) rfl (by omega) rfl

set_option maxRecDepth 100000 in
set_option maxHeartbeats 4000000 in
theorem m_X0_init (l : Launch) (D : zD) (B : Nat) {L : zL} {G : zG} {q : Nat} (hB : B ≤ q) (hL : ∀ b ∈ L, b.1 < q) (h0 : G q = fun _ => 0) : zMet l D B yX0_init cX0_init 1 none 1 12 3 64 [.ref q] (L ++ [(q, 10)]) (q + 1) G (zE none (L ++ [(q, 3)]) (q + 4) (G)) := by
  refine zMet_of (own := RX0) (mn := "<init>") [some (.ref q)] (by decide +kernel) rfl rfl rfl (Nat.le_of_ble_eq_true rfl) ?_
  show zV l (fun _ => True) D B RX0 "<init>" cX0_init 1 none (zrm 1 12 3 64) (fun v L' nx' G' k n => (zE none (L ++ [(q, 3)]) (q + 4) (G)) v L' nx' G' ∧ k ≤ 3 ∧ n ≤ 64) 0 0 (L ++ [(q, 10)]) (q + 1) 0 [some (.ref q)] [] G
  refine zv_aload_n dX0_init_0 rfl ?_
  refine zv_objInit ol_X0_3 zobj_in zobj_code dX0_init_1 (by decide) (by decide) ?_
  refine zv_aload_n dX0_init_4 rfl ?_
  refine zv_bipush (v := 16) dX0_init_5 (by decide) ?_
  refine zv_newarray (N := 16) (t := 116) (ta := 0) (by omega) rfl (by decide) zac_int (by decide) (by decide) (by decide) rfl (Nat.le_of_ble_eq_true rfl) (Nat.le_of_ble_eq_true rfl) dX0_init_7 ?_
  refine zv_putF (t := 10) (C2 := "") (by simp) rfl fl_X0_9 ft_X0_5 rfl rfl (by first | exact Or.inr ⟨_, rfl⟩ | exact Or.inl ⟨_, rfl⟩) (by omega) (by omega) dX0_init_9 ?_
  refine zv_aload_n dX0_init_12 rfl ?_
  refine zv_bipush (v := 24) dX0_init_13 (by decide) ?_
  refine zv_newarray (N := 24) (t := 124) (ta := 0) (by omega) rfl (by decide) zac_int (by decide) (by decide) (by decide) rfl (Nat.le_of_ble_eq_true rfl) (Nat.le_of_ble_eq_true rfl) dX0_init_15 ?_
  refine zv_putF (t := 10) (C2 := "") (by simp) rfl fl_X0_15 ft_X0_6 rfl rfl (by first | exact Or.inr ⟨_, rfl⟩ | exact Or.inl ⟨_, rfl⟩) (by omega) (by omega) dX0_init_17 ?_
  refine zv_aload_n dX0_init_20 rfl ?_
  refine zv_bipush (v := 24) dX0_init_21 (by decide) ?_
  refine zv_newarray (N := 24) (t := 124) (ta := 0) (by omega) rfl (by decide) zac_int (by decide) (by decide) (by decide) rfl (Nat.le_of_ble_eq_true rfl) (Nat.le_of_ble_eq_true rfl) dX0_init_23 ?_
  refine zv_putF (t := 10) (C2 := "") (by simp) rfl fl_X0_18 ft_X0_7 rfl rfl (by first | exact Or.inr ⟨_, rfl⟩ | exact Or.inl ⟨_, rfl⟩) (by omega) (by omega) dX0_init_25 ?_
  refine zv_lay (L0 := L) (X := [(q, 10), (q + 1, 116), (q + 1 + 1, 124), (q + 1 + 1 + 1, 124)]) (Y := [(q, 3)]) (q := q) (G' := G) hL (by simp) (fun y hy => ?_) (fun D => ?_) (zfun_1 (by omega)) (fun b hb => by rw [List.mem_singleton.mp hb]; exact Nat.le_refl _) (by omega) ?_
  · simp only [zst]; repeat rw [if_neg (by omega)]
  · simp [zcs, zpl, zbT, zce, zfl, zfv, zac, zst, upd, h0, zdr_l, zdr_0, va_rf, zai_0, Nat.add_assoc]
  · exact zv_vretC dX0_init_28 rfl (by decide) (by decide) rfl (by omega) rfl

set_option maxRecDepth 100000 in
set_option maxHeartbeats 4000000 in
theorem m_X3_init (l : Launch) (D : zD) (B : Nat) {L : zL} {G : zG} {q : Nat} (hB : B ≤ q) (hL : ∀ b ∈ L, b.1 < q) (h0 : G q = fun _ => 0) : zMet l D B yX3_init cX3_init 1 none 1 12 1 80 [.ref q] (L ++ [(q, 13)]) (q + 1) G (zE none (L ++ [(q, 7)]) (q + 2) (G)) := by
  refine zMet_of (own := RX3) (mn := "<init>") [some (.ref q)] (by decide +kernel) rfl rfl rfl (Nat.le_of_ble_eq_true rfl) ?_
  show zV l (fun _ => True) D B RX3 "<init>" cX3_init 1 none (zrm 1 12 1 80) (fun v L' nx' G' k n => (zE none (L ++ [(q, 7)]) (q + 2) (G)) v L' nx' G' ∧ k ≤ 1 ∧ n ≤ 80) 0 0 (L ++ [(q, 13)]) (q + 1) 0 [some (.ref q)] [] G
  refine zv_aload_n dX3_init_0 rfl ?_
  refine zv_objInit ol_X3_3 zobj_in zobj_code dX3_init_1 (by decide) (by decide) ?_
  refine zv_aload_n dX3_init_4 rfl ?_
  refine zv_bipush (v := 80) dX3_init_5 (by decide) ?_
  refine zv_newarray (N := 80) (t := 10180) (ta := 1) (by omega) rfl (by decide) zac_char (by decide) (by decide) (by decide) rfl (Nat.le_of_ble_eq_true rfl) (Nat.le_of_ble_eq_true rfl) dX3_init_7 ?_
  refine zv_putF (t := 13) (C2 := "") (by simp) rfl fl_X3_9 ft_X3_0 rfl rfl (by first | exact Or.inr ⟨_, rfl⟩ | exact Or.inl ⟨_, rfl⟩) (by omega) (by omega) dX3_init_9 ?_
  refine zv_lay (L0 := L) (X := [(q, 13), (q + 1, 10180)]) (Y := [(q, 7)]) (q := q) (G' := G) hL (by simp) (fun y hy => ?_) (fun D => ?_) (zfun_1 (by omega)) (fun b hb => by rw [List.mem_singleton.mp hb]; exact Nat.le_refl _) (by omega) ?_
  · simp only [zst]; repeat rw [if_neg (by omega)]
  · simp [zcs, zpl, zbT, zce, zfl, zfv, zac, zst, upd, h0, zdr_l, zdr_0, va_rf, zai_0, Nat.add_assoc]
  · exact zv_vretC dX3_init_12 rfl (by decide) (by decide) rfl (by omega) rfl

set_option maxRecDepth 100000 in
set_option maxHeartbeats 4000000 in
theorem m_X4_init (l : Launch) (D : zD) (B : Nat) {L : zL} {G : zG} {q : Nat} (hB : B ≤ q) (hL : ∀ b ∈ L, b.1 < q) (h0 : G q = fun _ => 0) : zMet l D B yX4_init cX4_init 1 none 1 12 2 48 [.ref q] (L ++ [(q, 14)]) (q + 1) G (zE none (L ++ [(q, 5)]) (q + 3) (G)) := by
  refine zMet_of (own := RX4) (mn := "<init>") [some (.ref q)] (by decide +kernel) rfl rfl rfl (Nat.le_of_ble_eq_true rfl) ?_
  show zV l (fun _ => True) D B RX4 "<init>" cX4_init 1 none (zrm 1 12 2 48) (fun v L' nx' G' k n => (zE none (L ++ [(q, 5)]) (q + 3) (G)) v L' nx' G' ∧ k ≤ 2 ∧ n ≤ 48) 0 0 (L ++ [(q, 14)]) (q + 1) 0 [some (.ref q)] [] G
  refine zv_aload_n dX4_init_0 rfl ?_
  refine zv_objInit ol_X4_3 zobj_in zobj_code dX4_init_1 (by decide) (by decide) ?_
  refine zv_aload_n dX4_init_4 rfl ?_
  refine zv_bipush (v := 24) dX4_init_5 (by decide) ?_
  refine zv_newarray (N := 24) (t := 124) (ta := 0) (by omega) rfl (by decide) zac_int (by decide) (by decide) (by decide) rfl (Nat.le_of_ble_eq_true rfl) (Nat.le_of_ble_eq_true rfl) dX4_init_7 ?_
  refine zv_putF (t := 14) (C2 := "") (by simp) rfl fl_X4_9 ft_X4_0 rfl rfl (by first | exact Or.inr ⟨_, rfl⟩ | exact Or.inl ⟨_, rfl⟩) (by omega) (by omega) dX4_init_9 ?_
  refine zv_aload_n dX4_init_12 rfl ?_
  refine zv_bipush (v := 24) dX4_init_13 (by decide) ?_
  refine zv_newarray (N := 24) (t := 124) (ta := 0) (by omega) rfl (by decide) zac_int (by decide) (by decide) (by decide) rfl (Nat.le_of_ble_eq_true rfl) (Nat.le_of_ble_eq_true rfl) dX4_init_15 ?_
  refine zv_putF (t := 14) (C2 := "") (by simp) rfl fl_X4_15 ft_X4_1 rfl rfl (by first | exact Or.inr ⟨_, rfl⟩ | exact Or.inl ⟨_, rfl⟩) (by omega) (by omega) dX4_init_17 ?_
  refine zv_lay (L0 := L) (X := [(q, 14), (q + 1, 124), (q + 1 + 1, 124)]) (Y := [(q, 5)]) (q := q) (G' := G) hL (by simp) (fun y hy => ?_) (fun D => ?_) (zfun_1 (by omega)) (fun b hb => by rw [List.mem_singleton.mp hb]; exact Nat.le_refl _) (by omega) ?_
  · simp only [zst]; repeat rw [if_neg (by omega)]
  · simp [zcs, zpl, zbT, zce, zfl, zfv, zac, zst, upd, h0, zdr_l, zdr_0, va_rf, zai_0, Nat.add_assoc]
  · exact zv_vretC dX4_init_20 rfl (by decide) (by decide) rfl (by omega) rfl

set_option maxRecDepth 100000 in
set_option maxHeartbeats 4000000 in
theorem m_X5_init (l : Launch) (D : zD) (B : Nat) {L : zL} {G : zG} {q : Nat} (hB : B ≤ q) (hL : ∀ b ∈ L, b.1 < q) (h0 : G q = fun _ => 0) : zMet l D B yX5_init cX5_init 2 none 2 32 14 235 [.ref q] (L ++ [(q, 15)]) (q + 1) G (zE none (L ++ [(q, 2), (q + 3, 3), (q + 7, 3), (q + 11, 3)]) (q + 15) (stPut G q initR)) := by
  refine zMet_of (own := RX5) (mn := "<init>") [some (.ref q), none] (by decide +kernel) rfl rfl rfl (Nat.le_of_ble_eq_true rfl) ?_
  show zV l (fun _ => True) D B RX5 "<init>" cX5_init 2 none (zrm 2 32 14 235) (fun v L' nx' G' k n => (zE none (L ++ [(q, 2), (q + 3, 3), (q + 7, 3), (q + 11, 3)]) (q + 15) (stPut G q initR)) v L' nx' G' ∧ k ≤ 14 ∧ n ≤ 235) 0 0 (L ++ [(q, 15)]) (q + 1) 0 [some (.ref q), none] [] G
  refine zv_aload_n dX5_init_0 rfl ?_
  refine zv_objInit ol_X5_3 zobj_in zobj_code dX5_init_1 (by decide) (by decide) ?_
  refine zv_aload_n dX5_init_4 rfl ?_
  refine zv_iconst (v := 1) dX5_init_5 (by decide) ?_
  refine zv_putI (t := 15) (by simp) rfl fl_X5_9 ft_X5_0 rfl dX5_init_6 ?_
  refine zv_aload_n dX5_init_9 rfl ?_
  refine zv_bipush (v := 16) dX5_init_10 (by decide) ?_
  refine zv_newarray (N := 16) (t := 116) (ta := 0) (by omega) rfl (by decide) zac_int (by decide) (by decide) (by decide) rfl (Nat.le_of_ble_eq_true rfl) (Nat.le_of_ble_eq_true rfl) dX5_init_12 ?_
  refine zv_putF (t := 15) (C2 := "") (by simp) rfl fl_X5_15 ft_X5_5 rfl rfl (by first | exact Or.inr ⟨_, rfl⟩ | exact Or.inl ⟨_, rfl⟩) (by omega) (by omega) dX5_init_14 ?_
  refine zv_aload_n dX5_init_17 rfl ?_
  refine zv_iconst (v := 3) dX5_init_18 (by decide) ?_
  refine zv_anew (N := 3) (t := 40103) (ta := 4) (by omega) rfl (by decide) (by decide) kl_X5_19 zao_X0 (by decide) (by decide) (by decide) rfl (Nat.le_of_ble_eq_true rfl) (Nat.le_of_ble_eq_true rfl) dX5_init_19 ?_
  refine zv_putF (t := 15) (C2 := "") (by simp) rfl fl_X5_21 ft_X5_6 rfl rfl (by first | exact Or.inr ⟨_, rfl⟩ | exact Or.inl ⟨_, rfl⟩) (by omega) (by omega) dX5_init_22 ?_
  refine zv_iconst (v := 0) dX5_init_25 (by decide) ?_
  refine zv_istore_n dX5_init_26 (by decide) rfl ?_
  refine zv_iload_n dX5_init_27 rfl ?_
  refine zv_iconst (v := 3) dX5_init_28 (by decide) ?_
  refine zv_icmp_ge (tgt := 51) dX5_init_29 (by decide) (fun h => absurd h (by decide)) (fun _ => ?_)
  refine zv_aload_n dX5_init_32 rfl ?_
  refine zv_getD (t := 15) (a := q + 2) (by simp) rfl fl_X5_21 rfl (by simp [zst, upd, h0, zdr_l, Nat.add_assoc]) dX5_init_33 ?_
  refine zv_iload_n dX5_init_36 rfl ?_
  refine zv_new (t := 10) (by omega) kl_X5_19 inst_X0 ini_X0 rfl iwX0 tyX0_ok rfl hfs_X0 (Nat.le_of_ble_eq_true rfl) (Nat.le_of_ble_eq_true rfl) dX5_init_37 ?_
  refine zv_dup dX5_init_40 rfl ?_
  refine zv_callIN (m_X0_init l D B (by omega) (by repeat first | exact lt_ge hL (by omega) | refine lt_app ?_ (by omega)) (by rw [zst_same])) ml_X5_25 in_X0_init rfl rfl rfl (Nat.le_of_ble_eq_true rfl) dX5_init_41 ⟨Nat.le_of_ble_eq_true rfl, Nat.le_of_ble_eq_true rfl⟩ ⟨Nat.le_of_ble_eq_true rfl, Nat.le_of_ble_eq_true rfl⟩ (zk_c ?_)
  refine zv_aast (q := q + 2) (r := 0) (i := 0) (j0 := 0) (t := 40103) (tx := 3) (by decide) (by decide) (by simp [Nat.add_assoc]) rfl ⟨by decide, by decide, by decide⟩ (by simp) rfl rfl rfl (by omega) (by omega) dX5_init_44 ?_
  refine zv_iinc1 dX5_init_45 rfl (by decide) rfl ?_
  refine zv_goto (tgt := 27) dX5_init_48 (by decide) ?_
  refine zv_iload_n dX5_init_27 rfl ?_
  refine zv_iconst (v := 3) dX5_init_28 (by decide) ?_
  refine zv_icmp_ge (tgt := 51) dX5_init_29 (by decide) (fun h => absurd h (by decide)) (fun _ => ?_)
  refine zv_aload_n dX5_init_32 rfl ?_
  refine zv_getD (t := 15) (a := q + 2) (by simp) rfl fl_X5_21 rfl (by simp [zst, upd, h0, zdr_l, Nat.add_assoc]) dX5_init_33 ?_
  refine zv_iload_n dX5_init_36 rfl ?_
  refine zv_new (t := 10) (by omega) kl_X5_19 inst_X0 ini_X0 rfl iwX0 tyX0_ok rfl hfs_X0 (Nat.le_of_ble_eq_true rfl) (Nat.le_of_ble_eq_true rfl) dX5_init_37 ?_
  refine zv_dup dX5_init_40 rfl ?_
  refine zv_callIN (m_X0_init l D B (by omega) (by repeat first | exact lt_ge hL (by omega) | refine lt_app ?_ (by omega)) (by rw [zst_same])) ml_X5_25 in_X0_init rfl rfl rfl (Nat.le_of_ble_eq_true rfl) dX5_init_41 ⟨Nat.le_of_ble_eq_true rfl, Nat.le_of_ble_eq_true rfl⟩ ⟨Nat.le_of_ble_eq_true rfl, Nat.le_of_ble_eq_true rfl⟩ (zk_c ?_)
  refine zv_aast (q := q + 2) (r := 0) (i := 0) (j0 := 1) (t := 40103) (tx := 3) (by decide) (by decide) (by simp [Nat.add_assoc]) rfl ⟨by decide, by decide, by decide⟩ (by simp) rfl rfl rfl (by omega) (by omega) dX5_init_44 ?_
  refine zv_iinc1 dX5_init_45 rfl (by decide) rfl ?_
  refine zv_goto (tgt := 27) dX5_init_48 (by decide) ?_
  refine zv_iload_n dX5_init_27 rfl ?_
  refine zv_iconst (v := 3) dX5_init_28 (by decide) ?_
  refine zv_icmp_ge (tgt := 51) dX5_init_29 (by decide) (fun h => absurd h (by decide)) (fun _ => ?_)
  refine zv_aload_n dX5_init_32 rfl ?_
  refine zv_getD (t := 15) (a := q + 2) (by simp) rfl fl_X5_21 rfl (by simp [zst, upd, h0, zdr_l, Nat.add_assoc]) dX5_init_33 ?_
  refine zv_iload_n dX5_init_36 rfl ?_
  refine zv_new (t := 10) (by omega) kl_X5_19 inst_X0 ini_X0 rfl iwX0 tyX0_ok rfl hfs_X0 (Nat.le_of_ble_eq_true rfl) (Nat.le_of_ble_eq_true rfl) dX5_init_37 ?_
  refine zv_dup dX5_init_40 rfl ?_
  refine zv_callIN (m_X0_init l D B (by omega) (by repeat first | exact lt_ge hL (by omega) | refine lt_app ?_ (by omega)) (by rw [zst_same])) ml_X5_25 in_X0_init rfl rfl rfl (Nat.le_of_ble_eq_true rfl) dX5_init_41 ⟨Nat.le_of_ble_eq_true rfl, Nat.le_of_ble_eq_true rfl⟩ ⟨Nat.le_of_ble_eq_true rfl, Nat.le_of_ble_eq_true rfl⟩ (zk_c ?_)
  refine zv_aast (q := q + 2) (r := 0) (i := 0) (j0 := 2) (t := 40103) (tx := 3) (by decide) (by decide) (by simp [Nat.add_assoc]) rfl ⟨by decide, by decide, by decide⟩ (by simp) rfl rfl rfl (by omega) (by omega) dX5_init_44 ?_
  refine zv_iinc1 dX5_init_45 rfl (by decide) rfl ?_
  refine zv_goto (tgt := 27) dX5_init_48 (by decide) ?_
  refine zv_iload_n dX5_init_27 rfl ?_
  refine zv_iconst (v := 3) dX5_init_28 (by decide) ?_
  refine zv_icmp_ge (tgt := 51) dX5_init_29 (by decide) (fun _ => ?_) (fun h => absurd (by decide) h)
  refine zv_lay (L0 := L) (X := [(q, 15), (q + 1, 116), (q + 1 + 1, 40103), (q + 3, 3), (q + 7, 3), (q + 11, 3)]) (Y := [(q, 2), (q + 3, 3), (q + 7, 3), (q + 11, 3)]) (q := q) (G' := stPut G q initR) hL (by simp) (fun y hy => ?_) (fun D => ?_) ⟨fun y t u h1 h2 => by simp at h1 h2; omega, fun b hb => by simp at hb; rcases hb with hb | hb | hb | hb <;> subst hb <;> dsimp only <;> omega⟩ (fun b hb => by simp at hb; rcases hb with hb | hb | hb | hb <;> subst hb <;> dsimp only <;> omega) (by omega) ?_
  · rw [stPut_ne _ _ (by omega)]; simp only [zst]; repeat rw [if_neg (by omega)]
  · simp [zcs, zpl, zbT, zce, zfl, zfv, zac, zst, upd, h0, zdr_l, zdr_0, va_rf, zai_0, Nat.add_assoc, in_0, in_3, in_7, in_11, zai_in2, hdR_in0, hd_1, hd_2, hd_3, hd_4, zar_cups (q := q) (g := hdR initR)]
  · exact zv_vretC dX5_init_51 rfl (by decide) (by decide) rfl (by omega) rfl
