set_option maxRecDepth 100000 in
set_option maxHeartbeats 4000000 in
theorem m_X6_init (l : Launch) (D : zD) (B : Nat) {L : zL} {G : zG} {x : Nat} (hB : B ≤ x) (hL : ∀ b ∈ L, b.1 < x) (h0 : G x = fun _ => 0) : zMet l D B yX6_init cX6_init 1 none 4 74 133 2161 [.ref x] (L ++ [(x, 16)]) (x + 1) G (zU (L ++ zxL x) (x + 134) (zXP x G 7)) := by
  refine zMet_of (own := RX6) (mn := "<init>") [some (.ref x)] (by decide +kernel) rfl rfl rfl (Nat.le_of_ble_eq_true rfl) ?_
  show zV l (fun _ => True) D B RX6 "<init>" cX6_init 1 none (zrm 4 74 133 2161) (fun v L' nx' G' k n => (zU (L ++ zxL x) (x + 134) (zXP x G 7)) v L' nx' G' ∧ k ≤ 133 ∧ n ≤ 2161) 0 0 (L ++ [(x, 16)]) (x + 1) 0 [some (.ref x)] [] G
  have hG : zXP x G 0 G := ⟨fun y _ => rfl, by rw [h0]; funext j; rw [if_neg (by omega)], fun i hi => by omega⟩
  refine zv_aload_n dX6_init_0 rfl ?_
  refine zv_objInit ol_X6_1 zobj_in zobj_code dX6_init_1 (by decide) (by decide) ?_
  generalize hP : zU (L ++ zxL x) (x + 134) (zXP x G 7) = P
  refine zv_aload_n dX6_init_4 rfl ?_
  refine zv_new (t := 15) (by omega) kl_X6_7 inst_X5 ini_X5 rfl iwX5 tyX5_ok rfl hfs_X5 (Nat.le_of_ble_eq_true rfl) (Nat.le_of_ble_eq_true rfl) dX6_init_5 ?_
  refine zv_dup dX6_init_8 rfl ?_
  refine zv_callI (m_X5_init l D B (by omega) (by repeat first | exact lt_ge hL (by omega) | exact lt_1 (by omega) | exact lt_ge lt_4 (by omega) | exact lt_ge zhL_lt (by omega) | refine lt_app2 ?_ ?_) (by rw [zst_same])) ml_X6_9 in_X5_init rfl rfl rfl (Nat.le_of_ble_eq_true rfl) dX6_init_9 ⟨Nat.le_of_ble_eq_true rfl, Nat.le_of_ble_eq_true rfl⟩ (by exact ⟨Nat.le_of_ble_eq_true rfl, Nat.le_of_ble_eq_true rfl⟩) (zk_c ?_)
  refine zv_putF (t := 16) (C2 := "") (by simp) rfl fl_X6_10 ft_X6_0 rfl rfl (by first | exact Or.inr ⟨_, rfl⟩ | exact Or.inl ⟨_, rfl⟩) (by omega) (by omega) dX6_init_12 ?_
  rw [show x + 1 - x = 1 by omega]
  refine zv_eqN (show x + 1 + 15 = x + 16 from rfl) ?_
  refine zv_abs (zXP_step hG (k := 0) (by decide) (fun y (hy : y < x + 1) => by rw [stPut_ne _ _ (by omega), zst_ne _ _ (by omega)]) (stPut_OK _ _ _)) fun G hG => ?_
  refine zv_aload_n dX6_init_15 rfl ?_
  refine zv_new (t := 12) (by omega) kl_X6_16 inst_X2 ini_X2 rfl iwX2 tyX2_ok rfl hfs_X2 (Nat.le_of_ble_eq_true rfl) (Nat.le_of_ble_eq_true rfl) dX6_init_16 ?_
  refine zv_dup dX6_init_19 rfl ?_
  refine zv_callI (m_X2_init l D B (by omega) (by repeat first | exact lt_ge hL (by omega) | exact lt_1 (by omega) | exact lt_ge lt_4 (by omega) | exact lt_ge zhL_lt (by omega) | refine lt_app2 ?_ ?_) (by rw [zst_same])) ml_X6_18 in_X2_init rfl rfl rfl (Nat.le_of_ble_eq_true rfl) dX6_init_20 ⟨Nat.le_of_ble_eq_true rfl, Nat.le_of_ble_eq_true rfl⟩ (by exact ⟨Nat.le_of_ble_eq_true rfl, Nat.le_of_ble_eq_true rfl⟩) (zk_cu fun G1 hQ => ?_)
  refine zv_putF (t := 16) (C2 := "") (by simp) rfl fl_X6_19 ft_X6_1 rfl rfl (by first | exact Or.inr ⟨_, rfl⟩ | exact Or.inl ⟨_, rfl⟩) (by omega) (by omega) dX6_init_23 ?_
  rw [show x + 16 - x = 16 by omega]
  refine zv_eqN (show x + 16 + 107 = x + 123 from rfl) ?_
  refine zv_abs (zXP_step hG (k := 1) (by decide) (fun y (hy : y < x + 16) => by rw [hQ.2.2.2 _ hy, zst_ne _ _ (by omega)]) (⟨hQ.1, hQ.2.1, hQ.2.2.1⟩)) fun G hG => ?_
  refine zv_aload_n dX6_init_26 rfl ?_
  refine zv_iconst (v := 2) dX6_init_27 (by decide) ?_
  refine zv_anew (N := 2) (t := 30102) (ta := 3) (by omega) rfl (by decide) (by decide) kl_X6_7 zao_X5 (by decide) (by decide) (by decide) rfl (Nat.le_of_ble_eq_true rfl) (Nat.le_of_ble_eq_true rfl) dX6_init_28 ?_
  refine zv_putF (t := 16) (C2 := "") (by simp) rfl fl_X6_23 ft_X6_2 rfl rfl (by first | exact Or.inr ⟨_, rfl⟩ | exact Or.inl ⟨_, rfl⟩) (by omega) (by omega) dX6_init_31 ?_
  rw [show x + 123 - x = 123 by omega]
  refine zv_eqN (show x + 123 + 1 = x + 124 from rfl) ?_
  refine zv_abs (zXP_step hG (k := 2) (by decide) (fun y (hy : y < x + 123) => zst_ne _ _ (by omega)) (zst_same _ _ _)) fun G hG => ?_
  refine zv_aload_n dX6_init_34 rfl ?_
  refine zv_new (t := 13) (by omega) kl_X6_27 inst_X3 ini_X3 rfl iwX3 tyX3_ok rfl hfs_X3 (Nat.le_of_ble_eq_true rfl) (Nat.le_of_ble_eq_true rfl) dX6_init_35 ?_
  refine zv_dup dX6_init_38 rfl ?_
  refine zv_callIN (m_X3_init l D B (by omega) (by repeat first | exact lt_ge hL (by omega) | exact lt_1 (by omega) | exact lt_ge lt_4 (by omega) | exact lt_ge zhL_lt (by omega) | refine lt_app2 ?_ ?_) (by rw [zst_same])) ml_X6_29 in_X3_init rfl rfl rfl (Nat.le_of_ble_eq_true rfl) dX6_init_39 ⟨Nat.le_of_ble_eq_true rfl, Nat.le_of_ble_eq_true rfl⟩ (by exact ⟨Nat.le_of_ble_eq_true rfl, Nat.le_of_ble_eq_true rfl⟩) (zk_c ?_)
  refine zv_putF (t := 16) (C2 := "") (by simp) rfl fl_X6_30 ft_X6_3 rfl rfl (by first | exact Or.inr ⟨_, rfl⟩ | exact Or.inl ⟨_, rfl⟩) (by omega) (by omega) dX6_init_42 ?_
  rw [show x + 124 - x = 124 by omega]
  refine zv_eqN (show x + 124 + 2 = x + 126 from rfl) ?_
  refine zv_abs (zXP_step hG (k := 3) (by decide) (fun y (hy : y < x + 124) => zst_ne _ _ (by omega)) (zst_same _ _ _)) fun G hG => ?_
  refine zv_aload_n dX6_init_45 rfl ?_
  refine zv_new (t := 11) (by omega) kl_X6_34 inst_X1 ini_X1 rfl iwX1 tyX1_ok rfl hfs_X1 (Nat.le_of_ble_eq_true rfl) (Nat.le_of_ble_eq_true rfl) dX6_init_46 ?_
  refine zv_dup dX6_init_49 rfl ?_
  refine zv_callIN (m_X1_init l D B (by omega) (by repeat first | exact lt_ge hL (by omega) | exact lt_1 (by omega) | exact lt_ge lt_4 (by omega) | exact lt_ge zhL_lt (by omega) | refine lt_app2 ?_ ?_) (by rw [zst_same])) ml_X6_36 in_X1_init rfl rfl rfl (Nat.le_of_ble_eq_true rfl) dX6_init_50 ⟨Nat.le_of_ble_eq_true rfl, Nat.le_of_ble_eq_true rfl⟩ (by exact ⟨Nat.le_of_ble_eq_true rfl, Nat.le_of_ble_eq_true rfl⟩) (zk_c ?_)
  refine zv_putF (t := 16) (C2 := "") (by simp) rfl fl_X6_37 ft_X6_4 rfl rfl (by first | exact Or.inr ⟨_, rfl⟩ | exact Or.inl ⟨_, rfl⟩) (by omega) (by omega) dX6_init_53 ?_
  rw [show x + 126 - x = 126 by omega]
  refine zv_eqN (show x + 126 + 1 = x + 127 from rfl) ?_
  refine zv_abs (zXP_step hG (k := 4) (by decide) (fun y (hy : y < x + 126) => zst_ne _ _ (by omega)) (trivial)) fun G hG => ?_
  refine zv_aload_n dX6_init_56 rfl ?_
  refine zv_new (t := 10) (by omega) kl_X6_41 inst_X0 ini_X0 rfl iwX0 tyX0_ok rfl hfs_X0 (Nat.le_of_ble_eq_true rfl) (Nat.le_of_ble_eq_true rfl) dX6_init_57 ?_
  refine zv_dup dX6_init_60 rfl ?_
  refine zv_callIN (m_X0_init l D B (by omega) (by repeat first | exact lt_ge hL (by omega) | exact lt_1 (by omega) | exact lt_ge lt_4 (by omega) | exact lt_ge zhL_lt (by omega) | refine lt_app2 ?_ ?_) (by rw [zst_same])) ml_X6_43 in_X0_init rfl rfl rfl (Nat.le_of_ble_eq_true rfl) dX6_init_61 ⟨Nat.le_of_ble_eq_true rfl, Nat.le_of_ble_eq_true rfl⟩ (by exact ⟨Nat.le_of_ble_eq_true rfl, Nat.le_of_ble_eq_true rfl⟩) (zk_c ?_)
  refine zv_putF (t := 16) (C2 := "") (by simp) rfl fl_X6_44 ft_X6_5 rfl rfl (by first | exact Or.inr ⟨_, rfl⟩ | exact Or.inl ⟨_, rfl⟩) (by omega) (by omega) dX6_init_64 ?_
  rw [show x + 127 - x = 127 by omega]
  refine zv_eqN (show x + 127 + 4 = x + 131 from rfl) ?_
  refine zv_abs (zXP_step hG (k := 5) (by decide) (fun y (hy : y < x + 127) => zst_ne _ _ (by omega)) (zst_same _ _ _)) fun G hG => ?_
  refine zv_aload_n dX6_init_67 rfl ?_
  refine zv_new (t := 14) (by omega) kl_X6_48 inst_X4 ini_X4 rfl iwX4 tyX4_ok rfl hfs_X4 (Nat.le_of_ble_eq_true rfl) (Nat.le_of_ble_eq_true rfl) dX6_init_68 ?_
  refine zv_dup dX6_init_71 rfl ?_
  refine zv_callIN (m_X4_init l D B (by omega) (by repeat first | exact lt_ge hL (by omega) | exact lt_1 (by omega) | exact lt_ge lt_4 (by omega) | exact lt_ge zhL_lt (by omega) | refine lt_app2 ?_ ?_) (by rw [zst_same])) ml_X6_50 in_X4_init rfl rfl rfl (Nat.le_of_ble_eq_true rfl) dX6_init_72 ⟨Nat.le_of_ble_eq_true rfl, Nat.le_of_ble_eq_true rfl⟩ (by exact ⟨Nat.le_of_ble_eq_true rfl, Nat.le_of_ble_eq_true rfl⟩) (zk_c ?_)
  refine zv_putF (t := 16) (C2 := "") (by simp) rfl fl_X6_51 ft_X6_6 rfl rfl (by first | exact Or.inr ⟨_, rfl⟩ | exact Or.inl ⟨_, rfl⟩) (by omega) (by omega) dX6_init_75 ?_
  rw [show x + 131 - x = 131 by omega]
  refine zv_eqN (show x + 131 + 3 = x + 134 from rfl) ?_
  refine zv_abs (zXP_step hG (k := 6) (by decide) (fun y (hy : y < x + 131) => zst_ne _ _ (by omega)) (zst_same _ _ _)) fun G hG => ?_
  refine zv_lay (L0 := L) (X := (x, 16) :: zxT x) (Y := zxL x) (q := x) (G' := G) hL (by simp [zxT]) (fun y hy => rfl) (fun D => ?_) (zxL_fun (by omega)) zxL_ge (by omega) ?_
  · show zcs D ((x, 16) :: zxT x) G = zcs D ((x, 1) :: zxT x) G
    rw [zcs_cons, zcs_cons]
    congr 1
    simp [zbT, zce, zfl, zfv, hG.2.1, bsX, zdr_l, va_rf]
  · rw [← hP]
    exact zv_vret dX6_init_78 rfl ⟨⟨rfl, rfl, rfl, hG⟩, by decide, by decide⟩
