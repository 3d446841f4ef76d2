set_option maxRecDepth 100000 in
set_option maxHeartbeats 4000000 in
theorem lp_X2_init (l : Launch) (D : zD) (B : Nat) {L0 : zL} {G0 : zG} {h : Nat} (hB : B ≤ h) (hL : ∀ b ∈ L0, b.1 < h) : ∀ i : Nat, i ≤ 7 → ∀ (G : zG) (nx : Nat), nx = h + 2 + 15 * i → zHP G0 h i G → zV l (fun _ => True) D B RX2 "<init>" cX2_init 2 none (zrm 3 53 106 1701) (fun v L' nx' G' k n => (zU (L0 ++ zhL h) (h + 107) (zHQ G0 h)) v L' nx' G' ∧ k ≤ 106 ∧ n ≤ 1701) (1 + 15 * i) (7 + 242 * i) (L0 ++ [(h, 12), (h + 1, 30107)] ++ zsL (h + 2) i) nx 15 [some (.ref h), some (.int (nI i))] [] G := by
  refine zloop 7 (fun i hi ih G nx hnx hp => ?_)
  subst hnx
  have hm1 : (h, 12) ∈ (L0 ++ [(h, 12), (h + 1, 30107)] ++ zsL (h + 2) i) := by simp
  have hm2 : (h + 1, 30107) ∈ (L0 ++ [(h, 12), (h + 1, 30107)] ++ zsL (h + 2) i) := by simp
  have hfr : ∀ b ∈ (L0 ++ [(h, 12), (h + 1, 30107)] ++ zsL (h + 2) i), b.1 < h + 2 + 15 * i := by
    intro b hb
    rcases List.mem_append.mp hb with hb | hb
    · rcases List.mem_append.mp hb with hb | hb
      · have := hL b hb; omega
      · simp at hb
        rcases hb with hb | hb <;> subst hb <;> dsimp only <;> omega
    · exact (zsL_lt b hb).2
  refine zv_iload_n dX2_init_15 rfl ?_
  refine zv_bipush (v := 7) dX2_init_16 (by decide) ?_
  refine zv_icmp_ge (tgt := 40) dX2_init_18 (by decide) (fun c18 => ?_) (fun c18 => ?_)
  · have e : i = 7 := by have := zge_of (N := 7) (by decide) (by omega) rfl c18; omega
    subst e
    refine zv_lay (L0 := L0) (X := (h, 12) :: (h + 1, 30107) :: zsL (h + 2) 7) (Y := zhL h) (q := h) (G' := G) hL (by simp) (fun y hy => rfl) (fun D => ?_) (zhL_fun (by omega)) zhL_ge (by omega) ?_
    · obtain ⟨p1, p2, p3, p4⟩ := hp
      unfold zhL
      rw [zcs_cons, zcs_cons, zcs_cons]
      simp [zbT, zce, zfl, zfv, zac, p1, upd, zdr_l, zdr_0, va_rf, Nat.add_assoc, zar_hist (h := h) (g := upd (fun _ => 0) 0 (nI 1)) p2]
    · exact zv_vret dX2_init_40 rfl ⟨⟨rfl, rfl, by omega, zHP_end hp⟩, by omega, by omega⟩
  · have hlt : i < 7 := zlt_of (N := 7) (by decide) (by omega) rfl c18
    refine zv_aload_n dX2_init_21 rfl ?_
    refine zv_getD (t := 12) (a := h + 1) hm1 rfl fl_X2_13 rfl (by rw [hp.1]; exact zdr_l (by decide) (by decide)) dX2_init_22 ?_
    refine zv_iload_n dX2_init_25 rfl ?_
    refine zv_new (t := 15) (by omega) kl_X2_11 inst_X5 ini_X5 rfl iwX5 tyX5_ok rfl hfs_X5 (by show _ ≤ 106; omega) (by show _ ≤ 1701; omega) dX2_init_26 ?_
    refine zv_dup dX2_init_29 rfl ?_
    refine zv_callI (m_X5_init l D B (by omega) hfr (by rw [zst_same])) ml_X2_17 in_X5_init rfl rfl rfl (Nat.le_of_ble_eq_true rfl) dX2_init_30 ⟨Nat.le_of_ble_eq_true rfl, Nat.le_of_ble_eq_true rfl⟩ ⟨by show _ ≤ 106; omega, by show _ ≤ 1701; omega⟩ (zk_c ?_)
    refine zv_aast (q := h + 1) (r := 0) (i := 0) (j0 := i) (t := 30107) (tx := 2) (by decide) (by decide) (List.mem_append_left _ hm2) rfl (zix_nI (by omega) (by decide)) (by simp) rfl rfl rfl (by omega) (by omega) dX2_init_33 ?_
    rw [show 0 + i = i from Nat.zero_add i]
    refine zv_iinc1 dX2_init_34 rfl (by decide) rfl ?_
    refine zv_goto (tgt := 15) dX2_init_37 (by decide) ?_
    rw [nI_1]
    refine zv_eqL (L' := L0 ++ [(h, 12), (h + 1, 30107)] ++ zsL (h + 2) (i + 1)) (by simp [zsL]) ?_
    exact zv_widen (by omega) (by omega) (ih hlt _ _ (by omega) (zHP_s hp hlt))

set_option maxRecDepth 100000 in
set_option maxHeartbeats 4000000 in
theorem m_X2_init (l : Launch) (D : zD) (B : Nat) {L0 : zL} {G : zG} {h : Nat} (hB : B ≤ h) (hL : ∀ b ∈ L0, b.1 < h) (h0 : G h = fun _ => 0) : zMet l D B yX2_init cX2_init 2 none 3 53 106 1701 [.ref h] (L0 ++ [(h, 12)]) (h + 1) G (zU (L0 ++ zhL h) (h + 107) (zHQ G h)) := by
  refine zMet_of (own := RX2) (mn := "<init>") [some (.ref h), none] (by decide +kernel) rfl rfl rfl (Nat.le_of_ble_eq_true rfl) ?_
  show zV l (fun _ => True) D B RX2 "<init>" cX2_init 2 none (zrm 3 53 106 1701) (fun v L' nx' G' k n => (zU (L0 ++ zhL h) (h + 107) (zHQ G h)) v L' nx' G' ∧ k ≤ 106 ∧ n ≤ 1701) 0 0 (L0 ++ [(h, 12)]) (h + 1) 0 [some (.ref h), none] [] G
  refine zv_aload_n dX2_init_0 rfl ?_
  refine zv_objInit ol_X2_3 zobj_in zobj_code dX2_init_1 (by decide) (by decide) ?_
  refine zv_aload_n dX2_init_4 rfl ?_
  refine zv_bipush (v := 7) dX2_init_5 (by decide) ?_
  refine zv_anew (N := 7) (t := 30107) (ta := 3) (by omega) rfl (by decide) (by decide) kl_X2_11 zao_X5 (by decide) (by decide) (by decide) rfl (Nat.le_of_ble_eq_true rfl) (Nat.le_of_ble_eq_true rfl) dX2_init_7 ?_
  refine zv_putF (t := 12) (C2 := "") (by simp) rfl fl_X2_13 ft_X2_0 rfl rfl (by first | exact Or.inr ⟨_, rfl⟩ | exact Or.inl ⟨_, rfl⟩) (by omega) (by omega) dX2_init_10 ?_
  refine zv_iconst (v := 0) dX2_init_13 (by decide) ?_
  refine zv_istore_n dX2_init_14 (by decide) rfl ?_
  refine zv_eqL (L' := L0 ++ [(h, 12), (h + 1, 30107)] ++ zsL (h + 2) 0) (by simp [zsL]) ?_
  exact lp_X2_init l D B hB hL 0 (by omega) _ _ rfl ⟨by simp [zst, h0], by simp [zst], fun j hj => by omega, fun y hy => by simp only [zst]; repeat rw [if_neg (by omega)]⟩
