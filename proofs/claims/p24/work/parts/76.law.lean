set_option maxRecDepth 100000 in
set_option maxHeartbeats 4000000 in
theorem lp_pe_scan (l : Launch) (D : zD) (B : Nat) {L : zL} {nx : Nat} {G : zG} {p n m : Nat} {ch F : Nat → Int32} {a0 a1 : Int32} {f g : Nat → Int32} (hp : (p, 125) ∈ L) (hJ : zCJ n ch f m) (hR : Rl g f m) (hN : (∀ k, k < 24 → g k ≠ 0 → ¬ zcnt (zb (lft g (f 0) k)) 16 < 2) → F = f) (kkF : ∀ k, k < 24 → g k ≠ 0 → zcnt (zb (lft g (f 0) k)) 16 < 2 → (∀ k2, k2 < k → g k2 ≠ 0 → ¬ zcnt (zb (lft g (f 0) k2)) 16 < 2) → ∀ l5 l6 : Option Value, zV l (fun _ => True) D B RL "peeled" cL_peeled 7 (some .int) (zrm 1 22 0 0) (zN (zI (F 0) L nx (fun G' => ∃ g' m', G' = zst G p g' ∧ zCJ n ch F m' ∧ Rl g' F m'))) 0 0 L nx 9 [some (.ref p), some (.int a0), some (.int a1), some (.int (f 0 ||| lft g (f 0) k)), some (.int 1), l5, l6] [] (zst G p (upd g k 0))) : ∀ k : Nat, k ≤ 24 → (∀ k2, k2 < k → g k2 ≠ 0 → ¬ zcnt (zb (lft g (f 0) k2)) 16 < 2) → ∀ l6 : Option Value, zV l (fun _ => True) D B RL "peeled" cL_peeled 7 (some .int) (zrm 1 22 0 0) (zN (zI (F 0) L nx (fun G' => ∃ g' m', G' = zst G p g' ∧ zCJ n ch F m' ∧ Rl g' F m'))) 0 0 L nx 20 [some (.ref p), some (.int a0), some (.int a1), some (.int (f 0)), some (.int 0), some (.int (nI k)), l6] [] (zst G p g) := by
  refine zloop 24 (fun k hk ih hmin l6 => ?_)
  refine zv_iload dL_peeled_20 rfl ?_
  refine zv_bipush (v := 24) dL_peeled_22 (by decide) ?_
  refine zv_icmp_ge (tgt := 77) dL_peeled_24 (by decide) (fun c24 => ?_) (fun c24 => ?_)
  · have e : k = 24 := by have := zge_of (N := 24) (by decide) (by omega) rfl c24; omega
    subst e
    have hFf := hN hmin
    subst hFf
    refine zv_goto (tgt := 9) dL_peeled_77 (by decide) ?_
    refine zv_iload dL_peeled_9 rfl ?_
    refine zv_if_eq (tgt := 80) dL_peeled_11 (by decide) (fun _ => ?_) (fun h => absurd (rfl) h)
    refine zv_iload_n dL_peeled_80 rfl ?_
    exact zv_iretI dL_peeled_81 rfl rfl rfl ⟨g, m, rfl, hJ, hR⟩
  · have hlt : k < 24 := zlt_of (N := 24) (by decide) (by omega) rfl c24
    refine zv_iload dL_peeled_27 rfl ?_
    refine zv_if_ne (tgt := 77) dL_peeled_29 (by decide) (fun h => absurd (rfl) h) (fun _ => ?_)
    refine zv_aload_n dL_peeled_32 rfl ?_
    refine zv_iload dL_peeled_33 rfl ?_
    refine zv_iald (q := p) (r := 0) (i := 0) hp rfl (zix_nI (show k < 25 by omega) (by decide)) dL_peeled_35 ?_
    rw [Nat.zero_add, zst_same]
    refine zv_iload_n dL_peeled_36 rfl ?_
    refine zv_iconst (v := (-1)) dL_peeled_37 (by decide) ?_
    refine zv_ixor dL_peeled_38 ?_
    refine zv_iand dL_peeled_39 ?_
    refine zv_istore dL_peeled_40 (by decide) rfl ?_
    refine zv_aload_n dL_peeled_42 rfl ?_
    refine zv_iload dL_peeled_43 rfl ?_
    refine zv_iald (q := p) (r := 0) (i := 0) hp rfl (zix_nI (show k < 25 by omega) (by decide)) dL_peeled_45 ?_
    rw [Nat.zero_add, zst_same]
    refine zv_if_eq (tgt := 71) dL_peeled_46 (by decide) (fun c46 => ?_) (fun c46 => ?_)
    · refine zv_iinc1 dL_peeled_71 rfl (by decide) rfl ?_
      refine zv_goto (tgt := 20) dL_peeled_74 (by decide) ?_
      rw [nI_1]
      refine ih hlt (fun k2 h2 hg2 => ?_) _
      rcases Nat.lt_or_ge k2 k with h | h
      · exact hmin k2 h hg2
      · exact absurd c46 (by rw [← show k2 = k by omega]; exact hg2)
    · refine zv_iload dL_peeled_49 rfl ?_
      refine zv_callS (m_L_size l D B _) ml_L_25 st_L_size rfl rfl (Nat.le_of_ble_eq_true rfl) dL_peeled_51 ⟨Nat.le_of_ble_eq_true rfl, Nat.le_of_ble_eq_true rfl⟩ ⟨Nat.le_refl _, Nat.le_refl _⟩ (zk_i ?_)
      refine zv_iconst (v := 2) dL_peeled_54 (by decide) ?_
      have hcl := zcnt_le (zb (g k &&& (f 0 ^^^ (-1)))) 16
      refine zv_icmp_ge (tgt := 71) dL_peeled_55 (by decide) (fun c55 => ?_) (fun c55 => ?_)
      · have ksm : ¬ zcnt (zb (lft g (f 0) k)) 16 < 2 := fun hh => by
          have h2 := (nI_leI (a := 2) (by decide) (by omega)).mp c55
          unfold lft at hh
          omega
        refine zv_iinc1 dL_peeled_71 rfl (by decide) rfl ?_
        refine zv_goto (tgt := 20) dL_peeled_74 (by decide) ?_
        rw [nI_1]
        refine ih hlt (fun k2 h2 hg2 => ?_) _
        rcases Nat.lt_or_ge k2 k with h | h
        · exact hmin k2 h hg2
        · rw [show k2 = k by omega]; exact ksm
      · have ksm : zcnt (zb (lft g (f 0) k)) 16 < 2 := by
          unfold lft
          rcases Nat.lt_or_ge (zcnt (zb (g k &&& (f 0 ^^^ (-1)))) 16) 2 with h | h
          · exact h
          · exact absurd (nI_le (a := 2) h (by omega)) c55
        refine zv_aload_n dL_peeled_58 rfl ?_
        refine zv_iload dL_peeled_59 rfl ?_
        refine zv_iconst (v := 0) dL_peeled_61 (by decide) ?_
        refine zv_iast (q := p) (r := 0) (i := 0) hp rfl (zix_nI (show k < 25 by omega) (by decide)) dL_peeled_62 ?_
        rw [Nat.zero_add, zst_same, zst_zst]
        refine zv_iload_n dL_peeled_63 rfl ?_
        refine zv_iload dL_peeled_64 rfl ?_
        refine zv_ior dL_peeled_66 ?_
        refine zv_istore_n dL_peeled_67 (by decide) rfl ?_
        refine zv_iconst (v := 1) dL_peeled_68 (by decide) ?_
        refine zv_istore dL_peeled_69 (by decide) rfl ?_
        refine zv_iinc1 dL_peeled_71 rfl (by decide) rfl ?_
        refine zv_goto (tgt := 20) dL_peeled_74 (by decide) ?_
        refine zv_iload dL_peeled_20 rfl ?_
        refine zv_bipush (v := 24) dL_peeled_22 (by decide) ?_
        refine zv_icmp_ge (tgt := 77) dL_peeled_24 (by decide) (fun c24 => ?_) (fun c24 => ?_)
        · refine zv_goto (tgt := 9) dL_peeled_77 (by decide) ?_
          exact kkF k hlt c46 ksm hmin _ _
        · refine zv_iload dL_peeled_27 rfl ?_
          refine zv_if_ne (tgt := 77) dL_peeled_29 (by decide) (fun _ => ?_) (fun h => absurd h (by decide))
          refine zv_goto (tgt := 9) dL_peeled_77 (by decide) ?_
          exact kkF k hlt c46 ksm hmin _ _

set_option maxRecDepth 100000 in
set_option maxHeartbeats 4000000 in
theorem lp_pe (l : Launch) (D : zD) (B : Nat) {L : zL} {nx : Nat} {G : zG} {p n : Nat} {ch F : Nat → Int32} {a0 a1 : Int32} (hp : (p, 125) ∈ L) : ∀ (K m : Nat) (f g : Nat → Int32) (l5 l6 : Option Value), m ≤ K → zCJ n ch f m → Rl g f m → peelP K f = F → zV l (fun _ => True) D B RL "peeled" cL_peeled 7 (some .int) (zrm 1 22 0 0) (zN (zI (F 0) L nx (fun G' => ∃ g' m', G' = zst G p g' ∧ zCJ n ch F m' ∧ Rl g' F m'))) 0 0 L nx 9 [some (.ref p), some (.int a0), some (.int a1), some (.int (f 0)), some (.int 1), l5, l6] [] (zst G p g) := by
  intro K
  induction K with
  | zero =>
    intro m f g l5 l6 hm hJ hR hF
    refine zv_iload dL_peeled_9 rfl ?_
    refine zv_if_eq (tgt := 80) dL_peeled_11 (by decide) (fun h => absurd h (by decide)) (fun _ => ?_)
    refine zv_iconst (v := 0) dL_peeled_14 (by decide) ?_
    refine zv_istore dL_peeled_15 (by decide) rfl ?_
    refine zv_iconst (v := 0) dL_peeled_17 (by decide) ?_
    refine zv_istore dL_peeled_18 (by decide) rfl ?_
    have hcl : (f 1).toNatClampNeg = m := by rw [hJ.2.2.1, nI_clamp (by have := hJ.2.1; omega)]
    refine lp_pe_scan l D B (m := m) (n := n) (ch := ch) hp hJ hR (fun hno => ?_) (fun k hk hgk hsm hmin l5 l6 => ?_) 0 (by omega) (fun k2 h => by omega) _
    · exact hF.symm
    · exfalso
      have h1 := hR.2.1
      have hz : nzS g k = true := by simp [nzS, hgk]
      have := zcnt_lt hz hk
      omega
  | succ K ih =>
    intro m f g l5 l6 hm hJ hR hF
    refine zv_iload dL_peeled_9 rfl ?_
    refine zv_if_eq (tgt := 80) dL_peeled_11 (by decide) (fun h => absurd h (by decide)) (fun _ => ?_)
    refine zv_iconst (v := 0) dL_peeled_14 (by decide) ?_
    refine zv_istore dL_peeled_15 (by decide) rfl ?_
    refine zv_iconst (v := 0) dL_peeled_17 (by decide) ?_
    refine zv_istore dL_peeled_18 (by decide) rfl ?_
    have hcl : (f 1).toNatClampNeg = m := by rw [hJ.2.2.1, nI_clamp (by have := hJ.2.1; omega)]
    refine lp_pe_scan l D B (m := m) (n := n) (ch := ch) hp hJ hR (fun hno => ?_) (fun k hk hgk hsm hmin l5 l6 => ?_) 0 (by omega) (fun k2 h => by omega) _
    · rw [← hF]
      unfold peelP
      rw [hcl, Rl_none hR hno]
    · have hfd := Rl_some hR hk hgk hsm hmin
      obtain ⟨s1, s2⟩ := Rl_step hJ hR hk hgk hfd
      rw [← s2]
      refine ih (m - 1) (peelS f (zcnt (nzS g) k)) _ _ _ (by omega) (zCJ_peelS hJ hfd).1 s1 ?_
      rw [← hF]
      conv => rhs; unfold peelP
      rw [hcl, hfd]

set_option maxRecDepth 100000 in
set_option maxHeartbeats 4000000 in
theorem m_L_peeled (l : Launch) (D : zD) (B : Nat) {L : zL} {nx : Nat} {G : zG} {p n m k : Nat} {ch f : Nat → Int32} {a0 : Int32} (hp : (p, 125) ∈ L) (hJ : zCJ n ch f m) (hR : Rl (G p) f m) (ha : f 0 = a0 ||| bt k) : zMet l D B yL_peeled cL_peeled 7 (some .int) 1 22 0 0 [.ref p, .int a0, .int (nI k)] L nx G (zI (peelP 24 f 0) L nx (fun G' => ∃ g' m', G' = zst G p g' ∧ zCJ n ch (peelP 24 f) m' ∧ Rl g' (peelP 24 f) m')) := by
  refine zMet_of (own := RL) (mn := "peeled") [some (.ref p), some (.int a0), some (.int (nI k)), none, none, none, none] (by decide +kernel) rfl rfl rfl (Nat.le_of_ble_eq_true rfl) ?_
  show zV l (fun _ => True) D B RL "peeled" cL_peeled 7 (some .int) (zrm 1 22 0 0) (zN (zI (peelP 24 f 0) L nx (fun G' => ∃ g' m', G' = zst G p g' ∧ zCJ n ch (peelP 24 f) m' ∧ Rl g' (peelP 24 f) m'))) 0 0 L nx 0 [some (.ref p), some (.int a0), some (.int (nI k)), none, none, none, none] [] (G)
  refine zv_iload_n dL_peeled_0 rfl ?_
  refine zv_iconst (v := 1) dL_peeled_1 (by decide) ?_
  refine zv_iload_n dL_peeled_2 rfl ?_
  refine zv_ishl dL_peeled_3 ?_
  refine zv_ior dL_peeled_4 ?_
  refine zv_istore_n dL_peeled_5 (by decide) rfl ?_
  refine zv_iconst (v := 1) dL_peeled_6 (by decide) ?_
  refine zv_istore dL_peeled_7 (by decide) rfl ?_
  rw [show a0 ||| 1 <<< (nI k &&& 31) = f 0 from ha.symm]
  have h := lp_pe l D B (nx := nx) (G := G) (a0 := a0) (a1 := nI k) hp 24 m f (G p) none none hJ.2.1 hJ hR rfl
  rw [zst_eta] at h
  exact h
