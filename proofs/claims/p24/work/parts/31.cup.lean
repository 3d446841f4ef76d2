set_option maxRecDepth 100000 in
set_option maxHeartbeats 4000000 in
theorem lp2_X0_learn (l : Launch) (D : zD) (B : Nat) {L : zL} {nx : Nat} {G : zG} {q : Nat} {c : Nat} {v : Int32} (hq : (q, 3) ∈ L) (hc : c < 16) : ∀ i : Nat, i ≤ 24 → zV l (fun _ => True) D B RX0 "learn" cX0_learn 4 none (zrm 0 0 0 0) (zN (zE none L nx (zst G q (knowP (G q) c v)))) 0 0 L nx 40 [some (.ref q), some (.int (bt c)), some (.int v), some (.int (nI i))] [] (zst G q (knowA (G q) c v 16 i)) := by
  refine zloop 24 (fun i hi ih => ?_)
  refine zv_iload_n dX0_learn_40 rfl ?_
  refine zv_bipush (v := 24) dX0_learn_41 (by decide) ?_
  refine zv_icmp_ge (tgt := 83) dX0_learn_43 (by decide) (fun c43 => ?_) (fun c43 => ?_)
  · have e : i = 24 := by have := zge_of (N := 24) (by decide) (by omega) rfl c43; omega
    refine zv_vretE dX0_learn_83 rfl ?_
    subst e; rfl
  · have hlt : i < 24 := zlt_of (N := 24) (by decide) (by omega) rfl c43
    obtain ⟨r1, r2⟩ := knowA_r1 (f := G q) (v := v) hc hlt
    refine zv_aload_n dX0_learn_46 rfl ?_
    refine zv_getS (r := 2) hq rfl fl_X0_15 rfl dX0_learn_47 ?_
    refine zv_iload_n dX0_learn_50 rfl ?_
    refine zv_iald (i := 2) hq rfl (zix_nI (by omega) (by decide)) dX0_learn_51 ?_
    refine zv_iload_n dX0_learn_52 rfl ?_
    refine zv_iand dX0_learn_53 ?_
    refine zv_if_eq (tgt := 77) dX0_learn_54 (by decide) (fun c54 => ?_) (fun c54 => ?_)
    · rw [zst_same, r1] at c54
      have hz := (zb_and_bt _ (by omega)).mp c54
      refine zv_iinc1 dX0_learn_77 rfl (by decide) rfl ?_
      refine zv_goto (tgt := 40) dX0_learn_80 (by decide) ?_
      rw [nI_1]
      refine zv_eqG ?_ (ih hlt)
      first
        | exact congrArg (zst G q) (knowA_t2 hc hlt hz)
        | (simp only [zst_same, zst_zst]; rw [r1]; rw [show upd (knowA (G q) c v 16 i) (21 + i) (G q (21 + i) ^^^ bt c) (45 + i) = G q (45 + i) by rw [← r2]; simp only [upd]; rw [if_neg (by omega)]]; rw [knowA_t1 hc hlt hz])
    · rw [zst_same, r1] at c54
      have hz : zb (G q (21 + i)) c = true := by
        cases h : zb (G q (21 + i)) c with
        | true => rfl
        | false => exact absurd ((zb_and_bt _ (by omega)).mpr h) c54
      refine zv_aload_n dX0_learn_57 rfl ?_
      refine zv_getS (r := 2) hq rfl fl_X0_15 rfl dX0_learn_58 ?_
      refine zv_iload_n dX0_learn_61 rfl ?_
      refine zv_dup2 dX0_learn_62 rfl rfl ?_
      refine zv_iald (i := 2) hq rfl (zix_nI (by omega) (by decide)) dX0_learn_63 ?_
      refine zv_iload_n dX0_learn_64 rfl ?_
      refine zv_ixor dX0_learn_65 ?_
      refine zv_iast (i := 2) hq rfl (zix_nI (by omega) (by decide)) dX0_learn_66 ?_
      refine zv_aload_n dX0_learn_67 rfl ?_
      refine zv_getS (r := 3) hq rfl fl_X0_18 rfl dX0_learn_68 ?_
      refine zv_iload_n dX0_learn_71 rfl ?_
      refine zv_dup2 dX0_learn_72 rfl rfl ?_
      refine zv_iald (i := 3) hq rfl (zix_nI (by omega) (by decide)) dX0_learn_73 ?_
      refine zv_iload_n dX0_learn_74 rfl ?_
      refine zv_ixor dX0_learn_75 ?_
      refine zv_iast (i := 3) hq rfl (zix_nI (by omega) (by decide)) dX0_learn_76 ?_
      refine zv_iinc1 dX0_learn_77 rfl (by decide) rfl ?_
      refine zv_goto (tgt := 40) dX0_learn_80 (by decide) ?_
      rw [nI_1]
      refine zv_eqG ?_ (ih hlt)
      first
        | exact congrArg (zst G q) (knowA_t2 hc hlt hz)
        | (simp only [zst_same, zst_zst]; rw [r1]; rw [show upd (knowA (G q) c v 16 i) (21 + i) (G q (21 + i) ^^^ bt c) (45 + i) = G q (45 + i) by rw [← r2]; simp only [upd]; rw [if_neg (by omega)]]; rw [knowA_t1 hc hlt hz])

set_option maxRecDepth 100000 in
set_option maxHeartbeats 4000000 in
theorem lp1_X0_learn (l : Launch) (D : zD) (B : Nat) {L : zL} {nx : Nat} {G : zG} {q : Nat} {c : Nat} {v : Int32} (hq : (q, 3) ∈ L) (hc : c < 16) : ∀ i : Nat, i ≤ 16 → zV l (fun _ => True) D B RX0 "learn" cX0_learn 4 none (zrm 0 0 0 0) (zN (zE none L nx (zst G q (knowP (G q) c v)))) 0 0 L nx 12 [some (.ref q), some (.int (bt c)), some (.int v), some (.int (nI i))] [] (zst G q (knowA (G q) c v i 0)) := by
  refine zloop 16 (fun i hi ih => ?_)
  refine zv_iload_n dX0_learn_12 rfl ?_
  refine zv_bipush (v := 16) dX0_learn_13 (by decide) ?_
  refine zv_icmp_ge (tgt := 38) dX0_learn_15 (by decide) (fun c15 => ?_) (fun c15 => ?_)
  · have e : i = 16 := by have := zge_of (N := 16) (by decide) (by omega) rfl c15; omega
    subst e
    refine zv_iconst (v := 0) dX0_learn_38 (by decide) ?_
    refine zv_istore_n dX0_learn_39 (by decide) rfl ?_
    exact lp2_X0_learn l D B hq hc 0 (by omega)
  · have hlt : i < 16 := zlt_of (N := 16) (by decide) (by omega) rfl c15
    refine zv_iload_n dX0_learn_18 rfl ?_
    refine zv_iconst (v := 1) dX0_learn_19 (by decide) ?_
    refine zv_iload_n dX0_learn_20 rfl ?_
    refine zv_ishl dX0_learn_21 ?_
    refine zv_icmp_ne (tgt := 32) dX0_learn_22 (by decide) (fun c22 => ?_) (fun c22 => ?_)
    · refine zv_iinc1 dX0_learn_32 rfl (by decide) rfl ?_
      refine zv_goto (tgt := 12) dX0_learn_35 (by decide) ?_
      rw [nI_1]
      refine zv_eqG ?_ (ih hlt)
      first
        | exact congrArg (zst G q) (knowA_s2 (fun e => c22 (by rw [e]; rfl)))
        | (simp only [zst_same, zst_zst]; rw [knowA_s1 ((bt_inj (by omega) (by omega)).mp c22)])
    · refine zv_aload_n dX0_learn_25 rfl ?_
      refine zv_getS (r := 1) hq rfl fl_X0_9 rfl dX0_learn_26 ?_
      refine zv_iload_n dX0_learn_29 rfl ?_
      refine zv_iload_n dX0_learn_30 rfl ?_
      refine zv_iast (i := 1) hq rfl (zix_nI (by omega) (by decide)) dX0_learn_31 ?_
      refine zv_iinc1 dX0_learn_32 rfl (by decide) rfl ?_
      refine zv_goto (tgt := 12) dX0_learn_35 (by decide) ?_
      rw [nI_1]
      refine zv_eqG ?_ (ih hlt)
      first
        | exact congrArg (zst G q) (knowA_s2 (fun e => c22 (by rw [e]; rfl)))
        | (simp only [zst_same, zst_zst]; rw [knowA_s1 ((bt_inj (by omega) (by omega)).mp c22)])

set_option maxRecDepth 100000 in
set_option maxHeartbeats 4000000 in
theorem m_X0_learn (l : Launch) (D : zD) (B : Nat) {L : zL} {nx : Nat} {G : zG} {q : Nat} {c : Nat} {x v : Int32} (hq : (q, 3) ∈ L) (hc : c < 16) (hx : x = bt c) : zMet l D B yX0_learn cX0_learn 4 none 0 0 0 0 [.ref q, .int x, .int v] L nx G (zE none L nx (zst G q (knowP (G q) c v))) := by
  refine zMet_of (own := RX0) (mn := "learn") [some (.ref q), some (.int x), some (.int v), none] (by decide +kernel) rfl rfl rfl (Nat.le_of_ble_eq_true rfl) ?_
  show zV l (fun _ => True) D B RX0 "learn" cX0_learn 4 none (zrm 0 0 0 0) (zN (zE none L nx (zst G q (knowP (G q) c v)))) 0 0 L nx 0 [some (.ref q), some (.int x), some (.int v), none] [] (G)
  subst hx
  refine zv_aload_n dX0_learn_0 rfl ?_
  refine zv_dup dX0_learn_1 rfl ?_
  refine zv_getI hq rfl fl_X0_21 rfl dX0_learn_2 ?_
  refine zv_iload_n dX0_learn_5 rfl ?_
  refine zv_ior dX0_learn_6 ?_
  refine zv_putI (t := 3) hq rfl fl_X0_21 ft_X0_0 rfl dX0_learn_7 ?_
  refine zv_iconst (v := 0) dX0_learn_10 (by decide) ?_
  refine zv_istore_n dX0_learn_11 (by decide) rfl ?_
  refine zv_eqG ?_ (lp1_X0_learn l D B hq hc 0 (by omega))
  rw [knowA_0]

set_option maxRecDepth 100000 in
set_option maxHeartbeats 4000000 in
theorem lp_X0_removeKept (l : Launch) (D : zD) (B : Nat) {L : zL} {nx : Nat} {G : zG} {q : Nat} {r : Nat} (hq : (q, 3) ∈ L) (hr : r < 24) : ∀ i : Nat, i ≤ 23 → zV l (fun _ => True) D B RX0 "removeKept" cX0_removeKept 3 none (zrm 0 0 0 0) (zN (zE none L nx (zst G q (takeP (G q) r)))) 0 0 L nx 2 [some (.ref q), some (.int (nI r)), some (.int (nI i))] [] (zst G q (takeA (G q) r i)) := by
  refine zloop 23 (fun i hi ih => ?_)
  refine zv_iload_n dX0_removeKept_2 rfl ?_
  refine zv_iconst (v := 1) dX0_removeKept_3 (by decide) ?_
  refine zv_iadd dX0_removeKept_4 ?_
  refine zv_bipush (v := 24) dX0_removeKept_5 (by decide) ?_
  rw [nI_1]
  refine zv_icmp_ge (tgt := 49) dX0_removeKept_7 (by decide) (fun c7 => ?_) (fun c7 => ?_)
  · have e : i = 23 := by have := zge_of (N := 24) (by decide) (by omega) rfl c7; omega
    subst e
    refine zv_aload_n dX0_removeKept_49 rfl ?_
    refine zv_getS (r := 2) hq rfl fl_X0_15 rfl dX0_removeKept_50 ?_
    refine zv_bipush (v := 23) dX0_removeKept_53 (by decide) ?_
    refine zv_iconst (v := 0) dX0_removeKept_55 (by decide) ?_
    refine zv_iast (i := 2) hq rfl (zix_nI (i := 23) (by omega) (by decide)) dX0_removeKept_56 ?_
    refine zv_aload_n dX0_removeKept_57 rfl ?_
    refine zv_getS (r := 3) hq rfl fl_X0_18 rfl dX0_removeKept_58 ?_
    refine zv_bipush (v := 23) dX0_removeKept_61 (by decide) ?_
    refine zv_iconst (v := 0) dX0_removeKept_63 (by decide) ?_
    refine zv_iast (i := 3) hq rfl (zix_nI (i := 23) (by omega) (by decide)) dX0_removeKept_64 ?_
    refine zv_aload_n dX0_removeKept_65 rfl ?_
    refine zv_dup dX0_removeKept_66 rfl ?_
    refine zv_getI hq rfl fl_X0_25 rfl dX0_removeKept_67 ?_
    refine zv_iconst (v := 1) dX0_removeKept_70 (by decide) ?_
    refine zv_isub dX0_removeKept_71 ?_
    refine zv_putI (t := 3) hq rfl fl_X0_25 ft_X0_1 rfl dX0_removeKept_72 ?_
    refine zv_vretE dX0_removeKept_75 rfl ?_
    simp only [zst_same, zst_zst]; rw [takeP_e]
  · have hlt : i < 23 := by have := zlt_of (N := 24) (i := i + 1) (by decide) (by omega) rfl c7; omega
    refine zv_iload_n dX0_removeKept_10 rfl ?_
    refine zv_iload_n dX0_removeKept_11 rfl ?_
    refine zv_icmp_lt (tgt := 43) dX0_removeKept_12 (by decide) (fun c12 => ?_) (fun c12 => ?_)
    · have hir : i < r := (nI_ltI (by omega) (by omega)).mp c12
      refine zv_iinc1 dX0_removeKept_43 rfl (by decide) rfl ?_
      refine zv_goto (tgt := 2) dX0_removeKept_46 (by decide) ?_
      rw [nI_1]
      refine zv_eqG ?_ (ih hlt)
      first
        | exact congrArg (zst G q) (takeA_s2 hir)
        | (simp only [zst_same, zst_zst]; rw [takeA_s1 hlt hir])
    · have hir : r ≤ i := by
        rcases Nat.lt_or_ge i r with h | h
        · exact absurd (nI_lt h (by omega)) c12
        · exact h
      refine zv_aload_n dX0_removeKept_15 rfl ?_
      refine zv_getS (r := 2) hq rfl fl_X0_15 rfl dX0_removeKept_16 ?_
      refine zv_iload_n dX0_removeKept_19 rfl ?_
      refine zv_aload_n dX0_removeKept_20 rfl ?_
      refine zv_getS (r := 2) hq rfl fl_X0_15 rfl dX0_removeKept_21 ?_
      refine zv_iload_n dX0_removeKept_24 rfl ?_
      refine zv_iconst (v := 1) dX0_removeKept_25 (by decide) ?_
      refine zv_iadd dX0_removeKept_26 ?_
      rw [nI_1]
      refine zv_iald (i := 2) hq rfl (zix_nI (by omega) (by decide)) dX0_removeKept_27 ?_
      refine zv_iast (i := 2) hq rfl (zix_nI (by omega) (by decide)) dX0_removeKept_28 ?_
      refine zv_aload_n dX0_removeKept_29 rfl ?_
      refine zv_getS (r := 3) hq rfl fl_X0_18 rfl dX0_removeKept_30 ?_
      refine zv_iload_n dX0_removeKept_33 rfl ?_
      refine zv_aload_n dX0_removeKept_34 rfl ?_
      refine zv_getS (r := 3) hq rfl fl_X0_18 rfl dX0_removeKept_35 ?_
      refine zv_iload_n dX0_removeKept_38 rfl ?_
      refine zv_iconst (v := 1) dX0_removeKept_39 (by decide) ?_
      refine zv_iadd dX0_removeKept_40 ?_
      rw [nI_1]
      refine zv_iald (i := 3) hq rfl (zix_nI (by omega) (by decide)) dX0_removeKept_41 ?_
      refine zv_iast (i := 3) hq rfl (zix_nI (by omega) (by decide)) dX0_removeKept_42 ?_
      refine zv_iinc1 dX0_removeKept_43 rfl (by decide) rfl ?_
      refine zv_goto (tgt := 2) dX0_removeKept_46 (by decide) ?_
      rw [nI_1]
      refine zv_eqG ?_ (ih hlt)
      first
        | exact congrArg (zst G q) (takeA_s2 hir)
        | (simp only [zst_same, zst_zst]; rw [takeA_s1 hlt hir])

set_option maxRecDepth 100000 in
set_option maxHeartbeats 4000000 in
theorem m_X0_removeKept (l : Launch) (D : zD) (B : Nat) {L : zL} {nx : Nat} {G : zG} {q : Nat} {r : Nat} {x : Int32} (hq : (q, 3) ∈ L) (hr : r < 24) (hx : x = nI r) : zMet l D B yX0_removeKept cX0_removeKept 3 none 0 0 0 0 [.ref q, .int x] L nx G (zE none L nx (zst G q (takeP (G q) r))) := by
  refine zMet_of (own := RX0) (mn := "removeKept") [some (.ref q), some (.int x), none] (by decide +kernel) rfl rfl rfl (Nat.le_of_ble_eq_true rfl) ?_
  show zV l (fun _ => True) D B RX0 "removeKept" cX0_removeKept 3 none (zrm 0 0 0 0) (zN (zE none L nx (zst G q (takeP (G q) r)))) 0 0 L nx 0 [some (.ref q), some (.int x), none] [] (G)
  subst hx
  refine zv_iconst (v := 0) dX0_removeKept_0 (by decide) ?_
  refine zv_istore_n dX0_removeKept_1 (by decide) rfl ?_
  refine zv_eqG ?_ (lp_X0_removeKept l D B hq hr 0 (by omega))
  rw [takeA_0, zst_self]

/-- a kept droplet with fewer than two chapters -/
def zsmall (f : Nat → Int32) (k : Nat) : Bool := decide (zcnt (zb (f (21 + k))) 16 < 2)
def zfs (f : Nat → Int32) : Int32 := match zfind (zsmall f) (f 1).toNatClampNeg with
  | some r => nI r
  | none => -6

set_option maxRecDepth 100000 in
set_option maxHeartbeats 4000000 in
theorem lp_X0_firstPeelable (l : Launch) (D : zD) (B : Nat) {L : zL} {nx : Nat} {G : zG} {q m : Nat} (hq : (q, 3) ∈ L) (hm : m ≤ 24) (hk : G q 1 = nI m) (hs : ∀ r, r < m → zm (G q (21 + r)) < 65536) : ∀ i : Nat, i ≤ 24 → (∀ r, r < i → r < m → zsmall (G q) r = false) → zV l (fun _ => True) D B RX0 "firstPeelable" cX0_firstPeelable 2 (some .int) (zrm 1 20 0 0) (zN (zE (some (.int (zfs (G q)))) L nx G)) 0 0 L nx 2 [some (.ref q), some (.int (nI i))] [] (G) := by
  refine zloop 24 (fun i hi ih hno => ?_)
  refine zv_iload_n dX0_firstPeelable_2 rfl ?_
  refine zv_bipush (v := 24) dX0_firstPeelable_3 (by decide) ?_
  refine zv_icmp_ge (tgt := 37) dX0_firstPeelable_5 (by decide) (fun c5 => ?_) (fun c5 => ?_)
  · have e : 24 ≤ i := zge_of (N := 24) (by decide) (by omega) rfl c5
    have hres : zfs (G q) = -6 := by
      unfold zfs
      rw [hk, nI_clamp (by omega), zfind_of_none (fun r hr => hno r (by omega) hr)]
    refine zv_bipush (v := (-6)) dX0_firstPeelable_37 (by decide) ?_
    refine zv_iretE dX0_firstPeelable_39 rfl (rfl) ?_ ?_
    · exact hres.symm
    · rfl
  · have hlt : i < 24 := zlt_of (N := 24) (by decide) (by omega) rfl c5
    refine zv_iload_n dX0_firstPeelable_8 rfl ?_
    refine zv_aload_n dX0_firstPeelable_9 rfl ?_
    refine zv_getI hq rfl fl_X0_25 rfl dX0_firstPeelable_10 ?_
    rw [hk]
    refine zv_icmp_ge (tgt := 31) dX0_firstPeelable_13 (by decide) (fun c13 => ?_) (fun c13 => ?_)
    · have him : m ≤ i := (nI_leI (by omega) (by omega)).mp c13
      refine zv_iinc1 dX0_firstPeelable_31 rfl (by decide) rfl ?_
      refine zv_goto (tgt := 2) dX0_firstPeelable_34 (by decide) ?_
      rw [nI_1]
      refine ih (by omega) (fun r hr hrm => ?_)
      rcases Nat.lt_or_ge r i with h | h
      · exact hno r h hrm
      · have : r = i := by omega
        subst this
        first
          | (exfalso; omega)
          | (simp only [zsmall, decide_eq_false_iff_not]; omega)
    · have him : i < m := by
        rcases Nat.lt_or_ge i m with h | h
        · exact h
        · exact absurd (nI_le h (by omega)) c13
      have hbc : zcnt (zm (G q (21 + i))).testBit 16 = zcnt (zb (G q (21 + i))) 16 := zcnt_congr (fun k _ => (zb_zm _ _).symm)
      have hcn := zcnt_le (zb (G q (21 + i))) 16
      refine zv_aload_n dX0_firstPeelable_16 rfl ?_
      refine zv_getS (r := 2) hq rfl fl_X0_15 rfl dX0_firstPeelable_17 ?_
      refine zv_iload_n dX0_firstPeelable_20 rfl ?_
      refine zv_iald (i := 2) hq rfl (zix_nI (by omega) (by decide)) dX0_firstPeelable_21 ?_
      refine zv_callS (m_J6_bitCount_0f7a4 l D B (zm (G q (21 + i))) (hs i him) (nI_zm _).symm) ml_X0_43 st_J6_bitCount_0f7a4 rfl rfl (Nat.le_of_ble_eq_true rfl) dX0_firstPeelable_22 ⟨Nat.le_of_ble_eq_true rfl, Nat.le_of_ble_eq_true rfl⟩ ⟨Nat.le_refl _, Nat.le_refl _⟩ (zk_i ?_)
      refine zv_iconst (v := 2) dX0_firstPeelable_25 (by decide) ?_
      rw [hbc]
      refine zv_icmp_ge (tgt := 31) dX0_firstPeelable_26 (by decide) (fun c26 => ?_) (fun c26 => ?_)
      · have hc2 : 2 ≤ zcnt (zb (G q (21 + i))) 16 := (nI_leI (by omega) (by omega)).mp c26
        refine zv_iinc1 dX0_firstPeelable_31 rfl (by decide) rfl ?_
        refine zv_goto (tgt := 2) dX0_firstPeelable_34 (by decide) ?_
        rw [nI_1]
        refine ih (by omega) (fun r hr hrm => ?_)
        rcases Nat.lt_or_ge r i with h | h
        · exact hno r h hrm
        · have : r = i := by omega
          subst this
          first
            | (exfalso; omega)
            | (simp only [zsmall, decide_eq_false_iff_not]; omega)
      · have hc2 : zcnt (zb (G q (21 + i))) 16 < 2 := by
          rcases Nat.lt_or_ge (zcnt (zb (G q (21 + i))) 16) 2 with h | h
          · exact h
          · exact absurd (nI_le h (by omega)) c26
        have hres : zfs (G q) = nI i := by
          unfold zfs
          rw [hk, nI_clamp (by omega), zfind_of him (by simp [zsmall, hc2]) (fun r hr => hno r hr (by omega))]
        refine zv_iload_n dX0_firstPeelable_29 rfl ?_
        refine zv_iretE dX0_firstPeelable_30 rfl (rfl) ?_ ?_
        · exact hres.symm
        · rfl

set_option maxRecDepth 100000 in
set_option maxHeartbeats 4000000 in
theorem m_X0_firstPeelable (l : Launch) (D : zD) (B : Nat) {L : zL} {nx : Nat} {G : zG} {q m : Nat} (hq : (q, 3) ∈ L) (hm : m ≤ 24) (hk : G q 1 = nI m) (hs : ∀ r, r < m → zm (G q (21 + r)) < 65536) : zMet l D B yX0_firstPeelable cX0_firstPeelable 2 (some .int) 1 20 0 0 [.ref q] L nx G (zE (some (.int (zfs (G q)))) L nx (G)) := by
  refine zMet_of (own := RX0) (mn := "firstPeelable") [some (.ref q), none] (by decide +kernel) rfl rfl rfl (Nat.le_of_ble_eq_true rfl) ?_
  show zV l (fun _ => True) D B RX0 "firstPeelable" cX0_firstPeelable 2 (some .int) (zrm 1 20 0 0) (zN (zE (some (.int (zfs (G q)))) L nx (G))) 0 0 L nx 0 [some (.ref q), none] [] (G)
  refine zv_iconst (v := 0) dX0_firstPeelable_0 (by decide) ?_
  refine zv_istore_n dX0_firstPeelable_1 (by decide) rfl ?_
  exact lp_X0_firstPeelable l D B hq hm hk hs 0 (by omega) (fun r h => by omega)

def keepP (f : Nat → Int32) (m : Nat) (s v : Int32) : Nat → Int32 := upd (upd (upd f (21 + m) s) (45 + m) v) 1 (nI (m + 1))

set_option maxRecDepth 100000 in
set_option maxHeartbeats 4000000 in
theorem m_X0_keepIfRoom (l : Launch) (D : zD) (B : Nat) {L : zL} {nx : Nat} {G : zG} {q m : Nat} {x v : Int32} (hq : (q, 3) ∈ L) (hm : m < 24) (hk : G q 1 = nI m) : zMet l D B yX0_keepIfRoom cX0_keepIfRoom 4 (some .boolean) 1 22 0 0 [.ref q, .int x, .int v] L nx G (zE (some (.int 1)) L nx (zst G q (keepP (G q) m x v))) := by
  refine zMet_of (own := RX0) (mn := "keepIfRoom") [some (.ref q), some (.int x), some (.int v), none] (by decide +kernel) rfl rfl rfl (Nat.le_of_ble_eq_true rfl) ?_
  show zV l (fun _ => True) D B RX0 "keepIfRoom" cX0_keepIfRoom 4 (some .boolean) (zrm 1 22 0 0) (zN (zE (some (.int 1)) L nx (zst G q (keepP (G q) m x v)))) 0 0 L nx 0 [some (.ref q), some (.int x), some (.int v), none] [] (G)
  refine zv_aload_n dX0_keepIfRoom_0 rfl ?_
  refine zv_getI hq rfl fl_X0_25 rfl dX0_keepIfRoom_1 ?_
  rw [hk]
  refine zv_istore_n dX0_keepIfRoom_4 (by decide) rfl ?_
  refine zv_iload_n dX0_keepIfRoom_5 rfl ?_
  refine zv_iconst (v := 0) dX0_keepIfRoom_6 (by decide) ?_
  refine zv_bipush (v := 23) dX0_keepIfRoom_7 (by decide) ?_
  refine zv_callSN (m_X6_isWithin l D B (nI m) 0 23) ml_X0_83 st_X6_isWithin rfl rfl (Nat.le_of_ble_eq_true rfl) dX0_keepIfRoom_9 ⟨Nat.le_of_ble_eq_true rfl, Nat.le_of_ble_eq_true rfl⟩ ⟨Nat.le_refl _, Nat.le_refl _⟩ (zk_i ?_)
  rw [show bI (zin3 (nI m) 0 23) = 1 by rw [show zin3 (nI m) 0 23 = true from (zin3_iff (m := 23) (by decide)).mpr ⟨m, by omega, rfl⟩]; rfl]
  refine zv_if_ne (tgt := 17) dX0_keepIfRoom_12 (by decide) (fun _ => ?_) (fun h => absurd h (by decide))
  refine zv_aload_n dX0_keepIfRoom_17 rfl ?_
  refine zv_getS (r := 2) hq rfl fl_X0_15 rfl dX0_keepIfRoom_18 ?_
  refine zv_iload_n dX0_keepIfRoom_21 rfl ?_
  refine zv_iload_n dX0_keepIfRoom_22 rfl ?_
  refine zv_iast (i := 2) hq rfl (zix_nI (by omega) (by decide)) dX0_keepIfRoom_23 ?_
  refine zv_aload_n dX0_keepIfRoom_24 rfl ?_
  refine zv_getS (r := 3) hq rfl fl_X0_18 rfl dX0_keepIfRoom_25 ?_
  refine zv_iload_n dX0_keepIfRoom_28 rfl ?_
  refine zv_iload_n dX0_keepIfRoom_29 rfl ?_
  refine zv_iast (i := 3) hq rfl (zix_nI (by omega) (by decide)) dX0_keepIfRoom_30 ?_
  refine zv_aload_n dX0_keepIfRoom_31 rfl ?_
  refine zv_dup dX0_keepIfRoom_32 rfl ?_
  refine zv_getI hq rfl fl_X0_25 rfl dX0_keepIfRoom_33 ?_
  refine zv_iconst (v := 1) dX0_keepIfRoom_36 (by decide) ?_
  refine zv_iadd dX0_keepIfRoom_37 ?_
  refine zv_putI (t := 3) hq rfl fl_X0_25 ft_X0_1 rfl dX0_keepIfRoom_38 ?_
  refine zv_iconst (v := 1) dX0_keepIfRoom_41 (by decide) ?_
  refine zv_iretE dX0_keepIfRoom_42 rfl (by first | rfl | exact bI_nar _) ?_ ?_
  · rfl
  · simp only [zst_same, zst_zst]
    rw [show upd (upd (G q) (21 + m) x) (45 + m) v 1 = nI m by simp only [upd]; rw [if_neg (by omega), if_neg (by omega)]; exact hk, nI_1]
    rfl

set_option maxRecDepth 100000 in
set_option maxHeartbeats 4000000 in
theorem m_X0_keepIfRoom_no (l : Launch) (D : zD) (B : Nat) {L : zL} {nx : Nat} {G : zG} {q : Nat} {x v : Int32} (hq : (q, 3) ∈ L) (hk : G q 1 = nI 24) : zMet l D B yX0_keepIfRoom cX0_keepIfRoom 4 (some .boolean) 1 22 0 0 [.ref q, .int x, .int v] L nx G (zE (some (.int 0)) L nx (G)) := by
  refine zMet_of (own := RX0) (mn := "keepIfRoom") [some (.ref q), some (.int x), some (.int v), none] (by decide +kernel) rfl rfl rfl (Nat.le_of_ble_eq_true rfl) ?_
  show zV l (fun _ => True) D B RX0 "keepIfRoom" cX0_keepIfRoom 4 (some .boolean) (zrm 1 22 0 0) (zN (zE (some (.int 0)) L nx (G))) 0 0 L nx 0 [some (.ref q), some (.int x), some (.int v), none] [] (G)
  refine zv_aload_n dX0_keepIfRoom_0 rfl ?_
  refine zv_getI hq rfl fl_X0_25 rfl dX0_keepIfRoom_1 ?_
  rw [hk]
  refine zv_istore_n dX0_keepIfRoom_4 (by decide) rfl ?_
  refine zv_iload_n dX0_keepIfRoom_5 rfl ?_
  refine zv_iconst (v := 0) dX0_keepIfRoom_6 (by decide) ?_
  refine zv_bipush (v := 23) dX0_keepIfRoom_7 (by decide) ?_
  refine zv_callSN (m_X6_isWithin l D B (nI 24) 0 23) ml_X0_83 st_X6_isWithin rfl rfl (Nat.le_of_ble_eq_true rfl) dX0_keepIfRoom_9 ⟨Nat.le_of_ble_eq_true rfl, Nat.le_of_ble_eq_true rfl⟩ ⟨Nat.le_refl _, Nat.le_refl _⟩ (zk_i ?_)
  refine zv_if_ne (tgt := 17) dX0_keepIfRoom_12 (by decide) (fun h => absurd (by decide) h) (fun _ => ?_)
  refine zv_iconst (v := 0) dX0_keepIfRoom_15 (by decide) ?_
  refine zv_iretE dX0_keepIfRoom_16 rfl (by first | rfl | exact bI_nar _) ?_ ?_
  · rfl
  · rfl
