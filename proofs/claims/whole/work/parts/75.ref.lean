set_option maxRecDepth 100000 in
set_option maxHeartbeats 4000000 in
theorem lp_X7_takeAway (l : Launch) (D : zD) (B : Nat) {L : zL} {nx : Nat} {G : zG} {m i : Nat} {g r : Nat → Int32} (hm : (m, 8) ∈ L) (hi : i < 3) {f : Nat → Int32} {t k0 : Nat} (hk : k0 < t) (ht : t ≤ 24) (h1 : f 1 = nI t) (hz : ∀ k, t ≤ k → k < 24 → f (21 + k) = 0 ∧ f (45 + k) = 0) : ∀ k : Nat, k ≤ t - 1 → k0 ≤ k → zV l (fun _ => True) D B RX7 "takeAway" cX7_takeAway 5 none (zrm 1 23 0 0) (zN (zE none L nx (mS G m g r i (takeP f k0)))) 0 0 L nx 12 [some (.ref m), some (.int (nI i)), some (.int (nI k0)), some (.int (nI (t - 1))), some (.int (nI k))] [] ((mS G m g r i (takeA f k0 k))) := by
  refine zloop (t - 1) (fun k hkt ih hk0 => ?_)
  refine zv_iload dX7_takeAway_12 rfl ?_
  refine zv_iload_n dX7_takeAway_14 rfl ?_
  refine zv_icmp_ge (tgt := 68) dX7_takeAway_15 (by decide) (fun c15 => ?_) (fun c15 => ?_)
  · have e : k = t - 1 := by have := (nI_leI (by omega) (by omega)).mp c15; omega
    subst e
    refine zv_aload_n dX7_takeAway_68 rfl ?_
    refine zv_iload_n dX7_takeAway_69 rfl ?_
    refine zv_bipush (v := 21) dX7_takeAway_70 (by decide) ?_
    refine zv_iload_n dX7_takeAway_72 rfl ?_
    refine zv_iadd dX7_takeAway_73 ?_
    rw [ix21]
    refine zv_iconst (v := 0) dX7_takeAway_74 (by decide) ?_
    refine zv_callV (m_lay l D B (k := 21 + (t - 1)) hm hi (by omega)) ml_X7_87 in_X7_lay sel_X7_lay hm rfl rfl rfl rfl (Nat.le_of_ble_eq_true rfl) dX7_takeAway_75 ⟨Nat.le_of_ble_eq_true rfl, Nat.le_of_ble_eq_true rfl⟩ ⟨Nat.le_refl _, Nat.le_refl _⟩ (zk_v ?_)
    refine zv_aload_n dX7_takeAway_78 rfl ?_
    refine zv_iload_n dX7_takeAway_79 rfl ?_
    refine zv_bipush (v := 45) dX7_takeAway_80 (by decide) ?_
    refine zv_iload_n dX7_takeAway_82 rfl ?_
    refine zv_iadd dX7_takeAway_83 ?_
    rw [ix45]
    refine zv_iconst (v := 0) dX7_takeAway_84 (by decide) ?_
    refine zv_callV (m_lay l D B (k := 45 + (t - 1)) hm hi (by omega)) ml_X7_87 in_X7_lay sel_X7_lay hm rfl rfl rfl rfl (Nat.le_of_ble_eq_true rfl) dX7_takeAway_85 ⟨Nat.le_of_ble_eq_true rfl, Nat.le_of_ble_eq_true rfl⟩ ⟨Nat.le_refl _, Nat.le_refl _⟩ (zk_v ?_)
    refine zv_aload_n dX7_takeAway_88 rfl ?_
    refine zv_iload_n dX7_takeAway_89 rfl ?_
    refine zv_iconst (v := 1) dX7_takeAway_90 (by decide) ?_
    refine zv_iload_n dX7_takeAway_91 rfl ?_
    refine zv_callV (m_lay l D B (k := 1) hm hi (by omega)) ml_X7_87 in_X7_lay sel_X7_lay hm rfl rfl rfl rfl (Nat.le_of_ble_eq_true rfl) dX7_takeAway_92 ⟨Nat.le_of_ble_eq_true rfl, Nat.le_of_ble_eq_true rfl⟩ ⟨Nat.le_refl _, Nat.le_refl _⟩ (zk_v ?_)
    refine zv_vretE dX7_takeAway_95 rfl ?_
    rw [takeP_ref hk ht h1 hz]
  · have hlt : k < t - 1 := by
      rcases Nat.lt_or_ge k (t - 1) with h | h
      · exact h
      · exact absurd (nI_le h (by omega)) c15
    refine zv_aload_n dX7_takeAway_18 rfl ?_
    refine zv_iload_n dX7_takeAway_19 rfl ?_
    refine zv_bipush (v := 21) dX7_takeAway_20 (by decide) ?_
    refine zv_iload dX7_takeAway_22 rfl ?_
    refine zv_iadd dX7_takeAway_24 ?_
    rw [ix21]
    refine zv_aload_n dX7_takeAway_25 rfl ?_
    refine zv_iload_n dX7_takeAway_26 rfl ?_
    refine zv_bipush (v := 21) dX7_takeAway_27 (by decide) ?_
    refine zv_iload dX7_takeAway_29 rfl ?_
    refine zv_iadd dX7_takeAway_31 ?_
    refine zv_iconst (v := 1) dX7_takeAway_32 (by decide) ?_
    refine zv_iadd dX7_takeAway_33 ?_
    rw [ix21, nI_1]
    refine zv_callV (m_its l D B (k := 21 + (k + 1)) hm hi (by omega)) ml_X7_48 in_X7_its sel_X7_its hm rfl rfl rfl rfl (Nat.le_of_ble_eq_true rfl) dX7_takeAway_34 ⟨Nat.le_of_ble_eq_true rfl, Nat.le_of_ble_eq_true rfl⟩ ⟨Nat.le_refl _, Nat.le_refl _⟩ (zk_i ?_)
    refine zv_callV (m_lay l D B (k := 21 + k) hm hi (by omega)) ml_X7_87 in_X7_lay sel_X7_lay hm rfl rfl rfl rfl (Nat.le_of_ble_eq_true rfl) dX7_takeAway_37 ⟨Nat.le_of_ble_eq_true rfl, Nat.le_of_ble_eq_true rfl⟩ ⟨Nat.le_refl _, Nat.le_refl _⟩ (zk_v ?_)
    refine zv_aload_n dX7_takeAway_40 rfl ?_
    refine zv_iload_n dX7_takeAway_41 rfl ?_
    refine zv_bipush (v := 45) dX7_takeAway_42 (by decide) ?_
    refine zv_iload dX7_takeAway_44 rfl ?_
    refine zv_iadd dX7_takeAway_46 ?_
    rw [ix45]
    refine zv_aload_n dX7_takeAway_47 rfl ?_
    refine zv_iload_n dX7_takeAway_48 rfl ?_
    refine zv_bipush (v := 45) dX7_takeAway_49 (by decide) ?_
    refine zv_iload dX7_takeAway_51 rfl ?_
    refine zv_iadd dX7_takeAway_53 ?_
    refine zv_iconst (v := 1) dX7_takeAway_54 (by decide) ?_
    refine zv_iadd dX7_takeAway_55 ?_
    rw [ix45, nI_1]
    refine zv_callV (m_its l D B (k := 45 + (k + 1)) hm hi (by omega)) ml_X7_48 in_X7_its sel_X7_its hm rfl rfl rfl rfl (Nat.le_of_ble_eq_true rfl) dX7_takeAway_56 ⟨Nat.le_of_ble_eq_true rfl, Nat.le_of_ble_eq_true rfl⟩ ⟨Nat.le_refl _, Nat.le_refl _⟩ (zk_i ?_)
    refine zv_callV (m_lay l D B (k := 45 + k) hm hi (by omega)) ml_X7_87 in_X7_lay sel_X7_lay hm rfl rfl rfl rfl (Nat.le_of_ble_eq_true rfl) dX7_takeAway_59 ⟨Nat.le_of_ble_eq_true rfl, Nat.le_of_ble_eq_true rfl⟩ ⟨Nat.le_refl _, Nat.le_refl _⟩ (zk_v ?_)
    refine zv_iinc1 dX7_takeAway_62 rfl (by decide) rfl ?_
    refine zv_goto (tgt := 12) dX7_takeAway_65 (by decide) ?_
    rw [nI_1]
    refine zv_eqG ?_ (ih hlt (by omega))
    rw [takeA_s1 (by omega) hk0]

set_option maxRecDepth 100000 in
set_option maxHeartbeats 4000000 in
theorem m_X7_takeAway (l : Launch) (D : zD) (B : Nat) {L : zL} {nx : Nat} {G : zG} {m i : Nat} {g r : Nat → Int32} (hm : (m, 8) ∈ L) (hi : i < 3) {f : Nat → Int32} {t k0 : Nat} (hk : k0 < t) (ht : t ≤ 24) (h1 : f 1 = nI t) (hz : ∀ k, t ≤ k → k < 24 → f (21 + k) = 0 ∧ f (45 + k) = 0) : zMet l D B yX7_takeAway cX7_takeAway 5 none 1 23 0 0 [.ref m, .int (nI i), .int (nI k0)] L nx (mS G m g r i (f)) (zE none L nx (mS G m g r i (takeP f k0))) := by
  refine zMet_of (own := RX7) (mn := "takeAway") [some (.ref m), some (.int (nI i)), some (.int (nI k0)), none, none] (by decide +kernel) rfl rfl rfl (Nat.le_of_ble_eq_true rfl) ?_
  show zV l (fun _ => True) D B RX7 "takeAway" cX7_takeAway 5 none (zrm 1 23 0 0) (zN (zE none L nx (mS G m g r i (takeP f k0)))) 0 0 L nx 0 [some (.ref m), some (.int (nI i)), some (.int (nI k0)), none, none] [] ((mS G m g r i (f)))
  refine zv_aload_n dX7_takeAway_0 rfl ?_
  refine zv_iload_n dX7_takeAway_1 rfl ?_
  refine zv_iconst (v := 1) dX7_takeAway_2 (by decide) ?_
  refine zv_callV (m_its l D B (k := 1) hm hi (by omega)) ml_X7_48 in_X7_its sel_X7_its hm rfl rfl rfl rfl (Nat.le_of_ble_eq_true rfl) dX7_takeAway_3 ⟨Nat.le_of_ble_eq_true rfl, Nat.le_of_ble_eq_true rfl⟩ ⟨Nat.le_refl _, Nat.le_refl _⟩ (zk_i ?_)
  rw [h1]
  refine zv_iconst (v := 1) dX7_takeAway_6 (by decide) ?_
  refine zv_isub dX7_takeAway_7 ?_
  rw [show nI t - 1 = nI (t - 1) by rw [show (1 : Int32) = nI 1 from rfl]; exact pk_sub (by omega)]
  refine zv_istore_n dX7_takeAway_8 (by decide) rfl ?_
  refine zv_iload_n dX7_takeAway_9 rfl ?_
  refine zv_istore dX7_takeAway_10 (by decide) rfl ?_
  refine zv_eqG ?_ (lp_X7_takeAway l D B hm hi hk ht h1 hz k0 (by omega) (Nat.le_refl _))
  rw [takeA_r]

set_option maxRecDepth 100000 in
set_option maxHeartbeats 4000000 in
theorem lp_X7_knows (l : Launch) (D : zD) (B : Nat) {L : zL} {nx : Nat} {G : zG} {m i : Nat} {g r : Nat → Int32} (hm : (m, 8) ∈ L) (hi : i < 3) {f : Nat → Int32} {t c : Nat} {v : Int32} (hc : c < 16) (ht : t ≤ 24) (h1 : f 1 = nI t) (hz : ∀ k, t ≤ k → k < 24 → zb (f (21 + k)) c = false) : ∀ k : Nat, k ≤ t → zV l (fun _ => True) D B RX7 "knows" cX7_knows 5 none (zrm 1 23 0 0) (zN (zE none L nx (mS G m g r i (knowP f c v)))) 0 0 L nx 28 [some (.ref m), some (.int (nI i)), some (.int (nI c)), some (.int v), some (.int (nI k))] [] ((mS G m g r i (knowA f c v 16 k))) := by
  refine zloop t (fun k hkt ih => ?_)
  refine zv_iload dX7_knows_28 rfl ?_
  refine zv_aload_n dX7_knows_30 rfl ?_
  refine zv_iload_n dX7_knows_31 rfl ?_
  refine zv_iconst (v := 1) dX7_knows_32 (by decide) ?_
  refine zv_callV (m_its l D B (k := 1) hm hi (by omega)) ml_X7_48 in_X7_its sel_X7_its hm rfl rfl rfl rfl (Nat.le_of_ble_eq_true rfl) dX7_knows_33 ⟨Nat.le_of_ble_eq_true rfl, Nat.le_of_ble_eq_true rfl⟩ ⟨Nat.le_refl _, Nat.le_refl _⟩ (zk_i ?_)
  rw [knowA_1 hc, h1]
  refine zv_icmp_ge (tgt := 111) dX7_knows_36 (by decide) (fun c36 => ?_) (fun c36 => ?_)
  · have e : k = t := by have := (nI_leI (by omega) (by omega)).mp c36; omega
    subst e
    refine zv_vretE dX7_knows_111 rfl ?_
    rw [knowA_end hc ht hz]
  · have hlt : k < t := by
      rcases Nat.lt_or_ge k t with h | h
      · exact h
      · exact absurd (nI_le h (by omega)) c36
    obtain ⟨r1, r2⟩ := knowA_r1 (f := f) (v := v) hc (show k < 24 by omega)
    refine zv_aload_n dX7_knows_39 rfl ?_
    refine zv_iload_n dX7_knows_40 rfl ?_
    refine zv_bipush (v := 21) dX7_knows_41 (by decide) ?_
    refine zv_iload dX7_knows_43 rfl ?_
    refine zv_iadd dX7_knows_45 ?_
    rw [ix21]
    refine zv_callV (m_its l D B (k := 21 + k) hm hi (by omega)) ml_X7_48 in_X7_its sel_X7_its hm rfl rfl rfl rfl (Nat.le_of_ble_eq_true rfl) dX7_knows_46 ⟨Nat.le_of_ble_eq_true rfl, Nat.le_of_ble_eq_true rfl⟩ ⟨Nat.le_refl _, Nat.le_refl _⟩ (zk_i ?_)
    rw [r1]
    refine zv_iload_n dX7_knows_49 rfl ?_
    refine zv_ishr dX7_knows_50 ?_
    refine zv_iconst (v := 1) dX7_knows_51 (by decide) ?_
    refine zv_iand dX7_knows_52 ?_
    rw [zb_test _ (by omega)]
    refine zv_iconst (v := 1) dX7_knows_53 (by decide) ?_
    refine zv_icmp_ne (tgt := 105) dX7_knows_54 (by decide) (fun c54 => ?_) (fun c54 => ?_)
    · have hzb : zb (f (21 + k)) c = false := by
        cases h : zb (f (21 + k)) c with
        | false => rfl
        | true => exact absurd (bI_1.mpr h) c54
      refine zv_iinc1 dX7_knows_105 rfl (by decide) rfl ?_
      refine zv_goto (tgt := 28) dX7_knows_108 (by decide) ?_
      rw [nI_1]
      refine zv_eqG ?_ (ih hlt)
      first
        | (rw [knowA_t1 hc (by omega) hzb]; done)
        | (rw [knowA_t2 hc (by omega) hzb]; done)
        | (rw [← knowA_t1 hc (by omega) hzb]; done)
        | (rw [← knowA_t2 hc (by omega) hzb]; done)
    · have hzb := bI_1.mp c54
      refine zv_aload_n dX7_knows_57 rfl ?_
      refine zv_iload_n dX7_knows_58 rfl ?_
      refine zv_bipush (v := 21) dX7_knows_59 (by decide) ?_
      refine zv_iload dX7_knows_61 rfl ?_
      refine zv_iadd dX7_knows_63 ?_
      rw [ix21]
      refine zv_aload_n dX7_knows_64 rfl ?_
      refine zv_iload_n dX7_knows_65 rfl ?_
      refine zv_bipush (v := 21) dX7_knows_66 (by decide) ?_
      refine zv_iload dX7_knows_68 rfl ?_
      refine zv_iadd dX7_knows_70 ?_
      rw [ix21]
      refine zv_callV (m_its l D B (k := 21 + k) hm hi (by omega)) ml_X7_48 in_X7_its sel_X7_its hm rfl rfl rfl rfl (Nat.le_of_ble_eq_true rfl) dX7_knows_71 ⟨Nat.le_of_ble_eq_true rfl, Nat.le_of_ble_eq_true rfl⟩ ⟨Nat.le_refl _, Nat.le_refl _⟩ (zk_i ?_)
      rw [r1]
      refine zv_iconst (v := 1) dX7_knows_74 (by decide) ?_
      refine zv_iload_n dX7_knows_75 rfl ?_
      refine zv_ishl dX7_knows_76 ?_
      refine zv_iconst (v := (-1)) dX7_knows_77 (by decide) ?_
      refine zv_ixor dX7_knows_78 ?_
      refine zv_iand dX7_knows_79 ?_
      rw [show f (21 + k) &&& (1 <<< (nI c &&& 31) ^^^ -1) = f (21 + k) ^^^ bt c from zb_clear (by omega) hzb]
      refine zv_callV (m_lay l D B (k := 21 + k) hm hi (by omega)) ml_X7_87 in_X7_lay sel_X7_lay hm rfl rfl rfl rfl (Nat.le_of_ble_eq_true rfl) dX7_knows_80 ⟨Nat.le_of_ble_eq_true rfl, Nat.le_of_ble_eq_true rfl⟩ ⟨Nat.le_refl _, Nat.le_refl _⟩ (zk_v ?_)
      refine zv_aload_n dX7_knows_83 rfl ?_
      refine zv_iload_n dX7_knows_84 rfl ?_
      refine zv_bipush (v := 45) dX7_knows_85 (by decide) ?_
      refine zv_iload dX7_knows_87 rfl ?_
      refine zv_iadd dX7_knows_89 ?_
      rw [ix45]
      refine zv_aload_n dX7_knows_90 rfl ?_
      refine zv_iload_n dX7_knows_91 rfl ?_
      refine zv_bipush (v := 45) dX7_knows_92 (by decide) ?_
      refine zv_iload dX7_knows_94 rfl ?_
      refine zv_iadd dX7_knows_96 ?_
      rw [ix45]
      refine zv_callV (m_its l D B (k := 45 + k) hm hi (by omega)) ml_X7_48 in_X7_its sel_X7_its hm rfl rfl rfl rfl (Nat.le_of_ble_eq_true rfl) dX7_knows_97 ⟨Nat.le_of_ble_eq_true rfl, Nat.le_of_ble_eq_true rfl⟩ ⟨Nat.le_refl _, Nat.le_refl _⟩ (zk_i ?_)
      rw [show upd (knowA f c v 16 k) (21 + k) (f (21 + k) ^^^ bt c) (45 + k) = f (45 + k) by rw [← r2]; simp only [upd]; rw [if_neg (by omega)]]
      refine zv_iload_n dX7_knows_100 rfl ?_
      refine zv_ixor dX7_knows_101 ?_
      refine zv_callV (m_lay l D B (k := 45 + k) hm hi (by omega)) ml_X7_87 in_X7_lay sel_X7_lay hm rfl rfl rfl rfl (Nat.le_of_ble_eq_true rfl) dX7_knows_102 ⟨Nat.le_of_ble_eq_true rfl, Nat.le_of_ble_eq_true rfl⟩ ⟨Nat.le_refl _, Nat.le_refl _⟩ (zk_v ?_)
      refine zv_iinc1 dX7_knows_105 rfl (by decide) rfl ?_
      refine zv_goto (tgt := 28) dX7_knows_108 (by decide) ?_
      rw [nI_1]
      refine zv_eqG ?_ (ih hlt)
      first
        | (rw [knowA_t1 hc (by omega) hzb]; done)
        | (rw [knowA_t2 hc (by omega) hzb]; done)
        | (rw [← knowA_t1 hc (by omega) hzb]; done)
        | (rw [← knowA_t2 hc (by omega) hzb]; done)

set_option maxRecDepth 100000 in
set_option maxHeartbeats 4000000 in
theorem m_X7_knows (l : Launch) (D : zD) (B : Nat) {L : zL} {nx : Nat} {G : zG} {m i : Nat} {g r : Nat → Int32} (hm : (m, 8) ∈ L) (hi : i < 3) {f : Nat → Int32} {t c : Nat} {v : Int32} (hc : c < 16) (ht : t ≤ 24) (h1 : f 1 = nI t) (hz : ∀ k, t ≤ k → k < 24 → zb (f (21 + k)) c = false) : zMet l D B yX7_knows cX7_knows 5 none 1 23 0 0 [.ref m, .int (nI i), .int (nI c), .int v] L nx (mS G m g r i (f)) (zE none L nx (mS G m g r i (knowP f c v))) := by
  refine zMet_of (own := RX7) (mn := "knows") [some (.ref m), some (.int (nI i)), some (.int (nI c)), some (.int v), none] (by decide +kernel) rfl rfl rfl (Nat.le_of_ble_eq_true rfl) ?_
  show zV l (fun _ => True) D B RX7 "knows" cX7_knows 5 none (zrm 1 23 0 0) (zN (zE none L nx (mS G m g r i (knowP f c v)))) 0 0 L nx 0 [some (.ref m), some (.int (nI i)), some (.int (nI c)), some (.int v), none] [] ((mS G m g r i (f)))
  refine zv_aload_n dX7_knows_0 rfl ?_
  refine zv_iload_n dX7_knows_1 rfl ?_
  refine zv_iconst (v := 0) dX7_knows_2 (by decide) ?_
  refine zv_aload_n dX7_knows_3 rfl ?_
  refine zv_iload_n dX7_knows_4 rfl ?_
  refine zv_iconst (v := 0) dX7_knows_5 (by decide) ?_
  refine zv_callV (m_its l D B (k := 0) hm hi (by omega)) ml_X7_48 in_X7_its sel_X7_its hm rfl rfl rfl rfl (Nat.le_of_ble_eq_true rfl) dX7_knows_6 ⟨Nat.le_of_ble_eq_true rfl, Nat.le_of_ble_eq_true rfl⟩ ⟨Nat.le_refl _, Nat.le_refl _⟩ (zk_i ?_)
  refine zv_iconst (v := 1) dX7_knows_9 (by decide) ?_
  refine zv_iload_n dX7_knows_10 rfl ?_
  refine zv_ishl dX7_knows_11 ?_
  refine zv_ior dX7_knows_12 ?_
  refine zv_callV (m_lay l D B (k := 0) hm hi (by omega)) ml_X7_87 in_X7_lay sel_X7_lay hm rfl rfl rfl rfl (Nat.le_of_ble_eq_true rfl) dX7_knows_13 ⟨Nat.le_of_ble_eq_true rfl, Nat.le_of_ble_eq_true rfl⟩ ⟨Nat.le_refl _, Nat.le_refl _⟩ (zk_v ?_)
  refine zv_aload_n dX7_knows_16 rfl ?_
  refine zv_iload_n dX7_knows_17 rfl ?_
  refine zv_iconst (v := 5) dX7_knows_18 (by decide) ?_
  refine zv_iload_n dX7_knows_19 rfl ?_
  refine zv_iadd dX7_knows_20 ?_
  rw [ix5]
  refine zv_iload_n dX7_knows_21 rfl ?_
  refine zv_callV (m_lay l D B (k := 5 + c) hm hi (by omega)) ml_X7_87 in_X7_lay sel_X7_lay hm rfl rfl rfl rfl (Nat.le_of_ble_eq_true rfl) dX7_knows_22 ⟨Nat.le_of_ble_eq_true rfl, Nat.le_of_ble_eq_true rfl⟩ ⟨Nat.le_refl _, Nat.le_refl _⟩ (zk_v ?_)
  refine zv_iconst (v := 0) dX7_knows_25 (by decide) ?_
  refine zv_istore dX7_knows_26 (by decide) rfl ?_
  refine zv_eqG ?_ (lp_X7_knows l D B hm hi hc ht h1 hz 0 (by omega))
  rw [← knowA_v hc]
  rfl
