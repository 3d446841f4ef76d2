set_option maxRecDepth 100000 in
set_option maxHeartbeats 4000000 in
theorem m_X3_signHere (l : Launch) (D : zD) (B : Nat) {L : zL} {nx : Nat} {G : zG} {p n i : Nat} {T : Nat → Nat} (hp : zPT L G p T n) (hi : G p 2 = nI i) (hin : i ≤ n) : zMet l D B yX3_signHere cX3_signHere 1 (some .char) 0 0 0 0 [.ref p] L nx G (zE (some (.int (nI (sg T n i)))) L nx (G)) := by
  refine zMet_of (own := RX3) (mn := "signHere") [some (.ref p)] (by decide +kernel) rfl rfl rfl (Nat.le_of_ble_eq_true rfl) ?_
  show zV l (fun _ => True) D B RX3 "signHere" cX3_signHere 1 (some .char) (zrm 0 0 0 0) (zN (zE (some (.int (nI (sg T n i)))) L nx (G))) 0 0 L nx 0 [some (.ref p)] [] (G)
  have hn80 := hp.2.1
  have hsl := sg_lt hp i
  refine zv_aload_n dX3_signHere_0 rfl ?_
  refine zv_getI hp.1 rfl fl_X3_19 rfl dX3_signHere_1 ?_
  rw [hi]
  refine zv_if_lt (tgt := 39) dX3_signHere_4 (by decide) (fun h => absurd h (nI_pos (by omega))) (fun _ => ?_)
  refine zv_aload_n dX3_signHere_7 rfl ?_
  refine zv_getI hp.1 rfl fl_X3_19 rfl dX3_signHere_8 ?_
  refine zv_aload_n dX3_signHere_11 rfl ?_
  refine zv_getI hp.1 rfl fl_X3_15 rfl dX3_signHere_12 ?_
  rw [hi, hp.2.2.1]
  refine zv_icmp_ge (tgt := 39) dX3_signHere_15 (by decide) (fun c15 => ?_) (fun c15 => ?_)
  · have k : ¬ i < n := by have := (nI_leI (by omega) (by omega)).mp c15; omega
    refine zv_iconst (v := 0) dX3_signHere_39 (by decide) ?_
    refine zv_iretE dX3_signHere_40 rfl (by first | rfl | exact (pk_charN (by have := (hp.2.2.2 i k).2; omega)).1) ?_ ?_
    · unfold sg
      first
        | rw [if_pos k]
        | (rw [if_neg k]; rfl)
    · rfl
  · have k : i < n := by
      rcases Nat.lt_or_ge i n with h | h
      · exact h
      · exact absurd (nI_le h (by omega)) c15
    refine zv_aload_n dX3_signHere_18 rfl ?_
    refine zv_getI hp.1 rfl fl_X3_19 rfl dX3_signHere_19 ?_
    refine zv_bipush (v := 80) dX3_signHere_22 (by decide) ?_
    rw [hi]
    refine zv_icmp_ge (tgt := 39) dX3_signHere_24 (by decide) (fun h => absurd h (nI_ge (b := 80) (by omega) (by decide))) (fun _ => ?_)
    refine zv_aload_n dX3_signHere_27 rfl ?_
    refine zv_getS (r := 1) hp.1 rfl fl_X3_9 rfl dX3_signHere_28 ?_
    refine zv_aload_n dX3_signHere_31 rfl ?_
    refine zv_getI hp.1 rfl fl_X3_19 rfl dX3_signHere_32 ?_
    rw [hi]
    refine zv_cald (i := 1) hp.1 rfl (zix_nI (i := i) (by omega) (by decide)) dX3_signHere_35 ?_
    rw [(hp.2.2.2 i k).1]
    refine zv_goto (tgt := 40) dX3_signHere_36 (by decide) ?_
    refine zv_iretE dX3_signHere_40 rfl (by first | rfl | exact (pk_charN (by have := (hp.2.2.2 i k).2; omega)).1) ?_ ?_
    · unfold sg
      first
        | rw [if_pos k]
        | (rw [if_neg k]; rfl)
    · rfl

set_option maxRecDepth 100000 in
set_option maxHeartbeats 4000000 in
theorem m_X3_digitHere (l : Launch) (D : zD) (B : Nat) {L : zL} {nx : Nat} {G : zG} {p n i : Nat} {T : Nat → Nat} (hp : zPT L G p T n) (hi : G p 2 = nI i) (hin : i ≤ n) : zMet l D B yX3_digitHere cX3_digitHere 2 (some .int) 1 20 0 0 [.ref p] L nx G (zE (some (.int (dgV T n i))) L nx (G)) := by
  refine zMet_of (own := RX3) (mn := "digitHere") [some (.ref p), none] (by decide +kernel) rfl rfl rfl (Nat.le_of_ble_eq_true rfl) ?_
  show zV l (fun _ => True) D B RX3 "digitHere" cX3_digitHere 2 (some .int) (zrm 1 20 0 0) (zN (zE (some (.int (dgV T n i))) L nx (G))) 0 0 L nx 0 [some (.ref p), none] [] (G)
  have hn80 := hp.2.1
  have hsl := sg_lt hp i
  refine zv_aload_n dX3_digitHere_0 rfl ?_
  refine zv_callV (m_X3_signHere l D B hp hi hin) ml_X3_33 in_X3_signHere sel_X3_signHere hp.1 rfl rfl rfl rfl (Nat.le_of_ble_eq_true rfl) dX3_digitHere_1 ⟨Nat.le_of_ble_eq_true rfl, Nat.le_of_ble_eq_true rfl⟩ ⟨Nat.le_refl _, Nat.le_refl _⟩ (zk_i ?_)
  refine zv_istore_n dX3_digitHere_4 (by decide) rfl ?_
  refine zv_iload_n dX3_digitHere_5 rfl ?_
  refine zv_bipush (v := 48) dX3_digitHere_6 (by decide) ?_
  refine zv_icmp_lt (tgt := 24) dX3_digitHere_8 (by decide) (fun c8 => ?_) (fun c8 => ?_)
  · have k : zdg T n i = false := by
      have := (nI_ltI (b := 48) (by omega) (by decide)).mp c8
      simp [zdg]; omega
    refine zv_bipush (v := (-6)) dX3_digitHere_24 (by decide) ?_
    refine zv_iretE dX3_digitHere_26 rfl (rfl) ?_ ?_
    · unfold dgV
      rw [k]
      first
        | rfl
        | (simp only [if_true]; rw [show (48 : Int32) = nI 48 from rfl, pk_sub k8])
    · rfl
  · have k8 : 48 ≤ sg T n i := by
      rcases Nat.lt_or_ge (sg T n i) 48 with h | h
      · exact absurd (nI_lt h (by decide)) c8
      · exact h
    refine zv_iload_n dX3_digitHere_11 rfl ?_
    refine zv_bipush (v := 57) dX3_digitHere_12 (by decide) ?_
    refine zv_icmp_gt (tgt := 24) dX3_digitHere_14 (by decide) (fun c14 => ?_) (fun c14 => ?_)
    · have k : zdg T n i = false := by
        have := (nI_ltI (a := 57) (by decide) (by omega)).mp c14
        simp [zdg]; omega
      refine zv_bipush (v := (-6)) dX3_digitHere_24 (by decide) ?_
      refine zv_iretE dX3_digitHere_26 rfl (rfl) ?_ ?_
      · unfold dgV
        rw [k]
        first
          | rfl
          | (simp only [if_true]; rw [show (48 : Int32) = nI 48 from rfl, pk_sub k8])
      · rfl
    · have k14 : sg T n i ≤ 57 := by
        rcases Nat.lt_or_ge 57 (sg T n i) with h | h
        · exact absurd (nI_lt h (by omega)) c14
        · exact h
      have k : zdg T n i = true := by simp [zdg]; omega
      refine zv_iload_n dX3_digitHere_17 rfl ?_
      refine zv_bipush (v := 48) dX3_digitHere_18 (by decide) ?_
      refine zv_isub dX3_digitHere_20 ?_
      refine zv_goto (tgt := 26) dX3_digitHere_21 (by decide) ?_
      refine zv_iretE dX3_digitHere_26 rfl (rfl) ?_ ?_
      · unfold dgV
        rw [k]
        first
          | rfl
          | (simp only [if_true]; rw [show (48 : Int32) = nI 48 from rfl, pk_sub k8])
      · rfl

set_option maxRecDepth 100000 in
set_option maxHeartbeats 4000000 in
theorem m_X3_skip (l : Launch) (D : zD) (B : Nat) {L : zL} {nx : Nat} {G : zG} {p n i : Nat} {T : Nat → Nat} (hp : zPT L G p T n) (hi : G p 2 = nI i) (hin : i ≤ n) {w : Nat} {x : Int32} (hx : x = nI w) (hw : w < 128) (hs : sg T n i = w) : zMet l D B yX3_skip cX3_skip 2 (some .boolean) 1 20 0 0 [.ref p, .int x] L nx G (zE (some (.int 1)) L nx (zst G p (upd (G p) 2 (nI (i + 1))))) := by
  refine zMet_of (own := RX3) (mn := "skip") [some (.ref p), some (.int x)] (by decide +kernel) rfl rfl rfl (Nat.le_of_ble_eq_true rfl) ?_
  show zV l (fun _ => True) D B RX3 "skip" cX3_skip 2 (some .boolean) (zrm 1 20 0 0) (zN (zE (some (.int 1)) L nx (zst G p (upd (G p) 2 (nI (i + 1)))))) 0 0 L nx 0 [some (.ref p), some (.int x)] [] (G)
  subst hx
  refine zv_aload_n dX3_skip_0 rfl ?_
  refine zv_callV (m_X3_signHere l D B hp hi hin) ml_X3_33 in_X3_signHere sel_X3_signHere hp.1 rfl rfl rfl rfl (Nat.le_of_ble_eq_true rfl) dX3_skip_1 ⟨Nat.le_of_ble_eq_true rfl, Nat.le_of_ble_eq_true rfl⟩ ⟨Nat.le_refl _, Nat.le_refl _⟩ (zk_i ?_)
  refine zv_iload_n dX3_skip_4 rfl ?_
  refine zv_icmp_eq (tgt := 10) dX3_skip_5 (by decide) (fun _ => ?_) (fun h => absurd (by rw [hs]) h)
  refine zv_aload_n dX3_skip_10 rfl ?_
  refine zv_dup dX3_skip_11 rfl ?_
  refine zv_getI hp.1 rfl fl_X3_19 rfl dX3_skip_12 ?_
  refine zv_iconst (v := 1) dX3_skip_15 (by decide) ?_
  refine zv_iadd dX3_skip_16 ?_
  rw [hi, nI_1]
  refine zv_putI (t := 7) hp.1 rfl fl_X3_19 ft_X3_2 rfl dX3_skip_17 ?_
  refine zv_iconst (v := 1) dX3_skip_20 (by decide) ?_
  refine zv_iretE dX3_skip_21 rfl (by first | rfl | exact bI_nar _) ?_ ?_
  · rfl
  · rfl

set_option maxRecDepth 100000 in
set_option maxHeartbeats 4000000 in
theorem m_X3_skip_n (l : Launch) (D : zD) (B : Nat) {L : zL} {nx : Nat} {G : zG} {p n i : Nat} {T : Nat → Nat} (hp : zPT L G p T n) (hi : G p 2 = nI i) (hin : i ≤ n) {w : Nat} {x : Int32} (hx : x = nI w) (hw : w < 128) (hs : ¬ sg T n i = w) : zMet l D B yX3_skip cX3_skip 2 (some .boolean) 1 20 0 0 [.ref p, .int x] L nx G (zE (some (.int 0)) L nx (G)) := by
  refine zMet_of (own := RX3) (mn := "skip") [some (.ref p), some (.int x)] (by decide +kernel) rfl rfl rfl (Nat.le_of_ble_eq_true rfl) ?_
  show zV l (fun _ => True) D B RX3 "skip" cX3_skip 2 (some .boolean) (zrm 1 20 0 0) (zN (zE (some (.int 0)) L nx (G))) 0 0 L nx 0 [some (.ref p), some (.int x)] [] (G)
  subst hx
  refine zv_aload_n dX3_skip_0 rfl ?_
  refine zv_callV (m_X3_signHere l D B hp hi hin) ml_X3_33 in_X3_signHere sel_X3_signHere hp.1 rfl rfl rfl rfl (Nat.le_of_ble_eq_true rfl) dX3_skip_1 ⟨Nat.le_of_ble_eq_true rfl, Nat.le_of_ble_eq_true rfl⟩ ⟨Nat.le_refl _, Nat.le_refl _⟩ (zk_i ?_)
  refine zv_iload_n dX3_skip_4 rfl ?_
  refine zv_icmp_eq (tgt := 10) dX3_skip_5 (by decide) (fun h => absurd h (fun e => hs ((nI_eq (by have := sg_lt hp i; omega) (by omega)).mp e))) (fun _ => ?_)
  refine zv_iconst (v := 0) dX3_skip_8 (by decide) ?_
  refine zv_iretE dX3_skip_9 rfl (by first | rfl | exact bI_nar _) ?_ ?_
  · rfl
  · rfl

set_option maxRecDepth 100000 in
set_option maxHeartbeats 4000000 in
theorem m_X3_readCup (l : Launch) (D : zD) (B : Nat) {L : zL} {nx : Nat} {G : zG} {p n i : Nat} {T : Nat → Nat} (hp : zPT L G p T n) (hi : G p 2 = nI i) (hin : i ≤ n) (hz : zdg T n i = true) : zMet l D B yX3_readCup cX3_readCup 1 (some .boolean) 2 41 0 0 [.ref p] L nx G (zE (some (.int 1)) L nx (zst G p (upd (upd (G p) 4 (nI (sg T n i - 48))) 2 (nI (i + 1))))) := by
  refine zMet_of (own := RX3) (mn := "readCup") [some (.ref p)] (by decide +kernel) rfl rfl rfl (Nat.le_of_ble_eq_true rfl) ?_
  show zV l (fun _ => True) D B RX3 "readCup" cX3_readCup 1 (some .boolean) (zrm 2 41 0 0) (zN (zE (some (.int 1)) L nx (zst G p (upd (upd (G p) 4 (nI (sg T n i - 48))) 2 (nI (i + 1)))))) 0 0 L nx 0 [some (.ref p)] [] (G)
  refine zv_aload_n dX3_readCup_0 rfl ?_
  refine zv_aload_n dX3_readCup_1 rfl ?_
  refine zv_callV (m_X3_digitHere l D B hp hi hin) ml_X3_50 in_X3_digitHere sel_X3_digitHere hp.1 rfl rfl rfl rfl (Nat.le_of_ble_eq_true rfl) dX3_readCup_2 ⟨Nat.le_of_ble_eq_true rfl, Nat.le_of_ble_eq_true rfl⟩ ⟨Nat.le_refl _, Nat.le_refl _⟩ (zk_i ?_)
  rw [show dgV T n i = nI (sg T n i - 48) by unfold dgV; rw [hz]; simp]
  refine zv_putI (t := 7) hp.1 rfl fl_X3_54 ft_X3_4 rfl dX3_readCup_5 ?_
  refine zv_aload_n dX3_readCup_8 rfl ?_
  refine zv_getI hp.1 rfl fl_X3_54 rfl dX3_readCup_9 ?_
  rw [zst_same, show upd (G p) 4 (nI (sg T n i - 48)) 4 = nI (sg T n i - 48) from rfl]
  refine zv_if_ge (tgt := 17) dX3_readCup_12 (by decide) (fun _ => ?_) (fun h => absurd (nI_pos' (by have := sg_lt hp i; omega)) h)
  refine zv_aload_n dX3_readCup_17 rfl ?_
  refine zv_dup dX3_readCup_18 rfl ?_
  refine zv_getI hp.1 rfl fl_X3_19 rfl dX3_readCup_19 ?_
  refine zv_iconst (v := 1) dX3_readCup_22 (by decide) ?_
  refine zv_iadd dX3_readCup_23 ?_
  rw [zst_same, show upd (G p) 4 (nI (sg T n i - 48)) 2 = nI i from hi, nI_1]
  refine zv_putI (t := 7) hp.1 rfl fl_X3_19 ft_X3_2 rfl dX3_readCup_24 ?_
  refine zv_iconst (v := 1) dX3_readCup_27 (by decide) ?_
  refine zv_iretE dX3_readCup_28 rfl (by first | rfl | exact bI_nar _) ?_ ?_
  · rfl
  · simp only [zst_same, zst_zst]

set_option maxRecDepth 100000 in
set_option maxHeartbeats 4000000 in
theorem m_X3_readCup_n (l : Launch) (D : zD) (B : Nat) {L : zL} {nx : Nat} {G : zG} {p n i : Nat} {T : Nat → Nat} (hp : zPT L G p T n) (hi : G p 2 = nI i) (hin : i ≤ n) (hz : zdg T n i = false) : zMet l D B yX3_readCup cX3_readCup 1 (some .boolean) 2 41 0 0 [.ref p] L nx G (zE (some (.int 0)) L nx (zst G p (upd (G p) 4 (-6)))) := by
  refine zMet_of (own := RX3) (mn := "readCup") [some (.ref p)] (by decide +kernel) rfl rfl rfl (Nat.le_of_ble_eq_true rfl) ?_
  show zV l (fun _ => True) D B RX3 "readCup" cX3_readCup 1 (some .boolean) (zrm 2 41 0 0) (zN (zE (some (.int 0)) L nx (zst G p (upd (G p) 4 (-6))))) 0 0 L nx 0 [some (.ref p)] [] (G)
  refine zv_aload_n dX3_readCup_0 rfl ?_
  refine zv_aload_n dX3_readCup_1 rfl ?_
  refine zv_callV (m_X3_digitHere l D B hp hi hin) ml_X3_50 in_X3_digitHere sel_X3_digitHere hp.1 rfl rfl rfl rfl (Nat.le_of_ble_eq_true rfl) dX3_readCup_2 ⟨Nat.le_of_ble_eq_true rfl, Nat.le_of_ble_eq_true rfl⟩ ⟨Nat.le_refl _, Nat.le_refl _⟩ (zk_i ?_)
  rw [show dgV T n i = -6 by unfold dgV; rw [hz]; simp]
  refine zv_putI (t := 7) hp.1 rfl fl_X3_54 ft_X3_4 rfl dX3_readCup_5 ?_
  refine zv_aload_n dX3_readCup_8 rfl ?_
  refine zv_getI hp.1 rfl fl_X3_54 rfl dX3_readCup_9 ?_
  rw [zst_same, show upd (G p) 4 (-6) 4 = -6 from rfl]
  refine zv_if_ge (tgt := 17) dX3_readCup_12 (by decide) (fun h => absurd h (by decide)) (fun _ => ?_)
  refine zv_iconst (v := 0) dX3_readCup_15 (by decide) ?_
  refine zv_iretE dX3_readCup_16 rfl (by first | rfl | exact bI_nar _) ?_ ?_
  · rfl
  · rfl

theorem upd_2 {f : Nat → Int32} {a b : Int32} {i : Nat} : upd (upd f i a) i b = upd f i b := by
  funext y
  simp only [upd]
  by_cases h1 : y = i <;> simp [h1]
theorem tk_add {v k : Nat} : nI v * 10 + nI k = nI (10 * v + k) := by
  rw [show (10 : Int32) = nI 10 from rfl, pk_mul, nI_add, Nat.mul_comm v 10]
theorem tk_mx {v : Nat} (h : v < 2 ^ 31) : (if nI v < 0 then (0 : Int32) else nI v) = nI v := if_neg (nI_pos h)
theorem tk_m6 : (if (-6 : Int32) < 0 then (0 : Int32) else -6) = nI 0 := by decide
theorem rdN_79 {T : Nat → Nat} {n i : Nat} (hn : n ≤ 80) : numL T n (sg T n i - 48) (i + 1) (80 - 1) = rdN T n i :=
  (numL_more (T := T) (n := n) (k := 79) (v := sg T n i - 48) (q := i + 1) (by omega) 1).symm

set_option maxRecDepth 100000 in
set_option maxHeartbeats 4000000 in
theorem lp_X3_takeNumber (l : Launch) (D : zD) (B : Nat) {L : zL} {nx : Nat} {G : zG} {p n : Nat} {T : Nat → Nat} {t : Nat × Nat} (hp : zPT L G p T n) : ∀ j : Nat, j ≤ 80 → ∀ (v q : Nat) (a b : Option Value), v ≤ 65535 → q ≤ n → numL T n v q (80 - j) = t → zV l (fun _ => True) D B RX3 "takeNumber" cX3_takeNumber 5 (some .int) (zrm 2 41 0 0) (zN (zE (some (.int (nI t.1))) L nx (zst G p (upd (G p) 2 (nI t.2))))) 0 0 L nx 5 [some (.ref p), some (.int (nI v)), some (.int (nI j)), a, b] [] (zst G p (upd (G p) 2 (nI q))) := by
  refine zloop 80 (fun j hj ih v q a b hv hq ht => ?_)
  have hn80 := hp.2.1
  have hp2 : zPT L (zst G p (upd (G p) 2 (nI q))) p T n := zPT_upd hp rfl (fun j h => by simp only [upd]; rw [if_neg (by omega)])
  have g2 : (zst G p (upd (G p) 2 (nI q))) p 2 = nI q := by rw [zst_same]; rfl
  have hsl := sg_lt hp q
  refine zv_iload_n dX3_takeNumber_5 rfl ?_
  refine zv_bipush (v := 80) dX3_takeNumber_6 (by decide) ?_
  refine zv_icmp_ge (tgt := 65) dX3_takeNumber_8 (by decide) (fun c8 => ?_) (fun c8 => ?_)
  · have e : j = 80 := by have := zge_of (N := 80) (by decide) (by omega) rfl c8; omega
    subst e
    have hfin : (v, q) = t := ht
    refine zv_iload_n dX3_takeNumber_65 rfl ?_
    refine zv_iretE dX3_takeNumber_66 rfl (rfl) ?_ ?_
    · rw [← hfin]
    · rw [← hfin]
  · have hlt : j < 80 := zlt_of (N := 80) (by decide) (by omega) rfl c8
    refine zv_iload_n dX3_takeNumber_11 rfl ?_
    refine zv_if_eq (tgt := 65) dX3_takeNumber_12 (by decide) (fun c12 => ?_) (fun c12 => ?_)
    · have hv0 : v = 0 := (nI_eq (b := 0) (by omega) (by decide)).mp c12
      have hfin : (v, q) = t := by
        rw [← ht, show 80 - j = (79 - j) + 1 by omega]
        unfold numL
        rw [if_neg (by omega)]
      refine zv_iload_n dX3_takeNumber_65 rfl ?_
      refine zv_iretE dX3_takeNumber_66 rfl (rfl) ?_ ?_
      · rw [← hfin]
      · rw [← hfin]
    · have hv0 : 0 < v := by
        rcases Nat.eq_zero_or_pos v with h | h
        · exact absurd (by rw [h]; decide) c12
        · exact h
      refine zv_aload_n dX3_takeNumber_15 rfl ?_
      refine zv_callV (m_X3_digitHere l D B hp2 g2 hq) ml_X3_50 in_X3_digitHere sel_X3_digitHere hp.1 rfl rfl rfl rfl (Nat.le_of_ble_eq_true rfl) dX3_takeNumber_16 ⟨Nat.le_of_ble_eq_true rfl, Nat.le_of_ble_eq_true rfl⟩ ⟨Nat.le_refl _, Nat.le_refl _⟩ (zk_i ?_)
      cases hz : zdg T n q
      · rw [show dgV T n q = -6 by unfold dgV; rw [hz]; simp]
        have hfin : (v, q) = t := by
          rw [← ht, show 80 - j = (79 - j) + 1 by omega]
          unfold numL
          rw [if_neg (by rw [hz]; simp)]
        refine zv_istore_n dX3_takeNumber_19 (by decide) rfl ?_
        refine zv_iload_n dX3_takeNumber_20 rfl ?_
        refine zv_iconst (v := 0) dX3_takeNumber_21 (by decide) ?_
        refine zv_callS (m_J9_max_7cf53 l D B _ _) ml_X3_66 st_J9_max_7cf53 rfl rfl (Nat.le_of_ble_eq_true rfl) dX3_takeNumber_22 ⟨Nat.le_of_ble_eq_true rfl, Nat.le_of_ble_eq_true rfl⟩ ⟨Nat.le_refl _, Nat.le_refl _⟩ (zk_i ?_)
        rw [tk_mx (v := v) (by omega)]
        refine zv_bipush (v := 10) dX3_takeNumber_25 (by decide) ?_
        refine zv_imul dX3_takeNumber_27 ?_
        refine zv_iload_n dX3_takeNumber_28 rfl ?_
        refine zv_iadd dX3_takeNumber_29 ?_
        refine zv_istore dX3_takeNumber_30 (by decide) rfl ?_
        refine zv_iload_n dX3_takeNumber_32 rfl ?_
        refine zv_if_lt (tgt := 65) dX3_takeNumber_33 (by decide) (fun _ => ?_) (fun h => absurd (by decide) h)
        refine zv_iload_n dX3_takeNumber_65 rfl ?_
        refine zv_iretE dX3_takeNumber_66 rfl (rfl) ?_ ?_
        · rw [← hfin]
        · rw [← hfin]
      · rw [show dgV T n q = nI (sg T n q - 48) by unfold dgV; rw [hz]; simp]
        obtain ⟨z1, z2, z3⟩ := zdg_lt hz
        refine zv_istore_n dX3_takeNumber_19 (by decide) rfl ?_
        refine zv_iload_n dX3_takeNumber_20 rfl ?_
        refine zv_iconst (v := 0) dX3_takeNumber_21 (by decide) ?_
        refine zv_callS (m_J9_max_7cf53 l D B _ _) ml_X3_66 st_J9_max_7cf53 rfl rfl (Nat.le_of_ble_eq_true rfl) dX3_takeNumber_22 ⟨Nat.le_of_ble_eq_true rfl, Nat.le_of_ble_eq_true rfl⟩ ⟨Nat.le_refl _, Nat.le_refl _⟩ (zk_i ?_)
        rw [tk_mx (v := v) (by omega)]
        refine zv_bipush (v := 10) dX3_takeNumber_25 (by decide) ?_
        refine zv_imul dX3_takeNumber_27 ?_
        refine zv_iload_n dX3_takeNumber_28 rfl ?_
        refine zv_iadd dX3_takeNumber_29 ?_
        rw [tk_add]
        refine zv_istore dX3_takeNumber_30 (by decide) rfl ?_
        refine zv_iload_n dX3_takeNumber_32 rfl ?_
        refine zv_if_lt (tgt := 65) dX3_takeNumber_33 (by decide) (fun h => absurd h (nI_pos (by omega))) (fun _ => ?_)
        refine zv_iload dX3_takeNumber_36 rfl ?_
        refine zv_ldc dX3_takeNumber_38 kc_X3_72 ?_
        refine zv_icmp_le (tgt := 46) dX3_takeNumber_40 (by decide) (fun c40 => ?_) (fun c40 => ?_)
        · have k61 : 10 * v + (sg T n q - 48) ≤ 65535 := (nI_leI (b := 65535) (by omega) (by decide)).mp c40
          have hnx : numL T n (10 * v + (sg T n q - 48)) (q + 1) (80 - (j + 1)) = t := by
            rw [← ht, show 80 - j = (80 - (j + 1)) + 1 by omega]
            conv => rhs; unfold numL
            rw [if_pos ⟨hv0, hz, k61⟩]
          refine zv_iload dX3_takeNumber_46 rfl ?_
          refine zv_istore_n dX3_takeNumber_48 (by decide) rfl ?_
          refine zv_aload_n dX3_takeNumber_49 rfl ?_
          refine zv_dup dX3_takeNumber_50 rfl ?_
          refine zv_getI hp.1 rfl fl_X3_19 rfl dX3_takeNumber_51 ?_
          refine zv_iconst (v := 1) dX3_takeNumber_54 (by decide) ?_
          refine zv_iadd dX3_takeNumber_55 ?_
          rw [zst_same, show upd (G p) 2 (nI q) 2 = nI q from rfl, nI_1]
          refine zv_putI (t := 7) hp.1 rfl fl_X3_19 ft_X3_2 rfl dX3_takeNumber_56 ?_
          refine zv_iinc1 dX3_takeNumber_59 rfl (by decide) rfl ?_
          refine zv_goto (tgt := 5) dX3_takeNumber_62 (by decide) ?_
          rw [nI_1]
          refine zv_eqG ?_ (ih hlt (10 * v + (sg T n q - 48)) (q + 1) _ _ k61 (by omega) hnx)
          simp only [zst_same, zst_zst, upd_2]
        · have k61 : ¬ 10 * v + (sg T n q - 48) ≤ 65535 := fun h => c40 (nI_le h (by decide))
          have hfin : (v, q) = t := by
            rw [← ht, show 80 - j = (79 - j) + 1 by omega]
            unfold numL
            rw [if_neg (fun h => k61 h.2.2)]
          refine zv_goto (tgt := 65) dX3_takeNumber_43 (by decide) ?_
          refine zv_iload_n dX3_takeNumber_65 rfl ?_
          refine zv_iretE dX3_takeNumber_66 rfl (rfl) ?_ ?_
          · rw [← hfin]
          · rw [← hfin]

set_option maxRecDepth 100000 in
set_option maxHeartbeats 4000000 in
theorem m_X3_takeNumber (l : Launch) (D : zD) (B : Nat) {L : zL} {nx : Nat} {G : zG} {p n i : Nat} {T : Nat → Nat} (hp : zPT L G p T n) (hi : G p 2 = nI i) (hin : i ≤ n) (hz : zdg T n i = true) : zMet l D B yX3_takeNumber cX3_takeNumber 5 (some .int) 2 41 0 0 [.ref p] L nx G (zE (some (.int (nI (rdN T n i).1))) L nx (zst G p (upd (G p) 2 (nI (rdN T n i).2)))) := by
  refine zMet_of (own := RX3) (mn := "takeNumber") [some (.ref p), none, none, none, none] (by decide +kernel) rfl rfl rfl (Nat.le_of_ble_eq_true rfl) ?_
  show zV l (fun _ => True) D B RX3 "takeNumber" cX3_takeNumber 5 (some .int) (zrm 2 41 0 0) (zN (zE (some (.int (nI (rdN T n i).1))) L nx (zst G p (upd (G p) 2 (nI (rdN T n i).2))))) 0 0 L nx 0 [some (.ref p), none, none, none, none] [] (G)
  refine zv_bipush (v := (-6)) dX3_takeNumber_0 (by decide) ?_
  refine zv_istore_n dX3_takeNumber_2 (by decide) rfl ?_
  refine zv_iconst (v := 0) dX3_takeNumber_3 (by decide) ?_
  refine zv_istore_n dX3_takeNumber_4 (by decide) rfl ?_
  refine zv_iload_n dX3_takeNumber_5 rfl ?_
  refine zv_bipush (v := 80) dX3_takeNumber_6 (by decide) ?_
  refine zv_icmp_ge (tgt := 65) dX3_takeNumber_8 (by decide) (fun h => absurd h (by decide)) (fun _ => ?_)
  refine zv_iload_n dX3_takeNumber_11 rfl ?_
  refine zv_if_eq (tgt := 65) dX3_takeNumber_12 (by decide) (fun h => absurd h (by decide)) (fun _ => ?_)
  refine zv_aload_n dX3_takeNumber_15 rfl ?_
  refine zv_callV (m_X3_digitHere l D B hp hi hin) ml_X3_50 in_X3_digitHere sel_X3_digitHere hp.1 rfl rfl rfl rfl (Nat.le_of_ble_eq_true rfl) dX3_takeNumber_16 ⟨Nat.le_of_ble_eq_true rfl, Nat.le_of_ble_eq_true rfl⟩ ⟨Nat.le_refl _, Nat.le_refl _⟩ (zk_i ?_)
  rw [show dgV T n i = nI (sg T n i - 48) by unfold dgV; rw [hz]; simp]
  obtain ⟨z1, z2, z3⟩ := zdg_lt hz
  have hsl := sg_lt hp i
  refine zv_istore_n dX3_takeNumber_19 (by decide) rfl ?_
  refine zv_iload_n dX3_takeNumber_20 rfl ?_
  refine zv_iconst (v := 0) dX3_takeNumber_21 (by decide) ?_
  refine zv_callS (m_J9_max_7cf53 l D B _ _) ml_X3_66 st_J9_max_7cf53 rfl rfl (Nat.le_of_ble_eq_true rfl) dX3_takeNumber_22 ⟨Nat.le_of_ble_eq_true rfl, Nat.le_of_ble_eq_true rfl⟩ ⟨Nat.le_refl _, Nat.le_refl _⟩ (zk_i ?_)
  rw [tk_m6]
  refine zv_bipush (v := 10) dX3_takeNumber_25 (by decide) ?_
  refine zv_imul dX3_takeNumber_27 ?_
  refine zv_iload_n dX3_takeNumber_28 rfl ?_
  refine zv_iadd dX3_takeNumber_29 ?_
  rw [tk_add]
  refine zv_istore dX3_takeNumber_30 (by decide) rfl ?_
  refine zv_iload_n dX3_takeNumber_32 rfl ?_
  refine zv_if_lt (tgt := 65) dX3_takeNumber_33 (by decide) (fun h => absurd h (nI_pos (by omega))) (fun _ => ?_)
  refine zv_iload dX3_takeNumber_36 rfl ?_
  refine zv_ldc dX3_takeNumber_38 kc_X3_72 ?_
  refine zv_icmp_le (tgt := 46) dX3_takeNumber_40 (by decide) (fun _ => ?_) (fun h => absurd (nI_le (b := 65535) (by omega) (by decide)) h)
  refine zv_iload dX3_takeNumber_46 rfl ?_
  refine zv_istore_n dX3_takeNumber_48 (by decide) rfl ?_
  refine zv_aload_n dX3_takeNumber_49 rfl ?_
  refine zv_dup dX3_takeNumber_50 rfl ?_
  refine zv_getI hp.1 rfl fl_X3_19 rfl dX3_takeNumber_51 ?_
  refine zv_iconst (v := 1) dX3_takeNumber_54 (by decide) ?_
  refine zv_iadd dX3_takeNumber_55 ?_
  rw [hi, nI_1]
  refine zv_putI (t := 7) hp.1 rfl fl_X3_19 ft_X3_2 rfl dX3_takeNumber_56 ?_
  refine zv_iinc1 dX3_takeNumber_59 rfl (by decide) rfl ?_
  refine zv_goto (tgt := 5) dX3_takeNumber_62 (by decide) ?_
  rw [show (10 * 0 + (sg T n i - 48)) = sg T n i - 48 by omega, show (0 : Int32) + 1 = nI 1 from rfl]
  exact lp_X3_takeNumber l D B (t := rdN T n i) hp 1 (by omega) (sg T n i - 48) (i + 1) _ _ (by omega) (by omega) (rdN_79 hp.2.1)

set_option maxRecDepth 100000 in
set_option maxHeartbeats 4000000 in
theorem m_X3_takeNumber_n (l : Launch) (D : zD) (B : Nat) {L : zL} {nx : Nat} {G : zG} {p n i : Nat} {T : Nat → Nat} (hp : zPT L G p T n) (hi : G p 2 = nI i) (hin : i ≤ n) (hz : zdg T n i = false) : zMet l D B yX3_takeNumber cX3_takeNumber 5 (some .int) 2 41 0 0 [.ref p] L nx G (zE (some (.int (-6))) L nx (G)) := by
  refine zMet_of (own := RX3) (mn := "takeNumber") [some (.ref p), none, none, none, none] (by decide +kernel) rfl rfl rfl (Nat.le_of_ble_eq_true rfl) ?_
  show zV l (fun _ => True) D B RX3 "takeNumber" cX3_takeNumber 5 (some .int) (zrm 2 41 0 0) (zN (zE (some (.int (-6))) L nx (G))) 0 0 L nx 0 [some (.ref p), none, none, none, none] [] (G)
  refine zv_bipush (v := (-6)) dX3_takeNumber_0 (by decide) ?_
  refine zv_istore_n dX3_takeNumber_2 (by decide) rfl ?_
  refine zv_iconst (v := 0) dX3_takeNumber_3 (by decide) ?_
  refine zv_istore_n dX3_takeNumber_4 (by decide) rfl ?_
  refine zv_iload_n dX3_takeNumber_5 rfl ?_
  refine zv_bipush (v := 80) dX3_takeNumber_6 (by decide) ?_
  refine zv_icmp_ge (tgt := 65) dX3_takeNumber_8 (by decide) (fun h => absurd h (by decide)) (fun _ => ?_)
  refine zv_iload_n dX3_takeNumber_11 rfl ?_
  refine zv_if_eq (tgt := 65) dX3_takeNumber_12 (by decide) (fun h => absurd h (by decide)) (fun _ => ?_)
  refine zv_aload_n dX3_takeNumber_15 rfl ?_
  refine zv_callV (m_X3_digitHere l D B hp hi hin) ml_X3_50 in_X3_digitHere sel_X3_digitHere hp.1 rfl rfl rfl rfl (Nat.le_of_ble_eq_true rfl) dX3_takeNumber_16 ⟨Nat.le_of_ble_eq_true rfl, Nat.le_of_ble_eq_true rfl⟩ ⟨Nat.le_refl _, Nat.le_refl _⟩ (zk_i ?_)
  rw [show dgV T n i = -6 by unfold dgV; rw [hz]; simp]
  refine zv_istore_n dX3_takeNumber_19 (by decide) rfl ?_
  refine zv_iload_n dX3_takeNumber_20 rfl ?_
  refine zv_iconst (v := 0) dX3_takeNumber_21 (by decide) ?_
  refine zv_callS (m_J9_max_7cf53 l D B _ _) ml_X3_66 st_J9_max_7cf53 rfl rfl (Nat.le_of_ble_eq_true rfl) dX3_takeNumber_22 ⟨Nat.le_of_ble_eq_true rfl, Nat.le_of_ble_eq_true rfl⟩ ⟨Nat.le_refl _, Nat.le_refl _⟩ (zk_i ?_)
  refine zv_bipush (v := 10) dX3_takeNumber_25 (by decide) ?_
  refine zv_imul dX3_takeNumber_27 ?_
  refine zv_iload_n dX3_takeNumber_28 rfl ?_
  refine zv_iadd dX3_takeNumber_29 ?_
  refine zv_istore dX3_takeNumber_30 (by decide) rfl ?_
  refine zv_iload_n dX3_takeNumber_32 rfl ?_
  refine zv_if_lt (tgt := 65) dX3_takeNumber_33 (by decide) (fun _ => ?_) (fun h => absurd (by decide) h)
  refine zv_iload_n dX3_takeNumber_65 rfl ?_
  refine zv_iretE dX3_takeNumber_66 rfl (rfl) ?_ ?_
  · rfl
  · rfl

set_option maxRecDepth 100000 in
set_option maxHeartbeats 4000000 in
theorem m_X3_readNumber_n (l : Launch) (D : zD) (B : Nat) {L : zL} {nx : Nat} {G : zG} {p n i : Nat} {T : Nat → Nat} (hp : zPT L G p T n) (hi : G p 2 = nI i) (hin : i ≤ n) (hz : zdg T n i = false) : zMet l D B yX3_readNumber cX3_readNumber 1 (some .boolean) 3 65 0 0 [.ref p] L nx G (zE (some (.int 0)) L nx (zst G p (upd (G p) 5 (-6)))) := by
  refine zMet_of (own := RX3) (mn := "readNumber") [some (.ref p)] (by decide +kernel) rfl rfl rfl (Nat.le_of_ble_eq_true rfl) ?_
  show zV l (fun _ => True) D B RX3 "readNumber" cX3_readNumber 1 (some .boolean) (zrm 3 65 0 0) (zN (zE (some (.int 0)) L nx (zst G p (upd (G p) 5 (-6))))) 0 0 L nx 0 [some (.ref p)] [] (G)
  refine zv_aload_n dX3_readNumber_0 rfl ?_
  refine zv_aload_n dX3_readNumber_1 rfl ?_
  refine zv_callV (m_X3_takeNumber_n l D B hp hi hin hz) ml_X3_57 in_X3_takeNumber sel_X3_takeNumber hp.1 rfl rfl rfl rfl (Nat.le_of_ble_eq_true rfl) dX3_readNumber_2 ⟨Nat.le_of_ble_eq_true rfl, Nat.le_of_ble_eq_true rfl⟩ ⟨Nat.le_refl _, Nat.le_refl _⟩ (zk_i ?_)
  refine zv_putI (t := 7) hp.1 rfl fl_X3_60 ft_X3_5 rfl dX3_readNumber_5 ?_
  refine zv_aload_n dX3_readNumber_8 rfl ?_
  refine zv_getI hp.1 rfl fl_X3_60 rfl dX3_readNumber_9 ?_
  rw [zst_same, show upd (G p) 5 (-6) 5 = -6 from rfl]
  refine zv_if_lt (tgt := 19) dX3_readNumber_12 (by decide) (fun _ => ?_) (fun h => absurd (by decide) h)
  refine zv_iconst (v := 0) dX3_readNumber_19 (by decide) ?_
  refine zv_iretE dX3_readNumber_20 rfl (by first | rfl | exact bI_nar _) ?_ ?_
  · rfl
  · rfl

set_option maxRecDepth 100000 in
set_option maxHeartbeats 4000000 in
theorem m_X3_readNumber (l : Launch) (D : zD) (B : Nat) {L : zL} {nx : Nat} {G : zG} {p n i : Nat} {T : Nat → Nat} (hp : zPT L G p T n) (hi : G p 2 = nI i) (hin : i ≤ n) (hz : zdg T n i = true) : zMet l D B yX3_readNumber cX3_readNumber 1 (some .boolean) 3 65 0 0 [.ref p] L nx G (zE (some (.int 1)) L nx (zst G p (upd (upd (G p) 2 (nI (rdN T n i).2)) 5 (nI (rdN T n i).1)))) := by
  refine zMet_of (own := RX3) (mn := "readNumber") [some (.ref p)] (by decide +kernel) rfl rfl rfl (Nat.le_of_ble_eq_true rfl) ?_
  show zV l (fun _ => True) D B RX3 "readNumber" cX3_readNumber 1 (some .boolean) (zrm 3 65 0 0) (zN (zE (some (.int 1)) L nx (zst G p (upd (upd (G p) 2 (nI (rdN T n i).2)) 5 (nI (rdN T n i).1))))) 0 0 L nx 0 [some (.ref p)] [] (G)
  refine zv_aload_n dX3_readNumber_0 rfl ?_
  refine zv_aload_n dX3_readNumber_1 rfl ?_
  refine zv_callV (m_X3_takeNumber l D B hp hi hin hz) ml_X3_57 in_X3_takeNumber sel_X3_takeNumber hp.1 rfl rfl rfl rfl (Nat.le_of_ble_eq_true rfl) dX3_readNumber_2 ⟨Nat.le_of_ble_eq_true rfl, Nat.le_of_ble_eq_true rfl⟩ ⟨Nat.le_refl _, Nat.le_refl _⟩ (zk_i ?_)
  have hrn := rdN_le hz
  refine zv_putI (t := 7) hp.1 rfl fl_X3_60 ft_X3_5 rfl dX3_readNumber_5 ?_
  refine zv_aload_n dX3_readNumber_8 rfl ?_
  refine zv_getI hp.1 rfl fl_X3_60 rfl dX3_readNumber_9 ?_
  simp only [zst_same, zst_zst]
  rw [show upd (upd (G p) 2 (nI (rdN T n i).2)) 5 (nI (rdN T n i).1) 5 = nI (rdN T n i).1 from rfl]
  refine zv_if_lt (tgt := 19) dX3_readNumber_12 (by decide) (fun h => absurd h (nI_pos (by omega))) (fun _ => ?_)
  refine zv_iconst (v := 1) dX3_readNumber_15 (by decide) ?_
  refine zv_goto (tgt := 20) dX3_readNumber_16 (by decide) ?_
  refine zv_iretE dX3_readNumber_20 rfl (by first | rfl | exact bI_nar _) ?_ ?_
  · rfl
  · rfl
