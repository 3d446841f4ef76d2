theorem zin3_nI {x a b : Nat} (hx : x < 2 ^ 31) (ha : a < 2 ^ 31) (hb : b < 2 ^ 31) : zin3 (nI x) (nI a) (nI b) = (decide (a ≤ x) && decide (x ≤ b)) := by
  unfold zin3
  congr 1
  · exact decide_eq_decide.mpr (nI_leI ha hx)
  · exact decide_eq_decide.mpr (nI_leI hx hb)
/-- the reference's blob holds a text -/
def tx (T : Nat → Nat) (n : Nat) (g : Nat → Int32) : Prop := g 8 = nI n ∧ n ≤ 80 ∧ ∀ i, i < n → g (2528 + i) = nI (T i) ∧ T i < 128
theorem tx_sg {T : Nat → Nat} {n i : Nat} {g : Nat → Int32} (h : tx T n g) : sg T n i < 128 := by
  unfold sg
  split
  · exact (h.2.2 i (by assumption)).2
  · omega
theorem tx_upd {T : Nat → Nat} {n j : Nat} {g : Nat → Int32} {v : Int32} (h : tx T n g) (hj : j = 9 ∨ 2608 ≤ j) : tx T n (upd g j v) := by
  refine ⟨?_, h.2.1, fun i hi => ?_⟩
  · exact (if_neg (by omega)).trans h.1
  · have := h.2.1
    exact ⟨(if_neg (by omega)).trans (h.2.2 i hi).1, (h.2.2 i hi).2⟩
theorem tx_of {T : Nat → Nat} {n : Nat} {g g' : Nat → Int32} (h : tx T n g) (hg : ∀ j, j ≠ 9 → ¬ (2616 ≤ j ∧ j < 2619) → g' j = g j) : tx T n g' :=
  ⟨(hg 8 (by omega) (by omega)).trans h.1, h.2.1, fun i hi => by have := h.2.1; exact ⟨(hg _ (by omega) (by omega)).trans (h.2.2 i hi).1, (h.2.2 i hi).2⟩⟩
theorem sg_pos {T : Nat → Nat} {n i : Nat} (h : sg T n i ≠ 0) : i < n := by
  rcases Nat.lt_or_ge i n with g | g
  · exact g
  · exact absurd (if_neg (by omega)) h

set_option maxRecDepth 100000 in
set_option maxHeartbeats 4000000 in
theorem m_X7_sees (l : Launch) (D : zD) (B : Nat) {L : zL} {nx : Nat} {G : zG} {m n p : Nat} {g : Nat → Int32} {T : Nat → Nat} (hm : (m, 8) ∈ L) (hX : tx T n g) (h9 : g 9 = nI p) (hp : p ≤ n) {a b : Nat} (ha : 1 ≤ a) (ha2 : a < 2 ^ 31) (hb2 : b < 2 ^ 31) : zMet l D B yX7_sees cX7_sees 3 (some .boolean) 1 23 0 0 [.ref m, .int (nI a), .int (nI b)] L nx (zst G m g) (zE (some (.int (bI (decide (a ≤ sg T n p) && decide (sg T n p ≤ b))))) L nx (zst G m g)) := by
  refine zMet_of (own := RX7) (mn := "sees") [some (.ref m), some (.int (nI a)), some (.int (nI b))] (by decide +kernel) rfl rfl rfl (Nat.le_of_ble_eq_true rfl) ?_
  show zV l (fun _ => True) D B RX7 "sees" cX7_sees 3 (some .boolean) (zrm 1 23 0 0) (zN (zE (some (.int (bI (decide (a ≤ sg T n p) && decide (sg T n p ≤ b))))) L nx (zst G m g))) 0 0 L nx 0 [some (.ref m), some (.int (nI a)), some (.int (nI b))] [] ((zst G m g))
  have hn80 := hX.2.1
  refine zv_aload_n dX7_sees_0 rfl ?_
  refine zv_getI hm rfl fl_X7_162 rfl dX7_sees_1 ?_
  refine zv_aload_n dX7_sees_4 rfl ?_
  refine zv_getI hm rfl fl_X7_148 rfl dX7_sees_5 ?_
  rw [zst_same, h9, hX.1]
  refine zv_icmp_ge (tgt := 33) dX7_sees_8 (by decide) (fun c8 => ?_) (fun c8 => ?_)
  · have hge : n ≤ p := (nI_leI (by omega) (by omega)).mp c8
    have hv : (decide (a ≤ sg T n p) && decide (sg T n p ≤ b)) = false := by
      rw [show sg T n p = 0 from if_neg (by omega), decide_eq_false (show ¬ a ≤ 0 by omega), Bool.false_and]
    refine zv_iconst (v := 0) dX7_sees_33 (by decide) ?_
    refine zv_iretE dX7_sees_34 rfl (by first | rfl | exact bI_nar _) ?_ ?_
    · rw [hv]
      rfl
    · rfl
  · have hlt : p < n := by
      rcases Nat.lt_or_ge p n with h | h
      · exact h
      · exact absurd (nI_le h (by omega)) c8
    have hT := hX.2.2 p hlt
    refine zv_aload_n dX7_sees_11 rfl ?_
    refine zv_getS (r := 7) hm rfl fl_X7_29 rfl dX7_sees_12 ?_
    refine zv_aload_n dX7_sees_15 rfl ?_
    refine zv_getI hm rfl fl_X7_162 rfl dX7_sees_16 ?_
    rw [zst_same, h9]
    refine zv_iald (i := 7) hm rfl (zix_nI (by omega) (by decide)) dX7_sees_19 ?_
    rw [zst_same, hT.1]
    refine zv_i2l dX7_sees_20 ?_
    refine zv_iload_n dX7_sees_21 rfl ?_
    refine zv_iload_n dX7_sees_22 rfl ?_
    refine zv_callS (m_in3 l D B _ (nI a) (nI b)) ml_X7_44 st_X7_in rfl rfl (Nat.le_of_ble_eq_true rfl) dX7_sees_23 ⟨Nat.le_of_ble_eq_true rfl, Nat.le_of_ble_eq_true rfl⟩ ⟨Nat.le_refl _, Nat.le_refl _⟩ (zk_i ?_)
    rw [zin3_nI (by omega) ha2 hb2]
    have hs : sg T n p = T p := if_pos hlt
    refine zv_if_eq (tgt := 33) dX7_sees_26 (by decide) (fun c26 => ?_) (fun c26 => ?_)
    · have hv := bI_eq0.mp c26
      rw [← hs] at hv
      refine zv_iconst (v := 0) dX7_sees_33 (by decide) ?_
      refine zv_iretE dX7_sees_34 rfl (by first | rfl | exact bI_nar _) ?_ ?_
      · rw [hv]
        rfl
      · rfl
    · have hv := bI_ne0.mp c26
      rw [← hs] at hv
      refine zv_iconst (v := 1) dX7_sees_29 (by decide) ?_
      refine zv_goto (tgt := 34) dX7_sees_30 (by decide) ?_
      refine zv_iretE dX7_sees_34 rfl (by first | rfl | exact bI_nar _) ?_ ?_
      · rw [hv]
        rfl
      · rfl

theorem m_sees1 (l : Launch) (D : zD) (B : Nat) {L : zL} {nx : Nat} {G : zG} {m n p : Nat} {g : Nat → Int32} {T : Nat → Nat} (hm : (m, 8) ∈ L) (hX : tx T n g) (h9 : g 9 = nI p) (hp : p ≤ n) {c : Nat} (hc : 1 ≤ c) (hc2 : c < 2 ^ 31) : zMet l D B yX7_sees cX7_sees 3 (some .boolean) 1 23 0 0 [.ref m, .int (nI c), .int (nI c)] L nx (zst G m g) (zE (some (.int (bI (decide (sg T n p = c))))) L nx (zst G m g)) := by
  have h := m_X7_sees l D B (nx := nx) (G := G) (a := c) (b := c) hm hX h9 hp hc hc2 hc2
  rw [show (decide (c ≤ sg T n p) && decide (sg T n p ≤ c)) = decide (sg T n p = c) by
    rw [← Bool.decide_and]
    exact decide_eq_decide.mpr (by omega)] at h
  exact h
theorem m_seesd (l : Launch) (D : zD) (B : Nat) {L : zL} {nx : Nat} {G : zG} {m n p : Nat} {g : Nat → Int32} {T : Nat → Nat} (hm : (m, 8) ∈ L) (hX : tx T n g) (h9 : g 9 = nI p) (hp : p ≤ n) : zMet l D B yX7_sees cX7_sees 3 (some .boolean) 1 23 0 0 [.ref m, .int 48, .int 57] L nx (zst G m g) (zE (some (.int (bI (zdg T n p)))) L nx (zst G m g)) :=
  m_X7_sees l D B (nx := nx) (G := G) (a := 48) (b := 57) hm hX h9 hp (by decide) (by decide) (by decide)

set_option maxRecDepth 100000 in
set_option maxHeartbeats 4000000 in
theorem m_takes_y (l : Launch) (D : zD) (B : Nat) {L : zL} {nx : Nat} {G : zG} {m n p : Nat} {g : Nat → Int32} {T : Nat → Nat} (hm : (m, 8) ∈ L) (hX : tx T n g) (h9 : g 9 = nI p) (hp : p ≤ n) {c : Nat} (hc1 : 1 ≤ c) (hc2 : c < 2 ^ 31) (hc : sg T n p = c) : zMet l D B yX7_takes cX7_takes 3 (some .boolean) 2 45 0 0 [.ref m, .int (nI c)] L nx (zst G m g) (zE (some (.int 1)) L nx (zst G m (upd g 9 (nI (p + 1))))) := by
  refine zMet_of (own := RX7) (mn := "takes") [some (.ref m), some (.int (nI c)), none] (by decide +kernel) rfl rfl rfl (Nat.le_of_ble_eq_true rfl) ?_
  show zV l (fun _ => True) D B RX7 "takes" cX7_takes 3 (some .boolean) (zrm 2 45 0 0) (zN (zE (some (.int 1)) L nx (zst G m (upd g 9 (nI (p + 1)))))) 0 0 L nx 0 [some (.ref m), some (.int (nI c)), none] [] ((zst G m g))
  refine zv_aload_n dX7_takes_0 rfl ?_
  refine zv_iload_n dX7_takes_1 rfl ?_
  refine zv_iload_n dX7_takes_2 rfl ?_
  refine zv_callV (m_sees1 l D B hm hX h9 hp hc1 hc2) ml_X7_165 in_X7_sees sel_X7_sees hm rfl rfl rfl rfl (Nat.le_of_ble_eq_true rfl) dX7_takes_3 ⟨Nat.le_of_ble_eq_true rfl, Nat.le_of_ble_eq_true rfl⟩ ⟨Nat.le_refl _, Nat.le_refl _⟩ (zk_i ?_)
  rw [show decide (sg T n p = c) = true from decide_eq_true hc, show bI true = 1 from rfl]
  refine zv_istore_n dX7_takes_6 (by decide) rfl ?_
  refine zv_aload_n dX7_takes_7 rfl ?_
  refine zv_dup dX7_takes_8 rfl ?_
  refine zv_getI hm rfl fl_X7_162 rfl dX7_takes_9 ?_
  refine zv_iload_n dX7_takes_12 rfl ?_
  refine zv_if_eq (tgt := 20) dX7_takes_13 (by decide) (fun h => absurd h (by decide)) (fun _ => ?_)
  refine zv_iconst (v := 1) dX7_takes_16 (by decide) ?_
  refine zv_goto (tgt := 21) dX7_takes_17 (by decide) ?_
  rw [zst_same, h9]
  refine zv_iadd dX7_takes_21 ?_
  rw [nI_1]
  refine zv_putI (t := 8) hm rfl fl_X7_162 ft_X7_9 rfl dX7_takes_22 ?_
  simp only [zst_same, zst_zst]
  refine zv_iload_n dX7_takes_25 rfl ?_
  refine zv_iretE dX7_takes_26 rfl (by first | rfl | exact bI_nar _) ?_ ?_
  · rfl
  · rfl

set_option maxRecDepth 100000 in
set_option maxHeartbeats 4000000 in
theorem m_takes_n (l : Launch) (D : zD) (B : Nat) {L : zL} {nx : Nat} {G : zG} {m n p : Nat} {g : Nat → Int32} {T : Nat → Nat} (hm : (m, 8) ∈ L) (hX : tx T n g) (h9 : g 9 = nI p) (hp : p ≤ n) {c : Nat} (hc1 : 1 ≤ c) (hc2 : c < 2 ^ 31) (hc : ¬ sg T n p = c) : zMet l D B yX7_takes cX7_takes 3 (some .boolean) 2 45 0 0 [.ref m, .int (nI c)] L nx (zst G m g) (zE (some (.int 0)) L nx (zst G m g)) := by
  refine zMet_of (own := RX7) (mn := "takes") [some (.ref m), some (.int (nI c)), none] (by decide +kernel) rfl rfl rfl (Nat.le_of_ble_eq_true rfl) ?_
  show zV l (fun _ => True) D B RX7 "takes" cX7_takes 3 (some .boolean) (zrm 2 45 0 0) (zN (zE (some (.int 0)) L nx (zst G m g))) 0 0 L nx 0 [some (.ref m), some (.int (nI c)), none] [] ((zst G m g))
  refine zv_aload_n dX7_takes_0 rfl ?_
  refine zv_iload_n dX7_takes_1 rfl ?_
  refine zv_iload_n dX7_takes_2 rfl ?_
  refine zv_callV (m_sees1 l D B hm hX h9 hp hc1 hc2) ml_X7_165 in_X7_sees sel_X7_sees hm rfl rfl rfl rfl (Nat.le_of_ble_eq_true rfl) dX7_takes_3 ⟨Nat.le_of_ble_eq_true rfl, Nat.le_of_ble_eq_true rfl⟩ ⟨Nat.le_refl _, Nat.le_refl _⟩ (zk_i ?_)
  rw [show decide (sg T n p = c) = false from decide_eq_false hc, show bI false = 0 from rfl]
  refine zv_istore_n dX7_takes_6 (by decide) rfl ?_
  refine zv_aload_n dX7_takes_7 rfl ?_
  refine zv_dup dX7_takes_8 rfl ?_
  refine zv_getI hm rfl fl_X7_162 rfl dX7_takes_9 ?_
  refine zv_iload_n dX7_takes_12 rfl ?_
  refine zv_if_eq (tgt := 20) dX7_takes_13 (by decide) (fun _ => ?_) (fun h => absurd (rfl) h)
  refine zv_iconst (v := 0) dX7_takes_20 (by decide) ?_
  rw [zst_same, h9]
  refine zv_iadd dX7_takes_21 ?_
  rw [show nI p + 0 = nI p from i32_add0 _]
  refine zv_putI (t := 8) hm rfl fl_X7_162 ft_X7_9 rfl dX7_takes_22 ?_
  simp only [zst_same, zst_zst]
  refine zv_iload_n dX7_takes_25 rfl ?_
  refine zv_iretE dX7_takes_26 rfl (by first | rfl | exact bI_nar _) ?_ ?_
  · rfl
  · rw [show upd g 9 (nI p) = g by rw [← h9, upd_same]]

set_option maxRecDepth 100000 in
set_option maxHeartbeats 4000000 in
theorem m_digit_y (l : Launch) (D : zD) (B : Nat) {L : zL} {nx : Nat} {G : zG} {m n p : Nat} {g : Nat → Int32} {T : Nat → Nat} (hm : (m, 8) ∈ L) (hX : tx T n g) (h9 : g 9 = nI p) (hp : p ≤ n) {j : Nat} (hj : j < 3) (hz : zdg T n p = true) : zMet l D B yX7_digit cX7_digit 2 (some .boolean) 2 45 0 0 [.ref m, .int (nI j)] L nx (zst G m g) (zE (some (.int 1)) L nx (zst G m (upd (upd g (2616 + j) (nI (sg T n p - 48))) 9 (nI (p + 1))))) := by
  refine zMet_of (own := RX7) (mn := "digit") [some (.ref m), some (.int (nI j))] (by decide +kernel) rfl rfl rfl (Nat.le_of_ble_eq_true rfl) ?_
  show zV l (fun _ => True) D B RX7 "digit" cX7_digit 2 (some .boolean) (zrm 2 45 0 0) (zN (zE (some (.int 1)) L nx (zst G m (upd (upd g (2616 + j) (nI (sg T n p - 48))) 9 (nI (p + 1)))))) 0 0 L nx 0 [some (.ref m), some (.int (nI j))] [] ((zst G m g))
  have hn80 := hX.2.1
  have hd := zdg_lt hz
  have hs : sg T n p = T p := if_pos hd.1
  refine zv_aload_n dX7_digit_0 rfl ?_
  refine zv_bipush (v := 48) dX7_digit_1 (by decide) ?_
  refine zv_bipush (v := 57) dX7_digit_3 (by decide) ?_
  refine zv_callV (m_seesd l D B hm hX h9 hp) ml_X7_165 in_X7_sees sel_X7_sees hm rfl rfl rfl rfl (Nat.le_of_ble_eq_true rfl) dX7_digit_5 ⟨Nat.le_of_ble_eq_true rfl, Nat.le_of_ble_eq_true rfl⟩ ⟨Nat.le_refl _, Nat.le_refl _⟩ (zk_i ?_)
  refine zv_if_ne (tgt := 13) dX7_digit_8 (by decide) (fun _ => ?_) (fun h => absurd h (by rw [hz]; decide))
  refine zv_aload_n dX7_digit_13 rfl ?_
  refine zv_getS (r := 9) hm rfl fl_X7_35 rfl dX7_digit_14 ?_
  refine zv_iload_n dX7_digit_17 rfl ?_
  refine zv_aload_n dX7_digit_18 rfl ?_
  refine zv_getS (r := 7) hm rfl fl_X7_29 rfl dX7_digit_19 ?_
  refine zv_aload_n dX7_digit_22 rfl ?_
  refine zv_getI hm rfl fl_X7_162 rfl dX7_digit_23 ?_
  rw [zst_same, h9]
  refine zv_iald (i := 7) hm rfl (zix_nI (by omega) (by decide)) dX7_digit_26 ?_
  rw [zst_same, (hX.2.2 p hd.1).1, ← hs]
  refine zv_bipush (v := 48) dX7_digit_27 (by decide) ?_
  refine zv_isub dX7_digit_29 ?_
  rw [show nI (sg T n p) - 48 = nI (sg T n p - 48) from pk_sub (a := sg T n p) (b := 48) (by omega)]
  refine zv_iast (i := 9) hm rfl (zix_nI (by omega) (by decide)) dX7_digit_30 ?_
  simp only [zst_same, zst_zst]
  refine zv_aload_n dX7_digit_31 rfl ?_
  refine zv_dup dX7_digit_32 rfl ?_
  refine zv_getI hm rfl fl_X7_162 rfl dX7_digit_33 ?_
  rw [zst_same, show upd g (2616 + j) (nI (sg T n p - 48)) 9 = nI p from (if_neg (by omega)).trans h9]
  refine zv_iconst (v := 1) dX7_digit_36 (by decide) ?_
  refine zv_iadd dX7_digit_37 ?_
  rw [nI_1]
  refine zv_putI (t := 8) hm rfl fl_X7_162 ft_X7_9 rfl dX7_digit_38 ?_
  simp only [zst_same, zst_zst]
  refine zv_iconst (v := 1) dX7_digit_41 (by decide) ?_
  refine zv_iretE dX7_digit_42 rfl (by first | rfl | exact bI_nar _) ?_ ?_
  · rfl
  · rfl

set_option maxRecDepth 100000 in
set_option maxHeartbeats 4000000 in
theorem m_digit_n (l : Launch) (D : zD) (B : Nat) {L : zL} {nx : Nat} {G : zG} {m n p : Nat} {g : Nat → Int32} {T : Nat → Nat} (hm : (m, 8) ∈ L) (hX : tx T n g) (h9 : g 9 = nI p) (hp : p ≤ n) {j : Nat} (hj : j < 3) (hz : zdg T n p = false) : zMet l D B yX7_digit cX7_digit 2 (some .boolean) 2 45 0 0 [.ref m, .int (nI j)] L nx (zst G m g) (zE (some (.int 0)) L nx (zst G m g)) := by
  refine zMet_of (own := RX7) (mn := "digit") [some (.ref m), some (.int (nI j))] (by decide +kernel) rfl rfl rfl (Nat.le_of_ble_eq_true rfl) ?_
  show zV l (fun _ => True) D B RX7 "digit" cX7_digit 2 (some .boolean) (zrm 2 45 0 0) (zN (zE (some (.int 0)) L nx (zst G m g))) 0 0 L nx 0 [some (.ref m), some (.int (nI j))] [] ((zst G m g))
  refine zv_aload_n dX7_digit_0 rfl ?_
  refine zv_bipush (v := 48) dX7_digit_1 (by decide) ?_
  refine zv_bipush (v := 57) dX7_digit_3 (by decide) ?_
  refine zv_callV (m_seesd l D B hm hX h9 hp) ml_X7_165 in_X7_sees sel_X7_sees hm rfl rfl rfl rfl (Nat.le_of_ble_eq_true rfl) dX7_digit_5 ⟨Nat.le_of_ble_eq_true rfl, Nat.le_of_ble_eq_true rfl⟩ ⟨Nat.le_refl _, Nat.le_refl _⟩ (zk_i ?_)
  refine zv_if_ne (tgt := 13) dX7_digit_8 (by decide) (fun h => absurd (by rw [hz]; rfl) h) (fun _ => ?_)
  refine zv_iconst (v := 0) dX7_digit_11 (by decide) ?_
  refine zv_iretE dX7_digit_12 rfl (by first | rfl | exact bI_nar _) ?_ ?_
  · rfl
  · rfl

theorem nm_s {g : Nat → Int32} {a : Nat} {v v2 q q2 : Int32} (h : a ≠ 9) : upd (upd (upd (upd g a v) 9 q) a v2) 9 q2 = upd (upd g a v2) 9 q2 := upd_4 h

set_option maxRecDepth 100000 in
set_option maxHeartbeats 4000000 in
theorem lp_X7_number (l : Launch) (D : zD) (B : Nat) {L : zL} {nx : Nat} {G : zG} {m n : Nat} {g : Nat → Int32} {T : Nat → Nat} (hm : (m, 8) ∈ L) (hX : tx T n g) {j : Nat} (hj : j < 3) {z : Nat × Nat} : ∀ k v q : Nat, q ≤ n → n ≤ q + k → v ≤ 65535 → numL T n v q k = z → zV l (fun _ => True) D B RX7 "number" cX7_number 2 (some .boolean) (zrm 3 66 0 0) (zN (zE (some (.int 1)) L nx (zst G m (upd (upd g (2616 + j) (nI z.1)) 9 (nI z.2))))) 0 0 L nx 10 [some (.ref m), some (.int (nI j))] [] (zst G m (upd (upd g (2616 + j) (nI v)) 9 (nI q))) := by
  intro k
  have hn80 := hX.2.1
  induction k with
  | zero =>
    intro v q hq hk hv hz
    refine zv_aload_n dX7_number_10 rfl ?_
    refine zv_getS (r := 9) hm rfl fl_X7_35 rfl dX7_number_11 ?_
    refine zv_iload_n dX7_number_14 rfl ?_
    refine zv_iald (i := 9) hm rfl (zix_nI (by omega) (by decide)) dX7_number_15 ?_
    rw [zst_same, show (upd (upd g (2616 + j) (nI v)) 9 (nI q)) (2616 + j) = nI v from (if_neg (by omega)).trans (if_pos rfl)]
    refine zv_if_le (tgt := 98) dX7_number_16 (by decide) (fun c16 => ?_) (fun c16 => ?_)
    · refine zv_iconst (v := 1) dX7_number_98 (by decide) ?_
      refine zv_iretE dX7_number_99 rfl (by first | rfl | exact bI_nar _) ?_ ?_
      · rfl
      · rw [show z = (v, q) from hz.symm]
    · refine zv_aload_n dX7_number_19 rfl ?_
      refine zv_bipush (v := 48) dX7_number_20 (by decide) ?_
      refine zv_bipush (v := 57) dX7_number_22 (by decide) ?_
      refine zv_callV (m_seesd l D B (g := (upd (upd g (2616 + j) (nI v)) 9 (nI q))) (p := q) hm (tx_upd (tx_upd hX (Or.inr (by omega))) (Or.inl rfl)) (if_pos rfl) hq) ml_X7_165 in_X7_sees sel_X7_sees hm rfl rfl rfl rfl (Nat.le_of_ble_eq_true rfl) dX7_number_24 ⟨Nat.le_of_ble_eq_true rfl, Nat.le_of_ble_eq_true rfl⟩ ⟨Nat.le_refl _, Nat.le_refl _⟩ (zk_i ?_)
      refine zv_if_eq (tgt := 98) dX7_number_27 (by decide) (fun _ => ?_) (fun h => absurd (by rw [show zdg T n q = false from by cases h : zdg T n q with | false => rfl | true => (have := (zdg_lt h).1; omega)]; rfl) h)
      refine zv_iconst (v := 1) dX7_number_98 (by decide) ?_
      refine zv_iretE dX7_number_99 rfl (by first | rfl | exact bI_nar _) ?_ ?_
      · rfl
      · rw [show z = (v, q) from hz.symm]
  | succ k ih =>
    intro v q hq hk hv hz
    unfold numL at hz
    refine zv_aload_n dX7_number_10 rfl ?_
    refine zv_getS (r := 9) hm rfl fl_X7_35 rfl dX7_number_11 ?_
    refine zv_iload_n dX7_number_14 rfl ?_
    refine zv_iald (i := 9) hm rfl (zix_nI (by omega) (by decide)) dX7_number_15 ?_
    rw [zst_same, show (upd (upd g (2616 + j) (nI v)) 9 (nI q)) (2616 + j) = nI v from (if_neg (by omega)).trans (if_pos rfl)]
    refine zv_if_le (tgt := 98) dX7_number_16 (by decide) (fun c16 => ?_) (fun c16 => ?_)
    · have hv0 : v = 0 := by have := (nI_leI (a := v) (b := 0) (by omega) (by decide)).mp c16; omega
      rw [if_neg (fun h => by omega)] at hz
      refine zv_iconst (v := 1) dX7_number_98 (by decide) ?_
      refine zv_iretE dX7_number_99 rfl (by first | rfl | exact bI_nar _) ?_ ?_
      · rfl
      · rw [show z = (v, q) from hz.symm]
    · have hv0 : 0 < v := by
        rcases Nat.eq_zero_or_pos v with h | h
        · exact absurd (by rw [h]; decide) c16
        · exact h
      refine zv_aload_n dX7_number_19 rfl ?_
      refine zv_bipush (v := 48) dX7_number_20 (by decide) ?_
      refine zv_bipush (v := 57) dX7_number_22 (by decide) ?_
      refine zv_callV (m_seesd l D B (g := (upd (upd g (2616 + j) (nI v)) 9 (nI q))) (p := q) hm (tx_upd (tx_upd hX (Or.inr (by omega))) (Or.inl rfl)) (if_pos rfl) hq) ml_X7_165 in_X7_sees sel_X7_sees hm rfl rfl rfl rfl (Nat.le_of_ble_eq_true rfl) dX7_number_24 ⟨Nat.le_of_ble_eq_true rfl, Nat.le_of_ble_eq_true rfl⟩ ⟨Nat.le_refl _, Nat.le_refl _⟩ (zk_i ?_)
      refine zv_if_eq (tgt := 98) dX7_number_27 (by decide) (fun c27 => ?_) (fun c27 => ?_)
      · have hzd := bI_eq0.mp c27
        rw [if_neg (fun h => by rw [hzd] at h; exact absurd h.2.1 (by decide))] at hz
        refine zv_iconst (v := 1) dX7_number_98 (by decide) ?_
        refine zv_iretE dX7_number_99 rfl (by first | rfl | exact bI_nar _) ?_ ?_
        · rfl
        · rw [show z = (v, q) from hz.symm]
      · have hzd := bI_ne0.mp c27
        have hd := zdg_lt hzd
        have hs : sg T n q = T q := if_pos hd.1
        refine zv_bipush (v := 10) dX7_number_30 (by decide) ?_
        refine zv_aload_n dX7_number_32 rfl ?_
        refine zv_getS (r := 9) hm rfl fl_X7_35 rfl dX7_number_33 ?_
        refine zv_iload_n dX7_number_36 rfl ?_
        refine zv_iald (i := 9) hm rfl (zix_nI (by omega) (by decide)) dX7_number_37 ?_
        rw [zst_same, show (upd (upd g (2616 + j) (nI v)) 9 (nI q)) (2616 + j) = nI v from (if_neg (by omega)).trans (if_pos rfl)]
        refine zv_imul dX7_number_38 ?_
        refine zv_aload_n dX7_number_39 rfl ?_
        refine zv_getS (r := 7) hm rfl fl_X7_29 rfl dX7_number_40 ?_
        refine zv_aload_n dX7_number_43 rfl ?_
        refine zv_getI hm rfl fl_X7_162 rfl dX7_number_44 ?_
        rw [zst_same, show (upd (upd g (2616 + j) (nI v)) 9 (nI q)) 9 = nI q from if_pos rfl]
        refine zv_iald (i := 7) hm rfl (zix_nI (by omega) (by decide)) dX7_number_47 ?_
        rw [zst_same, show (upd (upd g (2616 + j) (nI v)) 9 (nI q)) (2528 + q) = nI (sg T n q) from ((if_neg (by omega)).trans (if_neg (by omega))).trans ((hX.2.2 q hd.1).1.trans (congrArg nI hs.symm))]
        refine zv_iadd dX7_number_48 ?_
        refine zv_bipush (v := 48) dX7_number_49 (by decide) ?_
        refine zv_isub dX7_number_51 ?_
        rw [show (10 : Int32) * nI v = nI (10 * v) from pk_mul 10 v, nI_add, show nI (10 * v + sg T n q) - 48 = nI (10 * v + (sg T n q - 48)) by rw [show 10 * v + (sg T n q - 48) = 10 * v + sg T n q - 48 by omega]; exact pk_sub (a := 10 * v + sg T n q) (b := 48) (by omega)]
        refine zv_ldc dX7_number_52 kc_X7_117 ?_
        refine zv_icmp_gt (tgt := 98) dX7_number_54 (by decide) (fun c54 => ?_) (fun c54 => ?_)
        · rw [if_neg (fun h => by have := (nI_ltI (a := 65535) (b := 10 * v + (sg T n q - 48)) (by decide) (by omega)).mp c54; omega)] at hz
          refine zv_iconst (v := 1) dX7_number_98 (by decide) ?_
          refine zv_iretE dX7_number_99 rfl (by first | rfl | exact bI_nar _) ?_ ?_
          · rfl
          · rw [show z = (v, q) from hz.symm]
        · have h16 : 10 * v + (sg T n q - 48) ≤ 65535 := by
            rcases Nat.lt_or_ge 65535 (10 * v + (sg T n q - 48)) with h | h
            · exact absurd (nI_lt h (by omega)) c54
            · exact h
          rw [if_pos ⟨hv0, hzd, h16⟩] at hz
          refine zv_aload_n dX7_number_57 rfl ?_
          refine zv_getS (r := 9) hm rfl fl_X7_35 rfl dX7_number_58 ?_
          refine zv_iload_n dX7_number_61 rfl ?_
          refine zv_bipush (v := 10) dX7_number_62 (by decide) ?_
          refine zv_aload_n dX7_number_64 rfl ?_
          refine zv_getS (r := 9) hm rfl fl_X7_35 rfl dX7_number_65 ?_
          refine zv_iload_n dX7_number_68 rfl ?_
          refine zv_iald (i := 9) hm rfl (zix_nI (by omega) (by decide)) dX7_number_69 ?_
          rw [zst_same, show (upd (upd g (2616 + j) (nI v)) 9 (nI q)) (2616 + j) = nI v from (if_neg (by omega)).trans (if_pos rfl)]
          refine zv_imul dX7_number_70 ?_
          refine zv_aload_n dX7_number_71 rfl ?_
          refine zv_getS (r := 7) hm rfl fl_X7_29 rfl dX7_number_72 ?_
          refine zv_aload_n dX7_number_75 rfl ?_
          refine zv_getI hm rfl fl_X7_162 rfl dX7_number_76 ?_
          rw [zst_same, show (upd (upd g (2616 + j) (nI v)) 9 (nI q)) 9 = nI q from if_pos rfl]
          refine zv_iald (i := 7) hm rfl (zix_nI (by omega) (by decide)) dX7_number_79 ?_
          rw [zst_same, show (upd (upd g (2616 + j) (nI v)) 9 (nI q)) (2528 + q) = nI (sg T n q) from ((if_neg (by omega)).trans (if_neg (by omega))).trans ((hX.2.2 q hd.1).1.trans (congrArg nI hs.symm))]
          refine zv_iadd dX7_number_80 ?_
          refine zv_bipush (v := 48) dX7_number_81 (by decide) ?_
          refine zv_isub dX7_number_83 ?_
          rw [show (10 : Int32) * nI v = nI (10 * v) from pk_mul 10 v, nI_add, show nI (10 * v + sg T n q) - 48 = nI (10 * v + (sg T n q - 48)) by rw [show 10 * v + (sg T n q - 48) = 10 * v + sg T n q - 48 by omega]; exact pk_sub (a := 10 * v + sg T n q) (b := 48) (by omega)]
          refine zv_iast (i := 9) hm rfl (zix_nI (by omega) (by decide)) dX7_number_84 ?_
          simp only [zst_same, zst_zst]
          refine zv_aload_n dX7_number_85 rfl ?_
          refine zv_dup dX7_number_86 rfl ?_
          refine zv_getI hm rfl fl_X7_162 rfl dX7_number_87 ?_
          rw [zst_same, show upd (upd (upd g (2616 + j) (nI v)) 9 (nI q)) (2616 + j) (nI (10 * v + (sg T n q - 48))) 9 = nI q from (if_neg (by omega)).trans (if_pos rfl)]
          refine zv_iconst (v := 1) dX7_number_90 (by decide) ?_
          refine zv_iadd dX7_number_91 ?_
          rw [nI_1]
          refine zv_putI (t := 8) hm rfl fl_X7_162 ft_X7_9 rfl dX7_number_92 ?_
          simp only [zst_same, zst_zst]
          refine zv_goto (tgt := 10) dX7_number_95 (by decide) ?_
          refine zv_eqG ?_ (ih _ _ (by omega) (by omega) h16 hz)
          rw [nm_s (by omega)]

set_option maxRecDepth 100000 in
set_option maxHeartbeats 4000000 in
theorem m_number_y (l : Launch) (D : zD) (B : Nat) {L : zL} {nx : Nat} {G : zG} {m n p : Nat} {g : Nat → Int32} {T : Nat → Nat} (hm : (m, 8) ∈ L) (hX : tx T n g) (h9 : g 9 = nI p) (hp : p ≤ n) {j : Nat} (hj : j < 3) (hz : zdg T n p = true) : zMet l D B yX7_number cX7_number 2 (some .boolean) 3 66 0 0 [.ref m, .int (nI j)] L nx (zst G m g) (zE (some (.int 1)) L nx (zst G m (upd (upd g (2616 + j) (nI (rdN T n p).1)) 9 (nI (rdN T n p).2)))) := by
  refine zMet_of (own := RX7) (mn := "number") [some (.ref m), some (.int (nI j))] (by decide +kernel) rfl rfl rfl (Nat.le_of_ble_eq_true rfl) ?_
  show zV l (fun _ => True) D B RX7 "number" cX7_number 2 (some .boolean) (zrm 3 66 0 0) (zN (zE (some (.int 1)) L nx (zst G m (upd (upd g (2616 + j) (nI (rdN T n p).1)) 9 (nI (rdN T n p).2))))) 0 0 L nx 0 [some (.ref m), some (.int (nI j))] [] ((zst G m g))
  have hn80 := hX.2.1
  refine zv_aload_n dX7_number_0 rfl ?_
  refine zv_iload_n dX7_number_1 rfl ?_
  refine zv_callV (m_digit_y l D B hm hX h9 hp hj hz) ml_X7_169 in_X7_digit sel_X7_digit hm rfl rfl rfl rfl (Nat.le_of_ble_eq_true rfl) dX7_number_2 ⟨Nat.le_of_ble_eq_true rfl, Nat.le_of_ble_eq_true rfl⟩ ⟨Nat.le_refl _, Nat.le_refl _⟩ (zk_i ?_)
  refine zv_if_ne (tgt := 10) dX7_number_5 (by decide) (fun _ => ?_) (fun h => absurd h (by decide))
  exact lp_X7_number l D B hm hX hj 80 _ _ (by have := (zdg_lt hz).1; omega) (by omega) (by have := (zdg_lt hz).2.2; omega) rfl

set_option maxRecDepth 100000 in
set_option maxHeartbeats 4000000 in
theorem m_number_n (l : Launch) (D : zD) (B : Nat) {L : zL} {nx : Nat} {G : zG} {m n p : Nat} {g : Nat → Int32} {T : Nat → Nat} (hm : (m, 8) ∈ L) (hX : tx T n g) (h9 : g 9 = nI p) (hp : p ≤ n) {j : Nat} (hj : j < 3) (hz : zdg T n p = false) : zMet l D B yX7_number cX7_number 2 (some .boolean) 3 66 0 0 [.ref m, .int (nI j)] L nx (zst G m g) (zE (some (.int 0)) L nx (zst G m g)) := by
  refine zMet_of (own := RX7) (mn := "number") [some (.ref m), some (.int (nI j))] (by decide +kernel) rfl rfl rfl (Nat.le_of_ble_eq_true rfl) ?_
  show zV l (fun _ => True) D B RX7 "number" cX7_number 2 (some .boolean) (zrm 3 66 0 0) (zN (zE (some (.int 0)) L nx (zst G m g))) 0 0 L nx 0 [some (.ref m), some (.int (nI j))] [] ((zst G m g))
  refine zv_aload_n dX7_number_0 rfl ?_
  refine zv_iload_n dX7_number_1 rfl ?_
  refine zv_callV (m_digit_n l D B hm hX h9 hp hj hz) ml_X7_169 in_X7_digit sel_X7_digit hm rfl rfl rfl rfl (Nat.le_of_ble_eq_true rfl) dX7_number_2 ⟨Nat.le_of_ble_eq_true rfl, Nat.le_of_ble_eq_true rfl⟩ ⟨Nat.le_refl _, Nat.le_refl _⟩ (zk_i ?_)
  refine zv_if_ne (tgt := 10) dX7_number_5 (by decide) (fun h => absurd (rfl) h) (fun _ => ?_)
  refine zv_iconst (v := 0) dX7_number_8 (by decide) ?_
  refine zv_iretE dX7_number_9 rfl (by first | rfl | exact bI_nar _) ?_ ?_
  · rfl
  · rfl
