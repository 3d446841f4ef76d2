def zalg (n : Nat) : Nat :=
  let a := n - ((n / 2) &&& 1431655765)
  let b := (a &&& 858993459) + ((a / 4) &&& 858993459)
  let c := (b + b / 16) &&& 252645135
  let d := c + c / 256
  let e := d + d / 65536
  e &&& 63
theorem zand8 (x y M m : Nat) (hy : y < 256) (hm : m < 256) : (256 * x + y) &&& (256 * M + m) = 256 * (x &&& M) + (y &&& m) := by
  have hym : y &&& m < 2 ^ 8 := Nat.lt_of_le_of_lt Nat.and_le_left hy
  apply Nat.eq_of_testBit_eq
  intro j
  have e1 := Nat.testBit_two_pow_mul_add x (i := 8) (b := y) hy j
  have e2 := Nat.testBit_two_pow_mul_add M (i := 8) (b := m) hm j
  have e3 := Nat.testBit_two_pow_mul_add (x &&& M) (i := 8) (b := y &&& m) hym j
  rw [show (2 ^ 8 : Nat) = 256 from rfl] at e1 e2 e3
  rw [Nat.testBit_and, e1, e2, e3]
  split <;> simp
theorem zcnt_add (f : Nat → Bool) (a : Nat) : ∀ b, zcnt f (a + b) = zcnt f a + zcnt (fun k => f (a + k)) b
  | 0 => rfl
  | b + 1 => by
    rw [← Nat.add_assoc]
    simp only [zcnt]
    rw [zcnt_add f a b]
    omega
def zal1 (n : Nat) : Nat := n - ((n / 2) &&& 85)
def zal2 (a : Nat) : Nat := (a &&& 51) + ((a / 4) &&& 51)
def zal3 (b : Nat) : Nat := (b + b / 16) &&& 15
theorem zal_ok : ∀ l, l < 256 → zal3 (zal2 (zal1 l)) = zcnt l.testBit 8 ∧ ((l / 2) &&& 85) ≤ l ∧ zal1 l < 256 ∧ zal2 (zal1 l) < 256 ∧ zal2 (zal1 l) + zal2 (zal1 l) / 16 < 256 ∧ ((l / 2) &&& 5592405) = ((l / 2) &&& 85) := by decide +kernel
theorem zal_h1 : ∀ e, e < 2 → ∀ l, l < 128 → (128 * e + l) &&& 85 = l &&& 85 := by decide +kernel
theorem zal_h2 : ∀ e, e < 4 → ∀ l, l < 64 → (64 * e + l) &&& 51 = l &&& 51 := by decide +kernel
theorem zal_h3 : ∀ e, e < 5 → ∀ l, l < 256 → (zal2 (zal1 l) + (16 * e + zal2 (zal1 l) / 16)) % 256 &&& 15 = zal3 (zal2 (zal1 l)) := by decide +kernel
theorem zal_s1 : ∀ x, x < 256 → (x &&& 5592405) = (x &&& 85) ∧ (x &&& 3355443) = (x &&& 51) := by decide +kernel
theorem zal_n4 : ∀ l, l < 256 → zal2 (zal1 l) ≤ 68 ∧ zal2 (zal1 l) % 16 ≤ 4 := by decide +kernel
theorem zal_s3 : ∀ x, x < 256 → (x &&& 986895) = (x &&& 15) := by decide +kernel
theorem zal_s4 : ∀ x, x < 17 → ∀ y, y < 17 → x + y ≤ 16 → (256 * x + y + x + (256 * x + y + x) / 65536) &&& 63 = x + y := by decide +kernel
theorem zal_sm : ∀ l, l < 256 → zal3 (zal2 (zal1 l)) ≤ 8 := by decide +kernel
theorem zalg_ok : ∀ h, h < 256 → ∀ l, l < 256 → zalg (256 * h + l) = zcnt (256 * h + l).testBit 16 ∧ (((256 * h + l) / 2) &&& 1431655765) ≤ 256 * h + l := by
  intro h hh l hl
  obtain ⟨l1, l2, l3, l4, l5, l6⟩ := zal_ok l hl
  obtain ⟨h1, h2, h3, h4, h5, h6⟩ := zal_ok h hh
  have g1 : ((256 * h + l) / 2) &&& 1431655765 = 256 * ((h / 2) &&& 85) + ((l / 2) &&& 85) := by
    rw [show (256 * h + l) / 2 = 256 * (h / 2) + (128 * (h % 2) + l / 2) by omega, show 1431655765 = 256 * 5592405 + 85 by rfl, zand8 _ _ _ _ (by omega) (by omega), h6, zal_h1 _ (by omega) _ (by omega)]
  have ga : 256 * h + l - (256 * ((h / 2) &&& 85) + ((l / 2) &&& 85)) = 256 * zal1 h + zal1 l := by
    unfold zal1
    omega
  refine ⟨?_, by rw [g1]; omega⟩
  have hc : zcnt (256 * h + l).testBit 16 = zcnt l.testBit 8 + zcnt h.testBit 8 := by
    rw [show 16 = 8 + 8 by rfl, zcnt_add]
    congr 1
    · apply zcnt_congr
      intro k hk
      have := Nat.testBit_two_pow_mul_add h (i := 8) (b := l) hl k
      rw [show (2 ^ 8 : Nat) = 256 from rfl] at this
      rw [this, if_pos hk]
    · apply zcnt_congr
      intro k hk
      have := Nat.testBit_two_pow_mul_add h (i := 8) (b := l) hl (8 + k)
      rw [show (2 ^ 8 : Nat) = 256 from rfl] at this
      rw [this, if_neg (by omega), show 8 + k - 8 = k by omega]
  unfold zalg
  dsimp only
  rw [g1, ga]
  have hx : zal1 h < 256 := h3
  have gb : (256 * zal1 h + zal1 l &&& 858993459) + ((256 * zal1 h + zal1 l) / 4 &&& 858993459) = 256 * zal2 (zal1 h) + zal2 (zal1 l) := by
    rw [show (256 * zal1 h + zal1 l) / 4 = 256 * (zal1 h / 4) + (64 * (zal1 h % 4) + zal1 l / 4) by omega, show 858993459 = 256 * 3355443 + 51 by rfl, zand8 _ _ _ _ (by omega) (by omega), zand8 _ _ _ _ (by omega) (by omega), (zal_s1 _ hx).2, (zal_s1 (zal1 h / 4) (by omega)).2, zal_h2 _ (by omega) _ (by omega)]
    unfold zal2
    omega
  rw [gb]
  have gc : (256 * zal2 (zal1 h) + zal2 (zal1 l)) + (256 * zal2 (zal1 h) + zal2 (zal1 l)) / 16 &&& 252645135 = 256 * zal3 (zal2 (zal1 h)) + zal3 (zal2 (zal1 l)) := by
    obtain ⟨n1, n2⟩ := zal_n4 h hh
    obtain ⟨n3, n4⟩ := zal_n4 l hl
    have g3 := zal_h3 (zal2 (zal1 h) % 16) (by omega) l hl
    rw [Nat.mod_eq_of_lt (by omega)] at g3
    rw [show (256 * zal2 (zal1 h) + zal2 (zal1 l)) + (256 * zal2 (zal1 h) + zal2 (zal1 l)) / 16 = 256 * (zal2 (zal1 h) + zal2 (zal1 h) / 16) + (zal2 (zal1 l) + (16 * (zal2 (zal1 h) % 16) + zal2 (zal1 l) / 16)) by omega, show 252645135 = 256 * 986895 + 15 by rfl, zand8 _ _ _ _ (by omega) (by omega), g3, zal_s3 _ (by omega)]
    rfl
  rw [gc, hc, ← l1, ← h1]
  have s1 := zal_sm l hl
  have s2 := zal_sm h hh
  rw [show (256 * zal3 (zal2 (zal1 h)) + zal3 (zal2 (zal1 l))) / 256 = zal3 (zal2 (zal1 h)) by omega]
  rw [zal_s4 _ (by omega) _ (by omega) (by omega)]
  omega
theorem zpop {n : Nat} (hn : n < 65536) : ((let a := nI n - (((nI n).toUInt32 >>> ((1 : Int32).toUInt32 &&& Int32.toUInt32 31)).toInt32 &&& 1431655765); let b := (a &&& 858993459) + ((a.toUInt32 >>> ((2 : Int32).toUInt32 &&& Int32.toUInt32 31)).toInt32 &&& 858993459); let c := (b + (b.toUInt32 >>> ((4 : Int32).toUInt32 &&& Int32.toUInt32 31)).toInt32) &&& 252645135; let d := c + (c.toUInt32 >>> ((8 : Int32).toUInt32 &&& Int32.toUInt32 31)).toInt32; let e := d + (d.toUInt32 >>> ((16 : Int32).toUInt32 &&& Int32.toUInt32 31)).toInt32; e &&& 63) : Int32) = nI (zcnt n.testBit 16) := by
  obtain ⟨h1, h2⟩ := zalg_ok (n / 256) (by omega) (n % 256) (by omega)
  rw [show 256 * (n / 256) + n % 256 = n by omega] at h1 h2
  rw [← h1]
  have m1 : (1431655765 : Int32) = nI 1431655765 := rfl
  have m2 : (858993459 : Int32) = nI 858993459 := rfl
  have m3 : (252645135 : Int32) = nI 252645135 := rfl
  have m4 : (63 : Int32) = nI 63 := rfl
  have s1 : ∀ {n : Nat}, n < 2 ^ 32 → ((nI n).toUInt32 >>> ((1 : Int32).toUInt32 &&& Int32.toUInt32 31)).toInt32 = nI (n / 2) := fun h => pk_ushrN h 1 1 (by decide)
  have s2 : ∀ {n : Nat}, n < 2 ^ 32 → ((nI n).toUInt32 >>> ((2 : Int32).toUInt32 &&& Int32.toUInt32 31)).toInt32 = nI (n / 4) := fun h => pk_ushrN h 2 2 (by decide)
  have s4 : ∀ {n : Nat}, n < 2 ^ 32 → ((nI n).toUInt32 >>> ((4 : Int32).toUInt32 &&& Int32.toUInt32 31)).toInt32 = nI (n / 16) := fun h => pk_ushrN h 4 4 (by decide)
  have s8 : ∀ {n : Nat}, n < 2 ^ 32 → ((nI n).toUInt32 >>> ((8 : Int32).toUInt32 &&& Int32.toUInt32 31)).toInt32 = nI (n / 256) := fun h => pk_ushrN h 8 8 (by decide)
  have s16 : ∀ {n : Nat}, n < 2 ^ 32 → ((nI n).toUInt32 >>> ((16 : Int32).toUInt32 &&& Int32.toUInt32 31)).toInt32 = nI (n / 65536) := fun h => pk_ushrN h 16 16 (by decide)
  unfold zalg
  dsimp only
  rw [m1, m2, m3, m4, s1 (by omega), nI_and _ _ (by omega) (by omega), pk_sub h2]
  generalize ha : n - (n / 2 &&& 1431655765) = a
  have ha1 : a < 65536 := by omega
  rw [s2 (by omega), nI_and _ _ (by omega) (by omega), nI_and _ _ (by omega) (by omega), nI_add]
  have hb1 : (a &&& 858993459) ≤ a := Nat.and_le_left
  have hb2 : (a / 4 &&& 858993459) ≤ a / 4 := Nat.and_le_left
  have hb3 : (a &&& 858993459) + (a / 4 &&& 858993459) < 131072 := by omega
  generalize (a &&& 858993459) + (a / 4 &&& 858993459) = b at hb3 ⊢
  rw [s4 (by omega), nI_add, nI_and _ _ (by omega) (by omega)]
  have hc1 : (b + b / 16 &&& 252645135) ≤ b + b / 16 := Nat.and_le_left
  generalize (b + b / 16 &&& 252645135) = c at hc1 ⊢
  rw [s8 (by omega), nI_add, s16 (by omega), nI_add, nI_and _ _ (by omega) (by omega)]
set_option maxRecDepth 100000 in
set_option maxHeartbeats 4000000 in
theorem m_X6_isWithin (l : Launch) (D : zD) (B : Nat) {L : zL} {nx : Nat} {G : zG} (x a b : Int32) : zMet l D B yX6_isWithin cX6_isWithin 3 (some .boolean) 0 0 0 0 [.int x, .int a, .int b] L nx G (zE (some (.int (bI (zin3 x a b)))) L nx (G)) := by
  refine zMet_of (own := RX6) (mn := "isWithin") [some (.int x), some (.int a), some (.int b)] (by decide +kernel) rfl rfl rfl (Nat.le_of_ble_eq_true rfl) ?_
  show zV l (fun _ => True) D B RX6 "isWithin" cX6_isWithin 3 (some .boolean) (zrm 0 0 0 0) (zN (zE (some (.int (bI (zin3 x a b)))) L nx (G))) 0 0 L nx 0 [some (.int x), some (.int a), some (.int b)] [] (G)
  refine zv_iload_n dX6_isWithin_0 rfl ?_
  refine zv_iload_n dX6_isWithin_1 rfl ?_
  refine zv_icmp_lt (tgt := 14) dX6_isWithin_2 (by decide) (fun c2 => ?_) (fun c2 => ?_)
  · refine zv_iconst (v := 0) dX6_isWithin_14 (by decide) ?_
    refine zv_iretE dX6_isWithin_15 rfl (by first | rfl | exact bI_nar _) ?_ ?_
    · first | exact (zin3_f1 c2).symm | exact (zin3_f2 c7).symm | exact (zin3_t c2 c7).symm
    · rfl
  · refine zv_iload_n dX6_isWithin_5 rfl ?_
    refine zv_iload_n dX6_isWithin_6 rfl ?_
    refine zv_icmp_gt (tgt := 14) dX6_isWithin_7 (by decide) (fun c7 => ?_) (fun c7 => ?_)
    · refine zv_iconst (v := 0) dX6_isWithin_14 (by decide) ?_
      refine zv_iretE dX6_isWithin_15 rfl (by first | rfl | exact bI_nar _) ?_ ?_
      · first | exact (zin3_f1 c2).symm | exact (zin3_f2 c7).symm | exact (zin3_t c2 c7).symm
      · rfl
    · refine zv_iconst (v := 1) dX6_isWithin_10 (by decide) ?_
      refine zv_goto (tgt := 15) dX6_isWithin_11 (by decide) ?_
      refine zv_iretE dX6_isWithin_15 rfl (by first | rfl | exact bI_nar _) ?_ ?_
      · first | exact (zin3_f1 c2).symm | exact (zin3_f2 c7).symm | exact (zin3_t c2 c7).symm
      · rfl

set_option maxRecDepth 100000 in
set_option maxHeartbeats 4000000 in
theorem m_X6_wrappedSeed (l : Launch) (D : zD) (B : Nat) {L : zL} {nx : Nat} {G : zG} (x : Int32) : zMet l D B yX6_wrappedSeed cX6_wrappedSeed 1 (some .int) 0 0 0 0 [.int x] L nx G (zE (some (.int (x &&& 65535))) L nx (G)) := by
  refine zMet_of (own := RX6) (mn := "wrappedSeed") [some (.int x)] (by decide +kernel) rfl rfl rfl (Nat.le_of_ble_eq_true rfl) ?_
  show zV l (fun _ => True) D B RX6 "wrappedSeed" cX6_wrappedSeed 1 (some .int) (zrm 0 0 0 0) (zN (zE (some (.int (x &&& 65535))) L nx (G))) 0 0 L nx 0 [some (.int x)] [] (G)
  refine zv_iload_n dX6_wrappedSeed_0 rfl ?_
  refine zv_ldc dX6_wrappedSeed_1 kc_X6_84 ?_
  refine zv_iand dX6_wrappedSeed_3 ?_
  refine zv_iretE dX6_wrappedSeed_4 rfl (rfl) ?_ ?_
  · rfl
  · rfl

set_option maxRecDepth 100000 in
set_option maxHeartbeats 4000000 in
theorem m_J9_min_7cf53 (l : Launch) (D : zD) (B : Nat) {L : zL} {nx : Nat} {G : zG} (x y : Int32) : zMet l D B yJ9_min_7cf53 cJ9_min_7cf53 2 (some .int) 0 0 0 0 [.int x, .int y] L nx G (zE (some (.int (if x ≤ y then x else y))) L nx (G)) := by
  refine zMet_of (own := RJ9) (mn := "min") [some (.int x), some (.int y)] (by decide +kernel) rfl rfl rfl (Nat.le_of_ble_eq_true rfl) ?_
  show zV l (fun _ => True) D B RJ9 "min" cJ9_min_7cf53 2 (some .int) (zrm 0 0 0 0) (zN (zE (some (.int (if x ≤ y then x else y))) L nx (G))) 0 0 L nx 0 [some (.int x), some (.int y)] [] (G)
  refine zv_iload_n dJ9_min_7cf53_0 rfl ?_
  refine zv_iload_n dJ9_min_7cf53_1 rfl ?_
  refine zv_icmp_gt (tgt := 9) dJ9_min_7cf53_2 (by decide) (fun c2 => ?_) (fun c2 => ?_)
  · refine zv_iload_n dJ9_min_7cf53_9 rfl ?_
    refine zv_iretE dJ9_min_7cf53_10 rfl (rfl) ?_ ?_
    · first | exact (if_neg (i32_nle.mpr c2)).symm | exact (if_pos (i32_nlt.mp c2)).symm
    · rfl
  · refine zv_iload_n dJ9_min_7cf53_5 rfl ?_
    refine zv_goto (tgt := 10) dJ9_min_7cf53_6 (by decide) ?_
    refine zv_iretE dJ9_min_7cf53_10 rfl (rfl) ?_ ?_
    · first | exact (if_neg (i32_nle.mpr c2)).symm | exact (if_pos (i32_nlt.mp c2)).symm
    · rfl

set_option maxRecDepth 100000 in
set_option maxHeartbeats 4000000 in
theorem m_J9_max_7cf53 (l : Launch) (D : zD) (B : Nat) {L : zL} {nx : Nat} {G : zG} (x y : Int32) : zMet l D B yJ9_max_7cf53 cJ9_max_7cf53 2 (some .int) 0 0 0 0 [.int x, .int y] L nx G (zE (some (.int (if x < y then y else x))) L nx (G)) := by
  refine zMet_of (own := RJ9) (mn := "max") [some (.int x), some (.int y)] (by decide +kernel) rfl rfl rfl (Nat.le_of_ble_eq_true rfl) ?_
  show zV l (fun _ => True) D B RJ9 "max" cJ9_max_7cf53 2 (some .int) (zrm 0 0 0 0) (zN (zE (some (.int (if x < y then y else x))) L nx (G))) 0 0 L nx 0 [some (.int x), some (.int y)] [] (G)
  refine zv_iload_n dJ9_max_7cf53_0 rfl ?_
  refine zv_iload_n dJ9_max_7cf53_1 rfl ?_
  refine zv_icmp_lt (tgt := 9) dJ9_max_7cf53_2 (by decide) (fun c2 => ?_) (fun c2 => ?_)
  · refine zv_iload_n dJ9_max_7cf53_9 rfl ?_
    refine zv_iretE dJ9_max_7cf53_10 rfl (rfl) ?_ ?_
    · first | exact (if_pos c2).symm | exact (if_neg c2).symm
    · rfl
  · refine zv_iload_n dJ9_max_7cf53_5 rfl ?_
    refine zv_goto (tgt := 10) dJ9_max_7cf53_6 (by decide) ?_
    refine zv_iretE dJ9_max_7cf53_10 rfl (rfl) ?_ ?_
    · first | exact (if_pos c2).symm | exact (if_neg c2).symm
    · rfl

set_option maxRecDepth 100000 in
set_option maxHeartbeats 4000000 in
theorem m_J9_floorMod_7cf53 (l : Launch) (D : zD) (B : Nat) {L : zL} {nx : Nat} {G : zG} {x y : Int32} (a d : Nat) (ha : a < 2 ^ 31) (h0 : 0 < d) (hd : d < 2 ^ 31) (hx : x = nI a) (hy : y = nI d) : zMet l D B yJ9_floorMod_7cf53 cJ9_floorMod_7cf53 3 (some .int) 0 0 0 0 [.int x, .int y] L nx G (zE (some (.int (nI (a % d)))) L nx (G)) := by
  refine zMet_of (own := RJ9) (mn := "floorMod") [some (.int x), some (.int y), none] (by decide +kernel) rfl rfl rfl (Nat.le_of_ble_eq_true rfl) ?_
  show zV l (fun _ => True) D B RJ9 "floorMod" cJ9_floorMod_7cf53 3 (some .int) (zrm 0 0 0 0) (zN (zE (some (.int (nI (a % d)))) L nx (G))) 0 0 L nx 0 [some (.int x), some (.int y), none] [] (G)
  subst hx hy
  refine zv_iload_n dJ9_floorMod_7cf53_0 rfl ?_
  refine zv_iload_n dJ9_floorMod_7cf53_1 rfl ?_
  refine zv_irem dJ9_floorMod_7cf53_2 (nI_ne0 h0 hd) ?_
  refine zv_istore_n dJ9_floorMod_7cf53_3 (by decide) rfl ?_
  refine zv_iload_n dJ9_floorMod_7cf53_4 rfl ?_
  refine zv_iload_n dJ9_floorMod_7cf53_5 rfl ?_
  refine zv_ixor dJ9_floorMod_7cf53_6 ?_
  refine zv_if_ge (tgt := 18) dJ9_floorMod_7cf53_7 (by decide) (fun _ => ?_) (fun h => absurd (nI_xor_nn ha hd) h)
  refine zv_iload_n dJ9_floorMod_7cf53_18 rfl ?_
  refine zv_iretE dJ9_floorMod_7cf53_19 rfl (rfl) ?_ ?_
  · exact pk_rem ha h0 hd
  · rfl

set_option maxRecDepth 100000 in
set_option maxHeartbeats 4000000 in
theorem m_J6_bitCount_0f7a4 (l : Launch) (D : zD) (B : Nat) {L : zL} {nx : Nat} {G : zG} {x : Int32} (n : Nat) (hn : n < 65536) (hx : x = nI n) : zMet l D B yJ6_bitCount_0f7a4 cJ6_bitCount_0f7a4 1 (some .int) 0 0 0 0 [.int x] L nx G (zE (some (.int (nI (zcnt n.testBit 16)))) L nx (G)) := by
  refine zMet_of (own := RJ6) (mn := "bitCount") [some (.int x)] (by decide +kernel) rfl rfl rfl (Nat.le_of_ble_eq_true rfl) ?_
  show zV l (fun _ => True) D B RJ6 "bitCount" cJ6_bitCount_0f7a4 1 (some .int) (zrm 0 0 0 0) (zN (zE (some (.int (nI (zcnt n.testBit 16)))) L nx (G))) 0 0 L nx 0 [some (.int x)] [] (G)
  subst hx
  refine zv_iload_n dJ6_bitCount_0f7a4_0 rfl ?_
  refine zv_iload_n dJ6_bitCount_0f7a4_1 rfl ?_
  refine zv_iconst (v := 1) dJ6_bitCount_0f7a4_2 (by decide) ?_
  refine zv_iushr dJ6_bitCount_0f7a4_3 ?_
  refine zv_ldcw dJ6_bitCount_0f7a4_4 kc_J6_265 ?_
  refine zv_iand dJ6_bitCount_0f7a4_7 ?_
  refine zv_isub dJ6_bitCount_0f7a4_8 ?_
  refine zv_istore_n dJ6_bitCount_0f7a4_9 (by decide) rfl ?_
  refine zv_iload_n dJ6_bitCount_0f7a4_10 rfl ?_
  refine zv_ldcw dJ6_bitCount_0f7a4_11 kc_J6_266 ?_
  refine zv_iand dJ6_bitCount_0f7a4_14 ?_
  refine zv_iload_n dJ6_bitCount_0f7a4_15 rfl ?_
  refine zv_iconst (v := 2) dJ6_bitCount_0f7a4_16 (by decide) ?_
  refine zv_iushr dJ6_bitCount_0f7a4_17 ?_
  refine zv_ldcw dJ6_bitCount_0f7a4_18 kc_J6_266 ?_
  refine zv_iand dJ6_bitCount_0f7a4_21 ?_
  refine zv_iadd dJ6_bitCount_0f7a4_22 ?_
  refine zv_istore_n dJ6_bitCount_0f7a4_23 (by decide) rfl ?_
  refine zv_iload_n dJ6_bitCount_0f7a4_24 rfl ?_
  refine zv_iload_n dJ6_bitCount_0f7a4_25 rfl ?_
  refine zv_iconst (v := 4) dJ6_bitCount_0f7a4_26 (by decide) ?_
  refine zv_iushr dJ6_bitCount_0f7a4_27 ?_
  refine zv_iadd dJ6_bitCount_0f7a4_28 ?_
  refine zv_ldcw dJ6_bitCount_0f7a4_29 kc_J6_267 ?_
  refine zv_iand dJ6_bitCount_0f7a4_32 ?_
  refine zv_istore_n dJ6_bitCount_0f7a4_33 (by decide) rfl ?_
  refine zv_iload_n dJ6_bitCount_0f7a4_34 rfl ?_
  refine zv_iload_n dJ6_bitCount_0f7a4_35 rfl ?_
  refine zv_bipush (v := 8) dJ6_bitCount_0f7a4_36 (by decide) ?_
  refine zv_iushr dJ6_bitCount_0f7a4_38 ?_
  refine zv_iadd dJ6_bitCount_0f7a4_39 ?_
  refine zv_istore_n dJ6_bitCount_0f7a4_40 (by decide) rfl ?_
  refine zv_iload_n dJ6_bitCount_0f7a4_41 rfl ?_
  refine zv_iload_n dJ6_bitCount_0f7a4_42 rfl ?_
  refine zv_bipush (v := 16) dJ6_bitCount_0f7a4_43 (by decide) ?_
  refine zv_iushr dJ6_bitCount_0f7a4_45 ?_
  refine zv_iadd dJ6_bitCount_0f7a4_46 ?_
  refine zv_istore_n dJ6_bitCount_0f7a4_47 (by decide) rfl ?_
  refine zv_iload_n dJ6_bitCount_0f7a4_48 rfl ?_
  refine zv_bipush (v := 63) dJ6_bitCount_0f7a4_49 (by decide) ?_
  refine zv_iand dJ6_bitCount_0f7a4_51 ?_
  refine zv_iretE dJ6_bitCount_0f7a4_52 rfl (rfl) ?_ ?_
  · exact zpop hn
  · rfl

set_option maxRecDepth 100000 in
set_option maxHeartbeats 4000000 in
theorem m_X5_allChapters (l : Launch) (D : zD) (B : Nat) {L : zL} {nx : Nat} {G : zG} {q : Nat} (hq : (q, 2) ∈ L) : zMet l D B yX5_allChapters cX5_allChapters 1 (some .int) 0 0 0 0 [.ref q] L nx G (zE (some (.int (1 <<< (G q 2 &&& 31) - 1))) L nx (G)) := by
  refine zMet_of (own := RX5) (mn := "allChapters") [some (.ref q)] (by decide +kernel) rfl rfl rfl (Nat.le_of_ble_eq_true rfl) ?_
  show zV l (fun _ => True) D B RX5 "allChapters" cX5_allChapters 1 (some .int) (zrm 0 0 0 0) (zN (zE (some (.int (1 <<< (G q 2 &&& 31) - 1))) L nx (G))) 0 0 L nx 0 [some (.ref q)] [] (G)
  refine zv_iconst (v := 1) dX5_allChapters_0 (by decide) ?_
  refine zv_aload_n dX5_allChapters_1 rfl ?_
  refine zv_getI hq rfl fl_X5_29 rfl dX5_allChapters_2 ?_
  refine zv_ishl dX5_allChapters_5 ?_
  refine zv_iconst (v := 1) dX5_allChapters_6 (by decide) ?_
  refine zv_isub dX5_allChapters_7 ?_
  refine zv_iretE dX5_allChapters_8 rfl (rfl) ?_ ?_
  · rfl
  · rfl

set_option maxRecDepth 100000 in
set_option maxHeartbeats 4000000 in
theorem m_X0_knownCount (l : Launch) (D : zD) (B : Nat) {L : zL} {nx : Nat} {G : zG} {q : Nat} (hq : (q, 3) ∈ L) (n : Nat) (hn : n < 65536) (hx : G q 0 = nI n) : zMet l D B yX0_knownCount cX0_knownCount 1 (some .int) 1 20 0 0 [.ref q] L nx G (zE (some (.int (nI (zcnt n.testBit 16)))) L nx (G)) := by
  refine zMet_of (own := RX0) (mn := "knownCount") [some (.ref q)] (by decide +kernel) rfl rfl rfl (Nat.le_of_ble_eq_true rfl) ?_
  show zV l (fun _ => True) D B RX0 "knownCount" cX0_knownCount 1 (some .int) (zrm 1 20 0 0) (zN (zE (some (.int (nI (zcnt n.testBit 16)))) L nx (G))) 0 0 L nx 0 [some (.ref q)] [] (G)
  refine zv_aload_n dX0_knownCount_0 rfl ?_
  refine zv_getI hq rfl fl_X0_21 rfl dX0_knownCount_1 ?_
  refine zv_callS (m_J6_bitCount_0f7a4 l D B n hn hx) ml_X0_43 st_J6_bitCount_0f7a4 rfl rfl (Nat.le_of_ble_eq_true rfl) dX0_knownCount_4 ⟨Nat.le_of_ble_eq_true rfl, Nat.le_of_ble_eq_true rfl⟩ ⟨Nat.le_refl _, Nat.le_refl _⟩ (zk_i ?_)
  refine zv_iretE dX0_knownCount_7 rfl (rfl) ?_ ?_
  · rfl
  · rfl

set_option maxRecDepth 100000 in
set_option maxHeartbeats 4000000 in
theorem m_X1_nextDraw (l : Launch) (D : zD) (B : Nat) {L : zL} {nx : Nat} {G : zG} (x : Int32) : zMet l D B yX1_nextDraw cX1_nextDraw 1 (some .int) 0 0 0 0 [.int x] L nx G (zE (some (.int ((75 * x + 74) - (75 * x + 74) / 65537 * 65537))) L nx (G)) := by
  refine zMet_of (own := RX1) (mn := "nextDraw") [some (.int x)] (by decide +kernel) rfl rfl rfl (Nat.le_of_ble_eq_true rfl) ?_
  show zV l (fun _ => True) D B RX1 "nextDraw" cX1_nextDraw 1 (some .int) (zrm 0 0 0 0) (zN (zE (some (.int ((75 * x + 74) - (75 * x + 74) / 65537 * 65537))) L nx (G))) 0 0 L nx 0 [some (.int x)] [] (G)
  refine zv_bipush (v := 75) dX1_nextDraw_0 (by decide) ?_
  refine zv_iload_n dX1_nextDraw_2 rfl ?_
  refine zv_imul dX1_nextDraw_3 ?_
  refine zv_bipush (v := 74) dX1_nextDraw_4 (by decide) ?_
  refine zv_iadd dX1_nextDraw_6 ?_
  refine zv_ldc dX1_nextDraw_7 kc_X1_56 ?_
  refine zv_irem dX1_nextDraw_9 (by decide) ?_
  refine zv_iretE dX1_nextDraw_10 rfl (rfl) ?_ ?_
  · rfl
  · rfl

set_option maxRecDepth 100000 in
set_option maxHeartbeats 4000000 in
theorem m_X7_draw (l : Launch) (D : zD) (B : Nat) {L : zL} {nx : Nat} {G : zG} (x : Int32) : zMet l D B yX7_draw cX7_draw 1 (some .int) 0 0 0 0 [.int x] L nx G (zE (some (.int ((75 * x + 74) - (75 * x + 74) / 65537 * 65537))) L nx (G)) := by
  refine zMet_of (own := RX7) (mn := "draw") [some (.int x)] (by decide +kernel) rfl rfl rfl (Nat.le_of_ble_eq_true rfl) ?_
  show zV l (fun _ => True) D B RX7 "draw" cX7_draw 1 (some .int) (zrm 0 0 0 0) (zN (zE (some (.int ((75 * x + 74) - (75 * x + 74) / 65537 * 65537))) L nx (G))) 0 0 L nx 0 [some (.int x)] [] (G)
  refine zv_bipush (v := 75) dX7_draw_0 (by decide) ?_
  refine zv_iload_n dX7_draw_2 rfl ?_
  refine zv_imul dX7_draw_3 ?_
  refine zv_bipush (v := 74) dX7_draw_4 (by decide) ?_
  refine zv_iadd dX7_draw_6 ?_
  refine zv_ldc dX7_draw_7 kc_X7_67 ?_
  refine zv_irem dX7_draw_9 (by decide) ?_
  refine zv_iretE dX7_draw_10 rfl (rfl) ?_ ?_
  · rfl
  · rfl
