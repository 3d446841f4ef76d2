theorem SI_init : SI 0 initR := by
  have hc : ∀ i, i < 3 → cupR initR i = fun _ => 0 := fun i hi => by
    funext k
    unfold cupR
    split
    · exact if_neg (by omega)
    · rfl
  refine ⟨1, 0, 0, 0, rfl, by omega, rfl, by omega, rfl, by omega, rfl, by omega, fun i hi => ?_, fun i _ hi => hc i hi, fun i hi => ⟨0, ?_, Nat.le_refl _⟩⟩
  · rw [hc i hi]
    exact zCI_zero (by omega)
  · rw [hc i hi]
    rfl
theorem zRM_init {L : zL} {m : Nat} {G : zG} (hm : (m, 8) ∈ L) (hG : G m = initM) : zRM L m G initR (fun _ => initR) 0 (fun _ => none) (fun _ => 0) 0 := by
  unfold zRM
  rw [hG]
  refine ⟨hm, fun k hk => ?_, rfl, by omega, fun k hk => by omega, fun j hj => Or.inl ⟨rfl, if_neg (by omega)⟩, by omega, rfl, fun i hi => by omega⟩
  unfold initM initR
  by_cases e : k = 0
  · rw [if_pos (by omega), if_pos e]
  · rw [if_neg (by omega), if_neg e]
theorem zLS_init : zLS 0 initR (fun _ => initR) 0 (fun _ => none) := ⟨SI_init, fun k hk => by omega, fun j r' e => by cases e⟩

set_option maxRecDepth 100000 in
set_option maxHeartbeats 4000000 in
theorem lp_law (l : Launch) (D : zD) (B : Nat) {mn : String} {b S : Nat} {xs : Nat → Int32} {x : Nat} (hB : B ≤ x) (hS : S ≤ 2048) : ∀ (f t : Nat) (L : zL) (nx : Nat) (G : zG), S < 4 * (t + f) → 4 * t ≤ S → zLJ L x nx G (7920 * t) → x + 146 ≤ nx → nx ≤ x + 146 + 15 * t → zV l (lX B b S xs) D B RL mn cL_law 4 (some .boolean) room_1 zPL (146 + 15 * t) (5000 + 242 * t) L nx 18 [some (.ref b), some (.ref x), some (.ref (x + 134)), some (.int (nI (4 * t)))] [] G := by
  intro f
  induction f with
  | zero =>
    intro t L nx G hf ht hJ hnx1 hnx2
    refine zv_iload_n dL_law_18 rfl ?_
    refine zv_aload_n dL_law_19 rfl ?_
    refine zv_slen dL_law_20 ?_
    refine zv_iconst (v := 4) dL_law_21 (by decide) ?_
    refine zv_isub dL_law_22 ?_
    refine zv_icmp_gt (tgt := 721) dL_law_23 (by decide) (fun c23 => ?_) (fun c23 => ?_)
    · refine zv_iconst (v := 1) dL_law_721 (by decide) ?_
      exact zv_iret dL_law_722 rfl rfl ⟨rfl, by omega, by omega⟩
    · have h4 := (nI_s4 (by omega) (by omega)).mp (i32_nlt.mp c23)
      omega
  | succ f ih =>
    intro t L nx G hf ht hJ hnx1 hnx2
    refine zv_iload_n dL_law_18 rfl ?_
    refine zv_aload_n dL_law_19 rfl ?_
    refine zv_slen dL_law_20 ?_
    refine zv_iconst (v := 4) dL_law_21 (by decide) ?_
    refine zv_isub dL_law_22 ?_
    refine zv_icmp_gt (tgt := 721) dL_law_23 (by decide) (fun c23 => ?_) (fun c23 => ?_)
    · refine zv_iconst (v := 1) dL_law_721 (by decide) ?_
      exact zv_iret dL_law_722 rfl rfl ⟨rfl, by omega, by omega⟩
    · have h4 : 4 * t + 4 ≤ S := (nI_s4 (by omega) (by omega)).mp (i32_nlt.mp c23)
      refine zv_aload_n dL_law_26 rfl ?_
      refine zv_iload_n dL_law_27 rfl ?_
      refine zv_sld (by omega) (by omega) dL_law_28 ?_
      refine zv_bipush (v := 31) dL_law_29 (by decide) ?_
      refine zv_iand dL_law_31 ?_
      obtain ⟨r, h, c, sl, T, tn, hR, hM, hLS⟩ := hJ
      have hkk : ∀ (L' : zL) (nx' : Nat) (G' : zG), zLJ L' x nx' G' (7920 * t + 7920) → nx ≤ nx' → nx' ≤ nx + 15 → zV l (lX B b S xs) D B RL mn cL_law 4 (some .boolean) room_1 zPL (146 + 15 * t + 15) (5000 + 242 * t + 242) L' nx' 715 [some (.ref b), some (.ref x), some (.ref (x + 134)), some (.int (nI (4 * t)))] [] G' := by
        intro L' nx' G' hJ' hn1 hn2
        refine zv_iinc dL_law_715 rfl rfl (by decide) rfl ?_
        refine zv_goto (tgt := 18) dL_law_718 (by decide) ?_
        have := ih (t + 1) L' nx' G' (by omega) (by omega) (by rw [show 7920 * (t + 1) = 7920 * t + 7920 by omega]; exact hJ') (by omega) (by omega)
        rw [show 146 + 15 * (t + 1) = 146 + 15 * t + 15 by omega, show 5000 + 242 * (t + 1) = 5000 + 242 * t + 242 by omega, show 4 * (t + 1) = 4 * t + 4 by omega, show nI (4 * t + 4) = nI (4 * t) + 4 from (nI_add (4 * t) 4).symm] at this
        exact this
      generalize xs (4 * t) &&& 31 = v
      by_cases h1 : v.toInt < 0
      · exact zv_tableOut (off := 683) (tgt := 715) dL_law_32 (Or.inl h1) (by decide) (zv_widen (by omega) (by omega) (hkk L nx G ⟨r, h, c, sl, T, tn, hR, hM, zLS_mono hLS (by omega)⟩ (Nat.le_refl _) (by omega)))
      by_cases h2 : (20 : Int) < v.toInt
      · exact zv_tableOut (off := 683) (tgt := 715) dL_law_32 (Or.inr h2) (by decide) (zv_widen (by omega) (by omega) (hkk L nx G ⟨r, h, c, sl, T, tn, hR, hM, zLS_mono hLS (by omega)⟩ (Nat.le_refl _) (by omega)))
      obtain ⟨k, hk, rfl⟩ := zsw_in (N := 20) (by decide) h1 h2
      match k, hk with
      | 0, _ => exact zv_tableIn (off := 100) (tgt := 132) dL_law_32 (by decide) (by decide) (by first | rfl | decide +kernel) (by decide) (law_set l D B (L := L) (nx := nx) (G := G) (i := 4 * t) (by omega) hnx1 (by omega) hR hM hLS (by omega) h4 (by omega) (by omega) (by omega) hkk)
      | 1, _ => exact zv_tableIn (off := 133) (tgt := 165) dL_law_32 (by decide) (by decide) (by first | rfl | decide +kernel) (by decide) (law_chapter l D B (L := L) (nx := nx) (G := G) (i := 4 * t) (by omega) hnx1 (by omega) hR hM hLS (by omega) h4 (by omega) (by omega) (by omega) hkk)
      | 2, _ => exact zv_tableIn (off := 156) (tgt := 188) dL_law_32 (by decide) (by decide) (by first | rfl | decide +kernel) (by decide) (law_cup l D B (L := L) (nx := nx) (G := G) (i := 4 * t) (by omega) hnx1 (by omega) hR hM hLS (by omega) h4 (by omega) (by omega) (by omega) hkk)
      | 3, _ => exact zv_tableIn (off := 169) (tgt := 201) dL_law_32 (by decide) (by decide) (by first | rfl | decide +kernel) (by decide) (law_empty l D B (L := L) (nx := nx) (G := G) (i := 4 * t) (by omega) hnx1 (by omega) hR hM hLS (by omega) h4 (by omega) (by omega) (by omega) hkk)
      | 4, _ => exact zv_tableIn (off := 192) (tgt := 224) dL_law_32 (by decide) (by decide) (by first | rfl | decide +kernel) (by decide) (law_pour l D B (L := L) (nx := nx) (G := G) (i := 4 * t) (by omega) hnx1 (by omega) hR hM hLS (by omega) h4 (by omega) (by omega) (by omega) hkk)
      | 5, _ => exact zv_tableIn (off := 235) (tgt := 267) dL_law_32 (by decide) (by decide) (by first | rfl | decide +kernel) (by decide) (law_solve l D B (L := L) (nx := nx) (G := G) (i := 4 * t) (by omega) hnx1 (by omega) hR hM hLS (by omega) h4 (by omega) (by omega) (by omega) hkk)
      | 6, _ => exact zv_tableIn (off := 258) (tgt := 290) dL_law_32 (by decide) (by decide) (by first | rfl | decide +kernel) (by decide) (law_droplet l D B (L := L) (nx := nx) (G := G) (i := 4 * t) (by omega) hnx1 (by omega) hR hM hLS (by omega) h4 (by omega) (by omega) (by omega) hkk)
      | 7, _ => exact zv_tableIn (off := 291) (tgt := 323) dL_law_32 (by decide) (by decide) (by first | rfl | decide +kernel) (by decide) (law_ofCup l D B (L := L) (nx := nx) (G := G) (i := 4 * t) (by omega) hnx1 (by omega) hR hM hLS (by omega) h4 (by omega) (by omega) (by omega) hkk)
      | 8, _ => exact zv_tableIn (off := 324) (tgt := 356) dL_law_32 (by decide) (by decide) (by first | rfl | decide +kernel) (by decide) (law_known l D B (L := L) (nx := nx) (G := G) (i := 4 * t) (by omega) hnx1 (by omega) hR hM hLS (by omega) h4 (by omega) (by omega) (by omega) hkk)
      | 9, _ => exact zv_tableIn (off := 357) (tgt := 389) dL_law_32 (by decide) (by decide) (by first | rfl | decide +kernel) (by decide) (law_kept l D B (L := L) (nx := nx) (G := G) (i := 4 * t) (by omega) hnx1 (by omega) hR hM hLS (by omega) h4 (by omega) (by omega) (by omega) hkk)
      | 10, _ => exact zv_tableIn (off := 400) (tgt := 432) dL_law_32 (by decide) (by decide) (by first | rfl | decide +kernel) (by decide) (law_count l D B (L := L) (nx := nx) (G := G) (i := 4 * t) (by omega) hnx1 (by omega) hR hM hLS (by omega) h4 (by omega) (by omega) (by omega) hkk)
      | 11, _ => exact zv_tableIn (off := 423) (tgt := 455) dL_law_32 (by decide) (by decide) (by first | rfl | decide +kernel) (by decide) (law_would l D B (L := L) (nx := nx) (G := G) (i := 4 * t) (by omega) hnx1 (by omega) hR hM hLS (by omega) h4 (by omega) (by omega) (by omega) hkk)
      | 12, _ => exact zv_tableIn (off := 456) (tgt := 488) dL_law_32 (by decide) (by decide) (by first | rfl | decide +kernel) (by decide) (law_needs l D B (L := L) (nx := nx) (G := G) (i := 4 * t) (by omega) hnx1 (by omega) hR hM hLS (by omega) h4 (by omega) (by omega) (by omega) hkk)
      | 13, _ => exact zv_tableIn (off := 489) (tgt := 521) dL_law_32 (by decide) (by decide) (by first | rfl | decide +kernel) (by decide) (law_degrees l D B (L := L) (nx := nx) (G := G) (i := 4 * t) (by omega) hnx1 (by omega) hR hM hLS (by omega) h4 (by omega) (by omega) (by omega) hkk)
      | 14, _ => exact zv_tableIn (off := 532) (tgt := 564) dL_law_32 (by decide) (by decide) (by first | rfl | decide +kernel) (by decide) (law_put l D B (L := L) (nx := nx) (G := G) (i := 4 * t) (by omega) hnx1 (by omega) hR hM hLS (by omega) h4 (by omega) (by omega) (by omega) hkk)
      | 15, _ => exact zv_tableIn (off := 585) (tgt := 617) dL_law_32 (by decide) (by decide) (by first | rfl | decide +kernel) (by decide) (law_wipe l D B (L := L) (nx := nx) (G := G) (i := 4 * t) (by omega) hnx1 (by omega) hR hM hLS (by omega) h4 (by omega) (by omega) (by omega) hkk)
      | 16, _ => exact zv_tableIn (off := 598) (tgt := 630) dL_law_32 (by decide) (by decide) (by first | rfl | decide +kernel) (by decide) (law_fault l D B (L := L) (nx := nx) (G := G) (i := 4 * t) (by omega) hnx1 (by omega) hR hM hLS (by omega) h4 (by omega) (by omega) (by omega) hkk)
      | 17, _ => exact zv_tableIn (off := 611) (tgt := 643) dL_law_32 (by decide) (by decide) (by first | rfl | decide +kernel) (by decide) (law_carryOut l D B (L := L) (nx := nx) (G := G) (i := 4 * t) (by omega) hnx1 (by omega) hR hM hLS (by omega) h4 (by omega) (by omega) (by omega) hkk)
      | 18, _ => exact zv_tableIn (off := 624) (tgt := 656) dL_law_32 (by decide) (by decide) (by first | rfl | decide +kernel) (by decide) (law_undo l D B (L := L) (nx := nx) (G := G) (i := 4 * t) (by omega) hnx1 (by omega) hR hM hLS (by omega) h4 (by omega) (by omega) (by omega) hkk)
      | 19, _ => exact zv_tableIn (off := 637) (tgt := 669) dL_law_32 (by decide) (by decide) (by first | rfl | decide +kernel) (by decide) (law_save l D B (L := L) (nx := nx) (G := G) (i := 4 * t) (by omega) hnx1 (by omega) hR hM hLS (by omega) h4 (by omega) (by omega) (by omega) hkk)
      | 20, _ => exact zv_tableIn (off := 660) (tgt := 692) dL_law_32 (by decide) (by decide) (by first | rfl | decide +kernel) (by decide) (law_restore l D B (L := L) (nx := nx) (G := G) (i := 4 * t) (by omega) hnx1 (by omega) hR hM hLS (by omega) h4 (by omega) (by omega) (by omega) hkk)
      | k + 21, hk => exact absurd hk (by omega)

set_option maxRecDepth 100000 in
set_option maxHeartbeats 4000000 in
theorem law_entry (l : Launch) (D : zD) (B : Nat) {mn : String} {b S : Nat} {xs : Nat → Int32} (hS : S ≤ 2048) : zV l (lX B b S xs) D B RL mn cL_law 4 (some .boolean) room_1 zPL 0 0 [] B 0 [some (.ref b), none, none, none] [] (fun _ _ => 0) := by
  refine zv_new (t := 16) (by omega) kl_L_7 inst_X6 ini_X6 rfl iwX6 tyX6_ok rfl hfs_X6 (Nat.le_of_ble_eq_true rfl) (Nat.le_of_ble_eq_true rfl) dL_law_0 ?_
  refine zv_dup dL_law_3 rfl ?_
  refine zv_callI (m_X6_init l D B (L := []) (x := B) (Nat.le_refl _) (fun b hb => by cases hb) (by rw [zst_same])) ml_L_9 in_X6_init rfl rfl rfl (Nat.le_of_ble_eq_true rfl) dL_law_4 ⟨Nat.le_of_ble_eq_true rfl, Nat.le_of_ble_eq_true rfl⟩ ⟨Nat.le_of_ble_eq_true rfl, Nat.le_of_ble_eq_true rfl⟩ (zk_cu fun G1 hG1 => ?_)
  refine zv_astore_n dL_law_7 (by decide) rfl ?_
  refine zv_fresh fun hfr => ?_
  refine zv_new (t := 17) (by omega) kl_L_10 inst_X7 ini_X7 rfl iwX7 tyX7_ok rfl hfs_X7 (Nat.le_of_ble_eq_true rfl) (Nat.le_of_ble_eq_true rfl) dL_law_8 ?_
  refine zv_dup dL_law_11 rfl ?_
  refine zv_callI (m_X7_init l D B (by omega) hfr (by rw [zst_same])) ml_L_12 in_X7_init rfl rfl rfl (Nat.le_of_ble_eq_true rfl) dL_law_12 ⟨Nat.le_of_ble_eq_true rfl, Nat.le_of_ble_eq_true rfl⟩ ⟨Nat.le_of_ble_eq_true rfl, Nat.le_of_ble_eq_true rfl⟩ (zk_c ?_)
  refine zv_astore_n dL_law_15 (by decide) rfl ?_
  refine zv_iconst (v := 0) dL_law_16 (by decide) ?_
  refine zv_istore_n dL_law_17 (by decide) rfl ?_
  have hJ : zLJ ([] ++ zxL B ++ [(B + 134, 8)]) B (B + 134 + 12) (zst (zst G1 (B + 134) (fun _ => 0)) (B + 134) initM) (7920 * 0) := by
    have hG2 : ∀ y, y ≠ B + 134 → zst (zst G1 (B + 134) (fun _ => 0)) (B + 134) initM y = G1 y := fun y hy => by rw [zst_ne _ _ hy, zst_ne _ _ hy]
    exact zLJ_of (zXP_RC hG1 (fun b hb => by simp [hb])) (zRM_init (by simp) (zst_same _ _ _)) hG2 zLS_init
  exact zv_widen (Nat.le_of_ble_eq_true rfl) (Nat.le_of_ble_eq_true rfl) (lp_law l D B (Nat.le_refl _) hS 513 0 _ _ _ (by omega) (by omega) hJ (by omega) (by omega))
