theorem nJ_nlt {a b : Nat} (h : b ≤ a) (ha : a < 2 ^ 31) : ¬ nI a < nI b := i32_nlt.mpr (nI_le h ha)

set_option maxRecDepth 100000 in
set_option maxHeartbeats 4000000 in
theorem ep_cup2 (l : Launch) (D : zD) (B : Nat) {L : zL} {nx : Nat} {G : zG} {x t n cn c tn : Nat} {r bk : Nat → Int32} {h : Nat → (Nat → Int32)} {sl : Nat → Option (Nat → Int32)} {T : Nat → Nat} {i : Nat} {a5 a6 a7 a8 a9 : Option Value} {G1 : zG} (hR : zRC L x nx G1 r h c sl T tn) (hF : ∀ y, x + 134 ≤ y → G1 y = G y) (hS : SI t r) (h2 : r 2 = nI n) (hn0 : 0 < n) (hn : n ≤ 16) (h3 : r 3 = nI cn) (hc : cn ≤ 3) (hi : i < cn) (hbk : ∀ c, c < n → chR r c = bk c) (hq : (x + 134, 116) ∈ L) (hb : ∀ i, i < n → G (x + 134) i = bk i) (hk : ∃ a b d : Nat, cupR r i 2 = nI a ∧ cupR r i 3 = nI b ∧ cupR r i 4 = nI d ∧ b + d ≤ a ∧ a ≤ t) (ht : t < 2 ^ 30) : zV l (fun _ => True) D B RL "cup" cL_cup 10 (some .boolean) (zrm 4 87 0 0) (zN (zI 1 L nx (fun G1 => zRC L x nx G1 r h c sl T tn ∧ ∀ y, x + 134 ≤ y → G1 y = G y))) 0 0 L nx 288 [some (.ref x), some (.ref (x + 134)), some (.int (nI i)), some (.int (cupR r i 0)), some (.int (nI n)), a5, a6, a7, a8, a9] [] (G1) := by
  obtain ⟨ka, kb, kd, k2, k3, k4, k5, k6⟩ := hk
  refine zv_aload_n dL_cup_288 rfl ?_
  refine zv_iload_n dL_cup_289 rfl ?_
  refine zv_iconst (v := 3) dL_cup_290 (by decide) ?_
  refine zv_callV (m_X6_ofCup l D B hR.1 hR.2.1 hS (nI i) 3) ml_L_28 in_X6_ofCup sel_X6_ofCup hR.1.1 rfl rfl rfl rfl (Nat.le_of_ble_eq_true rfl) dL_cup_291 ⟨Nat.le_of_ble_eq_true rfl, Nat.le_of_ble_eq_true rfl⟩ ⟨Nat.le_refl _, Nat.le_refl _⟩ (zk_p fun G1 hG1 => ?_)
  replace hF := frT hF hG1.2
  replace hR := (zRC_fr hR hG1.1 hG1.2).1
  clear hG1
  rw [qOf_at h3 hc hi, qOf_3, k3]
  refine zv_aload_n dL_cup_294 rfl ?_
  refine zv_iload_n dL_cup_295 rfl ?_
  refine zv_iconst (v := 4) dL_cup_296 (by decide) ?_
  refine zv_callV (m_X6_ofCup l D B hR.1 hR.2.1 hS (nI i) 4) ml_L_28 in_X6_ofCup sel_X6_ofCup hR.1.1 rfl rfl rfl rfl (Nat.le_of_ble_eq_true rfl) dL_cup_297 ⟨Nat.le_of_ble_eq_true rfl, Nat.le_of_ble_eq_true rfl⟩ ⟨Nat.le_refl _, Nat.le_refl _⟩ (zk_p fun G1 hG1 => ?_)
  replace hF := frT hF hG1.2
  replace hR := (zRC_fr hR hG1.1 hG1.2).1
  clear hG1
  rw [qOf_at h3 hc hi, qOf_4, k4]
  refine zv_iadd dL_cup_300 ?_
  refine zv_aload_n dL_cup_301 rfl ?_
  refine zv_iload_n dL_cup_302 rfl ?_
  refine zv_iconst (v := 2) dL_cup_303 (by decide) ?_
  refine zv_callV (m_X6_ofCup l D B hR.1 hR.2.1 hS (nI i) 2) ml_L_28 in_X6_ofCup sel_X6_ofCup hR.1.1 rfl rfl rfl rfl (Nat.le_of_ble_eq_true rfl) dL_cup_304 ⟨Nat.le_of_ble_eq_true rfl, Nat.le_of_ble_eq_true rfl⟩ ⟨Nat.le_refl _, Nat.le_refl _⟩ (zk_p fun G1 hG1 => ?_)
  replace hF := frT hF hG1.2
  replace hR := (zRC_fr hR hG1.1 hG1.2).1
  clear hG1
  rw [qOf_at h3 hc hi, qOf_2, k2]
  rw [nI_add]
  refine zv_icmp_gt (tgt := 314) dL_cup_307 (by decide) (fun h => absurd h (nJ_nlt (by omega) (by omega))) (fun _ => ?_)
  refine zv_iconst (v := 1) dL_cup_310 (by decide) ?_
  refine zv_goto (tgt := 315) dL_cup_311 (by decide) ?_
  exact zv_iretI dL_cup_315 rfl rfl rfl ⟨hR, hF⟩

set_option maxRecDepth 100000 in
set_option maxHeartbeats 4000000 in
theorem ep_cup (l : Launch) (D : zD) (B : Nat) {L : zL} {nx : Nat} {G : zG} {x t n cn c tn : Nat} {r bk : Nat → Int32} {h : Nat → (Nat → Int32)} {sl : Nat → Option (Nat → Int32)} {T : Nat → Nat} {i m : Nat} {a6 a7 a8 a9 : Option Value} {G1 : zG} (hR : zRC L x nx G1 r h c sl T tn) (hF : ∀ y, x + 134 ≤ y → G1 y = G y) (hS : SI t r) (h2 : r 2 = nI n) (hn0 : 0 < n) (hn : n ≤ 16) (h3 : r 3 = nI cn) (hc : cn ≤ 3) (hi : i < cn) (hbk : ∀ c, c < n → chR r c = bk c) (hq : (x + 134, 116) ∈ L) (hb : ∀ i, i < n → G (x + 134) i = bk i) (hJ : zCJ n (chR r) (cupR r i) m) (hs : zsz (cupR r i) m) (hk : ∃ a b d : Nat, cupR r i 2 = nI a ∧ cupR r i 3 = nI b ∧ cupR r i 4 = nI d ∧ b + d ≤ a ∧ a ≤ t) (ht : t < 2 ^ 30) : zV l (fun _ => True) D B RL "cup" cL_cup 10 (some .boolean) (zrm 4 87 0 0) (zN (zI 1 L nx (fun G1 => zRC L x nx G1 r h c sl T tn ∧ ∀ y, x + 134 ≤ y → G1 y = G y))) 0 0 L nx 177 [some (.ref x), some (.ref (x + 134)), some (.int (nI i)), some (.int (cupR r i 0)), some (.int (nI n)), some (.int (nI m)), a6, a7, a8, a9] [] (G1) := by
  have hm := hJ.2.1
  have hcl := could_le hJ
  have hfu := full_eq (r := r) h2 hn hJ.2.2.2.1
  refine zv_iload_n dL_cup_177 rfl ?_
  refine zv_callS (m_L_size l D B _) ml_L_25 st_L_size rfl rfl (Nat.le_of_ble_eq_true rfl) dL_cup_178 ⟨Nat.le_of_ble_eq_true rfl, Nat.le_of_ble_eq_true rfl⟩ ⟨Nat.le_refl _, Nat.le_refl _⟩ (zk_i ?_)
  refine zv_iload dL_cup_181 rfl ?_
  refine zv_join (st := []) 191 (bI (decide (zcnt (zb (cupR r i 0)) 16 = n))) (fun G' => zRC L x nx G' r h c sl T tn ∧ ∀ y, x + 134 ≤ y → G' y = G y) (fun kk => ?_) ?_
  · refine zv_icmp_ne (tgt := 190) dL_cup_183 (by decide) (fun c183 => ?_) (fun c183 => ?_)
    · have k : ¬ zcnt (zb (cupR r i 0)) 16 = n := fun hh => c183 (by rw [hh])
      refine zv_iconst (v := 0) dL_cup_190 (by decide) ?_
      rw [decide_eq_false k] at kk
      exact kk _ ⟨hR, hF⟩
    · have k : zcnt (zb (cupR r i 0)) 16 = n := (nI_eq (by omega) (by omega)).mp c183
      refine zv_iconst (v := 1) dL_cup_186 (by decide) ?_
      refine zv_goto (tgt := 191) dL_cup_187 (by decide) ?_
      rw [decide_eq_true k] at kk
      exact kk _ ⟨hR, hF⟩
  rintro G1 ⟨hR, hF⟩
  refine zv_istore dL_cup_191 (by decide) rfl ?_
  refine zv_aload_n dL_cup_193 rfl ?_
  refine zv_iload_n dL_cup_194 rfl ?_
  refine zv_bipush (v := 6) dL_cup_195 (by decide) ?_
  refine zv_callV (m_X6_ofCup l D B hR.1 hR.2.1 hS (nI i) 6) ml_L_28 in_X6_ofCup sel_X6_ofCup hR.1.1 rfl rfl rfl rfl (Nat.le_of_ble_eq_true rfl) dL_cup_197 ⟨Nat.le_of_ble_eq_true rfl, Nat.le_of_ble_eq_true rfl⟩ ⟨Nat.le_refl _, Nat.le_refl _⟩ (zk_p fun G1 hG1 => ?_)
  replace hF := frT hF hG1.2
  replace hR := (zRC_fr hR hG1.1 hG1.2).1
  clear hG1
  rw [qOf_at h3 hc hi, qOf_6, nI_add]
  refine zv_istore dL_cup_200 (by decide) rfl ?_
  refine zv_iload dL_cup_202 rfl ?_
  refine zv_bipush (v := 24) dL_cup_204 (by decide) ?_
  refine zv_icmp_gt (tgt := 314) dL_cup_206 (by decide) (fun h => absurd h (nJ_nlt (a := 24) hm (by decide))) (fun _ => ?_)
  refine zv_aload_n dL_cup_209 rfl ?_
  refine zv_iload_n dL_cup_210 rfl ?_
  refine zv_iload dL_cup_211 rfl ?_
  refine zv_iconst (v := 0) dL_cup_213 (by decide) ?_
  refine zv_callV (m_X6_kept l D B hR.1 hR.2.1 hS (nI i) (nI m) 0) ml_L_34 in_X6_kept sel_X6_kept hR.1.1 rfl rfl rfl rfl (Nat.le_of_ble_eq_true rfl) dL_cup_214 ⟨Nat.le_of_ble_eq_true rfl, Nat.le_of_ble_eq_true rfl⟩ ⟨Nat.le_refl _, Nat.le_refl _⟩ (zk_p fun G1 hG1 => ?_)
  replace hF := frT hF hG1.2
  replace hR := (zRC_fr hR hG1.1 hG1.2).1
  clear hG1
  rw [qKe_no h3 hc hi hJ.2.2.1 hm]
  refine zv_iconst (v := (-1)) dL_cup_217 (by decide) ?_
  refine zv_icmp_ne (tgt := 314) dL_cup_218 (by decide) (fun h => absurd (rfl) h) (fun _ => ?_)
  refine zv_aload_n dL_cup_221 rfl ?_
  refine zv_iload_n dL_cup_222 rfl ?_
  refine zv_iconst (v := 5) dL_cup_223 (by decide) ?_
  refine zv_callV (m_X6_ofCup l D B hR.1 hR.2.1 hS (nI i) 5) ml_L_28 in_X6_ofCup sel_X6_ofCup hR.1.1 rfl rfl rfl rfl (Nat.le_of_ble_eq_true rfl) dL_cup_224 ⟨Nat.le_of_ble_eq_true rfl, Nat.le_of_ble_eq_true rfl⟩ ⟨Nat.le_refl _, Nat.le_refl _⟩ (zk_p fun G1 hG1 => ?_)
  replace hF := frT hF hG1.2
  replace hR := (zRC_fr hR hG1.1 hG1.2).1
  clear hG1
  rw [qOf_at h3 hc hi, qOf_5, hfu]
  refine zv_iload dL_cup_227 rfl ?_
  refine zv_join (st := [.int (bI (decide (zcnt (zb (cupR r i 0)) 16 = n)))]) 237 (bI (decide (zcnt (zb (cupR r i 0)) 16 = n))) (fun G' => zRC L x nx G' r h c sl T tn ∧ ∀ y, x + 134 ≤ y → G' y = G y) (fun kk => ?_) ?_
  · refine zv_if_eq (tgt := 236) dL_cup_229 (by decide) (fun c229 => ?_) (fun c229 => ?_)
    · have kf : bI (decide (zcnt (zb (cupR r i 0)) 16 = n)) = 0 := c229
      refine zv_iconst (v := 0) dL_cup_236 (by decide) ?_
      rw [kf] at kk ⊢
      exact kk _ ⟨hR, hF⟩
    · have kf : bI (decide (zcnt (zb (cupR r i 0)) 16 = n)) = 1 := by
        cases hd : decide (zcnt (zb (cupR r i 0)) 16 = n) with
        | false => rw [hd] at c229; exact absurd rfl c229
        | true => rfl
      refine zv_iconst (v := 1) dL_cup_232 (by decide) ?_
      refine zv_goto (tgt := 237) dL_cup_233 (by decide) ?_
      rw [kf] at kk ⊢
      exact kk _ ⟨hR, hF⟩
  rintro G1 ⟨hR, hF⟩
  refine zv_icmp_ne (tgt := 314) dL_cup_237 (by decide) (fun h => absurd (rfl) h) (fun _ => ?_)
  refine zv_aload_n dL_cup_240 rfl ?_
  refine zv_iconst (v := 2) dL_cup_241 (by decide) ?_
  refine zv_callV (m_X6_count l D B hR.1 hR.2.1 hS 2 _ _ rfl rfl) ml_L_10 in_X6_count sel_X6_count hR.1.1 rfl rfl rfl rfl (Nat.le_of_ble_eq_true rfl) dL_cup_242 ⟨Nat.le_of_ble_eq_true rfl, Nat.le_of_ble_eq_true rfl⟩ ⟨Nat.le_refl _, Nat.le_refl _⟩ (zk_p fun G1 hG1 => ?_)
  replace hF := frT hF hG1.2
  replace hR := (zRC_fr hR hG1.1 hG1.2).1
  clear hG1
  rw [qCo_2, h3, nI_clamp (by omega)]
  refine zv_iload_n dL_cup_245 rfl ?_
  refine zv_ishr dL_cup_246 ?_
  refine zv_iconst (v := 1) dL_cup_247 (by decide) ?_
  refine zv_iand dL_cup_248 ?_
  rw [bI_sh (by omega), fcN_b (by omega) i (by omega), decide_eq_true (show i < 3 by omega), decide_eq_true hi, Bool.true_and, Bool.true_and, hfu]
  refine zv_join (st := [.int (bI (decide (zcnt (zb (cupR r i 0)) 16 = n)))]) 259 (bI (decide (zcnt (zb (cupR r i 0)) 16 = n))) (fun G' => zRC L x nx G' r h c sl T tn ∧ ∀ y, x + 134 ≤ y → G' y = G y) (fun kk => ?_) ?_
  · refine zv_iload dL_cup_249 rfl ?_
    refine zv_if_eq (tgt := 258) dL_cup_251 (by decide) (fun c251 => ?_) (fun c251 => ?_)
    · have kf : bI (decide (zcnt (zb (cupR r i 0)) 16 = n)) = 0 := c251
      refine zv_iconst (v := 0) dL_cup_258 (by decide) ?_
      rw [kf] at kk ⊢
      exact kk _ ⟨hR, hF⟩
    · have kf : bI (decide (zcnt (zb (cupR r i 0)) 16 = n)) = 1 := by
        cases hd : decide (zcnt (zb (cupR r i 0)) 16 = n) with
        | false => rw [hd] at c251; exact absurd rfl c251
        | true => rfl
      refine zv_iconst (v := 1) dL_cup_254 (by decide) ?_
      refine zv_goto (tgt := 259) dL_cup_255 (by decide) ?_
      rw [kf] at kk ⊢
      exact kk _ ⟨hR, hF⟩
  rintro G1 ⟨hR, hF⟩
  refine zv_icmp_ne (tgt := 314) dL_cup_259 (by decide) (fun h => absurd (rfl) h) (fun _ => ?_)
  refine zv_iload dL_cup_262 rfl ?_
  refine zv_iload_n dL_cup_264 rfl ?_
  refine zv_callS (m_L_size l D B _) ml_L_25 st_L_size rfl rfl (Nat.le_of_ble_eq_true rfl) dL_cup_265 ⟨Nat.le_of_ble_eq_true rfl, Nat.le_of_ble_eq_true rfl⟩ ⟨Nat.le_refl _, Nat.le_refl _⟩ (zk_i ?_)
  refine zv_icmp_lt (tgt := 314) dL_cup_268 (by decide) (fun h => absurd h (nJ_nlt (by omega) (by omega))) (fun _ => ?_)
  refine zv_iload dL_cup_271 rfl ?_
  refine zv_iload dL_cup_273 rfl ?_
  refine zv_icmp_gt (tgt := 314) dL_cup_275 (by decide) (fun h => absurd h (nJ_nlt (by omega) (by omega))) (fun _ => ?_)
  refine zv_iload dL_cup_278 rfl ?_
  refine zv_if_eq (tgt := 288) dL_cup_280 (by decide) (fun c280 => ?_) (fun c280 => ?_)
  · exact ep_cup2 l D B (cn := cn) (bk := bk) hR hF hS h2 hn0 hn h3 hc hi hbk hq hb hk ht
  · have kf : zcnt (zb (cupR r i 0)) 16 = n := by
      cases hd : decide (zcnt (zb (cupR r i 0)) 16 = n) with
      | false => rw [hd] at c280; exact absurd rfl c280
      | true => exact of_decide_eq_true hd
    have hm0 := full_none hJ hs kf
    subst hm0
    refine zv_iload dL_cup_283 rfl ?_
    refine zv_if_ne (tgt := 314) dL_cup_285 (by decide) (fun h => absurd (rfl) h) (fun _ => ?_)
    exact ep_cup2 l D B (cn := cn) (bk := bk) hR hF hS h2 hn0 hn h3 hc hi hbk hq hb hk ht

set_option maxRecDepth 100000 in
set_option maxHeartbeats 4000000 in
theorem lp_cup1 (l : Launch) (D : zD) (B : Nat) {L : zL} {nx : Nat} {G : zG} {x t n cn c tn : Nat} {r bk : Nat → Int32} {h : Nat → (Nat → Int32)} {sl : Nat → Option (Nat → Int32)} {T : Nat → Nat} {i m : Nat} (hS : SI t r) (h2 : r 2 = nI n) (hn0 : 0 < n) (hn : n ≤ 16) (h3 : r 3 = nI cn) (hc : cn ≤ 3) (hi : i < cn) (hbk : ∀ c, c < n → chR r c = bk c) (hq : (x + 134, 116) ∈ L) (hb : ∀ i, i < n → G (x + 134) i = bk i) (hJ : zCJ n (chR r) (cupR r i) m) (kk : ∀ G1, zRC L x nx G1 r h c sl T tn → (∀ y, x + 134 ≤ y → G1 y = G y) → zV l (fun _ => True) D B RL "cup" cL_cup 10 (some .boolean) (zrm 4 87 0 0) (zN (zI 1 L nx (fun G1 => zRC L x nx G1 r h c sl T tn ∧ ∀ y, x + 134 ≤ y → G1 y = G y))) 0 0 L nx 61 [some (.ref x), some (.ref (x + 134)), some (.int (nI i)), some (.int (cupR r i 0)), some (.int (nI n)), some (.int (nI n)), none, none, none, none] [] (G1)) : ∀ j : Nat, j ≤ n → ∀ G1, zRC L x nx G1 r h c sl T tn → (∀ y, x + 134 ≤ y → G1 y = G y) → zV l (fun _ => True) D B RL "cup" cL_cup 10 (some .boolean) (zrm 4 87 0 0) (zN (zI 1 L nx (fun G1 => zRC L x nx G1 r h c sl T tn ∧ ∀ y, x + 134 ≤ y → G1 y = G y))) 0 0 L nx 17 [some (.ref x), some (.ref (x + 134)), some (.int (nI i)), some (.int (cupR r i 0)), some (.int (nI n)), some (.int (nI j)), none, none, none, none] [] (G1) := by
  refine zloop n (fun j hj ih G1 hR hF => ?_)
  refine zv_iload dL_cup_17 rfl ?_
  refine zv_iload dL_cup_19 rfl ?_
  refine zv_icmp_ge (tgt := 61) dL_cup_21 (by decide) (fun c21 => ?_) (fun c21 => ?_)
  · have e : j = n := by have := zge_of (N := n) (by omega) (by omega) rfl c21; omega
    subst e
    exact kk _ hR hF
  · have hlt : j < n := zlt_of (N := n) (by omega) (by omega) rfl c21
    refine zv_aload_n dL_cup_24 rfl ?_
    refine zv_iload_n dL_cup_25 rfl ?_
    refine zv_iload dL_cup_26 rfl ?_
    refine zv_callV (m_X6_known l D B hR.1 hR.2.1 hS (nI i) (nI j)) ml_L_31 in_X6_known sel_X6_known hR.1.1 rfl rfl rfl rfl (Nat.le_of_ble_eq_true rfl) dL_cup_28 ⟨Nat.le_of_ble_eq_true rfl, Nat.le_of_ble_eq_true rfl⟩ ⟨Nat.le_refl _, Nat.le_refl _⟩ (zk_p fun G1 hG1 => ?_)
    replace hF := frT hF hG1.2
    replace hR := (zRC_fr hR hG1.1 hG1.2).1
    clear hG1
    rw [qKn_at h2 hn h3 hc hi hlt]
    cases hz : zb (cupR r i 0) j
    · simp only [Bool.false_eq_true, if_false]
      refine zv_iload_n dL_cup_31 rfl ?_
      refine zv_iload dL_cup_32 rfl ?_
      refine zv_ishr dL_cup_34 ?_
      refine zv_iconst (v := 1) dL_cup_35 (by decide) ?_
      refine zv_iand dL_cup_36 ?_
      refine zv_iconst (v := 1) dL_cup_37 (by decide) ?_
      rw [bI_sh (by omega), hz]
      refine zv_icmp_ne (tgt := 48) dL_cup_38 (by decide) (fun _ => ?_) (fun h => absurd h (by decide))
      refine zv_bipush (v := (-6)) dL_cup_48 (by decide) ?_
      refine zv_icmp_eq (tgt := 55) dL_cup_50 (by decide) (fun _ => ?_) (fun h => absurd (rfl) h)
      refine zv_iinc1 dL_cup_55 rfl (by decide) rfl ?_
      refine zv_goto (tgt := 17) dL_cup_58 (by decide) ?_
      rw [nI_1]
      exact ih hlt _ hR hF
    · simp only [if_true]
      rw [hJ.2.2.2.2.1 j hlt hz, hbk j hlt]
      refine zv_iload_n dL_cup_31 rfl ?_
      refine zv_iload dL_cup_32 rfl ?_
      refine zv_ishr dL_cup_34 ?_
      refine zv_iconst (v := 1) dL_cup_35 (by decide) ?_
      refine zv_iand dL_cup_36 ?_
      refine zv_iconst (v := 1) dL_cup_37 (by decide) ?_
      rw [bI_sh (by omega), hz]
      refine zv_icmp_ne (tgt := 48) dL_cup_38 (by decide) (fun h => absurd (rfl) h) (fun _ => ?_)
      refine zv_aload_n dL_cup_41 rfl ?_
      refine zv_iload dL_cup_42 rfl ?_
      refine zv_iald (q := x + 134) (r := 0) (i := 0) hq rfl (zix_nI (show j < 16 by omega) (by decide)) dL_cup_44 ?_
      rw [Nat.zero_add, hF _ (Nat.le_refl _), hb _ (by omega)]
      refine zv_goto (tgt := 50) dL_cup_45 (by decide) ?_
      refine zv_icmp_eq (tgt := 55) dL_cup_50 (by decide) (fun _ => ?_) (fun h => absurd (rfl) h)
      refine zv_iinc1 dL_cup_55 rfl (by decide) rfl ?_
      refine zv_goto (tgt := 17) dL_cup_58 (by decide) ?_
      rw [nI_1]
      exact ih hlt _ hR hF

set_option maxRecDepth 100000 in
set_option maxHeartbeats 4000000 in
theorem lp_cup3 (l : Launch) (D : zD) (B : Nat) {L : zL} {nx : Nat} {G : zG} {x t n cn c tn : Nat} {r bk : Nat → Int32} {h : Nat → (Nat → Int32)} {sl : Nat → Option (Nat → Int32)} {T : Nat → Nat} {i m q : Nat} {G1 : zG} (hR : zRC L x nx G1 r h c sl T tn) (hF : ∀ y, x + 134 ≤ y → G1 y = G y) (hS : SI t r) (h2 : r 2 = nI n) (hn0 : 0 < n) (hn : n ≤ 16) (h3 : r 3 = nI cn) (hc : cn ≤ 3) (hi : i < cn) (hbk : ∀ c, c < n → chR r c = bk c) (hq : (x + 134, 116) ∈ L) (hb : ∀ i, i < n → G (x + 134) i = bk i) (kk : zV l (fun _ => True) D B RL "cup" cL_cup 10 (some .boolean) (zrm 4 87 0 0) (zN (zI 1 L nx (fun G1 => zRC L x nx G1 r h c sl T tn ∧ ∀ y, x + 134 ≤ y → G1 y = G y))) 0 0 L nx 132 [some (.ref x), some (.ref (x + 134)), some (.int (nI i)), some (.int (cupR r i 0)), some (.int (nI n)), some (.int (nI m)), some (.int (nI q)), some (.int (cupR r i (21 + q))), some (.int (xsN bk (cupR r i (21 + q)) n)), some (.int (nI n))] [] (G1)) : ∀ j : Nat, j ≤ n → zV l (fun _ => True) D B RL "cup" cL_cup 10 (some .boolean) (zrm 4 87 0 0) (zN (zI 1 L nx (fun G1 => zRC L x nx G1 r h c sl T tn ∧ ∀ y, x + 134 ≤ y → G1 y = G y))) 0 0 L nx 95 [some (.ref x), some (.ref (x + 134)), some (.int (nI i)), some (.int (cupR r i 0)), some (.int (nI n)), some (.int (nI m)), some (.int (nI q)), some (.int (cupR r i (21 + q))), some (.int (xsN bk (cupR r i (21 + q)) j)), some (.int (nI j))] [] (G1) := by
  refine zloop n (fun j hj ih => ?_)
  refine zv_iload dL_cup_95 rfl ?_
  refine zv_iload dL_cup_97 rfl ?_
  refine zv_icmp_ge (tgt := 132) dL_cup_99 (by decide) (fun c99 => ?_) (fun c99 => ?_)
  · have e : j = n := by have := zge_of (N := n) (by omega) (by omega) rfl c99; omega
    subst e
    exact kk
  · have hlt : j < n := zlt_of (N := n) (by omega) (by omega) rfl c99
    cases hz : zb (cupR r i (21 + q)) j
    · refine zv_iload dL_cup_102 rfl ?_
      refine zv_iload dL_cup_104 rfl ?_
      refine zv_iload dL_cup_106 rfl ?_
      refine zv_ishr dL_cup_108 ?_
      refine zv_iconst (v := 1) dL_cup_109 (by decide) ?_
      refine zv_iand dL_cup_110 ?_
      refine zv_iconst (v := 1) dL_cup_111 (by decide) ?_
      rw [bI_sh (by omega), hz]
      refine zv_icmp_ne (tgt := 122) dL_cup_112 (by decide) (fun _ => ?_) (fun h => absurd h (by decide))
      refine zv_iconst (v := 0) dL_cup_122 (by decide) ?_
      refine zv_ixor dL_cup_123 ?_
      rw [show xsN bk (cupR r i (21 + q)) j ^^^ 0 = xsN bk (cupR r i (21 + q)) (j + 1) by simp only [xsN]; rw [hz]; rfl]
      refine zv_istore dL_cup_124 (by decide) rfl ?_
      refine zv_iinc1 dL_cup_126 rfl (by decide) rfl ?_
      refine zv_goto (tgt := 95) dL_cup_129 (by decide) ?_
      rw [nI_1]
      exact ih hlt
    · refine zv_iload dL_cup_102 rfl ?_
      refine zv_iload dL_cup_104 rfl ?_
      refine zv_iload dL_cup_106 rfl ?_
      refine zv_ishr dL_cup_108 ?_
      refine zv_iconst (v := 1) dL_cup_109 (by decide) ?_
      refine zv_iand dL_cup_110 ?_
      refine zv_iconst (v := 1) dL_cup_111 (by decide) ?_
      rw [bI_sh (by omega), hz]
      refine zv_icmp_ne (tgt := 122) dL_cup_112 (by decide) (fun h => absurd (rfl) h) (fun _ => ?_)
      refine zv_aload_n dL_cup_115 rfl ?_
      refine zv_iload dL_cup_116 rfl ?_
      refine zv_iald (q := x + 134) (r := 0) (i := 0) hq rfl (zix_nI (show j < 16 by omega) (by decide)) dL_cup_118 ?_
      rw [Nat.zero_add, hF _ (Nat.le_refl _), hb _ (by omega)]
      refine zv_goto (tgt := 123) dL_cup_119 (by decide) ?_
      refine zv_ixor dL_cup_123 ?_
      rw [show xsN bk (cupR r i (21 + q)) j ^^^ bk j = xsN bk (cupR r i (21 + q)) (j + 1) by simp only [xsN]; rw [hz]; rfl]
      refine zv_istore dL_cup_124 (by decide) rfl ?_
      refine zv_iinc1 dL_cup_126 rfl (by decide) rfl ?_
      refine zv_goto (tgt := 95) dL_cup_129 (by decide) ?_
      rw [nI_1]
      exact ih hlt

set_option maxRecDepth 100000 in
set_option maxHeartbeats 4000000 in
theorem lp_cup2 (l : Launch) (D : zD) (B : Nat) {L : zL} {nx : Nat} {G : zG} {x t n cn c tn : Nat} {r bk : Nat → Int32} {h : Nat → (Nat → Int32)} {sl : Nat → Option (Nat → Int32)} {T : Nat → Nat} {i m : Nat} (hS : SI t r) (h2 : r 2 = nI n) (hn0 : 0 < n) (hn : n ≤ 16) (h3 : r 3 = nI cn) (hc : cn ≤ 3) (hi : i < cn) (hbk : ∀ c, c < n → chR r c = bk c) (hq : (x + 134, 116) ∈ L) (hb : ∀ i, i < n → G (x + 134) i = bk i) (hJ : zCJ n (chR r) (cupR r i) m) (hs : zsz (cupR r i) m) (kk : ∀ G1 (a6 a7 a8 a9 : Option Value), zRC L x nx G1 r h c sl T tn → (∀ y, x + 134 ≤ y → G1 y = G y) → zV l (fun _ => True) D B RL "cup" cL_cup 10 (some .boolean) (zrm 4 87 0 0) (zN (zI 1 L nx (fun G1 => zRC L x nx G1 r h c sl T tn ∧ ∀ y, x + 134 ≤ y → G1 y = G y))) 0 0 L nx 177 [some (.ref x), some (.ref (x + 134)), some (.int (nI i)), some (.int (cupR r i 0)), some (.int (nI n)), some (.int (nI m)), a6, a7, a8, a9] [] (G1)) : ∀ q : Nat, q ≤ m → ∀ G1 (a7 a8 a9 : Option Value), zRC L x nx G1 r h c sl T tn → (∀ y, x + 134 ≤ y → G1 y = G y) → zV l (fun _ => True) D B RL "cup" cL_cup 10 (some .boolean) (zrm 4 87 0 0) (zN (zI 1 L nx (fun G1 => zRC L x nx G1 r h c sl T tn ∧ ∀ y, x + 134 ≤ y → G1 y = G y))) 0 0 L nx 72 [some (.ref x), some (.ref (x + 134)), some (.int (nI i)), some (.int (cupR r i 0)), some (.int (nI n)), some (.int (nI m)), some (.int (nI q)), a7, a8, a9] [] (G1) := by
  have hm := hJ.2.1
  refine zloop m (fun q hqm0 ih G1 a7 a8 a9 hR hF => ?_)
  refine zv_iload dL_cup_72 rfl ?_
  refine zv_iload dL_cup_74 rfl ?_
  refine zv_icmp_ge (tgt := 177) dL_cup_76 (by decide) (fun c76 => ?_) (fun c76 => ?_)
  · have e : q = m := by have := zge_of (N := m) (by omega) (by omega) rfl c76; omega
    subst e
    exact kk _ _ _ _ _ hR hF
  · have hqm : q < m := zlt_of (N := m) (by omega) (by omega) rfl c76
    obtain ⟨g1, g2, g3, g4⟩ := hJ.2.2.2.2.2 q (by omega)
    refine zv_aload_n dL_cup_79 rfl ?_
    refine zv_iload_n dL_cup_80 rfl ?_
    refine zv_iload dL_cup_81 rfl ?_
    refine zv_iconst (v := 0) dL_cup_83 (by decide) ?_
    refine zv_callV (m_X6_kept l D B hR.1 hR.2.1 hS (nI i) (nI q) 0) ml_L_34 in_X6_kept sel_X6_kept hR.1.1 rfl rfl rfl rfl (Nat.le_of_ble_eq_true rfl) dL_cup_84 ⟨Nat.le_of_ble_eq_true rfl, Nat.le_of_ble_eq_true rfl⟩ ⟨Nat.le_refl _, Nat.le_refl _⟩ (zk_p fun G1 hG1 => ?_)
    replace hF := frT hF hG1.2
    replace hR := (zRC_fr hR hG1.1 hG1.2).1
    clear hG1
    rw [(qKe_at h3 hc hi hJ.2.2.1 hJ.2.1 hqm).1]
    refine zv_istore dL_cup_87 (by decide) rfl ?_
    refine zv_iconst (v := 0) dL_cup_89 (by decide) ?_
    refine zv_istore dL_cup_90 (by decide) rfl ?_
    refine zv_iconst (v := 0) dL_cup_92 (by decide) ?_
    refine zv_istore dL_cup_93 (by decide) rfl ?_
    refine lp_cup3 l D B (cn := cn) (n := n) hR hF hS h2 hn0 hn h3 hc hi hbk hq hb ?_ 0 (Nat.zero_le _)
    refine zv_iload dL_cup_132 rfl ?_
    refine zv_callS (m_L_size l D B _) ml_L_25 st_L_size rfl rfl (Nat.le_of_ble_eq_true rfl) dL_cup_134 ⟨Nat.le_of_ble_eq_true rfl, Nat.le_of_ble_eq_true rfl⟩ ⟨Nat.le_refl _, Nat.le_refl _⟩ (zk_i ?_)
    refine zv_iconst (v := 2) dL_cup_137 (by decide) ?_
    refine zv_icmp_lt (tgt := 169) dL_cup_138 (by decide) (fun h => absurd h (nJ_nlt (b := 2) (hs q hqm) (by have := zcnt_le (zb (cupR r i (21 + q))) 16; omega))) (fun _ => ?_)
    refine zv_iload dL_cup_141 rfl ?_
    refine zv_iload_n dL_cup_143 rfl ?_
    refine zv_iand dL_cup_144 ?_
    rw [show cupR r i (21 + q) &&& cupR r i 0 = 0 from zb_ext (fun k hk => by rw [zb_and, zb_zero]; cases hz : zb (cupR r i 0) k with
      | false => simp
      | true => rw [g2 k hz]; rfl)]
    refine zv_if_ne (tgt := 169) dL_cup_145 (by decide) (fun h => absurd (rfl) h) (fun _ => ?_)
    refine zv_iload dL_cup_148 rfl ?_
    refine zv_iload dL_cup_150 rfl ?_
    refine zv_ishr dL_cup_152 ?_
    rw [shr_lim hn g1]
    refine zv_if_ne (tgt := 169) dL_cup_153 (by decide) (fun h => absurd (rfl) h) (fun _ => ?_)
    refine zv_aload_n dL_cup_156 rfl ?_
    refine zv_iload_n dL_cup_157 rfl ?_
    refine zv_iload dL_cup_158 rfl ?_
    refine zv_iconst (v := 1) dL_cup_160 (by decide) ?_
    refine zv_callV (m_X6_kept l D B hR.1 hR.2.1 hS (nI i) (nI q) 1) ml_L_34 in_X6_kept sel_X6_kept hR.1.1 rfl rfl rfl rfl (Nat.le_of_ble_eq_true rfl) dL_cup_161 ⟨Nat.le_of_ble_eq_true rfl, Nat.le_of_ble_eq_true rfl⟩ ⟨Nat.le_refl _, Nat.le_refl _⟩ (zk_p fun G1 hG1 => ?_)
    replace hF := frT hF hG1.2
    replace hR := (zRC_fr hR hG1.1 hG1.2).1
    clear hG1
    rw [(qKe_at h3 hc hi hJ.2.2.1 hJ.2.1 hqm).2]
    refine zv_iload dL_cup_164 rfl ?_
    rw [g3, show xs (chR r) (cupR r i (21 + q)) = xsN bk (cupR r i (21 + q)) n from (xsN_lim g1 hn).trans (xsN_congr (fun j hj _ => hbk j hj))]
    refine zv_icmp_eq (tgt := 171) dL_cup_166 (by decide) (fun _ => ?_) (fun h => absurd (rfl) h)
    refine zv_iinc1 dL_cup_171 rfl (by decide) rfl ?_
    refine zv_goto (tgt := 72) dL_cup_174 (by decide) ?_
    rw [nI_1]
    exact ih hqm _ _ _ _ hR hF

set_option maxRecDepth 100000 in
set_option maxHeartbeats 4000000 in
theorem m_L_cup (l : Launch) (D : zD) (B : Nat) {L : zL} {nx : Nat} {G : zG} {x t n cn c tn : Nat} {r bk : Nat → Int32} {h : Nat → (Nat → Int32)} {sl : Nat → Option (Nat → Int32)} {T : Nat → Nat} {i : Nat} (hR : zRC L x nx G r h c sl T tn) (hQ : LQ t n cn bk r) (ht : t < 2 ^ 30) (hi : i < cn) (hq : (x + 134, 116) ∈ L) (hb : ∀ i, i < n → G (x + 134) i = bk i) : zMet l D B yL_cup cL_cup 10 (some .boolean) 4 87 0 0 [.ref x, .ref (x + 134), .int (nI i)] L nx G (zI 1 L nx (fun G1 => zRC L x nx G1 r h c sl T tn ∧ ∀ y, x + 134 ≤ y → G1 y = G y)) := by
  refine zMet_of (own := RL) (mn := "cup") [some (.ref x), some (.ref (x + 134)), some (.int (nI i)), none, none, none, none, none, none, none] (by decide +kernel) rfl rfl rfl (Nat.le_of_ble_eq_true rfl) ?_
  show zV l (fun _ => True) D B RL "cup" cL_cup 10 (some .boolean) (zrm 4 87 0 0) (zN (zI 1 L nx (fun G1 => zRC L x nx G1 r h c sl T tn ∧ ∀ y, x + 134 ≤ y → G1 y = G y))) 0 0 L nx 0 [some (.ref x), some (.ref (x + 134)), some (.int (nI i)), none, none, none, none, none, none, none] [] (G)
  have hS := LQ_SI hQ
  obtain ⟨w, ls, p, h0, hw, h1, hl, h2, hn0, hn, h3, hc0, hc, h4, hp, hI, hz, hbk, hk⟩ := id hQ
  have hF : ∀ y, x + 134 ≤ y → G y = G y := fun _ _ => rfl
  refine zv_aload_n dL_cup_0 rfl ?_
  refine zv_iload_n dL_cup_1 rfl ?_
  refine zv_iconst (v := 0) dL_cup_2 (by decide) ?_
  refine zv_callV (m_X6_ofCup l D B hR.1 hR.2.1 hS (nI i) 0) ml_L_28 in_X6_ofCup sel_X6_ofCup hR.1.1 rfl rfl rfl rfl (Nat.le_of_ble_eq_true rfl) dL_cup_3 ⟨Nat.le_of_ble_eq_true rfl, Nat.le_of_ble_eq_true rfl⟩ ⟨Nat.le_refl _, Nat.le_refl _⟩ (zk_p fun G1 hG1 => ?_)
  replace hF := frT hF hG1.2
  replace hR := (zRC_fr hR hG1.1 hG1.2).1
  clear hG1
  rw [qOf_at h3 hc hi, qOf_0]
  refine zv_istore_n dL_cup_6 (by decide) rfl ?_
  refine zv_aload_n dL_cup_7 rfl ?_
  refine zv_iconst (v := 0) dL_cup_8 (by decide) ?_
  refine zv_callV (m_X6_count l D B hR.1 hR.2.1 hS 0 _ _ rfl rfl) ml_L_10 in_X6_count sel_X6_count hR.1.1 rfl rfl rfl rfl (Nat.le_of_ble_eq_true rfl) dL_cup_9 ⟨Nat.le_of_ble_eq_true rfl, Nat.le_of_ble_eq_true rfl⟩ ⟨Nat.le_refl _, Nat.le_refl _⟩ (zk_p fun G1 hG1 => ?_)
  replace hF := frT hF hG1.2
  replace hR := (zRC_fr hR hG1.1 hG1.2).1
  clear hG1
  rw [qCo_0, h2]
  refine zv_istore dL_cup_12 (by decide) rfl ?_
  refine zv_iconst (v := 0) dL_cup_14 (by decide) ?_
  refine zv_istore dL_cup_15 (by decide) rfl ?_
  obtain ⟨m, hJ, hs⟩ := hI i (by omega)
  refine lp_cup1 l D B (cn := cn) (n := n) hS h2 hn0 hn h3 hc hi hbk hq hb hJ (fun G1 hR hF => ?_) 0 (Nat.zero_le _) _ hR hF
  refine zv_aload_n dL_cup_61 rfl ?_
  refine zv_iload_n dL_cup_62 rfl ?_
  refine zv_iconst (v := 1) dL_cup_63 (by decide) ?_
  refine zv_callV (m_X6_ofCup l D B hR.1 hR.2.1 hS (nI i) 1) ml_L_28 in_X6_ofCup sel_X6_ofCup hR.1.1 rfl rfl rfl rfl (Nat.le_of_ble_eq_true rfl) dL_cup_64 ⟨Nat.le_of_ble_eq_true rfl, Nat.le_of_ble_eq_true rfl⟩ ⟨Nat.le_refl _, Nat.le_refl _⟩ (zk_p fun G1 hG1 => ?_)
  replace hF := frT hF hG1.2
  replace hR := (zRC_fr hR hG1.1 hG1.2).1
  clear hG1
  rw [qOf_at h3 hc hi, qOf_1, hJ.2.2.1]
  refine zv_istore dL_cup_67 (by decide) rfl ?_
  refine zv_iconst (v := 0) dL_cup_69 (by decide) ?_
  refine zv_istore dL_cup_70 (by decide) rfl ?_
  exact lp_cup2 l D B (cn := cn) (n := n) hS h2 hn0 hn h3 hc hi hbk hq hb hJ hs (fun G1 a6 a7 a8 a9 hR hF => ep_cup l D B (cn := cn) (n := n) hR hF hS h2 hn0 hn h3 hc hi hbk hq hb hJ hs (hk i (by omega)) ht) 0 (Nat.zero_le _) _ _ _ _ hR hF
