set_option maxRecDepth 100000 in
set_option maxHeartbeats 4000000 in
theorem ac_pour (l : Launch) (D : zD) (B : Nat) {L : zL} {nx : Nat} {G : zG} {x t n cn c tn : Nat} {r bk : Nat → Int32} {h : Nat → (Nat → Int32)} {sl : Nat → Option (Nat → Int32)} {T : Nat → Nat} {i wh : Nat} {g h9 : Int32} (hR : zRC L x nx G r h c sl T tn) (hsl : ∀ j, j < 2 → sl j = none) (hQ : LQ t n cn bk r) (ht : t < 2 ^ 29) (hi : i < cn) (hwh : wh < 14) (hB : B ≤ nx) (hx : x + 135 ≤ nx) : zV l (fun _ => True) D B RL "act" cL_act 9 (some .boolean) (zrm 7 178 1 25) (fun v L' nx' G' k9 n9 => ((fun v L' nx' G' => v = some (.int 1) ∧ (∀ b ∈ L, b ∈ L') ∧ nx ≤ nx' ∧ nx' ≤ nx + 1 ∧ ∃ r' h' c', zRC L' x nx' G' r' h' c' sl T tn ∧ (∀ y, x + 134 ≤ y → y < nx → G' y = G y) ∧ LQ (t + 1) n cn bk r')) v L' nx' G' ∧ k9 ≤ 1 ∧ n9 ≤ 25) 0 0 L nx 264 [some (.ref x), some (.int (nI cn)), some (.int g), some (.int h9), some (.int (nI i)), some (.int (nI wh)), none, none, none] [] G := by
  have hS := LQ_SI hQ
  obtain ⟨w, ls, p, h0, hw, h1, hl, h2, hn0, hn, h3, hc0, hc, h4, hp, hI, hz, hbk, hk⟩ := id hQ
  have hF : ∀ y, x + 134 ≤ y → G y = G y := fun _ _ => rfl
  refine zv_aload_n dL_act_264 rfl ?_
  refine zv_iload dL_act_265 rfl ?_
  refine zv_iload_n dL_act_267 rfl ?_
  refine zv_ldc dL_act_268 kc_L_60 ?_
  refine zv_callS (m_L_low l D B _ (d := 65536) (by omega) (by omega)) ml_L_48 st_L_low rfl rfl (Nat.le_of_ble_eq_true rfl) dL_act_270 ⟨Nat.le_of_ble_eq_true rfl, Nat.le_of_ble_eq_true rfl⟩ ⟨Nat.zero_le _, Nat.zero_le _⟩ (zk_x fun z9 hz9 => ?_)
  obtain ⟨sd, hsd, rfl⟩ := hz9
  refine zv_callS (m_L_poured l D B hR hsl hQ ht hi hsd hB hx) ml_L_61 st_L_poured rfl rfl (Nat.le_of_ble_eq_true rfl) dL_act_273 ⟨Nat.le_of_ble_eq_true rfl, Nat.le_of_ble_eq_true rfl⟩ ⟨Nat.le_of_ble_eq_true rfl, Nat.le_of_ble_eq_true rfl⟩ (fun v1 L1 nx1 G2 hG2 => ?_)
  obtain ⟨rfl, rfl, rfl, r2, h2, c2, hR2, hF2, hQ2⟩ := hG2
  exact zv_iret dL_act_276 rfl rfl ⟨⟨rfl, fun b hb => List.mem_append_left _ hb, Nat.le_succ _, Nat.le_refl _, r2, h2, c2, hR2, fun y a b => (hF2 y a b).trans (hF y a), hQ2⟩, Nat.le_refl _, Nat.le_refl _⟩

set_option maxRecDepth 100000 in
set_option maxHeartbeats 4000000 in
theorem ac_rest (l : Launch) (D : zD) (B : Nat) {L : zL} {nx : Nat} {G : zG} {x t n cn c tn : Nat} {r bk : Nat → Int32} {h : Nat → (Nat → Int32)} {sl : Nat → Option (Nat → Int32)} {T : Nat → Nat} {i wh : Nat} {g h9 : Int32} (hR : zRC L x nx G r h c sl T tn) (hsl : ∀ j, j < 2 → sl j = none) (hQ : LQ t n cn bk r) (ht : t < 2 ^ 29) (hi : i < cn) (hwh : wh < 14) (hB : B ≤ nx) (hx : x + 135 ≤ nx) : zV l (fun _ => True) D B RL "act" cL_act 9 (some .boolean) (zrm 7 178 1 25) (fun v L' nx' G' k9 n9 => ((fun v L' nx' G' => v = some (.int 1) ∧ (∀ b ∈ L, b ∈ L') ∧ nx ≤ nx' ∧ nx' ≤ nx + 1 ∧ ∃ r' h' c', zRC L' x nx' G' r' h' c' sl T tn ∧ (∀ y, x + 134 ≤ y → y < nx → G' y = G y) ∧ LQ (t + 1) n cn bk r')) v L' nx' G' ∧ k9 ≤ 1 ∧ n9 ≤ 25) 0 0 L nx 179 [some (.ref x), some (.int (nI cn)), some (.int g), some (.int h9), some (.int (nI i)), some (.int (nI wh)), none, none, none] [] G := by
  have hS := LQ_SI hQ
  obtain ⟨w, ls, p, h0, hw, h1, hl, h2, hn0, hn, h3, hc0, hc, h4, hp, hI, hz, hbk, hk⟩ := id hQ
  have hF : ∀ y, x + 134 ≤ y → G y = G y := fun _ _ => rfl
  obtain ⟨m, hJ, hs⟩ := hI i (by omega)
  obtain ⟨m2, hJ2, hs2⟩ := (zCJ_all hJ).2
  refine zv_iload dL_act_179 rfl ?_
  refine zv_iconst (v := 2) dL_act_181 (by decide) ?_
  refine zv_icmp_ne (tgt := 264) dL_act_182 (by decide) (fun c182 => ?_) (fun c182 => ?_)
  · exact ac_pour l D B hR hsl hQ ht hi hwh hB hx
  · refine zv_aload_n dL_act_185 rfl ?_
    refine zv_iload dL_act_186 rfl ?_
    refine zv_iconst (v := 0) dL_act_188 (by decide) ?_
    refine zv_callV (m_X6_ofCup l D B hR.1 hR.2.1 hS (nI i) 0) ml_L_28 in_X6_ofCup sel_X6_ofCup hR.1.1 rfl rfl rfl rfl (Nat.le_of_ble_eq_true rfl) dL_act_189 ⟨Nat.le_of_ble_eq_true rfl, Nat.le_of_ble_eq_true rfl⟩ ⟨Nat.zero_le _, Nat.zero_le _⟩ (zk_p fun G1 hG1 => ?_)
    replace hF := frT hF hG1.2
    replace hR := (zRC_fr hR hG1.1 hG1.2).1
    clear hG1
    rw [qOf_at h3 hc hi, qOf_0]
    refine zv_callS (m_L_size l D B _) ml_L_25 st_L_size rfl rfl (Nat.le_of_ble_eq_true rfl) dL_act_192 ⟨Nat.le_of_ble_eq_true rfl, Nat.le_of_ble_eq_true rfl⟩ ⟨Nat.zero_le _, Nat.zero_le _⟩ (zk_i ?_)
    refine zv_istore dL_act_195 (by decide) rfl ?_
    refine zv_aload_n dL_act_197 rfl ?_
    refine zv_iload dL_act_198 rfl ?_
    refine zv_bipush (v := 6) dL_act_200 (by decide) ?_
    refine zv_callV (m_X6_ofCup l D B hR.1 hR.2.1 hS (nI i) 6) ml_L_28 in_X6_ofCup sel_X6_ofCup hR.1.1 rfl rfl rfl rfl (Nat.le_of_ble_eq_true rfl) dL_act_202 ⟨Nat.le_of_ble_eq_true rfl, Nat.le_of_ble_eq_true rfl⟩ ⟨Nat.zero_le _, Nat.zero_le _⟩ (zk_p fun G1 hG1 => ?_)
    replace hF := frT hF hG1.2
    replace hR := (zRC_fr hR hG1.1 hG1.2).1
    clear hG1
    rw [qOf_at h3 hc hi, qOf_6, nI_add]
    refine zv_istore dL_act_205 (by decide) rfl ?_
    refine zv_aload_n dL_act_207 rfl ?_
    refine zv_iload dL_act_208 rfl ?_
    refine zv_callV (m_X6_solve l D B hR hS (nI i)) ml_L_57 in_X6_solve sel_X6_solve hR.1.1 rfl rfl rfl rfl (Nat.le_of_ble_eq_true rfl) dL_act_210 ⟨Nat.le_of_ble_eq_true rfl, Nat.le_of_ble_eq_true rfl⟩ ⟨Nat.zero_le _, Nat.zero_le _⟩ (zk_p fun G1 hG1 => ?_)
    rw [opSolve_at h3 hc hi] at hG1 ⊢
    rw [chg_pos (by
        show ¬ nI _ - nI _ < 0
        rw [slv_cn hJ, pk_sub (by omega)]
        have := zcnt_le (zb (folM (cupR r i))) 16
        exact nI_pos (by omega))] at hG1
    dsimp only at hG1 ⊢
    obtain ⟨hR, hFp⟩ := hG1
    replace hF := frU hF hFp
    have hQ2 := LQ_solve hQ hi
    have hS2 := LQ_SI hQ2
    have hcu : cupR (putC r i (slvP (cupR r i) (chR r))) i = slvP (cupR r i) (chR r) := cupR_putC (fun j hj => (slvP_hi hJ j hj).trans (cupR_hi r i j hj))
    have h32 : putC r i (slvP (cupR r i) (chR r)) 3 = nI cn := by rw [putC_lo (by omega)]; exact h3
    refine zv_iload dL_act_213 rfl ?_
    refine zv_iload dL_act_215 rfl ?_
    refine zv_isub dL_act_217 ?_
    refine zv_icmp_ne (tgt := 262) dL_act_218 (by decide) (fun h => absurd (by rw [slv_cn hJ]) h) (fun _ => ?_)
    refine zv_aload_n dL_act_221 rfl ?_
    refine zv_iload dL_act_222 rfl ?_
    refine zv_iconst (v := 0) dL_act_224 (by decide) ?_
    refine zv_callV (m_X6_ofCup l D B hR.1 hR.2.1 hS2 (nI i) 0) ml_L_28 in_X6_ofCup sel_X6_ofCup hR.1.1 rfl rfl rfl rfl (Nat.le_of_ble_eq_true rfl) dL_act_225 ⟨Nat.le_of_ble_eq_true rfl, Nat.le_of_ble_eq_true rfl⟩ ⟨Nat.zero_le _, Nat.zero_le _⟩ (zk_p fun G1 hG1 => ?_)
    replace hF := frT hF hG1.2
    replace hR := (zRC_fr hR hG1.1 hG1.2).1
    clear hG1
    rw [qOf_at h32 hc hi, qOf_0, hcu]
    refine zv_callS (m_L_size l D B _) ml_L_25 st_L_size rfl rfl (Nat.le_of_ble_eq_true rfl) dL_act_228 ⟨Nat.le_of_ble_eq_true rfl, Nat.le_of_ble_eq_true rfl⟩ ⟨Nat.zero_le _, Nat.zero_le _⟩ (zk_i ?_)
    refine zv_iload dL_act_231 rfl ?_
    refine zv_icmp_ne (tgt := 262) dL_act_233 (by decide) (fun h => absurd (by rw [slv_cn hJ]) h) (fun _ => ?_)
    refine zv_aload_n dL_act_236 rfl ?_
    refine zv_iload dL_act_237 rfl ?_
    refine zv_bipush (v := 6) dL_act_239 (by decide) ?_
    refine zv_callV (m_X6_ofCup l D B hR.1 hR.2.1 hS2 (nI i) 6) ml_L_28 in_X6_ofCup sel_X6_ofCup hR.1.1 rfl rfl rfl rfl (Nat.le_of_ble_eq_true rfl) dL_act_241 ⟨Nat.le_of_ble_eq_true rfl, Nat.le_of_ble_eq_true rfl⟩ ⟨Nat.zero_le _, Nat.zero_le _⟩ (zk_p fun G1 hG1 => ?_)
    replace hF := frT hF hG1.2
    replace hR := (zRC_fr hR hG1.1 hG1.2).1
    clear hG1
    rw [qOf_at h32 hc hi, qOf_6, hcu, slv_no hJ, slv_cn hJ, show zcnt (zb 0) 16 = 0 by decide]
    refine zv_iload dL_act_244 rfl ?_
    refine zv_icmp_ne (tgt := 262) dL_act_246 (by decide) (fun h => absurd (Int32.add_zero _) h) (fun _ => ?_)
    refine zv_aload_n dL_act_249 rfl ?_
    refine zv_iload dL_act_250 rfl ?_
    refine zv_callV (m_X6_solve l D B hR hS2 (nI i)) ml_L_57 in_X6_solve sel_X6_solve hR.1.1 rfl rfl rfl rfl (Nat.le_of_ble_eq_true rfl) dL_act_252 ⟨Nat.le_of_ble_eq_true rfl, Nat.le_of_ble_eq_true rfl⟩ ⟨Nat.zero_le _, Nat.zero_le _⟩ (zk_p fun G1 hG1 => ?_)
    rw [opSolve_at h32 hc hi, hcu, chR_putC, slv_id hJ2 hs2 (slv_no hJ), Int32.sub_self] at hG1 ⊢
    rw [chg_pos (by show ¬ (0 : Int32) < 0; decide)] at hG1
    dsimp only at hG1 ⊢
    obtain ⟨hR, hFp⟩ := hG1
    replace hF := frU hF hFp
    have hQ3 := LQ_solve hQ2 hi
    rw [hcu, chR_putC, slv_id hJ2 hs2 (slv_no hJ)] at hQ3
    refine zv_if_ne (tgt := 262) dL_act_255 (by decide) (fun h => absurd (rfl) h) (fun _ => ?_)
    refine zv_iconst (v := 1) dL_act_258 (by decide) ?_
    refine zv_goto (tgt := 263) dL_act_259 (by decide) ?_
    exact zv_iret dL_act_263 rfl rfl ⟨⟨rfl, fun b hb => hb, Nat.le_refl _, Nat.le_succ _, _, _, _, hR, fun y a b => hF y a, LQ_mono (hQ3)⟩, Nat.zero_le _, Nat.zero_le _⟩

set_option maxRecDepth 100000 in
set_option maxHeartbeats 4000000 in
theorem ac_empty (l : Launch) (D : zD) (B : Nat) {L : zL} {nx : Nat} {G : zG} {x t n cn c tn : Nat} {r bk : Nat → Int32} {h : Nat → (Nat → Int32)} {sl : Nat → Option (Nat → Int32)} {T : Nat → Nat} {i wh : Nat} {g h9 : Int32} (hR : zRC L x nx G r h c sl T tn) (hsl : ∀ j, j < 2 → sl j = none) (hQ : LQ t n cn bk r) (ht : t < 2 ^ 29) (hi : i < cn) (hwh : wh < 14) (hB : B ≤ nx) (hx : x + 135 ≤ nx) : zV l (fun _ => True) D B RL "act" cL_act 9 (some .boolean) (zrm 7 178 1 25) (fun v L' nx' G' k9 n9 => ((fun v L' nx' G' => v = some (.int 1) ∧ (∀ b ∈ L, b ∈ L') ∧ nx ≤ nx' ∧ nx' ≤ nx + 1 ∧ ∃ r' h' c', zRC L' x nx' G' r' h' c' sl T tn ∧ (∀ y, x + 134 ≤ y → y < nx → G' y = G y) ∧ LQ (t + 1) n cn bk r')) v L' nx' G' ∧ k9 ≤ 1 ∧ n9 ≤ 25) 0 0 L nx 96 [some (.ref x), some (.int (nI cn)), some (.int g), some (.int h9), some (.int (nI i)), some (.int (nI wh)), none, none, none] [] G := by
  have hS := LQ_SI hQ
  obtain ⟨w, ls, p, h0, hw, h1, hl, h2, hn0, hn, h3, hc0, hc, h4, hp, hI, hz, hbk, hk⟩ := id hQ
  have hF : ∀ y, x + 134 ≤ y → G y = G y := fun _ _ => rfl
  refine zv_iload dL_act_96 rfl ?_
  refine zv_iconst (v := 1) dL_act_98 (by decide) ?_
  refine zv_icmp_ne (tgt := 179) dL_act_99 (by decide) (fun c99 => ?_) (fun c99 => ?_)
  · exact ac_rest l D B hR hsl hQ ht hi hwh hB hx
  · refine zv_iload_n dL_act_102 rfl ?_
    refine zv_iconst (v := 4) dL_act_103 (by decide) ?_
    refine zv_callS (m_L_low l D B _ (d := 4) (by omega) (by omega)) ml_L_48 st_L_low rfl rfl (Nat.le_of_ble_eq_true rfl) dL_act_104 ⟨Nat.le_of_ble_eq_true rfl, Nat.le_of_ble_eq_true rfl⟩ ⟨Nat.zero_le _, Nat.zero_le _⟩ (zk_x fun z9 hz9 => ?_)
    obtain ⟨q4, hq4, rfl⟩ := hz9
    refine zv_if_ne (tgt := 179) dL_act_107 (by decide) (fun c107 => ?_) (fun c107 => ?_)
    · exact ac_rest l D B hR hsl hQ ht hi hwh hB hx
    · refine zv_aload_n dL_act_110 rfl ?_
      refine zv_iload dL_act_111 rfl ?_
      refine zv_iconst (v := 0) dL_act_113 (by decide) ?_
      refine zv_callV (m_X6_ofCup l D B hR.1 hR.2.1 hS (nI i) 0) ml_L_28 in_X6_ofCup sel_X6_ofCup hR.1.1 rfl rfl rfl rfl (Nat.le_of_ble_eq_true rfl) dL_act_114 ⟨Nat.le_of_ble_eq_true rfl, Nat.le_of_ble_eq_true rfl⟩ ⟨Nat.zero_le _, Nat.zero_le _⟩ (zk_p fun G1 hG1 => ?_)
      replace hF := frT hF hG1.2
      replace hR := (zRC_fr hR hG1.1 hG1.2).1
      clear hG1
      rw [qOf_at h3 hc hi, qOf_0]
      refine zv_callS (m_L_size l D B _) ml_L_25 st_L_size rfl rfl (Nat.le_of_ble_eq_true rfl) dL_act_117 ⟨Nat.le_of_ble_eq_true rfl, Nat.le_of_ble_eq_true rfl⟩ ⟨Nat.zero_le _, Nat.zero_le _⟩ (zk_i ?_)
      refine zv_istore dL_act_120 (by decide) rfl ?_
      refine zv_aload_n dL_act_122 rfl ?_
      refine zv_iload dL_act_123 rfl ?_
      refine zv_callV (m_X6_empty l D B hR hS (nI i)) ml_L_54 in_X6_empty sel_X6_empty hR.1.1 rfl rfl rfl rfl (Nat.le_of_ble_eq_true rfl) dL_act_125 ⟨Nat.le_of_ble_eq_true rfl, Nat.le_of_ble_eq_true rfl⟩ ⟨Nat.zero_le _, Nat.zero_le _⟩ (zk_p fun G1 hG1 => ?_)
      rw [opEmpty_at h3 hc hi] at hG1 ⊢
      rw [chg_pos (by show ¬ nI _ < 0; have := zcnt_le (zb (cupR r i 0)) 16; exact nI_pos (by omega))] at hG1
      dsimp only at hG1 ⊢
      obtain ⟨hR, hFp⟩ := hG1
      replace hF := frU hF hFp
      have hQ2 := LQ_empty hQ hi
      have hS2 := LQ_SI hQ2
      have hcu : cupR (putC r i (fun _ => 0)) i = fun _ => 0 := cupR_putC (fun _ _ => rfl)
      have h32 : putC r i (fun _ => 0) 3 = nI cn := by rw [putC_lo (by omega)]; exact h3
      refine zv_iload dL_act_128 rfl ?_
      refine zv_icmp_ne (tgt := 177) dL_act_130 (by decide) (fun h => absurd (rfl) h) (fun _ => ?_)
      refine zv_aload_n dL_act_133 rfl ?_
      refine zv_iload dL_act_134 rfl ?_
      refine zv_iconst (v := 0) dL_act_136 (by decide) ?_
      refine zv_callV (m_X6_ofCup l D B hR.1 hR.2.1 hS2 (nI i) 0) ml_L_28 in_X6_ofCup sel_X6_ofCup hR.1.1 rfl rfl rfl rfl (Nat.le_of_ble_eq_true rfl) dL_act_137 ⟨Nat.le_of_ble_eq_true rfl, Nat.le_of_ble_eq_true rfl⟩ ⟨Nat.zero_le _, Nat.zero_le _⟩ (zk_p fun G1 hG1 => ?_)
      replace hF := frT hF hG1.2
      replace hR := (zRC_fr hR hG1.1 hG1.2).1
      clear hG1
      rw [qOf_at h32 hc hi, qOf_0, hcu]
      refine zv_if_ne (tgt := 177) dL_act_140 (by decide) (fun h => absurd (rfl) h) (fun _ => ?_)
      refine zv_aload_n dL_act_143 rfl ?_
      refine zv_iload dL_act_144 rfl ?_
      refine zv_iconst (v := 1) dL_act_146 (by decide) ?_
      refine zv_callV (m_X6_ofCup l D B hR.1 hR.2.1 hS2 (nI i) 1) ml_L_28 in_X6_ofCup sel_X6_ofCup hR.1.1 rfl rfl rfl rfl (Nat.le_of_ble_eq_true rfl) dL_act_147 ⟨Nat.le_of_ble_eq_true rfl, Nat.le_of_ble_eq_true rfl⟩ ⟨Nat.zero_le _, Nat.zero_le _⟩ (zk_p fun G1 hG1 => ?_)
      replace hF := frT hF hG1.2
      replace hR := (zRC_fr hR hG1.1 hG1.2).1
      clear hG1
      rw [qOf_at h32 hc hi, qOf_1, hcu]
      refine zv_if_ne (tgt := 177) dL_act_150 (by decide) (fun h => absurd (rfl) h) (fun _ => ?_)
      refine zv_aload_n dL_act_153 rfl ?_
      refine zv_iload dL_act_154 rfl ?_
      refine zv_iconst (v := 2) dL_act_156 (by decide) ?_
      refine zv_callV (m_X6_ofCup l D B hR.1 hR.2.1 hS2 (nI i) 2) ml_L_28 in_X6_ofCup sel_X6_ofCup hR.1.1 rfl rfl rfl rfl (Nat.le_of_ble_eq_true rfl) dL_act_157 ⟨Nat.le_of_ble_eq_true rfl, Nat.le_of_ble_eq_true rfl⟩ ⟨Nat.zero_le _, Nat.zero_le _⟩ (zk_p fun G1 hG1 => ?_)
      replace hF := frT hF hG1.2
      replace hR := (zRC_fr hR hG1.1 hG1.2).1
      clear hG1
      rw [qOf_at h32 hc hi, qOf_2, hcu]
      refine zv_if_ne (tgt := 177) dL_act_160 (by decide) (fun h => absurd (rfl) h) (fun _ => ?_)
      refine zv_aload_n dL_act_163 rfl ?_
      refine zv_iload dL_act_164 rfl ?_
      refine zv_iconst (v := 4) dL_act_166 (by decide) ?_
      refine zv_callV (m_X6_ofCup l D B hR.1 hR.2.1 hS2 (nI i) 4) ml_L_28 in_X6_ofCup sel_X6_ofCup hR.1.1 rfl rfl rfl rfl (Nat.le_of_ble_eq_true rfl) dL_act_167 ⟨Nat.le_of_ble_eq_true rfl, Nat.le_of_ble_eq_true rfl⟩ ⟨Nat.zero_le _, Nat.zero_le _⟩ (zk_p fun G1 hG1 => ?_)
      replace hF := frT hF hG1.2
      replace hR := (zRC_fr hR hG1.1 hG1.2).1
      clear hG1
      rw [qOf_at h32 hc hi, qOf_4, hcu]
      refine zv_if_ne (tgt := 177) dL_act_170 (by decide) (fun h => absurd (rfl) h) (fun _ => ?_)
      refine zv_iconst (v := 1) dL_act_173 (by decide) ?_
      refine zv_goto (tgt := 178) dL_act_174 (by decide) ?_
      exact zv_iret dL_act_178 rfl rfl ⟨⟨rfl, fun b hb => hb, Nat.le_refl _, Nat.le_succ _, _, _, _, hR, fun y a b => hF y a, LQ_mono (hQ2)⟩, Nat.zero_le _, Nat.zero_le _⟩

set_option maxRecDepth 100000 in
set_option maxHeartbeats 4000000 in
theorem ac_set (l : Launch) (D : zD) (B : Nat) {L : zL} {nx : Nat} {G : zG} {x t n cn c tn : Nat} {r bk : Nat → Int32} {h : Nat → (Nat → Int32)} {sl : Nat → Option (Nat → Int32)} {T : Nat → Nat} {i wh : Nat} {g h9 : Int32} (hR : zRC L x nx G r h c sl T tn) (hsl : ∀ j, j < 2 → sl j = none) (hQ : LQ t n cn bk r) (ht : t < 2 ^ 29) (hi : i < cn) (hwh : wh < 14) (hB : B ≤ nx) (hx : x + 135 ≤ nx) : zV l (fun _ => True) D B RL "act" cL_act 9 (some .boolean) (zrm 7 178 1 25) (fun v L' nx' G' k9 n9 => ((fun v L' nx' G' => v = some (.int 1) ∧ (∀ b ∈ L, b ∈ L') ∧ nx ≤ nx' ∧ nx' ≤ nx + 1 ∧ ∃ r' h' c', zRC L' x nx' G' r' h' c' sl T tn ∧ (∀ y, x + 134 ≤ y → y < nx → G' y = G y) ∧ LQ (t + 1) n cn bk r')) v L' nx' G' ∧ k9 ≤ 1 ∧ n9 ≤ 25) 0 0 L nx 22 [some (.ref x), some (.int (nI cn)), some (.int g), some (.int h9), some (.int (nI i)), some (.int (nI wh)), none, none, none] [] G := by
  have hS := LQ_SI hQ
  obtain ⟨w, ls, p, h0, hw, h1, hl, h2, hn0, hn, h3, hc0, hc, h4, hp, hI, hz, hbk, hk⟩ := id hQ
  have hF : ∀ y, x + 134 ≤ y → G y = G y := fun _ _ => rfl
  refine zv_iload_n dL_act_22 rfl ?_
  refine zv_iconst (v := 2) dL_act_23 (by decide) ?_
  refine zv_callS (m_L_low l D B _ (d := 2) (by omega) (by omega)) ml_L_48 st_L_low rfl rfl (Nat.le_of_ble_eq_true rfl) dL_act_24 ⟨Nat.le_of_ble_eq_true rfl, Nat.le_of_ble_eq_true rfl⟩ ⟨Nat.zero_le _, Nat.zero_le _⟩ (zk_x fun z9 hz9 => ?_)
  obtain ⟨ws, hws, rfl⟩ := hz9
  refine zv_istore dL_act_27 (by decide) rfl ?_
  rcases (show ws = 0 ∨ ws = 1 by omega) with rfl | rfl
  · refine zv_aload_n dL_act_29 rfl ?_
    refine zv_iconst (v := 4) dL_act_30 (by decide) ?_
    refine zv_iload dL_act_31 rfl ?_
    refine zv_iadd dL_act_33 ?_
    rw [show (4 : Int32) + nI 0 = 4 from rfl]
    refine zv_callV (m_X6_count l D B hR.1 hR.2.1 hS 4 _ _ rfl rfl) ml_L_10 in_X6_count sel_X6_count hR.1.1 rfl rfl rfl rfl (Nat.le_of_ble_eq_true rfl) dL_act_34 ⟨Nat.le_of_ble_eq_true rfl, Nat.le_of_ble_eq_true rfl⟩ ⟨Nat.zero_le _, Nat.zero_le _⟩ (zk_p fun G1 hG1 => ?_)
    replace hF := frT hF hG1.2
    replace hR := (zRC_fr hR hG1.1 hG1.2).1
    clear hG1
    rw [qCo_4, h0]
    refine zv_istore dL_act_37 (by decide) rfl ?_
    refine zv_iload dL_act_39 rfl ?_
    refine zv_if_ne (tgt := 54) dL_act_41 (by decide) (fun h => absurd (rfl) h) (fun _ => ?_)
    refine zv_iload_n dL_act_44 rfl ?_
    refine zv_iconst (v := 2) dL_act_45 (by decide) ?_
    refine zv_ishr dL_act_46 ?_
    refine zv_iconst (v := 3) dL_act_47 (by decide) ?_
    refine zv_callS (m_L_low l D B _ (d := 3) (by omega) (by omega)) ml_L_48 st_L_low rfl rfl (Nat.le_of_ble_eq_true rfl) dL_act_48 ⟨Nat.le_of_ble_eq_true rfl, Nat.le_of_ble_eq_true rfl⟩ ⟨Nat.zero_le _, Nat.zero_le _⟩ (zk_x fun z9 hz9 => ?_)
    obtain ⟨v, hv, rfl⟩ := hz9
    refine zv_goto (tgt := 62) dL_act_51 (by decide) ?_
    refine zv_istore dL_act_62 (by decide) rfl ?_
    refine zv_aload_n dL_act_64 rfl ?_
    refine zv_iload dL_act_65 rfl ?_
    refine zv_iload dL_act_67 rfl ?_
    refine zv_callV (m_X6_set l D B hR hS 0 (nI v)) ml_L_51 in_X6_set sel_X6_set hR.1.1 rfl rfl rfl rfl (Nat.le_of_ble_eq_true rfl) dL_act_69 ⟨Nat.le_of_ble_eq_true rfl, Nat.le_of_ble_eq_true rfl⟩ ⟨Nat.zero_le _, Nat.zero_le _⟩ (zk_p fun G1 hG1 => ?_)
    rw [opSet_0 (show v ≤ 2 by omega)] at hG1 ⊢
    rw [chg_pos (by show ¬ r 0 < 0; rw [h0]; exact nI_pos (by omega))] at hG1
    dsimp only at hG1 ⊢
    obtain ⟨hR, hFp⟩ := hG1
    replace hF := frU hF hFp
    have hQ2 := LQ_set0 hQ (show v ≤ 2 by omega)
    have hS2 := LQ_SI hQ2
    refine zv_iload dL_act_72 rfl ?_
    refine zv_icmp_ne (tgt := 94) dL_act_74 (by decide) (fun h => absurd (h0) h) (fun _ => ?_)
    refine zv_aload_n dL_act_77 rfl ?_
    refine zv_iconst (v := 4) dL_act_78 (by decide) ?_
    refine zv_iload dL_act_79 rfl ?_
    refine zv_iadd dL_act_81 ?_
    rw [show (4 : Int32) + nI 0 = 4 from rfl]
    refine zv_callV (m_X6_count l D B hR.1 hR.2.1 hS2 4 _ _ rfl rfl) ml_L_10 in_X6_count sel_X6_count hR.1.1 rfl rfl rfl rfl (Nat.le_of_ble_eq_true rfl) dL_act_82 ⟨Nat.le_of_ble_eq_true rfl, Nat.le_of_ble_eq_true rfl⟩ ⟨Nat.zero_le _, Nat.zero_le _⟩ (zk_p fun G1 hG1 => ?_)
    replace hF := frT hF hG1.2
    replace hR := (zRC_fr hR hG1.1 hG1.2).1
    clear hG1
    rw [qCo_4]
    refine zv_iload dL_act_85 rfl ?_
    refine zv_icmp_ne (tgt := 94) dL_act_87 (by decide) (fun h => absurd (rfl) h) (fun _ => ?_)
    refine zv_iconst (v := 1) dL_act_90 (by decide) ?_
    refine zv_goto (tgt := 95) dL_act_91 (by decide) ?_
    exact zv_iret dL_act_95 rfl rfl ⟨⟨rfl, fun b hb => hb, Nat.le_refl _, Nat.le_succ _, _, _, _, hR, fun y a b => hF y a, LQ_mono (hQ2)⟩, Nat.zero_le _, Nat.zero_le _⟩
  · refine zv_aload_n dL_act_29 rfl ?_
    refine zv_iconst (v := 4) dL_act_30 (by decide) ?_
    refine zv_iload dL_act_31 rfl ?_
    refine zv_iadd dL_act_33 ?_
    rw [show (4 : Int32) + nI 1 = 5 from rfl]
    refine zv_callV (m_X6_count l D B hR.1 hR.2.1 hS 5 _ _ rfl rfl) ml_L_10 in_X6_count sel_X6_count hR.1.1 rfl rfl rfl rfl (Nat.le_of_ble_eq_true rfl) dL_act_34 ⟨Nat.le_of_ble_eq_true rfl, Nat.le_of_ble_eq_true rfl⟩ ⟨Nat.zero_le _, Nat.zero_le _⟩ (zk_p fun G1 hG1 => ?_)
    replace hF := frT hF hG1.2
    replace hR := (zRC_fr hR hG1.1 hG1.2).1
    clear hG1
    rw [qCo_5, h1]
    refine zv_istore dL_act_37 (by decide) rfl ?_
    refine zv_iload dL_act_39 rfl ?_
    refine zv_if_ne (tgt := 54) dL_act_41 (by decide) (fun _ => ?_) (fun h => absurd h (by decide))
    refine zv_iload_n dL_act_54 rfl ?_
    refine zv_iconst (v := 2) dL_act_55 (by decide) ?_
    refine zv_ishr dL_act_56 ?_
    refine zv_bipush (v := 60) dL_act_57 (by decide) ?_
    refine zv_callS (m_L_low l D B _ (d := 60) (by omega) (by omega)) ml_L_48 st_L_low rfl rfl (Nat.le_of_ble_eq_true rfl) dL_act_59 ⟨Nat.le_of_ble_eq_true rfl, Nat.le_of_ble_eq_true rfl⟩ ⟨Nat.zero_le _, Nat.zero_le _⟩ (zk_x fun z9 hz9 => ?_)
    obtain ⟨v, hv, rfl⟩ := hz9
    refine zv_istore dL_act_62 (by decide) rfl ?_
    refine zv_aload_n dL_act_64 rfl ?_
    refine zv_iload dL_act_65 rfl ?_
    refine zv_iload dL_act_67 rfl ?_
    refine zv_callV (m_X6_set l D B hR hS 1 (nI v)) ml_L_51 in_X6_set sel_X6_set hR.1.1 rfl rfl rfl rfl (Nat.le_of_ble_eq_true rfl) dL_act_69 ⟨Nat.le_of_ble_eq_true rfl, Nat.le_of_ble_eq_true rfl⟩ ⟨Nat.zero_le _, Nat.zero_le _⟩ (zk_p fun G1 hG1 => ?_)
    rw [opSet_1 (show v ≤ 99 by omega)] at hG1 ⊢
    rw [chg_pos (by show ¬ r 1 < 0; rw [h1]; exact nI_pos (by omega))] at hG1
    dsimp only at hG1 ⊢
    obtain ⟨hR, hFp⟩ := hG1
    replace hF := frU hF hFp
    have hQ2 := LQ_set1 hQ (show v ≤ 99 by omega)
    have hS2 := LQ_SI hQ2
    refine zv_iload dL_act_72 rfl ?_
    refine zv_icmp_ne (tgt := 94) dL_act_74 (by decide) (fun h => absurd (h1) h) (fun _ => ?_)
    refine zv_aload_n dL_act_77 rfl ?_
    refine zv_iconst (v := 4) dL_act_78 (by decide) ?_
    refine zv_iload dL_act_79 rfl ?_
    refine zv_iadd dL_act_81 ?_
    rw [show (4 : Int32) + nI 1 = 5 from rfl]
    refine zv_callV (m_X6_count l D B hR.1 hR.2.1 hS2 5 _ _ rfl rfl) ml_L_10 in_X6_count sel_X6_count hR.1.1 rfl rfl rfl rfl (Nat.le_of_ble_eq_true rfl) dL_act_82 ⟨Nat.le_of_ble_eq_true rfl, Nat.le_of_ble_eq_true rfl⟩ ⟨Nat.zero_le _, Nat.zero_le _⟩ (zk_p fun G1 hG1 => ?_)
    replace hF := frT hF hG1.2
    replace hR := (zRC_fr hR hG1.1 hG1.2).1
    clear hG1
    rw [qCo_5]
    refine zv_iload dL_act_85 rfl ?_
    refine zv_icmp_ne (tgt := 94) dL_act_87 (by decide) (fun h => absurd (rfl) h) (fun _ => ?_)
    refine zv_iconst (v := 1) dL_act_90 (by decide) ?_
    refine zv_goto (tgt := 95) dL_act_91 (by decide) ?_
    exact zv_iret dL_act_95 rfl rfl ⟨⟨rfl, fun b hb => hb, Nat.le_refl _, Nat.le_succ _, _, _, _, hR, fun y a b => hF y a, LQ_mono (hQ2)⟩, Nat.zero_le _, Nat.zero_le _⟩

set_option maxRecDepth 100000 in
set_option maxHeartbeats 4000000 in
theorem m_L_act (l : Launch) (D : zD) (B : Nat) {L : zL} {nx : Nat} {G : zG} {x t n cn c tn : Nat} {r bk : Nat → Int32} {h : Nat → (Nat → Int32)} {sl : Nat → Option (Nat → Int32)} {T : Nat → Nat} {g h9 : Int32} (hR : zRC L x nx G r h c sl T tn) (hsl : ∀ j, j < 2 → sl j = none) (hQ : LQ t n cn bk r) (ht : t < 2 ^ 29) (hB : B ≤ nx) (hx : x + 135 ≤ nx) : zMet l D B yL_act cL_act 9 (some .boolean) 7 178 1 25 [.ref x, .int (nI cn), .int g, .int h9] L (nx) G ((fun v L' nx' G' => v = some (.int 1) ∧ (∀ b ∈ L, b ∈ L') ∧ nx ≤ nx' ∧ nx' ≤ nx + 1 ∧ ∃ r' h' c', zRC L' x nx' G' r' h' c' sl T tn ∧ (∀ y, x + 134 ≤ y → y < nx → G' y = G y) ∧ LQ (t + 1) n cn bk r')) := by
  refine zMet_of (own := RL) (mn := "act") [some (.ref x), some (.int (nI cn)), some (.int g), some (.int h9), none, none, none, none, none] (by decide +kernel) rfl rfl rfl (Nat.le_of_ble_eq_true rfl) ?_
  show zV l (fun _ => True) D B RL "act" cL_act 9 (some .boolean) (zrm 7 178 1 25) (fun v L' nx' G' k9 n9 => ((fun v L' nx' G' => v = some (.int 1) ∧ (∀ b ∈ L, b ∈ L') ∧ nx ≤ nx' ∧ nx' ≤ nx + 1 ∧ ∃ r' h' c', zRC L' x nx' G' r' h' c' sl T tn ∧ (∀ y, x + 134 ≤ y → y < nx → G' y = G y) ∧ LQ (t + 1) n cn bk r')) v L' nx' G' ∧ k9 ≤ 1 ∧ n9 ≤ 25) 0 0 L (nx) 0 [some (.ref x), some (.int (nI cn)), some (.int g), some (.int h9), none, none, none, none, none] [] G
  have hS := LQ_SI hQ
  obtain ⟨w, ls, p, h0, hw, h1, hl, h2, hn0, hn, h3, hc0, hc, h4, hp, hI, hz, hbk, hk⟩ := id hQ
  have hF : ∀ y, x + 134 ≤ y → G y = G y := fun _ _ => rfl
  refine zv_iload_n dL_act_0 rfl ?_
  refine zv_iconst (v := 4) dL_act_1 (by decide) ?_
  refine zv_ishr dL_act_2 ?_
  refine zv_iload_n dL_act_3 rfl ?_
  refine zv_callS (m_L_low l D B _ (d := cn) (by omega) (by omega)) ml_L_48 st_L_low rfl rfl (Nat.le_of_ble_eq_true rfl) dL_act_4 ⟨Nat.le_of_ble_eq_true rfl, Nat.le_of_ble_eq_true rfl⟩ ⟨Nat.zero_le _, Nat.zero_le _⟩ (zk_x fun z9 hz9 => ?_)
  obtain ⟨i, hi, rfl⟩ := hz9
  refine zv_istore dL_act_7 (by decide) rfl ?_
  refine zv_iload_n dL_act_9 rfl ?_
  refine zv_bipush (v := 14) dL_act_10 (by decide) ?_
  refine zv_callS (m_L_low l D B _ (d := 14) (by omega) (by omega)) ml_L_48 st_L_low rfl rfl (Nat.le_of_ble_eq_true rfl) dL_act_12 ⟨Nat.le_of_ble_eq_true rfl, Nat.le_of_ble_eq_true rfl⟩ ⟨Nat.zero_le _, Nat.zero_le _⟩ (zk_x fun z9 hz9 => ?_)
  obtain ⟨wh, hwh, rfl⟩ := hz9
  refine zv_istore dL_act_15 (by decide) rfl ?_
  refine zv_iload dL_act_17 rfl ?_
  refine zv_if_ne (tgt := 96) dL_act_19 (by decide) (fun c19 => ?_) (fun c19 => ?_)
  · exact ac_empty l D B hR hsl hQ ht hi hwh hB hx
  · exact ac_set l D B hR hsl hQ ht hi hwh hB hx
