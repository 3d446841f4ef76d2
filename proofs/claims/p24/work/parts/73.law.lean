set_option maxRecDepth 100000 in
set_option maxHeartbeats 4000000 in
theorem lp_dr_in (l : Launch) (D : zD) (B : Nat) {L : zL} {nx : Nat} {G : zG} {q : zP} {R : Room} {n C : Nat} {s : Int32} {l0 l1 l2 l4 l5 l6 l7 l8 l10 : Option Value} {k11 : Int32} (hn0 : 0 < n) (hn : n ≤ 16) (kk : ∀ b : Option Value, zV l (fun _ => True) D B RL "droplet" cL_droplet 14 (some .boolean) R q 0 0 L nx 199 [l0, l1, l2, some (.int (nI n)), l4, l5, l6, l7, l8, some (.int s), l10, some (.int k11), some (.int (nI C)), b] [] G) : ∀ i : Nat, i ≤ n → ∀ c0, c0 < n → nf s n c0 (n - i) = C → zV l (fun _ => True) D B RL "droplet" cL_droplet 14 (some .boolean) R q 0 0 L nx 168 [l0, l1, l2, some (.int (nI n)), l4, l5, l6, l7, l8, some (.int s), l10, some (.int k11), some (.int (nI c0)), some (.int (nI i))] [] G := by
  refine zloop n (fun i hi ih c0 hc0 hC => ?_)
  refine zv_iload dL_droplet_168 rfl ?_
  refine zv_iload_n dL_droplet_170 rfl ?_
  refine zv_icmp_ge (tgt := 199) dL_droplet_171 (by decide) (fun c171 => ?_) (fun c171 => ?_)
  · have e : i = n := by have := zge_of (N := n) (by omega) (by omega) rfl c171; omega
    subst e
    rw [Nat.sub_self] at hC
    have hC0 : c0 = C := hC
    subst hC0
    exact kk _
  · have hlt : i < n := zlt_of (N := n) (by omega) (by omega) rfl c171
    rw [show n - i = (n - (i + 1)) + 1 by omega] at hC
    unfold nf at hC
    refine zv_iload dL_droplet_174 rfl ?_
    refine zv_iload dL_droplet_176 rfl ?_
    refine zv_ishr dL_droplet_178 ?_
    refine zv_iconst (v := 1) dL_droplet_179 (by decide) ?_
    refine zv_iand dL_droplet_180 ?_
    refine zv_iconst (v := 1) dL_droplet_181 (by decide) ?_
    rw [bI_sh (by omega)]
    refine zv_icmp_ne (tgt := 199) dL_droplet_182 (by decide) (fun c182 => ?_) (fun c182 => ?_)
    · have hz : zb s c0 = false := by
        cases hz : zb s c0 with
        | false => rfl
        | true => rw [hz] at c182; exact absurd rfl c182
      rw [if_neg (by rw [hz]; simp)] at hC
      subst hC
      exact kk _
    · have hz : zb s c0 = true := by
        cases hz : zb s c0 with
        | true => rfl
        | false => rw [hz] at c182; exact absurd c182 (by decide)
      rw [if_pos hz] at hC
      refine zv_iload dL_droplet_185 rfl ?_
      refine zv_iconst (v := 1) dL_droplet_187 (by decide) ?_
      refine zv_iadd dL_droplet_188 ?_
      refine zv_iload_n dL_droplet_189 rfl ?_
      refine zv_irem dL_droplet_190 (nI_ne0 hn0 (by omega)) ?_
      rw [nI_1, pk_rem (by omega) hn0 (by omega), nx_eq hc0]
      refine zv_istore dL_droplet_191 (by decide) rfl ?_
      refine zv_iinc1 dL_droplet_193 rfl (by decide) rfl ?_
      refine zv_goto (tgt := 168) dL_droplet_196 (by decide) ?_
      rw [nI_1]
      exact ih hlt _ (by split <;> omega) hC

set_option maxRecDepth 100000 in
set_option maxHeartbeats 4000000 in
theorem lp_dr (l : Launch) (D : zD) (B : Nat) {L : zL} {nx : Nat} {G : zG} {x t n cn c tn : Nat} {r bk : Nat → Int32} {h : Nat → (Nat → Int32)} {sl : Nat → Option (Nat → Int32)} {T : Nat → Nat} {w ls sd : Nat} {e6 e7 : Int32} (hS : SI t r) (h0 : r 0 = nI w) (hw : w ≤ 2) (h1 : r 1 = nI ls) (h2 : r 2 = nI n) (hn0 : 0 < n) (hn : n ≤ 16) (hbk : ∀ c, c < n → chR r c = bk c) (hsd : sd < 65536) (hq : (x + 134, 116) ∈ L) (hb : ∀ i, i < n → G (x + 134) i = bk i) : ∀ k : Nat, k ≤ zdeg w (zdw (zdw sd)) n → ∀ (G1 : zG) (a b : Option Value), zRC L x nx G1 r h c sl T tn → (∀ y, x + 134 ≤ y → G1 y = G y) → zV l (fun _ => True) D B RL "droplet" cL_droplet 14 (some .boolean) (zrm 4 93 0 0) (zN (zI 1 L nx (fun G1 => zRC L x nx G1 r h c sl T tn ∧ ∀ y, x + 134 ≤ y → G1 y = G y))) 0 0 L nx 145 [some (.ref x), some (.ref (x + 134)), some (.int (nI sd)), some (.int (nI n)), some (.int (nI (mkX (zdw (zdw sd)) k))), some (.int (bI (decide (nI (zdw sd % 100) < nI ls)))), some (.int e6), some (.int e7), some (.int (nI (zdeg w (zdw (zdw sd)) n))), some (.int (mkSet n (zdw (zdw sd)) k)), some (.int (mkNum bk n (zdw (zdw sd)) k)), some (.int (nI k)), a, b] [] (G1) := by
  have hdeg := zdeg_b (w := w) (x := zdw (zdw sd)) hn0
  obtain ⟨d0, d1, d2, d3⟩ := dPR_at (sd := sd) h0 hw h1 h2 hn0 hn hbk
  refine zloop (zdeg w (zdw (zdw sd)) n) (fun k hk ih G1 a b hR hF => ?_)
  refine zv_iload dL_droplet_145 rfl ?_
  refine zv_iload dL_droplet_147 rfl ?_
  refine zv_icmp_ge (tgt := 223) dL_droplet_149 (by decide) (fun c149 => ?_) (fun c149 => ?_)
  · have e : k = zdeg w (zdw (zdw sd)) n := by have := zge_of (N := zdeg w (zdw (zdw sd)) n) (by omega) (by omega) rfl c149; omega
    subst e
    refine zv_aload_n dL_droplet_223 rfl ?_
    refine zv_iload_n dL_droplet_224 rfl ?_
    refine zv_iconst (v := 0) dL_droplet_225 (by decide) ?_
    refine zv_callV (m_X6_droplet l D B hR.1 hR.2.1 hS (nI sd) 0) ml_L_21 in_X6_droplet sel_X6_droplet hR.1.1 rfl rfl rfl rfl (Nat.le_of_ble_eq_true rfl) dL_droplet_226 ⟨Nat.le_of_ble_eq_true rfl, Nat.le_of_ble_eq_true rfl⟩ ⟨Nat.le_refl _, Nat.le_refl _⟩ (zk_p fun G1 hG1 => ?_)
    replace hF := frT hF hG1.2
    replace hR := (zRC_fr hR hG1.1 hG1.2).1
    clear hG1
    rw [show qDrop r (nI sd) 0 = dPR r sd 1 from qDr_at (w := 0) h2 hn0 hn hsd (by decide), d1]
    refine zv_iload dL_droplet_229 rfl ?_
    refine zv_icmp_ne (tgt := 281) dL_droplet_231 (by decide) (fun h => absurd (rfl) h) (fun _ => ?_)
    refine zv_aload_n dL_droplet_234 rfl ?_
    refine zv_iload_n dL_droplet_235 rfl ?_
    refine zv_iconst (v := 1) dL_droplet_236 (by decide) ?_
    refine zv_callV (m_X6_droplet l D B hR.1 hR.2.1 hS (nI sd) 1) ml_L_21 in_X6_droplet sel_X6_droplet hR.1.1 rfl rfl rfl rfl (Nat.le_of_ble_eq_true rfl) dL_droplet_237 ⟨Nat.le_of_ble_eq_true rfl, Nat.le_of_ble_eq_true rfl⟩ ⟨Nat.le_refl _, Nat.le_refl _⟩ (zk_p fun G1 hG1 => ?_)
    replace hF := frT hF hG1.2
    replace hR := (zRC_fr hR hG1.1 hG1.2).1
    clear hG1
    rw [show qDrop r (nI sd) 1 = dPR r sd 2 from qDr_at (w := 1) h2 hn0 hn hsd (by decide), d2]
    refine zv_iload dL_droplet_240 rfl ?_
    refine zv_icmp_ne (tgt := 281) dL_droplet_242 (by decide) (fun h => absurd (rfl) h) (fun _ => ?_)
    refine zv_aload_n dL_droplet_245 rfl ?_
    refine zv_iload_n dL_droplet_246 rfl ?_
    refine zv_iconst (v := 2) dL_droplet_247 (by decide) ?_
    refine zv_callV (m_X6_droplet l D B hR.1 hR.2.1 hS (nI sd) 2) ml_L_21 in_X6_droplet sel_X6_droplet hR.1.1 rfl rfl rfl rfl (Nat.le_of_ble_eq_true rfl) dL_droplet_248 ⟨Nat.le_of_ble_eq_true rfl, Nat.le_of_ble_eq_true rfl⟩ ⟨Nat.le_refl _, Nat.le_refl _⟩ (zk_p fun G1 hG1 => ?_)
    replace hF := frT hF hG1.2
    replace hR := (zRC_fr hR hG1.1 hG1.2).1
    clear hG1
    rw [show qDrop r (nI sd) 2 = dPR r sd 3 from qDr_at (w := 2) h2 hn0 hn hsd (by decide), d3]
    refine zv_iload dL_droplet_251 rfl ?_
    refine zv_icmp_ne (tgt := 281) dL_droplet_253 (by decide) (fun h => absurd (rfl) h) (fun _ => ?_)
    refine zv_aload_n dL_droplet_256 rfl ?_
    refine zv_iload_n dL_droplet_257 rfl ?_
    refine zv_iconst (v := 3) dL_droplet_258 (by decide) ?_
    refine zv_callV (m_X6_droplet l D B hR.1 hR.2.1 hS (nI sd) 3) ml_L_21 in_X6_droplet sel_X6_droplet hR.1.1 rfl rfl rfl rfl (Nat.le_of_ble_eq_true rfl) dL_droplet_259 ⟨Nat.le_of_ble_eq_true rfl, Nat.le_of_ble_eq_true rfl⟩ ⟨Nat.le_refl _, Nat.le_refl _⟩ (zk_p fun G1 hG1 => ?_)
    replace hF := frT hF hG1.2
    replace hR := (zRC_fr hR hG1.1 hG1.2).1
    clear hG1
    rw [show qDrop r (nI sd) 3 = dPR r sd 0 from qDr_at (w := 3) h2 hn0 hn hsd (by decide), d0]
    refine zv_iload dL_droplet_262 rfl ?_
    refine zv_icmp_ne (tgt := 281) dL_droplet_264 (by decide) (fun h => absurd (rfl) h) (fun _ => ?_)
    refine zv_iload dL_droplet_267 rfl ?_
    refine zv_callS (m_L_size l D B _) ml_L_25 st_L_size rfl rfl (Nat.le_of_ble_eq_true rfl) dL_droplet_269 ⟨Nat.le_of_ble_eq_true rfl, Nat.le_of_ble_eq_true rfl⟩ ⟨Nat.le_refl _, Nat.le_refl _⟩ (zk_i ?_)
    rw [(mk_inv hn0 hn _ hdeg.2).2.1]
    refine zv_iload dL_droplet_272 rfl ?_
    refine zv_icmp_ne (tgt := 281) dL_droplet_274 (by decide) (fun h => absurd (rfl) h) (fun _ => ?_)
    refine zv_iconst (v := 1) dL_droplet_277 (by decide) ?_
    refine zv_goto (tgt := 282) dL_droplet_278 (by decide) ?_
    exact zv_iretI dL_droplet_282 rfl rfl rfl ⟨hR, hF⟩
  · have hlt : k < zdeg w (zdw (zdw sd)) n := zlt_of (N := zdeg w (zdw (zdw sd)) n) (by omega) (by omega) rfl c149
    have hC := mkC_lt (n := n) (x0 := zdw (zdw sd)) (i := k) hn0
    refine zv_iload dL_droplet_152 rfl ?_
    refine zv_callS (m_L_draw l D B (mkX_lt (zdw_lt _) k)) ml_L_16 st_L_draw rfl rfl (Nat.le_of_ble_eq_true rfl) dL_droplet_154 ⟨Nat.le_of_ble_eq_true rfl, Nat.le_of_ble_eq_true rfl⟩ ⟨Nat.le_refl _, Nat.le_refl _⟩ (zk_i ?_)
    refine zv_istore dL_droplet_157 (by decide) rfl ?_
    refine zv_iload dL_droplet_159 rfl ?_
    refine zv_iload_n dL_droplet_161 rfl ?_
    refine zv_irem dL_droplet_162 (nI_ne0 hn0 (by omega)) ?_
    rw [pk_rem (by have := zdw_lt (mkX (zdw (zdw sd)) k); omega) hn0 (by omega)]
    refine zv_istore dL_droplet_163 (by decide) rfl ?_
    refine zv_iconst (v := 0) dL_droplet_165 (by decide) ?_
    refine zv_istore dL_droplet_166 (by decide) rfl ?_
    refine lp_dr_in l D B (s := mkSet n (zdw (zdw sd)) k) (C := mkC n (zdw (zdw sd)) k) hn0 hn (fun b => ?_) 0 (by omega) _ (Nat.mod_lt _ hn0) (mkC_n hn0 hn (by omega))
    refine zv_iload dL_droplet_199 rfl ?_
    refine zv_iconst (v := 1) dL_droplet_201 (by decide) ?_
    refine zv_iload dL_droplet_202 rfl ?_
    refine zv_ishl dL_droplet_204 ?_
    refine zv_ior dL_droplet_205 ?_
    refine zv_istore dL_droplet_206 (by decide) rfl ?_
    refine zv_iload dL_droplet_208 rfl ?_
    refine zv_aload_n dL_droplet_210 rfl ?_
    refine zv_iload dL_droplet_211 rfl ?_
    refine zv_iald (q := x + 134) (r := 0) (i := 0) hq rfl (zix_nI (show mkC n (zdw (zdw sd)) k < 16 by omega) (by decide)) dL_droplet_213 ?_
    rw [Nat.zero_add, hF _ (Nat.le_refl _), hb _ hC]
    refine zv_ixor dL_droplet_214 ?_
    refine zv_istore dL_droplet_215 (by decide) rfl ?_
    refine zv_iinc1 dL_droplet_217 rfl (by decide) rfl ?_
    refine zv_goto (tgt := 145) dL_droplet_220 (by decide) ?_
    rw [nI_1]
    exact ih hlt G1 _ _ hR hF

set_option maxRecDepth 100000 in
set_option maxHeartbeats 4000000 in
theorem m_L_droplet (l : Launch) (D : zD) (B : Nat) {L : zL} {nx : Nat} {G : zG} {x t n cn c tn : Nat} {r bk : Nat → Int32} {h : Nat → (Nat → Int32)} {sl : Nat → Option (Nat → Int32)} {T : Nat → Nat} {sd : Nat} (hR : zRC L x nx G r h c sl T tn) (hQ : LQ t n cn bk r) (hsd : sd < 65536) (hq : (x + 134, 116) ∈ L) (hb : ∀ i, i < n → G (x + 134) i = bk i) : zMet l D B yL_droplet cL_droplet 14 (some .boolean) 4 93 0 0 [.ref x, .ref (x + 134), .int (nI sd)] L nx G (zI 1 L nx (fun G1 => zRC L x nx G1 r h c sl T tn ∧ ∀ y, x + 134 ≤ y → G1 y = G y)) := by
  refine zMet_of (own := RL) (mn := "droplet") [some (.ref x), some (.ref (x + 134)), some (.int (nI sd)), none, none, none, none, none, none, none, none, none, none, none] (by decide +kernel) rfl rfl rfl (Nat.le_of_ble_eq_true rfl) ?_
  show zV l (fun _ => True) D B RL "droplet" cL_droplet 14 (some .boolean) (zrm 4 93 0 0) (zN (zI 1 L nx (fun G1 => zRC L x nx G1 r h c sl T tn ∧ ∀ y, x + 134 ≤ y → G1 y = G y))) 0 0 L nx 0 [some (.ref x), some (.ref (x + 134)), some (.int (nI sd)), none, none, none, none, none, none, none, none, none, none, none] [] (G)
  have hS := LQ_SI hQ
  obtain ⟨w, ls, p, h0, hw, h1, hl, h2, hn0, hn, h3, hc0, hc, h4, hp, hI, hz, hbk, hk⟩ := id hQ
  have hF : ∀ y, x + 134 ≤ y → G y = G y := fun _ _ => rfl
  refine zv_aload_n dL_droplet_0 rfl ?_
  refine zv_iconst (v := 0) dL_droplet_1 (by decide) ?_
  refine zv_callV (m_X6_count l D B hR.1 hR.2.1 hS 0 _ _ rfl rfl) ml_L_10 in_X6_count sel_X6_count hR.1.1 rfl rfl rfl rfl (Nat.le_of_ble_eq_true rfl) dL_droplet_2 ⟨Nat.le_of_ble_eq_true rfl, Nat.le_of_ble_eq_true rfl⟩ ⟨Nat.le_refl _, Nat.le_refl _⟩ (zk_p fun G1 hG1 => ?_)
  replace hF := frT hF hG1.2
  replace hR := (zRC_fr hR hG1.1 hG1.2).1
  clear hG1
  rw [qCo_0, h2]
  refine zv_istore_n dL_droplet_5 (by decide) rfl ?_
  refine zv_iload_n dL_droplet_6 rfl ?_
  refine zv_callS (m_L_draw l D B (a := sd) (by omega)) ml_L_16 st_L_draw rfl rfl (Nat.le_of_ble_eq_true rfl) dL_droplet_7 ⟨Nat.le_of_ble_eq_true rfl, Nat.le_of_ble_eq_true rfl⟩ ⟨Nat.le_refl _, Nat.le_refl _⟩ (zk_i ?_)
  refine zv_istore dL_droplet_10 (by decide) rfl ?_
  refine zv_iload dL_droplet_12 rfl ?_
  refine zv_bipush (v := 100) dL_droplet_14 (by decide) ?_
  refine zv_irem dL_droplet_16 (by decide) ?_
  refine zv_aload_n dL_droplet_17 rfl ?_
  refine zv_iconst (v := 5) dL_droplet_18 (by decide) ?_
  refine zv_callV (m_X6_count l D B hR.1 hR.2.1 hS 5 _ _ rfl rfl) ml_L_10 in_X6_count sel_X6_count hR.1.1 rfl rfl rfl rfl (Nat.le_of_ble_eq_true rfl) dL_droplet_19 ⟨Nat.le_of_ble_eq_true rfl, Nat.le_of_ble_eq_true rfl⟩ ⟨Nat.le_refl _, Nat.le_refl _⟩ (zk_p fun G1 hG1 => ?_)
  replace hF := frT hF hG1.2
  replace hR := (zRC_fr hR hG1.1 hG1.2).1
  clear hG1
  rw [qCo_5, h1]
  have hx1 := zdw_lt sd
  rw [show (100 : Int32) = nI 100 from rfl, pk_rem (by omega) (by decide) (by decide)]
  refine zv_join (st := []) 30 (bI (decide (nI (zdw sd % 100) < nI ls))) (fun G' => zRC L x nx G' r h c sl T tn ∧ ∀ y, x + 134 ≤ y → G' y = G y) (fun kk => ?_) ?_
  · refine zv_icmp_ge (tgt := 29) dL_droplet_22 (by decide) (fun c22 => ?_) (fun c22 => ?_)
    · refine zv_iconst (v := 0) dL_droplet_29 (by decide) ?_
      have e : bI (decide (nI (zdw sd % 100) < nI ls)) = 0 := by rw [decide_eq_false (i32_nlt.mpr c22)]; rfl
      rw [e] at kk
      exact kk _ ⟨hR, hF⟩
    · refine zv_iconst (v := 1) dL_droplet_25 (by decide) ?_
      refine zv_goto (tgt := 30) dL_droplet_26 (by decide) ?_
      have e : bI (decide (nI (zdw sd % 100) < nI ls)) = 1 := by rw [decide_eq_true (i32_nle.mp c22)]; rfl
      rw [e] at kk
      exact kk _ ⟨hR, hF⟩
  rintro G1 ⟨hR, hF⟩
  refine zv_istore dL_droplet_30 (by decide) rfl ?_
  refine zv_iload dL_droplet_32 rfl ?_
  refine zv_callS (m_L_draw l D B (zdw_lt sd)) ml_L_16 st_L_draw rfl rfl (Nat.le_of_ble_eq_true rfl) dL_droplet_34 ⟨Nat.le_of_ble_eq_true rfl, Nat.le_of_ble_eq_true rfl⟩ ⟨Nat.le_refl _, Nat.le_refl _⟩ (zk_i ?_)
  refine zv_istore dL_droplet_37 (by decide) rfl ?_
  refine zv_iload dL_droplet_39 rfl ?_
  refine zv_bipush (v := 24) dL_droplet_41 (by decide) ?_
  refine zv_irem dL_droplet_43 (by decide) ?_
  have hx2 := zdw_lt (zdw sd)
  have hY : zdw (zdw sd) % 24 < 24 := Nat.mod_lt _ (by decide)
  rw [show (24 : Int32) = nI 24 from rfl, pk_rem (by omega) (by decide) (by decide)]
  refine zv_istore dL_droplet_44 (by decide) rfl ?_
  refine zv_join (st := []) 79 (nI (cdeg (zdw (zdw sd) % 24))) (fun G' => zRC L x nx G' r h c sl T tn ∧ ∀ y, x + 134 ≤ y → G' y = G y) (fun kk => ?_) ?_
  · refine zv_iload dL_droplet_46 rfl ?_
    refine zv_iconst (v := 4) dL_droplet_48 (by decide) ?_
    refine zv_icmp_ge (tgt := 56) dL_droplet_49 (by decide) (fun c49 => ?_) (fun c49 => ?_)
    · have k49 : 4 ≤ zdw (zdw sd) % 24 := (nI_leI (a := 4) (by omega) (by omega)).mp c49
      refine zv_iload dL_droplet_56 rfl ?_
      refine zv_bipush (v := 16) dL_droplet_58 (by decide) ?_
      refine zv_icmp_ge (tgt := 67) dL_droplet_60 (by decide) (fun c60 => ?_) (fun c60 => ?_)
      · have k60 : 16 ≤ zdw (zdw sd) % 24 := (nI_leI (a := 16) (by omega) (by omega)).mp c60
        refine zv_iload dL_droplet_67 rfl ?_
        refine zv_bipush (v := 20) dL_droplet_69 (by decide) ?_
        refine zv_icmp_ge (tgt := 78) dL_droplet_71 (by decide) (fun c71 => ?_) (fun c71 => ?_)
        · have k71 : 20 ≤ zdw (zdw sd) % 24 := (nI_leI (a := 20) (by omega) (by omega)).mp c71
          refine zv_iconst (v := 4) dL_droplet_78 (by decide) ?_
          first
            | (rw [show cdeg (zdw (zdw sd) % 24) = 1 by unfold cdeg; repeat (first | rw [if_pos (by omega)] | rw [if_neg (by omega)])] at kk; exact kk _ ⟨hR, hF⟩)
            | (rw [show cdeg (zdw (zdw sd) % 24) = 2 by unfold cdeg; repeat (first | rw [if_pos (by omega)] | rw [if_neg (by omega)])] at kk; exact kk _ ⟨hR, hF⟩)
            | (rw [show cdeg (zdw (zdw sd) % 24) = 3 by unfold cdeg; repeat (first | rw [if_pos (by omega)] | rw [if_neg (by omega)])] at kk; exact kk _ ⟨hR, hF⟩)
            | (rw [show cdeg (zdw (zdw sd) % 24) = 4 by unfold cdeg; repeat (first | rw [if_pos (by omega)] | rw [if_neg (by omega)])] at kk; exact kk _ ⟨hR, hF⟩)
        · have k71 : ¬ 20 ≤ zdw (zdw sd) % 24 := fun hh => c71 (nI_le (a := 20) hh (by omega))
          refine zv_iconst (v := 3) dL_droplet_74 (by decide) ?_
          refine zv_goto (tgt := 79) dL_droplet_75 (by decide) ?_
          first
            | (rw [show cdeg (zdw (zdw sd) % 24) = 1 by unfold cdeg; repeat (first | rw [if_pos (by omega)] | rw [if_neg (by omega)])] at kk; exact kk _ ⟨hR, hF⟩)
            | (rw [show cdeg (zdw (zdw sd) % 24) = 2 by unfold cdeg; repeat (first | rw [if_pos (by omega)] | rw [if_neg (by omega)])] at kk; exact kk _ ⟨hR, hF⟩)
            | (rw [show cdeg (zdw (zdw sd) % 24) = 3 by unfold cdeg; repeat (first | rw [if_pos (by omega)] | rw [if_neg (by omega)])] at kk; exact kk _ ⟨hR, hF⟩)
            | (rw [show cdeg (zdw (zdw sd) % 24) = 4 by unfold cdeg; repeat (first | rw [if_pos (by omega)] | rw [if_neg (by omega)])] at kk; exact kk _ ⟨hR, hF⟩)
      · have k60 : ¬ 16 ≤ zdw (zdw sd) % 24 := fun hh => c60 (nI_le (a := 16) hh (by omega))
        refine zv_iconst (v := 2) dL_droplet_63 (by decide) ?_
        refine zv_goto (tgt := 79) dL_droplet_64 (by decide) ?_
        first
          | (rw [show cdeg (zdw (zdw sd) % 24) = 1 by unfold cdeg; repeat (first | rw [if_pos (by omega)] | rw [if_neg (by omega)])] at kk; exact kk _ ⟨hR, hF⟩)
          | (rw [show cdeg (zdw (zdw sd) % 24) = 2 by unfold cdeg; repeat (first | rw [if_pos (by omega)] | rw [if_neg (by omega)])] at kk; exact kk _ ⟨hR, hF⟩)
          | (rw [show cdeg (zdw (zdw sd) % 24) = 3 by unfold cdeg; repeat (first | rw [if_pos (by omega)] | rw [if_neg (by omega)])] at kk; exact kk _ ⟨hR, hF⟩)
          | (rw [show cdeg (zdw (zdw sd) % 24) = 4 by unfold cdeg; repeat (first | rw [if_pos (by omega)] | rw [if_neg (by omega)])] at kk; exact kk _ ⟨hR, hF⟩)
    · have k49 : ¬ 4 ≤ zdw (zdw sd) % 24 := fun hh => c49 (nI_le (a := 4) hh (by omega))
      refine zv_iconst (v := 1) dL_droplet_52 (by decide) ?_
      refine zv_goto (tgt := 79) dL_droplet_53 (by decide) ?_
      first
        | (rw [show cdeg (zdw (zdw sd) % 24) = 1 by unfold cdeg; repeat (first | rw [if_pos (by omega)] | rw [if_neg (by omega)])] at kk; exact kk _ ⟨hR, hF⟩)
        | (rw [show cdeg (zdw (zdw sd) % 24) = 2 by unfold cdeg; repeat (first | rw [if_pos (by omega)] | rw [if_neg (by omega)])] at kk; exact kk _ ⟨hR, hF⟩)
        | (rw [show cdeg (zdw (zdw sd) % 24) = 3 by unfold cdeg; repeat (first | rw [if_pos (by omega)] | rw [if_neg (by omega)])] at kk; exact kk _ ⟨hR, hF⟩)
        | (rw [show cdeg (zdw (zdw sd) % 24) = 4 by unfold cdeg; repeat (first | rw [if_pos (by omega)] | rw [if_neg (by omega)])] at kk; exact kk _ ⟨hR, hF⟩)
  rintro G1 ⟨hR, hF⟩
  refine zv_istore dL_droplet_79 (by decide) rfl ?_
  refine zv_join (st := []) 134 (nI (zdeg w (zdw (zdw sd)) n)) (fun G' => zRC L x nx G' r h c sl T tn ∧ ∀ y, x + 134 ≤ y → G' y = G y) (fun kk => ?_) ?_
  · refine zv_aload_n dL_droplet_81 rfl ?_
    refine zv_iconst (v := 4) dL_droplet_82 (by decide) ?_
    refine zv_callV (m_X6_count l D B hR.1 hR.2.1 hS 4 _ _ rfl rfl) ml_L_10 in_X6_count sel_X6_count hR.1.1 rfl rfl rfl rfl (Nat.le_of_ble_eq_true rfl) dL_droplet_83 ⟨Nat.le_of_ble_eq_true rfl, Nat.le_of_ble_eq_true rfl⟩ ⟨Nat.le_refl _, Nat.le_refl _⟩ (zk_p fun G1 hG1 => ?_)
    replace hF := frT hF hG1.2
    replace hR := (zRC_fr hR hG1.1 hG1.2).1
    clear hG1
    rw [qCo_4, h0]
    refine zv_if_ne (tgt := 98) dL_droplet_86 (by decide) (fun c86 => ?_) (fun c86 => ?_)
    · have k86 : ¬ w = 0 := fun hh => c86 (by rw [hh]; rfl)
      refine zv_aload_n dL_droplet_98 rfl ?_
      refine zv_iconst (v := 4) dL_droplet_99 (by decide) ?_
      refine zv_callV (m_X6_count l D B hR.1 hR.2.1 hS 4 _ _ rfl rfl) ml_L_10 in_X6_count sel_X6_count hR.1.1 rfl rfl rfl rfl (Nat.le_of_ble_eq_true rfl) dL_droplet_100 ⟨Nat.le_of_ble_eq_true rfl, Nat.le_of_ble_eq_true rfl⟩ ⟨Nat.le_refl _, Nat.le_refl _⟩ (zk_p fun G1 hG1 => ?_)
      replace hF := frT hF hG1.2
      replace hR := (zRC_fr hR hG1.1 hG1.2).1
      clear hG1
      rw [qCo_4, h0]
      refine zv_iconst (v := 1) dL_droplet_103 (by decide) ?_
      refine zv_icmp_ne (tgt := 122) dL_droplet_104 (by decide) (fun c104 => ?_) (fun c104 => ?_)
      · have k104 : ¬ w = 1 := fun hh => c104 (by rw [hh]; rfl)
        refine zv_iload dL_droplet_122 rfl ?_
        refine zv_iconst (v := 4) dL_droplet_124 (by decide) ?_
        refine zv_irem dL_droplet_125 (by decide) ?_
        rw [show (4 : Int32) = nI 4 from rfl, pk_rem (by omega) (by decide) (by decide)]
        refine zv_if_ne (tgt := 133) dL_droplet_126 (by decide) (fun c126 => ?_) (fun c126 => ?_)
        · have k126 : ¬ zdw (zdw sd) % 4 = 0 := fun hh => c126 (by rw [hh]; rfl)
          refine zv_iload_n dL_droplet_133 rfl ?_
          have e : zdeg w (zdw (zdw sd)) n = n := by
            unfold zdeg
            rw [if_neg k104, if_pos (by omega), if_neg k126]
          rw [e] at kk
          exact kk _ ⟨hR, hF⟩
        · have k126 : zdw (zdw sd) % 4 = 0 := (nI_eq (b := 0) (by omega) (by decide)).mp c126
          refine zv_iconst (v := 1) dL_droplet_129 (by decide) ?_
          refine zv_goto (tgt := 134) dL_droplet_130 (by decide) ?_
          have e : zdeg w (zdw (zdw sd)) n = 1 := by
            unfold zdeg
            rw [if_neg k104, if_pos (by omega), if_pos k126]
          rw [e] at kk
          exact kk _ ⟨hR, hF⟩
      · have k104 : w = 1 := (nI_eq (b := 1) (by omega) (by decide)).mp c104
        refine zv_iload dL_droplet_107 rfl ?_
        refine zv_iload_n dL_droplet_109 rfl ?_
        have hcd := cdeg_b (zdw (zdw sd) % 24)
        refine zv_icmp_ge (tgt := 118) dL_droplet_110 (by decide) (fun c110 => ?_) (fun c110 => ?_)
        · have k110 : n ≤ cdeg (zdw (zdw sd) % 24) := (nI_leI (by omega) (by omega)).mp c110
          refine zv_iload_n dL_droplet_118 rfl ?_
          refine zv_goto (tgt := 134) dL_droplet_119 (by decide) ?_
          have e : zdeg w (zdw (zdw sd)) n = n := by
            unfold zdeg
            rw [if_pos k104]
            split <;> omega
          rw [e] at kk
          exact kk _ ⟨hR, hF⟩
        · have k110 : ¬ n ≤ cdeg (zdw (zdw sd) % 24) := fun hh => c110 (nI_le hh (by omega))
          refine zv_iload dL_droplet_113 rfl ?_
          refine zv_goto (tgt := 134) dL_droplet_115 (by decide) ?_
          have e : zdeg w (zdw (zdw sd)) n = cdeg (zdw (zdw sd) % 24) := by
            unfold zdeg
            rw [if_pos k104, if_pos (by omega)]
          rw [e] at kk
          exact kk _ ⟨hR, hF⟩
    · have k86 : w = 0 := (nI_eq (b := 0) (by omega) (by decide)).mp c86
      refine zv_iconst (v := 1) dL_droplet_89 (by decide) ?_
      refine zv_iload dL_droplet_90 rfl ?_
      refine zv_iload_n dL_droplet_92 rfl ?_
      refine zv_irem dL_droplet_93 (nI_ne0 hn0 (by omega)) ?_
      refine zv_iadd dL_droplet_94 ?_
      rw [pk_rem (by omega) hn0 (by omega), show (1 : Int32) = nI 1 from rfl, nI_add]
      refine zv_goto (tgt := 134) dL_droplet_95 (by decide) ?_
      have e : zdeg w (zdw (zdw sd)) n = 1 + zdw (zdw sd) % n := by
        unfold zdeg
        rw [if_neg (by omega), if_neg (by omega)]
      rw [e] at kk
      exact kk _ ⟨hR, hF⟩
  rintro G1 ⟨hR, hF⟩
  refine zv_istore dL_droplet_134 (by decide) rfl ?_
  refine zv_iconst (v := 0) dL_droplet_136 (by decide) ?_
  refine zv_istore dL_droplet_137 (by decide) rfl ?_
  refine zv_iconst (v := 0) dL_droplet_139 (by decide) ?_
  refine zv_istore dL_droplet_140 (by decide) rfl ?_
  refine zv_iconst (v := 0) dL_droplet_142 (by decide) ?_
  refine zv_istore dL_droplet_143 (by decide) rfl ?_
  exact lp_dr (cn := cn) l D B hS h0 hw h1 h2 hn0 hn hbk hsd hq hb 0 (Nat.zero_le _) G1 _ _ hR hF
