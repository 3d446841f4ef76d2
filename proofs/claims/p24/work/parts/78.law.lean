set_option maxRecDepth 100000 in
set_option maxHeartbeats 4000000 in
theorem lp_po3 (l : Launch) (D : zD) (B : Nat) {L : zL} {nx : Nat} {G : zG} {x p t n cn c tn i sd m2 : Nat} {r2 f f2 ch g : Nat → Int32} {h : Nat → (Nat → Int32)} {sl : Nat → Option (Nat → Int32)} {T : Nat → Nat} {q : zQ} {r4 V LO RV : Int32} {l4 l11 : Option Value} (hS2 : SI t r2) (h23 : r2 3 = nI cn) (hc : cn ≤ 3) (hi : i < cn) (hcu : cupR r2 i = f2) (hp : (p, 125) ∈ L) (hxp : x + 135 ≤ p) (hJ2 : zCJ n ch f2 m2) (hs2 : zsz f2 m2) (hRl : Rl g f2 m2) (kk : ∀ G1 (l18 : Option Value), zRC L x nx G1 r2 h c sl T tn → (∀ y, x + 134 ≤ y → y ≠ p → G1 y = G y) → G1 p = g → zV l (fun _ => True) D B RL "poured" cL_poured 19 (some .boolean) (zrm 6 140 1 25) (fun v L' nx' G' k n => q v L' nx' G' ∧ k ≤ 1 ∧ n ≤ 25) 1 25 L nx 330 [some (.ref x), some (.int (nI i)), some (.int (nI sd)), some (.int (f 0)), l4, some (.int (f 2)), some (.int (f 3)), some (.int (f 4)), some (.int r4), some (.int V), some (.int LO), l11, some (.ref p), some (.int (f2 0)), some (.int V), some (.int RV), some (.int (nI m2)), some (.int (nI 25)), l18] [] G1) : ∀ k : Nat, k ≤ 25 → ∀ G1 (l18 : Option Value), zRC L x nx G1 r2 h c sl T tn → (∀ y, x + 134 ≤ y → y ≠ p → G1 y = G y) → G1 p = g → zV l (fun _ => True) D B RL "poured" cL_poured 19 (some .boolean) (zrm 6 140 1 25) (fun v L' nx' G' k n => q v L' nx' G' ∧ k ≤ 1 ∧ n ≤ 25) 1 25 L nx 282 [some (.ref x), some (.int (nI i)), some (.int (nI sd)), some (.int (f 0)), l4, some (.int (f 2)), some (.int (f 3)), some (.int (f 4)), some (.int r4), some (.int V), some (.int LO), l11, some (.ref p), some (.int (f2 0)), some (.int V), some (.int RV), some (.int (nI (zcnt (nzS g) k))), some (.int (nI k)), l18] [] G1 := by
  refine zloop 25 (fun k hk ih G1 l18 hR hF hgp => ?_)
  refine zv_iload dL_poured_282 rfl ?_
  refine zv_bipush (v := 25) dL_poured_284 (by decide) ?_
  refine zv_icmp_ge (tgt := 330) dL_poured_286 (by decide) (fun c286 => ?_) (fun c286 => ?_)
  · have e : k = 25 := by have := zge_of (N := 25) (by decide) (by omega) rfl c286; omega
    subst e
    rw [nz_all hRl]
    exact kk _ _ hR hF hgp
  · have hlt : k < 25 := zlt_of (N := 25) (by decide) (by omega) rfl c286
    refine zv_aload dL_poured_289 rfl ?_
    refine zv_iload dL_poured_291 rfl ?_
    refine zv_iald (q := p) (r := 0) (i := 0) hp rfl (zix_nI (show k < 25 by omega) (by decide)) dL_poured_293 ?_
    rw [Nat.zero_add, hgp]
    refine zv_iload dL_poured_294 rfl ?_
    refine zv_iconst (v := (-1)) dL_poured_296 (by decide) ?_
    refine zv_ixor dL_poured_297 ?_
    refine zv_iand dL_poured_298 ?_
    refine zv_istore dL_poured_299 (by decide) rfl ?_
    refine zv_iload dL_poured_301 rfl ?_
    refine zv_if_eq (tgt := 324) dL_poured_303 (by decide) (fun c303 => ?_) (fun c303 => ?_)
    · have hz := nz_off hRl hs2 hlt c303
      refine zv_iinc1 dL_poured_324 rfl (by decide) rfl ?_
      refine zv_goto (tgt := 282) dL_poured_327 (by decide) ?_
      rw [nI_1, ← zcnt_s0 hz]
      exact ih hlt _ _ hR hF hgp
    · obtain ⟨hz, h24, hrk, hrow⟩ := nz_on hRl hlt c303
      refine zv_aload_n dL_poured_306 rfl ?_
      refine zv_iload_n dL_poured_307 rfl ?_
      refine zv_iload dL_poured_308 rfl ?_
      refine zv_iconst (v := 0) dL_poured_310 (by decide) ?_
      refine zv_callV (m_X6_kept l D B hR.1 hR.2.1 hS2 (nI i) (nI (zcnt (nzS g) k)) 0) ml_L_34 in_X6_kept sel_X6_kept hR.1.1 rfl rfl rfl rfl (Nat.le_of_ble_eq_true rfl) dL_poured_311 ⟨Nat.le_of_ble_eq_true rfl, Nat.le_of_ble_eq_true rfl⟩ ⟨Nat.le_refl _, Nat.le_refl _⟩ (zk_p fun G1 hG1 => ?_)
      replace hF := frP hF hG1.2
      replace hgp := frG hxp hgp hG1.2
      replace hR := (zRC_fr hR hG1.1 hG1.2).1
      clear hG1
      rw [(qKe_at h23 hc hi (by rw [hcu]; exact hJ2.2.2.1) hJ2.2.1 hrk).1, hcu]
      refine zv_iload dL_poured_314 rfl ?_
      refine zv_icmp_eq (tgt := 321) dL_poured_316 (by decide) (fun _ => ?_) (fun h => absurd (hrow) h)
      refine zv_iinc1 dL_poured_321 rfl (by decide) rfl ?_
      refine zv_iinc1 dL_poured_324 rfl (by decide) rfl ?_
      refine zv_goto (tgt := 282) dL_poured_327 (by decide) ?_
      rw [nI_1, nI_1, ← zcnt_s1 hz]
      exact ih hlt _ _ hR hF hgp

set_option maxRecDepth 100000 in
set_option maxHeartbeats 4000000 in
theorem ep_po3 (l : Launch) (D : zD) (B : Nat) {L : zL} {nx : Nat} {G : zG} {x p t n cn c tn i sd m2 : Nat} {r2 f f2 ch g : Nat → Int32} {h : Nat → (Nat → Int32)} {sl : Nat → Option (Nat → Int32)} {T : Nat → Nat} {q : zQ} {r4 V LO RV : Int32} {l4 l11 : Option Value} {G1 : zG} {l16 l17 l18 : Option Value} (hR : zRC L x nx G1 r2 h c sl T tn) (hF : ∀ y, x + 134 ≤ y → y ≠ p → G1 y = G y) (hgp : G1 p = g) (hS2 : SI t r2) (h23 : r2 3 = nI cn) (hc : cn ≤ 3) (hi : i < cn) (hcu : cupR r2 i = f2) (hp : (p, 125) ∈ L) (hxp : x + 135 ≤ p) (hJ2 : zCJ n ch f2 m2) (hs2 : zsz f2 m2) (hRl : Rl g f2 m2) (a7 : f2 2 = f 2 + 1) (a8 : f2 3 = f 3 + LO) (a9 : f2 4 = f 4 + (if V = 1 then 1 else 0)) (hLO : LO = 0 ∨ LO = 1) (h24 : r2 4 = r4 + 1) (hRV : RV = nI (zcnt (zb (f2 0)) 16) - nI (zcnt (zb (f 0)) 16)) (kfin : ∀ G1, zRC L x nx G1 r2 h c sl T tn → (∀ y, x + 134 ≤ y → y ≠ p → G1 y = G y) → q (some (.int 1)) L nx G1) : zV l (fun _ => True) D B RL "poured" cL_poured 19 (some .boolean) (zrm 6 140 1 25) (fun v L' nx' G' k n => q v L' nx' G' ∧ k ≤ 1 ∧ n ≤ 25) 1 25 L nx 229 [some (.ref x), some (.int (nI i)), some (.int (nI sd)), some (.int (f 0)), l4, some (.int (f 2)), some (.int (f 3)), some (.int (f 4)), some (.int r4), some (.int V), some (.int LO), l11, some (.ref p), some (.int (f2 0)), some (.int V), some (.int RV), l16, l17, l18] [] G1 := by
  refine zv_iload dL_poured_229 rfl ?_
  refine zv_iload dL_poured_231 rfl ?_
  refine zv_icmp_ne (tgt := 274) dL_poured_233 (by decide) (fun h => absurd (rfl) h) (fun _ => ?_)
  refine zv_iload dL_poured_236 rfl ?_
  refine zv_iload dL_poured_238 rfl ?_
  refine zv_callS (m_L_size l D B _) ml_L_25 st_L_size rfl rfl (Nat.le_of_ble_eq_true rfl) dL_poured_240 ⟨Nat.le_of_ble_eq_true rfl, Nat.le_of_ble_eq_true rfl⟩ ⟨Nat.le_refl _, Nat.le_refl _⟩ (zk_i ?_)
  refine zv_iload_n dL_poured_243 rfl ?_
  refine zv_callS (m_L_size l D B _) ml_L_25 st_L_size rfl rfl (Nat.le_of_ble_eq_true rfl) dL_poured_244 ⟨Nat.le_of_ble_eq_true rfl, Nat.le_of_ble_eq_true rfl⟩ ⟨Nat.le_refl _, Nat.le_refl _⟩ (zk_i ?_)
  refine zv_isub dL_poured_247 ?_
  refine zv_icmp_ne (tgt := 274) dL_poured_248 (by decide) (fun h => absurd (hRV) h) (fun _ => ?_)
  refine zv_aload_n dL_poured_251 rfl ?_
  refine zv_iload_n dL_poured_252 rfl ?_
  refine zv_iconst (v := 0) dL_poured_253 (by decide) ?_
  refine zv_callV (m_X6_ofCup l D B hR.1 hR.2.1 hS2 (nI i) 0) ml_L_28 in_X6_ofCup sel_X6_ofCup hR.1.1 rfl rfl rfl rfl (Nat.le_of_ble_eq_true rfl) dL_poured_254 ⟨Nat.le_of_ble_eq_true rfl, Nat.le_of_ble_eq_true rfl⟩ ⟨Nat.le_refl _, Nat.le_refl _⟩ (zk_p fun G1 hG1 => ?_)
  replace hF := frP hF hG1.2
  replace hgp := frG hxp hgp hG1.2
  replace hR := (zRC_fr hR hG1.1 hG1.2).1
  clear hG1
  rw [qOf_at h23 hc hi, qOf_0, hcu]
  refine zv_iload dL_poured_257 rfl ?_
  refine zv_icmp_ne (tgt := 274) dL_poured_259 (by decide) (fun h => absurd (rfl) h) (fun _ => ?_)
  refine zv_aload_n dL_poured_262 rfl ?_
  refine zv_iconst (v := 3) dL_poured_263 (by decide) ?_
  refine zv_callV (m_X6_count l D B hR.1 hR.2.1 hS2 3 _ _ rfl rfl) ml_L_10 in_X6_count sel_X6_count hR.1.1 rfl rfl rfl rfl (Nat.le_of_ble_eq_true rfl) dL_poured_264 ⟨Nat.le_of_ble_eq_true rfl, Nat.le_of_ble_eq_true rfl⟩ ⟨Nat.le_refl _, Nat.le_refl _⟩ (zk_p fun G1 hG1 => ?_)
  replace hF := frP hF hG1.2
  replace hgp := frG hxp hgp hG1.2
  replace hR := (zRC_fr hR hG1.1 hG1.2).1
  clear hG1
  rw [qCo_3, h24]
  refine zv_iload dL_poured_267 rfl ?_
  refine zv_iconst (v := 1) dL_poured_269 (by decide) ?_
  refine zv_iadd dL_poured_270 ?_
  refine zv_icmp_eq (tgt := 276) dL_poured_271 (by decide) (fun _ => ?_) (fun h => absurd (rfl) h)
  refine zv_iconst (v := 0) dL_poured_276 (by decide) ?_
  refine zv_istore dL_poured_277 (by decide) rfl ?_
  refine zv_iconst (v := 0) dL_poured_279 (by decide) ?_
  refine zv_istore dL_poured_280 (by decide) rfl ?_
  refine lp_po3 l D B hS2 h23 hc hi hcu hp hxp hJ2 hs2 hRl (fun G1 l18 hR hF hgp => ?_) 0 (Nat.zero_le _) _ _ hR hF hgp
  refine zv_aload_n dL_poured_330 rfl ?_
  refine zv_iload_n dL_poured_331 rfl ?_
  refine zv_iconst (v := 1) dL_poured_332 (by decide) ?_
  refine zv_callV (m_X6_ofCup l D B hR.1 hR.2.1 hS2 (nI i) 1) ml_L_28 in_X6_ofCup sel_X6_ofCup hR.1.1 rfl rfl rfl rfl (Nat.le_of_ble_eq_true rfl) dL_poured_333 ⟨Nat.le_of_ble_eq_true rfl, Nat.le_of_ble_eq_true rfl⟩ ⟨Nat.le_refl _, Nat.le_refl _⟩ (zk_p fun G1 hG1 => ?_)
  replace hF := frP hF hG1.2
  replace hgp := frG hxp hgp hG1.2
  replace hR := (zRC_fr hR hG1.1 hG1.2).1
  clear hG1
  rw [qOf_at h23 hc hi, qOf_1, hcu]
  refine zv_iload dL_poured_336 rfl ?_
  refine zv_icmp_ne (tgt := 403) dL_poured_338 (by decide) (fun h => absurd (hJ2.2.2.1) h) (fun _ => ?_)
  refine zv_aload_n dL_poured_341 rfl ?_
  refine zv_iload_n dL_poured_342 rfl ?_
  refine zv_iconst (v := 2) dL_poured_343 (by decide) ?_
  refine zv_callV (m_X6_ofCup l D B hR.1 hR.2.1 hS2 (nI i) 2) ml_L_28 in_X6_ofCup sel_X6_ofCup hR.1.1 rfl rfl rfl rfl (Nat.le_of_ble_eq_true rfl) dL_poured_344 ⟨Nat.le_of_ble_eq_true rfl, Nat.le_of_ble_eq_true rfl⟩ ⟨Nat.le_refl _, Nat.le_refl _⟩ (zk_p fun G1 hG1 => ?_)
  replace hF := frP hF hG1.2
  replace hgp := frG hxp hgp hG1.2
  replace hR := (zRC_fr hR hG1.1 hG1.2).1
  clear hG1
  rw [qOf_at h23 hc hi, qOf_2, hcu]
  refine zv_iload dL_poured_347 rfl ?_
  refine zv_iconst (v := 1) dL_poured_349 (by decide) ?_
  refine zv_iadd dL_poured_350 ?_
  refine zv_icmp_ne (tgt := 403) dL_poured_351 (by decide) (fun h => absurd (a7) h) (fun _ => ?_)
  refine zv_aload_n dL_poured_354 rfl ?_
  refine zv_iload_n dL_poured_355 rfl ?_
  refine zv_iconst (v := 3) dL_poured_356 (by decide) ?_
  refine zv_callV (m_X6_ofCup l D B hR.1 hR.2.1 hS2 (nI i) 3) ml_L_28 in_X6_ofCup sel_X6_ofCup hR.1.1 rfl rfl rfl rfl (Nat.le_of_ble_eq_true rfl) dL_poured_357 ⟨Nat.le_of_ble_eq_true rfl, Nat.le_of_ble_eq_true rfl⟩ ⟨Nat.le_refl _, Nat.le_refl _⟩ (zk_p fun G1 hG1 => ?_)
  replace hF := frP hF hG1.2
  replace hgp := frG hxp hgp hG1.2
  replace hR := (zRC_fr hR hG1.1 hG1.2).1
  clear hG1
  rw [qOf_at h23 hc hi, qOf_3, hcu]
  rcases hLO with hLO | hLO
  · subst hLO
    refine zv_iload dL_poured_360 rfl ?_
    refine zv_iload dL_poured_362 rfl ?_
    refine zv_if_eq (tgt := 371) dL_poured_364 (by decide) (fun _ => ?_) (fun h => absurd (rfl) h)
    refine zv_iconst (v := 0) dL_poured_371 (by decide) ?_
    refine zv_iadd dL_poured_372 ?_
    refine zv_icmp_ne (tgt := 403) dL_poured_373 (by decide) (fun h => absurd (a8) h) (fun _ => ?_)
    refine zv_aload_n dL_poured_376 rfl ?_
    refine zv_iload_n dL_poured_377 rfl ?_
    refine zv_iconst (v := 4) dL_poured_378 (by decide) ?_
    refine zv_callV (m_X6_ofCup l D B hR.1 hR.2.1 hS2 (nI i) 4) ml_L_28 in_X6_ofCup sel_X6_ofCup hR.1.1 rfl rfl rfl rfl (Nat.le_of_ble_eq_true rfl) dL_poured_379 ⟨Nat.le_of_ble_eq_true rfl, Nat.le_of_ble_eq_true rfl⟩ ⟨Nat.le_refl _, Nat.le_refl _⟩ (zk_p fun G1 hG1 => ?_)
    replace hF := frP hF hG1.2
    replace hgp := frG hxp hgp hG1.2
    replace hR := (zRC_fr hR hG1.1 hG1.2).1
    clear hG1
    rw [qOf_at h23 hc hi, qOf_4, hcu]
    refine zv_iload dL_poured_382 rfl ?_
    refine zv_iload dL_poured_384 rfl ?_
    refine zv_iconst (v := 1) dL_poured_386 (by decide) ?_
    refine zv_icmp_ne (tgt := 394) dL_poured_387 (by decide) (fun c387 => ?_) (fun c387 => ?_)
    · refine zv_iconst (v := 0) dL_poured_394 (by decide) ?_
      refine zv_iadd dL_poured_395 ?_
      refine zv_icmp_ne (tgt := 403) dL_poured_396 (by decide) (fun h => absurd (a9.trans (by rw [if_neg c387])) h) (fun _ => ?_)
      refine zv_iconst (v := 1) dL_poured_399 (by decide) ?_
      refine zv_goto (tgt := 404) dL_poured_400 (by decide) ?_
      exact zv_iret dL_poured_404 rfl rfl ⟨kfin _ hR hF, Nat.le_refl _, Nat.le_refl _⟩
    · refine zv_iconst (v := 1) dL_poured_390 (by decide) ?_
      refine zv_goto (tgt := 395) dL_poured_391 (by decide) ?_
      refine zv_iadd dL_poured_395 ?_
      refine zv_icmp_ne (tgt := 403) dL_poured_396 (by decide) (fun h => absurd (a9.trans (by rw [if_pos c387])) h) (fun _ => ?_)
      refine zv_iconst (v := 1) dL_poured_399 (by decide) ?_
      refine zv_goto (tgt := 404) dL_poured_400 (by decide) ?_
      exact zv_iret dL_poured_404 rfl rfl ⟨kfin _ hR hF, Nat.le_refl _, Nat.le_refl _⟩
  · subst hLO
    refine zv_iload dL_poured_360 rfl ?_
    refine zv_iload dL_poured_362 rfl ?_
    refine zv_if_eq (tgt := 371) dL_poured_364 (by decide) (fun h => absurd h (by decide)) (fun _ => ?_)
    refine zv_iconst (v := 1) dL_poured_367 (by decide) ?_
    refine zv_goto (tgt := 372) dL_poured_368 (by decide) ?_
    refine zv_iadd dL_poured_372 ?_
    refine zv_icmp_ne (tgt := 403) dL_poured_373 (by decide) (fun h => absurd (a8) h) (fun _ => ?_)
    refine zv_aload_n dL_poured_376 rfl ?_
    refine zv_iload_n dL_poured_377 rfl ?_
    refine zv_iconst (v := 4) dL_poured_378 (by decide) ?_
    refine zv_callV (m_X6_ofCup l D B hR.1 hR.2.1 hS2 (nI i) 4) ml_L_28 in_X6_ofCup sel_X6_ofCup hR.1.1 rfl rfl rfl rfl (Nat.le_of_ble_eq_true rfl) dL_poured_379 ⟨Nat.le_of_ble_eq_true rfl, Nat.le_of_ble_eq_true rfl⟩ ⟨Nat.le_refl _, Nat.le_refl _⟩ (zk_p fun G1 hG1 => ?_)
    replace hF := frP hF hG1.2
    replace hgp := frG hxp hgp hG1.2
    replace hR := (zRC_fr hR hG1.1 hG1.2).1
    clear hG1
    rw [qOf_at h23 hc hi, qOf_4, hcu]
    refine zv_iload dL_poured_382 rfl ?_
    refine zv_iload dL_poured_384 rfl ?_
    refine zv_iconst (v := 1) dL_poured_386 (by decide) ?_
    refine zv_icmp_ne (tgt := 394) dL_poured_387 (by decide) (fun c387 => ?_) (fun c387 => ?_)
    · refine zv_iconst (v := 0) dL_poured_394 (by decide) ?_
      refine zv_iadd dL_poured_395 ?_
      refine zv_icmp_ne (tgt := 403) dL_poured_396 (by decide) (fun h => absurd (a9.trans (by rw [if_neg c387])) h) (fun _ => ?_)
      refine zv_iconst (v := 1) dL_poured_399 (by decide) ?_
      refine zv_goto (tgt := 404) dL_poured_400 (by decide) ?_
      exact zv_iret dL_poured_404 rfl rfl ⟨kfin _ hR hF, Nat.le_refl _, Nat.le_refl _⟩
    · refine zv_iconst (v := 1) dL_poured_390 (by decide) ?_
      refine zv_goto (tgt := 395) dL_poured_391 (by decide) ?_
      refine zv_iadd dL_poured_395 ?_
      refine zv_icmp_ne (tgt := 403) dL_poured_396 (by decide) (fun h => absurd (a9.trans (by rw [if_pos c387])) h) (fun _ => ?_)
      refine zv_iconst (v := 1) dL_poured_399 (by decide) ?_
      refine zv_goto (tgt := 404) dL_poured_400 (by decide) ?_
      exact zv_iret dL_poured_404 rfl rfl ⟨kfin _ hR hF, Nat.le_refl _, Nat.le_refl _⟩

set_option maxRecDepth 100000 in
set_option maxHeartbeats 4000000 in
theorem ep_po2 (l : Launch) (D : zD) (B : Nat) {L : zL} {nx : Nat} {G : zG} {x p t n cn c tn i sd m2 : Nat} {r bk g : Nat → Int32} {h : Nat → (Nat → Int32)} {sl : Nat → Option (Nat → Int32)} {T : Nat → Nat} {q : zQ} {V LO th : Int32} {l4 l11 l15 l16 l17 l18 : Option Value} {G1 : zG} (hR : zRC L x nx G1 r h c sl T tn) (hF : ∀ y, x + 134 ≤ y → y ≠ p → G1 y = G y) (hgp : G1 p = g) (hQ : LQ t n cn bk r) (ht : t < 2 ^ 29) (hi : i < cn) (hsd : sd < 65536) (hp : (p, 125) ∈ L) (hxp : x + 135 ≤ p) (hPO : PO n (chR r) (cupR r i) (dPR r sd) g m2 V LO) (hth : recvP (cupR r i) (dPR r sd) 0 = th) (kfin : ∀ G1 r' h' c', zRC L x nx G1 r' h' c' sl T tn → (∀ y, x + 134 ≤ y → y ≠ p → G1 y = G y) → LQ (t + 1) n cn bk r' → q (some (.int 1)) L nx G1) : zV l (fun _ => True) D B RL "poured" cL_poured 19 (some .boolean) (zrm 6 140 1 25) (fun v L' nx' G' k n => q v L' nx' G' ∧ k ≤ 1 ∧ n ≤ 25) 1 25 L nx 220 [some (.ref x), some (.int (nI i)), some (.int (nI sd)), some (.int (cupR r i 0)), l4, some (.int (cupR r i 2)), some (.int (cupR r i 3)), some (.int (cupR r i 4)), some (.int (r 4)), some (.int (wouldV (cupR r i) (dPR r sd))), some (.int LO), l11, some (.ref p), some (.int th), some (.int V), l15, l16, l17, l18] [] G1 := by
  have hS := LQ_SI hQ
  obtain ⟨w, ls, pp, h0, hw, h1, hl, h2, hn0, hn, h3, hc0, hc, h4, hpp, hI, hz, hbk, hk⟩ := id hQ
  have hQ2 := LQ_pour hQ ht hi hPO
  obtain ⟨a1, a2, a3, a4, a5, a6, a7, a8, a9, a10, a11⟩ := id hPO
  have hD : zDO n (chR r) (dPR r sd) := dPR_DO h2 hn0 hn
  have hcu : cupR (upd (putC r i (recvP (cupR r i) (dPR r sd))) 4 (r 4 + 1)) i = recvP (cupR r i) (dPR r sd) := cupR_up4 (fun j hj => (recvP_hi (hI i (by omega)) hD j hj).trans (cupR_hi r i j hj))
  have h23 : upd (putC r i (recvP (cupR r i) (dPR r sd))) 4 (r 4 + 1) 3 = nI cn := by
    simp only [upd]
    rw [if_neg (by omega), putC_lo (by omega)]
    exact h3
  have h24 : upd (putC r i (recvP (cupR r i) (dPR r sd))) 4 (r 4 + 1) 4 = r 4 + 1 := by simp only [upd, if_true]
  have hA := zcnt_le (zb (recvP (cupR r i) (dPR r sd) 0)) 16
  have hnn : ¬ (recvR (cupR r i) (dPR r sd), upd (putC r i (recvP (cupR r i) (dPR r sd))) 4 (r 4 + 1)).1 < 0 := by
    show ¬ recvR (cupR r i) (dPR r sd) < 0
    rw [a4, pk_sub a5]
    exact nI_pos (by omega)
  subst hth
  rw [a6]
  refine zv_aload_n dL_poured_220 rfl ?_
  refine zv_iload_n dL_poured_221 rfl ?_
  refine zv_iload_n dL_poured_222 rfl ?_
  refine zv_iconst (v := 1) dL_poured_223 (by decide) ?_
  refine zv_callV (m_X6_pour l D B hR hS (nI i) (nI sd) 1) ml_L_45 in_X6_pour sel_X6_pour hR.1.1 rfl rfl rfl rfl (Nat.le_of_ble_eq_true rfl) dL_poured_224 ⟨Nat.le_of_ble_eq_true rfl, Nat.le_of_ble_eq_true rfl⟩ ⟨Nat.le_refl _, Nat.le_refl _⟩ (zk_p fun G1 hG1 => ?_)
  rw [opPour_1 h2 hn0 hn h3 hc hi hsd] at hG1 ⊢
  rw [chg_pos hnn] at hG1
  dsimp only at hG1 ⊢
  obtain ⟨hR, hFp⟩ := hG1
  replace hgp := (hFp p (by omega)).trans hgp
  replace hF : (∀ y, x + 134 ≤ y → y ≠ p → G1 y = G y) := fun y hy hn => (hFp y hy).trans (hF y hy hn)
  refine zv_istore dL_poured_227 (by decide) rfl ?_
  exact ep_po3 l D B (t := t + 1) hR hF hgp (LQ_SI hQ2) h23 hc hi hcu hp hxp a1 a2 a3 a7 a8 a9 a10 h24 a4 (fun G1 hR hF => kfin G1 _ _ _ hR hF hQ2)

set_option maxRecDepth 100000 in
set_option maxHeartbeats 4000000 in
theorem lp_po2 (l : Launch) (D : zD) (B : Nat) {L : zL} {nx : Nat} {G : zG} {q : zQ} {s : Int32} {ci : Nat} {l0 l1 l2 l3 l4 l5 l6 l7 l8 l9 l10 l12 l13 l16 l17 l18 : Option Value} {v14 : Int32} (hs : ∀ j, j < 32 → zb s j = decide (j = ci)) (hci : ci < 16) (kk : zV l (fun _ => True) D B RL "poured" cL_poured 19 (some .boolean) (zrm 6 140 1 25) (fun v L' nx' G' k n => q v L' nx' G' ∧ k ≤ 1 ∧ n ≤ 25) 1 25 L nx 166 [l0, l1, l2, l3, l4, l5, l6, l7, l8, l9, l10, some (.int s), l12, l13, some (.int v14), some (.int (nI ci)), l16, l17, l18] [] G) : ∀ j : Nat, j ≤ ci → zV l (fun _ => True) D B RL "poured" cL_poured 19 (some .boolean) (zrm 6 140 1 25) (fun v L' nx' G' k n => q v L' nx' G' ∧ k ≤ 1 ∧ n ≤ 25) 1 25 L nx 150 [l0, l1, l2, l3, l4, l5, l6, l7, l8, l9, l10, some (.int s), l12, l13, some (.int v14), some (.int (nI j)), l16, l17, l18] [] G := by
  refine zloop ci (fun j hj ih => ?_)
  refine zv_iload dL_poured_150 rfl ?_
  refine zv_iload dL_poured_152 rfl ?_
  refine zv_ishr dL_poured_154 ?_
  refine zv_iconst (v := 1) dL_poured_155 (by decide) ?_
  refine zv_iand dL_poured_156 ?_
  rw [bI_sh (by omega), hs j (by omega)]
  refine zv_if_ne (tgt := 166) dL_poured_157 (by decide) (fun c157 => ?_) (fun c157 => ?_)
  · have e : j = ci := by
      rcases Nat.decEq j ci with h | h
      · exact absurd (by rw [decide_eq_false h]; rfl) c157
      · exact h
    subst e
    exact kk
  · have hlt : j < ci := by
      rcases Nat.decEq j ci with h | h
      · omega
      · rw [decide_eq_true h] at c157; exact absurd c157 (by decide)
    refine zv_iinc1 dL_poured_160 rfl (by decide) rfl ?_
    refine zv_goto (tgt := 150) dL_poured_163 (by decide) ?_
    rw [nI_1]
    exact ih hlt

set_option maxRecDepth 100000 in
set_option maxHeartbeats 4000000 in
theorem lp_po1 (l : Launch) (D : zD) (B : Nat) {L : zL} {nx : Nat} {G : zG} {x p t n cn c tn i sd m : Nat} {r bk g : Nat → Int32} {h : Nat → (Nat → Int32)} {sl : Nat → Option (Nat → Int32)} {T : Nat → Nat} {q : zQ} {l13 : Option Value} (hS : SI t r) (h3 : r 3 = nI cn) (hc : cn ≤ 3) (hi : i < cn) (hsl : ∀ j, j < 2 → sl j = none) (h1 : cupR r i 1 = nI m) (hm : m ≤ 24) (hp : (p, 125) ∈ L) (hxp : x + 135 ≤ p) (kk : ∀ G1, zRC L x nx G1 r h c sl T tn → (∀ y, x + 134 ≤ y → y ≠ p → G1 y = G y) → (∀ k, k < 25 → G1 p k = if k < m then cupR r i (21 + k) else 0) → zV l (fun _ => True) D B RL "poured" cL_poured 19 (some .boolean) (zrm 6 140 1 25) (fun v L' nx' G' k n => q v L' nx' G' ∧ k ≤ 1 ∧ n ≤ 25) 1 25 L nx 118 [some (.ref x), some (.int (nI i)), some (.int (nI sd)), some (.int (cupR r i 0)), some (.int (nI m)), some (.int (cupR r i 2)), some (.int (cupR r i 3)), some (.int (cupR r i 4)), some (.int (r 4)), some (.int (wouldV (cupR r i) (dPR r sd))), some (.int (bI (decide (dPR r sd 0 = 1)))), some (.int (recvS (cupR r i) (dPR r sd))), some (.ref p), some (.int (nI m)), none, none, none, none, none] [] G1) : ∀ j : Nat, j ≤ m → ∀ G1, zRC L x nx G1 r h c sl T tn → (∀ y, x + 134 ≤ y → y ≠ p → G1 y = G y) → (∀ k, k < 25 → G1 p k = if k < j then cupR r i (21 + k) else 0) → zV l (fun _ => True) D B RL "poured" cL_poured 19 (some .boolean) (zrm 6 140 1 25) (fun v L' nx' G' k n => q v L' nx' G' ∧ k ≤ 1 ∧ n ≤ 25) 1 25 L nx 92 [some (.ref x), some (.int (nI i)), some (.int (nI sd)), some (.int (cupR r i 0)), some (.int (nI m)), some (.int (cupR r i 2)), some (.int (cupR r i 3)), some (.int (cupR r i 4)), some (.int (r 4)), some (.int (wouldV (cupR r i) (dPR r sd))), some (.int (bI (decide (dPR r sd 0 = 1)))), some (.int (recvS (cupR r i) (dPR r sd))), some (.ref p), some (.int (nI j)), none, none, none, none, none] [] G1 := by
  refine zloop m (fun j hj ih G1 hR hF hg => ?_)
  refine zv_iload dL_poured_92 rfl ?_
  refine zv_iload dL_poured_94 rfl ?_
  refine zv_icmp_ge (tgt := 118) dL_poured_96 (by decide) (fun c96 => ?_) (fun c96 => ?_)
  · have e : j = m := by have := zge_of (N := m) (by omega) (by omega) rfl c96; omega
    subst e
    exact kk _ hR hF hg
  · have hlt : j < m := zlt_of (N := m) (by omega) (by omega) rfl c96
    have hgp : G1 p = G1 p := rfl
    generalize hgg : G1 p = gg at hg hgp
    replace hgp := hgg
    clear hgg
    refine zv_aload dL_poured_99 rfl ?_
    refine zv_iload dL_poured_101 rfl ?_
    refine zv_aload_n dL_poured_103 rfl ?_
    refine zv_iload_n dL_poured_104 rfl ?_
    refine zv_iload dL_poured_105 rfl ?_
    refine zv_iconst (v := 0) dL_poured_107 (by decide) ?_
    refine zv_callV (m_X6_kept l D B hR.1 hR.2.1 hS (nI i) (nI j) 0) ml_L_34 in_X6_kept sel_X6_kept hR.1.1 rfl rfl rfl rfl (Nat.le_of_ble_eq_true rfl) dL_poured_108 ⟨Nat.le_of_ble_eq_true rfl, Nat.le_of_ble_eq_true rfl⟩ ⟨Nat.le_refl _, Nat.le_refl _⟩ (zk_p fun G1 hG1 => ?_)
    replace hF := frP hF hG1.2
    replace hgp := frG hxp hgp hG1.2
    replace hR := (zRC_fr hR hG1.1 hG1.2).1
    clear hG1
    rw [(qKe_at h3 hc hi h1 hm hlt).1]
    refine zv_iast (q := p) (r := 0) (i := 0) hp rfl (zix_nI (show j < 25 by omega) (by decide)) dL_poured_111 ?_
    rw [Nat.zero_add, hgp]
    refine zv_iinc1 dL_poured_112 rfl (by decide) rfl ?_
    refine zv_goto (tgt := 92) dL_poured_115 (by decide) ?_
    rw [nI_1]
    refine ih hlt _ (zRC_to hR hsl (fun b hb => hb) (fun y hy => zst_ne _ _ (by omega))) (fun y hy hn => (zst_ne _ _ hn).trans (hF y hy hn)) (fun k hk => ?_)
    rw [zst_same]
    simp only [upd]
    by_cases ek : k = j
    · subst ek
      rw [if_pos rfl, if_pos (by omega)]
    · rw [if_neg ek, hg k hk]
      by_cases e2 : k < j
      · rw [if_pos e2, if_pos (by omega)]
      · rw [if_neg e2, if_neg (by omega)]

set_option maxRecDepth 100000 in
set_option maxHeartbeats 4000000 in
theorem ep_po1 (l : Launch) (D : zD) (B : Nat) {L : zL} {nx : Nat} {G : zG} {x p t n cn c tn i sd m : Nat} {r bk g : Nat → Int32} {h : Nat → (Nat → Int32)} {sl : Nat → Option (Nat → Int32)} {T : Nat → Nat} {q : zQ} {l13 : Option Value} {G1 : zG} (hR : zRC L x nx G1 r h c sl T tn) (hF : ∀ y, x + 134 ≤ y → y ≠ p → G1 y = G y) (hg : ∀ k, k < 25 → G1 p k = if k < m then cupR r i (21 + k) else 0) (hsl : ∀ j, j < 2 → sl j = none) (hQ : LQ t n cn bk r) (ht : t < 2 ^ 29) (hi : i < cn) (hsd : sd < 65536) (hp : (p, 125) ∈ L) (hxp : x + 135 ≤ p) (hJ : zCJ n (chR r) (cupR r i) m) (hs : zsz (cupR r i) m) (kfin : ∀ G1 r' h' c', zRC L x nx G1 r' h' c' sl T tn → (∀ y, x + 134 ≤ y → y ≠ p → G1 y = G y) → LQ (t + 1) n cn bk r' → q (some (.int 1)) L nx G1) : zV l (fun _ => True) D B RL "poured" cL_poured 19 (some .boolean) (zrm 6 140 1 25) (fun v L' nx' G' k n => q v L' nx' G' ∧ k ≤ 1 ∧ n ≤ 25) 1 25 L nx 118 [some (.ref x), some (.int (nI i)), some (.int (nI sd)), some (.int (cupR r i 0)), some (.int (nI m)), some (.int (cupR r i 2)), some (.int (cupR r i 3)), some (.int (cupR r i 4)), some (.int (r 4)), some (.int (wouldV (cupR r i) (dPR r sd))), some (.int (bI (decide (dPR r sd 0 = 1)))), some (.int (recvS (cupR r i) (dPR r sd))), some (.ref p), l13, none, none, none, none, none] [] G1 := by
  obtain ⟨w, ls, pp, h0, hw, h1, hl, h2, hn0, hn, h3, hc0, hc, h4, hpp, hI, hz, hbk, hk⟩ := id hQ
  have hD : zDO n (chR r) (dPR r sd) := dPR_DO h2 hn0 hn
  have hm := hJ.2.1
  obtain ⟨ka, kb, ku, k2, k3, k4, k5, k6⟩ := hk i (by omega)
  have hcl := zcnt_le (zb (recvS (cupR r i) (dPR r sd))) 16
  refine zv_iload_n dL_poured_118 rfl ?_
  refine zv_istore dL_poured_119 (by decide) rfl ?_
  rcases id hD.1 with hd0 | hd0
  · rw [hd0, show bI (decide ((0 : Int32) = 1)) = 0 by decide]
    refine zv_iload dL_poured_121 rfl ?_
    refine zv_if_eq (tgt := 130) dL_poured_123 (by decide) (fun _ => ?_) (fun h => absurd (rfl) h)
    refine zv_iconst (v := 1) dL_poured_130 (by decide) ?_
    refine zv_istore dL_poured_131 (by decide) rfl ?_
    refine zv_iload dL_poured_133 rfl ?_
    refine zv_if_ne (tgt := 193) dL_poured_135 (by decide) (fun h => absurd (rfl) h) (fun _ => ?_)
    refine zv_iload dL_poured_138 rfl ?_
    refine zv_callS (m_L_size l D B _) ml_L_25 st_L_size rfl rfl (Nat.le_of_ble_eq_true rfl) dL_poured_140 ⟨Nat.le_of_ble_eq_true rfl, Nat.le_of_ble_eq_true rfl⟩ ⟨Nat.le_refl _, Nat.le_refl _⟩ (zk_i ?_)
    refine zv_iconst (v := 1) dL_poured_143 (by decide) ?_
    refine zv_icmp_ne (tgt := 193) dL_poured_144 (by decide) (fun c144 => ?_) (fun c144 => ?_)
    · have k144 : ¬ zcnt (zb (recvS (cupR r i) (dPR r sd))) 16 = 1 := fun hh => c144 (by rw [hh]; rfl)
      refine zv_iload dL_poured_193 rfl ?_
      refine zv_if_ne (tgt := 220) dL_poured_195 (by decide) (fun h => absurd (rfl) h) (fun _ => ?_)
      refine zv_iload dL_poured_198 rfl ?_
      refine zv_if_eq (tgt := 220) dL_poured_200 (by decide) (fun c200 => ?_) (fun c200 => ?_)
      · have k200 : zcnt (zb (recvS (cupR r i) (dPR r sd))) 16 = 0 := by rw [c200]; decide
        exact ep_po2 l D B hR hF rfl hQ ht hi hsd hp hxp (PO_D (g := G1 p) hJ hs hd0 k144 (Or.inl k200) k4 (by omega) hg).1 ((PO_D (g := G1 p) hJ hs hd0 k144 (Or.inl k200) k4 (by omega) hg).2) kfin
      · have k200 : ¬ zcnt (zb (recvS (cupR r i) (dPR r sd))) 16 = 0 := fun hh => c200 (zb_ext (fun j hj => by
          rw [zb_zero]
          rcases Nat.lt_or_ge j 16 with g1 | g1
          · exact zcnt_zero hh j g1
          · exact recvS_lim (f := cupR r i) hD j (by omega)))
        refine zv_iload dL_poured_203 rfl ?_
        refine zv_bipush (v := 24) dL_poured_205 (by decide) ?_
        refine zv_icmp_ge (tgt := 220) dL_poured_207 (by decide) (fun c207 => ?_) (fun c207 => ?_)
        · have k207 : m = 24 := by have := (nI_leI (a := 24) (by decide) (by omega)).mp c207; omega
          exact ep_po2 l D B hR hF rfl hQ ht hi hsd hp hxp (PO_D (g := G1 p) hJ hs hd0 k144 (Or.inr k207) k4 (by omega) hg).1 ((PO_D (g := G1 p) hJ hs hd0 k144 (Or.inr k207) k4 (by omega) hg).2) kfin
        · have k207 : m < 24 := by
            rcases Nat.lt_or_ge m 24 with g1 | g1
            · exact g1
            · exact absurd (nI_le (a := 24) g1 (by omega)) c207
          refine zv_aload dL_poured_210 rfl ?_
          refine zv_iload dL_poured_212 rfl ?_
          refine zv_iload dL_poured_214 rfl ?_
          refine zv_iast (q := p) (r := 0) (i := 0) hp rfl (zix_nI (show m < 25 by omega) (by decide)) dL_poured_216 ?_
          rw [Nat.zero_add]
          refine zv_iconst (v := 2) dL_poured_217 (by decide) ?_
          refine zv_istore dL_poured_218 (by decide) rfl ?_
          have hC := PO_C (g := upd (G1 p) m (recvS (cupR r i) (dPR r sd))) hJ hs hD hd0 k144 k200 k207 (fun k hk => by
            simp only [upd]
            by_cases ek : k = m
            · rw [if_pos ek, if_neg (by omega), if_pos ek]
            · rw [if_neg ek, if_neg ek, hg k hk])
          exact ep_po2 l D B (zRC_to hR hsl (fun b hb => hb) (fun y hy => zst_ne _ _ (by omega))) (fun y hy hn => (zst_ne _ _ hn).trans (hF y hy hn)) (zst_same _ _ _) hQ ht hi hsd hp hxp hC.1 hC.2 kfin
    · have k144 : zcnt (zb (recvS (cupR r i) (dPR r sd))) 16 = 1 := (nI_eq (b := 1) (by omega) (by decide)).mp c144
      refine zv_iconst (v := 0) dL_poured_147 (by decide) ?_
      refine zv_istore dL_poured_148 (by decide) rfl ?_
      obtain ⟨q1, q2, q3, q4⟩ := recv_one hJ hD k144
      refine lp_po2 l D B (s := recvS (cupR r i) (dPR r sd)) (ci := zlow (recvS (cupR r i) (dPR r sd))) (fun j hj => by
        conv => lhs; rw [q1]
        exact zb_bt (by omega) j) (by omega) ?_ 0 (Nat.zero_le _)
      refine zv_aload dL_poured_166 rfl ?_
      refine zv_iload_n dL_poured_168 rfl ?_
      refine zv_iload dL_poured_169 rfl ?_
      have hJ1 : zCJ n (chR r) (knowP (upd (cupR r i) 2 ((cupR r i) 2 + 1)) (zlow (recvS (cupR r i) (dPR r sd))) (recvV (cupR r i) (dPR r sd))) m := by
        rw [q4]
        exact zCJ_know (zCJ_congr hJ rfl rfl (fun j h1 h2 => by simp only [upd]; rw [if_neg (by omega)])) q2 q3
      have hR1 : Rl (G1 p) (knowP (upd (cupR r i) 2 ((cupR r i) 2 + 1)) (zlow (recvS (cupR r i) (dPR r sd))) (recvV (cupR r i) (dPR r sd))) m :=
        Rl_know (zCJ_congr (g := upd (cupR r i) 2 ((cupR r i) 2 + 1)) hJ rfl rfl (fun j h1 h2 => by simp only [upd]; rw [if_neg (by omega)])) (Rl_congr (Rl_kept hJ hs hg) rfl (fun j h1 h2 => by simp only [upd]; rw [if_neg (by omega)])) q2
      refine zv_callS (m_L_peeled l D B (k := zlow (recvS (cupR r i) (dPR r sd))) (a0 := cupR r i 0) hp hJ1 hR1 (knowP_at (f := upd (cupR r i) 2 ((cupR r i) 2 + 1)) (v := recvV (cupR r i) (dPR r sd)) (show zlow (recvS (cupR r i) (dPR r sd)) < 16 by omega)).1) ml_L_41 st_L_peeled rfl rfl (Nat.le_of_ble_eq_true rfl) dL_poured_171 ⟨Nat.le_of_ble_eq_true rfl, Nat.le_of_ble_eq_true rfl⟩ ⟨Nat.le_refl _, Nat.le_refl _⟩ (zk_p fun G2 hG2 => ?_)
      obtain ⟨g2, m3, rfl, hJ2, hR2⟩ := hG2
      refine zv_istore dL_poured_174 (by decide) rfl ?_
      refine zv_iconst (v := 2) dL_poured_176 (by decide) ?_
      refine zv_iload dL_poured_177 rfl ?_
      refine zv_callS (m_L_size l D B _) ml_L_25 st_L_size rfl rfl (Nat.le_of_ble_eq_true rfl) dL_poured_179 ⟨Nat.le_of_ble_eq_true rfl, Nat.le_of_ble_eq_true rfl⟩ ⟨Nat.le_refl _, Nat.le_refl _⟩ (zk_i ?_)
      refine zv_iadd dL_poured_182 ?_
      refine zv_iload_n dL_poured_183 rfl ?_
      refine zv_callS (m_L_size l D B _) ml_L_25 st_L_size rfl rfl (Nat.le_of_ble_eq_true rfl) dL_poured_184 ⟨Nat.le_of_ble_eq_true rfl, Nat.le_of_ble_eq_true rfl⟩ ⟨Nat.le_refl _, Nat.le_refl _⟩ (zk_i ?_)
      refine zv_isub dL_poured_187 ?_
      refine zv_istore dL_poured_188 (by decide) rfl ?_
      refine zv_goto (tgt := 220) dL_poured_190 (by decide) ?_
      have hB := PO_B hJ hs hD hd0 k144 hJ2 hR2
      rw [← hB.2]
      exact ep_po2 l D B (zRC_to hR hsl (fun b hb => hb) (fun y hy => zst_ne _ _ (by omega))) (fun y hy hn => (zst_ne _ _ hn).trans (hF y hy hn)) (zst_same _ _ _) hQ ht hi hsd hp hxp hB.1 rfl kfin
  · rw [hd0, show bI (decide ((1 : Int32) = 1)) = 1 by decide]
    refine zv_iload dL_poured_121 rfl ?_
    refine zv_if_eq (tgt := 130) dL_poured_123 (by decide) (fun h => absurd h (by decide)) (fun _ => ?_)
    refine zv_iconst (v := 0) dL_poured_126 (by decide) ?_
    refine zv_goto (tgt := 131) dL_poured_127 (by decide) ?_
    refine zv_istore dL_poured_131 (by decide) rfl ?_
    refine zv_iload dL_poured_133 rfl ?_
    refine zv_if_ne (tgt := 193) dL_poured_135 (by decide) (fun _ => ?_) (fun h => absurd h (by decide))
    refine zv_iload dL_poured_193 rfl ?_
    refine zv_if_ne (tgt := 220) dL_poured_195 (by decide) (fun _ => ?_) (fun h => absurd h (by decide))
    exact ep_po2 l D B hR hF rfl hQ ht hi hsd hp hxp (PO_A (g := G1 p) hJ hs hd0 hg).1 ((PO_A (g := G1 p) hJ hs hd0 hg).2) kfin

set_option maxRecDepth 100000 in
set_option maxHeartbeats 4000000 in
theorem m_L_poured (l : Launch) (D : zD) (B : Nat) {L : zL} {nx : Nat} {G : zG} {x t n cn c tn : Nat} {r bk : Nat → Int32} {h : Nat → (Nat → Int32)} {sl : Nat → Option (Nat → Int32)} {T : Nat → Nat} {i sd : Nat} (hR : zRC L x nx G r h c sl T tn) (hsl : ∀ j, j < 2 → sl j = none) (hQ : LQ t n cn bk r) (ht : t < 2 ^ 29) (hi : i < cn) (hsd : sd < 65536) (hB : B ≤ nx) (hx : x + 135 ≤ nx) : zMet l D B yL_poured cL_poured 19 (some .boolean) 6 140 1 25 [.ref x, .int (nI i), .int (nI sd)] L (nx) G ((fun v L' nx' G' => v = some (.int 1) ∧ L' = L ++ [(nx, 125)] ∧ nx' = nx + 1 ∧ ∃ r' h' c', zRC L' x nx' G' r' h' c' sl T tn ∧ (∀ y, x + 134 ≤ y → y < nx → G' y = G y) ∧ LQ (t + 1) n cn bk r')) := by
  refine zMet_of (own := RL) (mn := "poured") [some (.ref x), some (.int (nI i)), some (.int (nI sd)), none, none, none, none, none, none, none, none, none, none, none, none, none, none, none, none] (by decide +kernel) rfl rfl rfl (Nat.le_of_ble_eq_true rfl) ?_
  show zV l (fun _ => True) D B RL "poured" cL_poured 19 (some .boolean) (zrm 6 140 1 25) (fun v L' nx' G' k9 n9 => ((fun v L' nx' G' => v = some (.int 1) ∧ L' = L ++ [(nx, 125)] ∧ nx' = nx + 1 ∧ ∃ r' h' c', zRC L' x nx' G' r' h' c' sl T tn ∧ (∀ y, x + 134 ≤ y → y < nx → G' y = G y) ∧ LQ (t + 1) n cn bk r')) v L' nx' G' ∧ k9 ≤ 1 ∧ n9 ≤ 25) 0 0 L (nx) 0 [some (.ref x), some (.int (nI i)), some (.int (nI sd)), none, none, none, none, none, none, none, none, none, none, none, none, none, none, none, none] [] G
  have hS := LQ_SI hQ
  obtain ⟨w, ls, p, h0, hw, h1, hl, h2, hn0, hn, h3, hc0, hc, h4, hp, hI, hz, hbk, hk⟩ := id hQ
  have hF : ∀ y, x + 134 ≤ y → G y = G y := fun _ _ => rfl
  obtain ⟨m, hJ, hs⟩ := hI i (by omega)
  refine zv_aload_n dL_poured_0 rfl ?_
  refine zv_iload_n dL_poured_1 rfl ?_
  refine zv_iconst (v := 0) dL_poured_2 (by decide) ?_
  refine zv_callV (m_X6_ofCup l D B hR.1 hR.2.1 hS (nI i) 0) ml_L_28 in_X6_ofCup sel_X6_ofCup hR.1.1 rfl rfl rfl rfl (Nat.le_of_ble_eq_true rfl) dL_poured_3 ⟨Nat.le_of_ble_eq_true rfl, Nat.le_of_ble_eq_true rfl⟩ ⟨Nat.zero_le _, Nat.zero_le _⟩ (zk_p fun G1 hG1 => ?_)
  replace hF := frT hF hG1.2
  replace hR := (zRC_fr hR hG1.1 hG1.2).1
  clear hG1
  rw [qOf_at h3 hc hi, qOf_0]
  refine zv_istore_n dL_poured_6 (by decide) rfl ?_
  refine zv_aload_n dL_poured_7 rfl ?_
  refine zv_iload_n dL_poured_8 rfl ?_
  refine zv_iconst (v := 1) dL_poured_9 (by decide) ?_
  refine zv_callV (m_X6_ofCup l D B hR.1 hR.2.1 hS (nI i) 1) ml_L_28 in_X6_ofCup sel_X6_ofCup hR.1.1 rfl rfl rfl rfl (Nat.le_of_ble_eq_true rfl) dL_poured_10 ⟨Nat.le_of_ble_eq_true rfl, Nat.le_of_ble_eq_true rfl⟩ ⟨Nat.zero_le _, Nat.zero_le _⟩ (zk_p fun G1 hG1 => ?_)
  replace hF := frT hF hG1.2
  replace hR := (zRC_fr hR hG1.1 hG1.2).1
  clear hG1
  rw [qOf_at h3 hc hi, qOf_1, hJ.2.2.1]
  refine zv_istore dL_poured_13 (by decide) rfl ?_
  refine zv_aload_n dL_poured_15 rfl ?_
  refine zv_iload_n dL_poured_16 rfl ?_
  refine zv_iconst (v := 2) dL_poured_17 (by decide) ?_
  refine zv_callV (m_X6_ofCup l D B hR.1 hR.2.1 hS (nI i) 2) ml_L_28 in_X6_ofCup sel_X6_ofCup hR.1.1 rfl rfl rfl rfl (Nat.le_of_ble_eq_true rfl) dL_poured_18 ⟨Nat.le_of_ble_eq_true rfl, Nat.le_of_ble_eq_true rfl⟩ ⟨Nat.zero_le _, Nat.zero_le _⟩ (zk_p fun G1 hG1 => ?_)
  replace hF := frT hF hG1.2
  replace hR := (zRC_fr hR hG1.1 hG1.2).1
  clear hG1
  rw [qOf_at h3 hc hi, qOf_2]
  refine zv_istore dL_poured_21 (by decide) rfl ?_
  refine zv_aload_n dL_poured_23 rfl ?_
  refine zv_iload_n dL_poured_24 rfl ?_
  refine zv_iconst (v := 3) dL_poured_25 (by decide) ?_
  refine zv_callV (m_X6_ofCup l D B hR.1 hR.2.1 hS (nI i) 3) ml_L_28 in_X6_ofCup sel_X6_ofCup hR.1.1 rfl rfl rfl rfl (Nat.le_of_ble_eq_true rfl) dL_poured_26 ⟨Nat.le_of_ble_eq_true rfl, Nat.le_of_ble_eq_true rfl⟩ ⟨Nat.zero_le _, Nat.zero_le _⟩ (zk_p fun G1 hG1 => ?_)
  replace hF := frT hF hG1.2
  replace hR := (zRC_fr hR hG1.1 hG1.2).1
  clear hG1
  rw [qOf_at h3 hc hi, qOf_3]
  refine zv_istore dL_poured_29 (by decide) rfl ?_
  refine zv_aload_n dL_poured_31 rfl ?_
  refine zv_iload_n dL_poured_32 rfl ?_
  refine zv_iconst (v := 4) dL_poured_33 (by decide) ?_
  refine zv_callV (m_X6_ofCup l D B hR.1 hR.2.1 hS (nI i) 4) ml_L_28 in_X6_ofCup sel_X6_ofCup hR.1.1 rfl rfl rfl rfl (Nat.le_of_ble_eq_true rfl) dL_poured_34 ⟨Nat.le_of_ble_eq_true rfl, Nat.le_of_ble_eq_true rfl⟩ ⟨Nat.zero_le _, Nat.zero_le _⟩ (zk_p fun G1 hG1 => ?_)
  replace hF := frT hF hG1.2
  replace hR := (zRC_fr hR hG1.1 hG1.2).1
  clear hG1
  rw [qOf_at h3 hc hi, qOf_4]
  refine zv_istore dL_poured_37 (by decide) rfl ?_
  refine zv_aload_n dL_poured_39 rfl ?_
  refine zv_iconst (v := 3) dL_poured_40 (by decide) ?_
  refine zv_callV (m_X6_count l D B hR.1 hR.2.1 hS 3 _ _ rfl rfl) ml_L_10 in_X6_count sel_X6_count hR.1.1 rfl rfl rfl rfl (Nat.le_of_ble_eq_true rfl) dL_poured_41 ⟨Nat.le_of_ble_eq_true rfl, Nat.le_of_ble_eq_true rfl⟩ ⟨Nat.zero_le _, Nat.zero_le _⟩ (zk_p fun G1 hG1 => ?_)
  replace hF := frT hF hG1.2
  replace hR := (zRC_fr hR hG1.1 hG1.2).1
  clear hG1
  rw [qCo_3]
  refine zv_istore dL_poured_44 (by decide) rfl ?_
  refine zv_aload_n dL_poured_46 rfl ?_
  refine zv_iload_n dL_poured_47 rfl ?_
  refine zv_iload_n dL_poured_48 rfl ?_
  refine zv_callV (m_X6_would l D B hR.1 hR.2.1 hS (nI i) (nI sd)) ml_L_38 in_X6_would sel_X6_would hR.1.1 rfl rfl rfl rfl (Nat.le_of_ble_eq_true rfl) dL_poured_49 ⟨Nat.le_of_ble_eq_true rfl, Nat.le_of_ble_eq_true rfl⟩ ⟨Nat.zero_le _, Nat.zero_le _⟩ (zk_p fun G1 hG1 => ?_)
  replace hF := frT hF hG1.2
  replace hR := (zRC_fr hR hG1.1 hG1.2).1
  clear hG1
  rw [show qWould r (nI i) (nI sd) = wouldV (cupR r i) (dPR r sd) from qWould_at h2 hn0 hn h3 hc hi hsd]
  refine zv_istore dL_poured_52 (by decide) rfl ?_
  refine zv_aload_n dL_poured_54 rfl ?_
  refine zv_iload_n dL_poured_55 rfl ?_
  refine zv_iconst (v := 3) dL_poured_56 (by decide) ?_
  refine zv_callV (m_X6_droplet l D B hR.1 hR.2.1 hS (nI sd) 3) ml_L_21 in_X6_droplet sel_X6_droplet hR.1.1 rfl rfl rfl rfl (Nat.le_of_ble_eq_true rfl) dL_poured_57 ⟨Nat.le_of_ble_eq_true rfl, Nat.le_of_ble_eq_true rfl⟩ ⟨Nat.zero_le _, Nat.zero_le _⟩ (zk_p fun G1 hG1 => ?_)
  replace hF := frT hF hG1.2
  replace hR := (zRC_fr hR hG1.1 hG1.2).1
  clear hG1
  rw [show qDrop r (nI sd) 3 = dPR r sd 0 from qDr_at (w := 3) h2 hn0 hn hsd (by decide)]
  refine zv_iconst (v := 1) dL_poured_60 (by decide) ?_
  refine zv_join (st := []) 69 (bI (decide (dPR r sd 0 = 1))) (fun G' => zRC L x nx G' r h c sl T tn ∧ ∀ y, x + 134 ≤ y → G' y = G y) (fun kk => ?_) ?_
  · refine zv_icmp_ne (tgt := 68) dL_poured_61 (by decide) (fun c61 => ?_) (fun c61 => ?_)
    · refine zv_iconst (v := 0) dL_poured_68 (by decide) ?_
      rw [decide_eq_false c61] at kk
      exact kk _ ⟨hR, hF⟩
    · refine zv_iconst (v := 1) dL_poured_64 (by decide) ?_
      refine zv_goto (tgt := 69) dL_poured_65 (by decide) ?_
      rw [decide_eq_true c61] at kk
      exact kk _ ⟨hR, hF⟩
  rintro G1 ⟨hR, hF⟩
  refine zv_istore dL_poured_69 (by decide) rfl ?_
  refine zv_aload_n dL_poured_71 rfl ?_
  refine zv_iload_n dL_poured_72 rfl ?_
  refine zv_iconst (v := 1) dL_poured_73 (by decide) ?_
  refine zv_callV (m_X6_droplet l D B hR.1 hR.2.1 hS (nI sd) 1) ml_L_21 in_X6_droplet sel_X6_droplet hR.1.1 rfl rfl rfl rfl (Nat.le_of_ble_eq_true rfl) dL_poured_74 ⟨Nat.le_of_ble_eq_true rfl, Nat.le_of_ble_eq_true rfl⟩ ⟨Nat.zero_le _, Nat.zero_le _⟩ (zk_p fun G1 hG1 => ?_)
  replace hF := frT hF hG1.2
  replace hR := (zRC_fr hR hG1.1 hG1.2).1
  clear hG1
  rw [show qDrop r (nI sd) 1 = dPR r sd 2 from qDr_at (w := 1) h2 hn0 hn hsd (by decide)]
  refine zv_iload_n dL_poured_77 rfl ?_
  refine zv_iconst (v := (-1)) dL_poured_78 (by decide) ?_
  refine zv_ixor dL_poured_79 ?_
  refine zv_iand dL_poured_80 ?_
  rw [show dPR r sd 2 &&& (cupR r i 0 ^^^ -1) = recvS (cupR r i) (dPR r sd) from rfl]
  refine zv_istore dL_poured_81 (by decide) rfl ?_
  refine zv_bipush (v := 25) dL_poured_83 (by decide) ?_
  refine zv_newarray (N := 25) (t := 125) (ta := 0) (by omega) rfl (by decide) zac_int (by decide) (by decide) (by decide) rfl (Nat.le_of_ble_eq_true rfl) (Nat.le_of_ble_eq_true rfl) dL_poured_85 ?_
  refine zv_astore dL_poured_87 (by decide) rfl ?_
  refine zv_iconst (v := 0) dL_poured_89 (by decide) ?_
  refine zv_istore dL_poured_90 (by decide) rfl ?_
  have hpm : (nx, 125) ∈ L ++ [(nx, 125)] := by simp
  refine lp_po1 l D B (n := n) (bk := bk) (g := bk) (p := nx) (L := L ++ [(nx, 125)]) (nx := nx + 1) (G := G) (h := h) (c := c) (sl := sl) (T := T) (tn := tn) (l13 := none) hS h3 hc hi hsl hJ.2.2.1 hJ.2.1 hpm hx (fun G1 hR hF hg => ?_) 0 (Nat.zero_le _) _ (zRC_to hR hsl (fun b hb => List.mem_append_left _ hb) (fun y hy => zst_ne _ _ (by omega))) (fun y hy hn => (zst_ne _ _ hn).trans (hF y hy)) (fun k hk => by rw [zst_same, if_neg (by omega)])
  refine ep_po1 l D B (g := bk) (p := nx) (L := L ++ [(nx, 125)]) (nx := nx + 1) (G := G) hR hF hg hsl hQ ht hi hsd hpm hx hJ hs (fun G1 r' h' c' hR hF hQ2 => ?_)
  exact ⟨rfl, rfl, rfl, r', h', c', hR, fun y a b => hF y a (by omega), hQ2⟩
