def zPL : zP := fun v _ _ _ k n => v = some (.int 1) ∧ k ≤ 600000 ∧ n ≤ 7302250

set_option maxRecDepth 100000 in
set_option maxHeartbeats 4000000 in
theorem lp_ch (l : Launch) (D : zD) (B : Nat) {mn : String} {L : zL} {nx : Nat} {b S : Nat} {xs : Nat → Int32} {x tn : Nat} {sl : Nat → Option (Nat → Int32)} {T : Nat → Nat} {n : Nat} (hS : S ≤ 260) (hsl : ∀ j, j < 2 → sl j = none) (hq : (x + 134, 116) ∈ L) (hn : n ≤ 16) (kk : ∀ (G1 : zG) (r : Nat → Int32) (h : Nat → (Nat → Int32)) (cc : Nat), zRC L x nx G1 r h cc sl T tn → LC n 0 (G1 (x + 134)) r → zV l (lX B b S xs) D B RL mn cL_law 8 (some .boolean) room_1 zPL (200) (5000) L nx 73 [some (.ref b), some (.ref x), some (.ref (x + 134)), some (.int (nI n)), some (.int (nI n)), none, none, none] [] G1) : ∀ c : Nat, c ≤ n → ∀ (G1 : zG) (r : Nat → Int32) (h : Nat → (Nat → Int32)) (cc : Nat), zRC L x nx G1 r h cc sl T tn → LC c 0 (G1 (x + 134)) r → zV l (lX B b S xs) D B RL mn cL_law 8 (some .boolean) room_1 zPL (200) (5000) L nx 29 [some (.ref b), some (.ref x), some (.ref (x + 134)), some (.int (nI n)), some (.int (nI c)), none, none, none] [] G1 := by
  refine zloop n (fun c hc ih G1 r h cc hR hL => ?_)
  refine zv_iload dL_law_29 rfl ?_
  refine zv_iload_n dL_law_31 rfl ?_
  refine zv_icmp_ge (tgt := 73) dL_law_32 (by decide) (fun c32 => ?_) (fun c32 => ?_)
  · have e : c = n := by have := zge_of (N := n) (by omega) (by omega) rfl c32; omega
    subst e
    exact kk _ _ _ _ hR hL
  · have hlt : c < n := zlt_of (N := n) (by omega) (by omega) rfl c32
    refine zv_aload_n dL_law_35 rfl ?_
    refine zv_iload dL_law_36 rfl ?_
    refine zv_aload_n dL_law_38 rfl ?_
    refine zv_iconst (v := 1) dL_law_39 (by decide) ?_
    refine zv_iload dL_law_40 rfl ?_
    refine zv_iadd dL_law_42 ?_
    rw [show (1 : Int32) + nI c = nI (1 + c) from nI_add 1 c]
    refine zv_callSS (m_L_cell l D B (j := 1 + c) (by omega) (by omega)) ml_L_66 st_L_cell rfl rfl (Nat.le_of_ble_eq_true rfl) dL_law_43 ⟨Nat.le_of_ble_eq_true rfl, Nat.le_of_ble_eq_true rfl⟩ ⟨(show _ ≤ 600000 by omega), (show _ ≤ 7302250 by omega)⟩ (zk_x fun z9 _ => ?_)
    refine zv_ldc dL_law_46 kc_L_60 ?_
    refine zv_callS (m_L_low l D B _ (d := 65536) (by omega) (by omega)) ml_L_48 st_L_low rfl rfl (Nat.le_of_ble_eq_true rfl) dL_law_48 ⟨Nat.le_of_ble_eq_true rfl, Nat.le_of_ble_eq_true rfl⟩ ⟨(show _ ≤ 600000 by omega), (show _ ≤ 7302250 by omega)⟩ (zk_x fun z9 hz9 => ?_)
    obtain ⟨v, hv, rfl⟩ := hz9
    refine zv_iast (q := x + 134) (r := 0) (i := 0) hq rfl (zix_nI (show c < 16 by omega) (by decide)) dL_law_51 ?_
    rw [Nat.zero_add]
    replace hR := zRC_to (nx' := nx) (G' := zst G1 (x + 134) (upd (G1 (x + 134)) c (nI v))) hR hsl (fun b hb => hb) (fun y hy => zst_ne _ _ (by omega))
    have hS9 := LC_SI hL (by omega) (by omega)
    refine zv_aload_n dL_law_52 rfl ?_
    refine zv_aload_n dL_law_53 rfl ?_
    refine zv_iload dL_law_54 rfl ?_
    refine zv_iald (q := x + 134) (r := 0) (i := 0) hq rfl (zix_nI (show c < 16 by omega) (by decide)) dL_law_56 ?_
    rw [Nat.zero_add, zst_same, show upd (G1 (x + 134)) c (nI v) c = nI v from if_pos rfl]
    refine zv_callV (m_X6_chapter l D B hR hS9 (nI v)) ml_L_70 in_X6_chapter sel_X6_chapter hR.1.1 rfl rfl rfl rfl (Nat.le_of_ble_eq_true rfl) dL_law_57 ⟨Nat.le_of_ble_eq_true rfl, Nat.le_of_ble_eq_true rfl⟩ ⟨(show _ ≤ 600000 by omega), (show _ ≤ 7302250 by omega)⟩ (zk_p fun G1 hG1 => ?_)
    rw [opChapter_at hL (show c < 16 by omega) hv] at hG1 ⊢
    rw [chg_pos (o := (nI c, upd (upd r (5 + c) (nI v)) 2 (nI c + 1))) (show ¬ nI c < 0 from nI_pos (by omega))] at hG1
    dsimp only at hG1 ⊢
    obtain ⟨hR, hFp⟩ := hG1
    refine zv_iload dL_law_60 rfl ?_
    refine zv_icmp_eq (tgt := 67) dL_law_62 (by decide) (fun _ => ?_) (fun h => absurd (rfl) h)
    refine zv_iinc1 dL_law_67 rfl (by decide) rfl ?_
    refine zv_goto (tgt := 29) dL_law_70 (by decide) ?_
    rw [nI_1]
    refine ih hlt _ _ _ _ hR ?_
    rw [hFp _ (Nat.le_refl _), zst_same]
    exact LC_chapter hL (by omega)

set_option maxRecDepth 100000 in
set_option maxHeartbeats 4000000 in
theorem lp_cu (l : Launch) (D : zD) (B : Nat) {mn : String} {L : zL} {nx : Nat} {b S : Nat} {xs : Nat → Int32} {x tn : Nat} {sl : Nat → Option (Nat → Int32)} {T : Nat → Nat} {n cn : Nat} {bk : Nat → Int32} (hS : S ≤ 260) (hsl : ∀ j, j < 2 → sl j = none) (hq : (x + 134, 116) ∈ L) (hn : n ≤ 16) (hcn : cn ≤ 3) (kk : ∀ (G1 : zG) (r : Nat → Int32) (h : Nat → (Nat → Int32)) (cc : Nat), zRC L x nx G1 r h cc sl T tn → G1 (x + 134) = bk → LC n cn bk r → zV l (lX B b S xs) D B RL mn cL_law 8 (some .boolean) room_1 zPL (200) (5000) L nx 124 [some (.ref b), some (.ref x), some (.ref (x + 134)), some (.int (nI n)), some (.int (nI cn)), some (.int (nI cn)), none, none] [] G1) : ∀ k : Nat, k ≤ cn → ∀ (G1 : zG) (r : Nat → Int32) (h : Nat → (Nat → Int32)) (cc : Nat), zRC L x nx G1 r h cc sl T tn → G1 (x + 134) = bk → LC n k bk r → zV l (lX B b S xs) D B RL mn cL_law 8 (some .boolean) room_1 zPL (200) (5000) L nx 90 [some (.ref b), some (.ref x), some (.ref (x + 134)), some (.int (nI n)), some (.int (nI cn)), some (.int (nI k)), none, none] [] G1 := by
  refine zloop cn (fun k hk ih G1 r h cc hR hg hL => ?_)
  refine zv_iload dL_law_90 rfl ?_
  refine zv_iload dL_law_92 rfl ?_
  refine zv_icmp_ge (tgt := 124) dL_law_94 (by decide) (fun c94 => ?_) (fun c94 => ?_)
  · have e : k = cn := by have := zge_of (N := cn) (by omega) (by omega) rfl c94; omega
    subst e
    exact kk _ _ _ _ hR hg hL
  · have hlt : k < cn := zlt_of (N := cn) (by omega) (by omega) rfl c94
    have hS9 := LC_SI hL hn (by omega)
    have hL2 := LC_cup hL
    have hS8 := LC_SI hL2 hn (by omega)
    refine zv_aload_n dL_law_97 rfl ?_
    refine zv_callV (m_X6_cup l D B hR hS9) ml_L_73 in_X6_cup sel_X6_cup hR.1.1 rfl rfl rfl rfl (Nat.le_of_ble_eq_true rfl) dL_law_98 ⟨Nat.le_of_ble_eq_true rfl, Nat.le_of_ble_eq_true rfl⟩ ⟨(show _ ≤ 600000 by omega), (show _ ≤ 7302250 by omega)⟩ (zk_p fun G1 hG1 => ?_)
    rw [opCup_at hL (show k < 3 by omega)] at hG1 ⊢
    rw [chg_pos (o := (nI k, upd r 3 (nI k + 1))) (show ¬ nI k < 0 from nI_pos (by omega))] at hG1
    dsimp only at hG1 ⊢
    obtain ⟨hR, hFp⟩ := hG1
    replace hg := (hFp _ (Nat.le_refl _)).trans hg
    refine zv_iload dL_law_101 rfl ?_
    refine zv_icmp_ne (tgt := 116) dL_law_103 (by decide) (fun h => absurd (rfl) h) (fun _ => ?_)
    refine zv_aload_n dL_law_106 rfl ?_
    refine zv_iconst (v := 1) dL_law_107 (by decide) ?_
    refine zv_callV (m_X6_chapter l D B hR hS8 1) ml_L_70 in_X6_chapter sel_X6_chapter hR.1.1 rfl rfl rfl rfl (Nat.le_of_ble_eq_true rfl) dL_law_108 ⟨Nat.le_of_ble_eq_true rfl, Nat.le_of_ble_eq_true rfl⟩ ⟨(show _ ≤ 600000 by omega), (show _ ≤ 7302250 by omega)⟩ (zk_p fun G1 hG1 => ?_)
    rw [opChapter_late hL2 (by omega) (by omega)] at hG1 ⊢
    rw [chg_neg (o := ((-5 : Int32), upd r 3 (nI k + 1))) (show (-5 : Int32) < 0 by decide)] at hG1
    dsimp only at hG1 ⊢
    obtain ⟨hR, hFp⟩ := hG1
    replace hg := (hFp _ (Nat.le_refl _)).trans hg
    refine zv_bipush (v := (-5)) dL_law_111 (by decide) ?_
    refine zv_icmp_eq (tgt := 118) dL_law_113 (by decide) (fun _ => ?_) (fun h => absurd (rfl) h)
    refine zv_iinc1 dL_law_118 rfl (by decide) rfl ?_
    refine zv_goto (tgt := 90) dL_law_121 (by decide) ?_
    rw [nI_1]
    exact ih hlt _ _ _ _ hR hg hL2

set_option maxRecDepth 100000 in
set_option maxHeartbeats 4000000 in
theorem ep_law (l : Launch) (D : zD) (B : Nat) {mn : String} {L : zL} {nx : Nat} {b S : Nat} {xs : Nat → Int32} {x tn : Nat} {sl : Nat → Option (Nat → Int32)} {T : Nat → Nat} {n cn cc K N t : Nat} {r bk : Nat → Int32} {h : Nat → (Nat → Int32)} {G1 : zG} {l4 l5 l6 l7 : Option Value} (hR : zRC L x nx G1 r h cc sl T tn) (hQ : LQ t n cn bk r) (hK : K ≤ 600000) (hN : N ≤ 7302250) : zV l (lX B b S xs) D B RL mn cL_law 8 (some .boolean) room_1 zPL (K) (N) L nx 213 [some (.ref b), some (.ref x), some (.ref (x + 134)), some (.int (nI n)), l4, l5, l6, l7] [] G1 := by
  have hS := LQ_SI hQ
  obtain ⟨w, ls, p, h0, hw, h1, hl, h2, hn0, hn, h3, hc0, hc, h4, hp, hI, hz, hbk, hk⟩ := id hQ
  refine zv_aload_n dL_law_213 rfl ?_
  refine zv_iconst (v := 3) dL_law_214 (by decide) ?_
  refine zv_iconst (v := 0) dL_law_215 (by decide) ?_
  refine zv_iconst (v := 1) dL_law_216 (by decide) ?_
  refine zv_callV (m_X6_pour l D B hR hS 3 0 1) ml_L_45 in_X6_pour sel_X6_pour hR.1.1 rfl rfl rfl rfl (Nat.le_of_ble_eq_true rfl) dL_law_217 ⟨Nat.le_of_ble_eq_true rfl, Nat.le_of_ble_eq_true rfl⟩ ⟨(show _ ≤ 600000 by omega), (show _ ≤ 7302250 by omega)⟩ (zk_p fun G1 hG1 => ?_)
  rw [opPour_n1 h3 hc] at hG1 ⊢
  rw [chg_neg (o := ((-1 : Int32), r)) (show (-1 : Int32) < 0 by decide)] at hG1
  dsimp only at hG1 ⊢
  obtain ⟨hR, hFp⟩ := hG1
  refine zv_iconst (v := (-1)) dL_law_220 (by decide) ?_
  refine zv_icmp_ne (tgt := 345) dL_law_221 (by decide) (fun h => absurd (rfl) h) (fun _ => ?_)
  refine zv_aload_n dL_law_224 rfl ?_
  refine zv_iconst (v := 0) dL_law_225 (by decide) ?_
  refine zv_ldc dL_law_226 kc_L_60 ?_
  refine zv_iconst (v := 1) dL_law_228 (by decide) ?_
  refine zv_callV (m_X6_pour l D B hR hS 0 65536 1) ml_L_45 in_X6_pour sel_X6_pour hR.1.1 rfl rfl rfl rfl (Nat.le_of_ble_eq_true rfl) dL_law_229 ⟨Nat.le_of_ble_eq_true rfl, Nat.le_of_ble_eq_true rfl⟩ ⟨(show _ ≤ 600000 by omega), (show _ ≤ 7302250 by omega)⟩ (zk_p fun G1 hG1 => ?_)
  rw [opPour_n2 h3 hc0 hc] at hG1 ⊢
  rw [chg_neg (o := ((-2 : Int32), r)) (show (-2 : Int32) < 0 by decide)] at hG1
  dsimp only at hG1 ⊢
  obtain ⟨hR, hFp⟩ := hG1
  refine zv_bipush (v := (-2)) dL_law_232 (by decide) ?_
  refine zv_icmp_ne (tgt := 345) dL_law_234 (by decide) (fun h => absurd (rfl) h) (fun _ => ?_)
  refine zv_aload_n dL_law_237 rfl ?_
  refine zv_iconst (v := 0) dL_law_238 (by decide) ?_
  refine zv_iconst (v := 0) dL_law_239 (by decide) ?_
  refine zv_bipush (v := 100) dL_law_240 (by decide) ?_
  refine zv_callV (m_X6_pour l D B hR hS 0 0 100) ml_L_45 in_X6_pour sel_X6_pour hR.1.1 rfl rfl rfl rfl (Nat.le_of_ble_eq_true rfl) dL_law_242 ⟨Nat.le_of_ble_eq_true rfl, Nat.le_of_ble_eq_true rfl⟩ ⟨(show _ ≤ 600000 by omega), (show _ ≤ 7302250 by omega)⟩ (zk_p fun G1 hG1 => ?_)
  rw [opPour_n3 h3 hc0 hc] at hG1 ⊢
  rw [chg_neg (o := ((-2 : Int32), r)) (show (-2 : Int32) < 0 by decide)] at hG1
  dsimp only at hG1 ⊢
  obtain ⟨hR, hFp⟩ := hG1
  refine zv_bipush (v := (-2)) dL_law_245 (by decide) ?_
  refine zv_icmp_ne (tgt := 345) dL_law_247 (by decide) (fun h => absurd (rfl) h) (fun _ => ?_)
  refine zv_aload_n dL_law_250 rfl ?_
  refine zv_iconst (v := 0) dL_law_251 (by decide) ?_
  refine zv_iload_n dL_law_252 rfl ?_
  refine zv_callV (m_X6_known l D B hR.1 hR.2.1 hS 0 (nI n)) ml_L_31 in_X6_known sel_X6_known hR.1.1 rfl rfl rfl rfl (Nat.le_of_ble_eq_true rfl) dL_law_253 ⟨Nat.le_of_ble_eq_true rfl, Nat.le_of_ble_eq_true rfl⟩ ⟨(show _ ≤ 600000 by omega), (show _ ≤ 7302250 by omega)⟩ (zk_p fun G1 hG1 => ?_)
  replace hR := (zRC_fr hR hG1.1 hG1.2).1
  clear hG1
  rw [show qKnown r 0 (nI n) = -1 from qKn_no (i := 0) h2 hn h3 hc hc0]
  refine zv_iconst (v := (-1)) dL_law_256 (by decide) ?_
  refine zv_icmp_ne (tgt := 345) dL_law_257 (by decide) (fun h => absurd (rfl) h) (fun _ => ?_)
  refine zv_aload_n dL_law_260 rfl ?_
  refine zv_iconst (v := (-1)) dL_law_261 (by decide) ?_
  refine zv_iconst (v := 0) dL_law_262 (by decide) ?_
  refine zv_callV (m_X6_droplet l D B hR.1 hR.2.1 hS (-1) 0) ml_L_21 in_X6_droplet sel_X6_droplet hR.1.1 rfl rfl rfl rfl (Nat.le_of_ble_eq_true rfl) dL_law_263 ⟨Nat.le_of_ble_eq_true rfl, Nat.le_of_ble_eq_true rfl⟩ ⟨(show _ ≤ 600000 by omega), (show _ ≤ 7302250 by omega)⟩ (zk_p fun G1 hG1 => ?_)
  replace hR := (zRC_fr hR hG1.1 hG1.2).1
  clear hG1
  rw [qDrop_n1]
  refine zv_bipush (v := (-2)) dL_law_266 (by decide) ?_
  refine zv_icmp_ne (tgt := 345) dL_law_268 (by decide) (fun h => absurd (rfl) h) (fun _ => ?_)
  refine zv_aload_n dL_law_271 rfl ?_
  refine zv_iconst (v := 0) dL_law_272 (by decide) ?_
  refine zv_iconst (v := 4) dL_law_273 (by decide) ?_
  refine zv_callV (m_X6_droplet l D B hR.1 hR.2.1 hS 0 4) ml_L_21 in_X6_droplet sel_X6_droplet hR.1.1 rfl rfl rfl rfl (Nat.le_of_ble_eq_true rfl) dL_law_274 ⟨Nat.le_of_ble_eq_true rfl, Nat.le_of_ble_eq_true rfl⟩ ⟨(show _ ≤ 600000 by omega), (show _ ≤ 7302250 by omega)⟩ (zk_p fun G1 hG1 => ?_)
  replace hR := (zRC_fr hR hG1.1 hG1.2).1
  clear hG1
  rw [qDrop_n2]
  refine zv_bipush (v := (-2)) dL_law_277 (by decide) ?_
  refine zv_icmp_ne (tgt := 345) dL_law_279 (by decide) (fun h => absurd (rfl) h) (fun _ => ?_)
  refine zv_aload_n dL_law_282 rfl ?_
  refine zv_iconst (v := 0) dL_law_283 (by decide) ?_
  refine zv_bipush (v := 7) dL_law_284 (by decide) ?_
  refine zv_callV (m_X6_ofCup l D B hR.1 hR.2.1 hS 0 7) ml_L_28 in_X6_ofCup sel_X6_ofCup hR.1.1 rfl rfl rfl rfl (Nat.le_of_ble_eq_true rfl) dL_law_286 ⟨Nat.le_of_ble_eq_true rfl, Nat.le_of_ble_eq_true rfl⟩ ⟨(show _ ≤ 600000 by omega), (show _ ≤ 7302250 by omega)⟩ (zk_p fun G1 hG1 => ?_)
  replace hR := (zRC_fr hR hG1.1 hG1.2).1
  clear hG1
  rw [show qOfCup r 0 7 = -2 from (qOf_at (i := 0) h3 hc hc0 7).trans qOf_7]
  refine zv_bipush (v := (-2)) dL_law_289 (by decide) ?_
  refine zv_icmp_ne (tgt := 345) dL_law_291 (by decide) (fun h => absurd (rfl) h) (fun _ => ?_)
  refine zv_aload_n dL_law_294 rfl ?_
  refine zv_iconst (v := 0) dL_law_295 (by decide) ?_
  refine zv_iconst (v := 3) dL_law_296 (by decide) ?_
  refine zv_callV (m_X6_set l D B hR hS 0 3) ml_L_51 in_X6_set sel_X6_set hR.1.1 rfl rfl rfl rfl (Nat.le_of_ble_eq_true rfl) dL_law_297 ⟨Nat.le_of_ble_eq_true rfl, Nat.le_of_ble_eq_true rfl⟩ ⟨(show _ ≤ 600000 by omega), (show _ ≤ 7302250 by omega)⟩ (zk_p fun G1 hG1 => ?_)
  rw [opSet_n1] at hG1 ⊢
  rw [chg_neg (o := ((-2 : Int32), r)) (show (-2 : Int32) < 0 by decide)] at hG1
  dsimp only at hG1 ⊢
  obtain ⟨hR, hFp⟩ := hG1
  refine zv_bipush (v := (-2)) dL_law_300 (by decide) ?_
  refine zv_icmp_ne (tgt := 345) dL_law_302 (by decide) (fun h => absurd (rfl) h) (fun _ => ?_)
  refine zv_aload_n dL_law_305 rfl ?_
  refine zv_iconst (v := 1) dL_law_306 (by decide) ?_
  refine zv_bipush (v := 100) dL_law_307 (by decide) ?_
  refine zv_callV (m_X6_set l D B hR hS 1 100) ml_L_51 in_X6_set sel_X6_set hR.1.1 rfl rfl rfl rfl (Nat.le_of_ble_eq_true rfl) dL_law_309 ⟨Nat.le_of_ble_eq_true rfl, Nat.le_of_ble_eq_true rfl⟩ ⟨(show _ ≤ 600000 by omega), (show _ ≤ 7302250 by omega)⟩ (zk_p fun G1 hG1 => ?_)
  rw [opSet_n2] at hG1 ⊢
  rw [chg_neg (o := ((-2 : Int32), r)) (show (-2 : Int32) < 0 by decide)] at hG1
  dsimp only at hG1 ⊢
  obtain ⟨hR, hFp⟩ := hG1
  refine zv_bipush (v := (-2)) dL_law_312 (by decide) ?_
  refine zv_icmp_ne (tgt := 345) dL_law_314 (by decide) (fun h => absurd (rfl) h) (fun _ => ?_)
  refine zv_aload_n dL_law_317 rfl ?_
  refine zv_bipush (v := 8) dL_law_318 (by decide) ?_
  refine zv_callV (m_X6_count l D B hR.1 hR.2.1 hS 8 _ _ rfl rfl) ml_L_10 in_X6_count sel_X6_count hR.1.1 rfl rfl rfl rfl (Nat.le_of_ble_eq_true rfl) dL_law_320 ⟨Nat.le_of_ble_eq_true rfl, Nat.le_of_ble_eq_true rfl⟩ ⟨(show _ ≤ 600000 by omega), (show _ ≤ 7302250 by omega)⟩ (zk_p fun G1 hG1 => ?_)
  replace hR := (zRC_fr hR hG1.1 hG1.2).1
  clear hG1
  rw [qCo_8]
  refine zv_bipush (v := (-2)) dL_law_323 (by decide) ?_
  refine zv_icmp_ne (tgt := 345) dL_law_325 (by decide) (fun h => absurd (rfl) h) (fun _ => ?_)
  refine zv_aload_n dL_law_328 rfl ?_
  refine zv_iconst (v := 0) dL_law_329 (by decide) ?_
  refine zv_iconst (v := 1) dL_law_330 (by decide) ?_
  refine zv_bipush (v := 17) dL_law_331 (by decide) ?_
  refine zv_callV (m_X6_degrees l D B hR.1 hR.2.1 hS 0 1 17) ml_L_86 in_X6_degrees sel_X6_degrees hR.1.1 rfl rfl rfl rfl (Nat.le_of_ble_eq_true rfl) dL_law_333 ⟨Nat.le_of_ble_eq_true rfl, Nat.le_of_ble_eq_true rfl⟩ ⟨(show _ ≤ 600000 by omega), (show _ ≤ 7302250 by omega)⟩ (zk_p fun G1 hG1 => ?_)
  replace hR := (zRC_fr hR hG1.1 hG1.2).1
  clear hG1
  rw [qDeg_n]
  refine zv_bipush (v := (-2)) dL_law_336 (by decide) ?_
  refine zv_icmp_ne (tgt := 345) dL_law_338 (by decide) (fun h => absurd (rfl) h) (fun _ => ?_)
  refine zv_iconst (v := 1) dL_law_341 (by decide) ?_
  refine zv_goto (tgt := 346) dL_law_342 (by decide) ?_
  exact zv_iret dL_law_346 rfl rfl ⟨rfl, (show _ ≤ 600000 by omega), (show _ ≤ 7302250 by omega)⟩

set_option maxRecDepth 100000 in
set_option maxHeartbeats 4000000 in
theorem lp_act (l : Launch) (D : zD) (B : Nat) {mn : String} {b S : Nat} {xs : Nat → Int32} {x tn : Nat} {sl : Nat → Option (Nat → Int32)} {T : Nat → Nat} {n cn : Nat} {bk : Nat → Int32} (hS : S ≤ 260) (hsl : ∀ j, j < 2 → sl j = none) (hB : B ≤ x) : ∀ t : Nat, t ≤ 50 → ∀ (L : zL) (nx : Nat) (G1 : zG) (r : Nat → Int32) (h : Nat → (Nat → Int32)) (cc : Nat) (l6 l7 : Option Value), (x + 134, 116) ∈ L → x + 135 ≤ nx → zRC L x nx G1 r h cc sl T tn → G1 (x + 134) = bk → LQ t n cn bk r → zV l (lX B b S xs) D B RL mn cL_law 8 (some .boolean) room_1 zPL (200 + t) (5000 + 25 * t) L nx 127 [some (.ref b), some (.ref x), some (.ref (x + 134)), some (.int (nI n)), some (.int (nI cn)), some (.int (nI t)), l6, l7] [] G1 := by
  refine zloop 50 (fun t ht ih L nx G1 r h cc l6 l7 hq hx hR hg hQ => ?_)
  refine zv_iload dL_law_127 rfl ?_
  refine zv_bipush (v := 50) dL_law_129 (by decide) ?_
  refine zv_icmp_ge (tgt := 213) dL_law_131 (by decide) (fun c131 => ?_) (fun c131 => ?_)
  · exact ep_law l D B hR hQ (by omega) (by omega)
  · have hlt : t < 50 := zlt_of (N := 50) (by decide) (by omega) rfl c131
    refine zv_aload_n dL_law_134 rfl ?_
    refine zv_bipush (v := 20) dL_law_135 (by decide) ?_
    refine zv_iconst (v := 2) dL_law_137 (by decide) ?_
    refine zv_iload dL_law_138 rfl ?_
    refine zv_imul dL_law_140 ?_
    refine zv_iadd dL_law_141 ?_
    rw [show (2 : Int32) * nI t = nI (2 * t) from pk_mul 2 t, show (20 : Int32) + nI (2 * t) = nI (20 + 2 * t) from nI_add 20 _]
    refine zv_callSS (m_L_cell l D B (j := 20 + 2 * t) (by omega) (by omega)) ml_L_66 st_L_cell rfl rfl (Nat.le_of_ble_eq_true rfl) dL_law_142 ⟨Nat.le_of_ble_eq_true rfl, Nat.le_of_ble_eq_true rfl⟩ ⟨(show _ ≤ 600000 by omega), (show _ ≤ 7302250 by omega)⟩ (zk_x fun z9 _ => ?_)
    refine zv_istore dL_law_145 (by decide) rfl ?_
    refine zv_aload_n dL_law_147 rfl ?_
    refine zv_bipush (v := 21) dL_law_148 (by decide) ?_
    refine zv_iconst (v := 2) dL_law_150 (by decide) ?_
    refine zv_iload dL_law_151 rfl ?_
    refine zv_imul dL_law_153 ?_
    refine zv_iadd dL_law_154 ?_
    rw [show (2 : Int32) * nI t = nI (2 * t) from pk_mul 2 t, show (21 : Int32) + nI (2 * t) = nI (21 + 2 * t) from nI_add 21 _]
    refine zv_callSS (m_L_cell l D B (j := 21 + 2 * t) (by omega) (by omega)) ml_L_66 st_L_cell rfl rfl (Nat.le_of_ble_eq_true rfl) dL_law_155 ⟨Nat.le_of_ble_eq_true rfl, Nat.le_of_ble_eq_true rfl⟩ ⟨(show _ ≤ 600000 by omega), (show _ ≤ 7302250 by omega)⟩ (zk_x fun z9 _ => ?_)
    refine zv_istore dL_law_158 (by decide) rfl ?_
    refine zv_aload_n dL_law_160 rfl ?_
    refine zv_iload dL_law_161 rfl ?_
    refine zv_iload dL_law_163 rfl ?_
    refine zv_iload dL_law_165 rfl ?_
    refine zv_callS (m_L_act l D B hR hsl hQ (by omega) (by omega) hx) ml_L_77 st_L_act rfl rfl (Nat.le_of_ble_eq_true rfl) dL_law_167 ⟨Nat.le_of_ble_eq_true rfl, Nat.le_of_ble_eq_true rfl⟩ ⟨(show _ ≤ 600000 by omega), (show _ ≤ 7302250 by omega)⟩ (fun v1 L1 nx1 G2 hG2 => ?_)
    obtain ⟨rfl, hLs, hn1, hn2, r2, h2, c2, hR, hF, hQ⟩ := hG2
    replace hg := (hF _ (Nat.le_refl _) (by omega)).trans hg
    replace hq := hLs _ hq
    have hn9 := hQ.choose_spec.choose_spec.choose_spec
    have hc0 : 0 < cn := hn9.2.2.2.2.2.2.2.2.1
    have hc3 : cn ≤ 3 := hn9.2.2.2.2.2.2.2.2.2.1
    refine zv_if_eq (tgt := 205) dL_law_170 (by decide) (fun h => absurd h (by decide)) (fun _ => ?_)
    refine zv_aload_n dL_law_173 rfl ?_
    refine zv_aload_n dL_law_174 rfl ?_
    refine zv_iload dL_law_175 rfl ?_
    refine zv_iconst (v := 4) dL_law_177 (by decide) ?_
    refine zv_ishr dL_law_178 ?_
    refine zv_iload dL_law_179 rfl ?_
    refine zv_callS (m_L_low l D B _ (d := cn) (by omega) (by omega)) ml_L_48 st_L_low rfl rfl (Nat.le_of_ble_eq_true rfl) dL_law_181 ⟨Nat.le_of_ble_eq_true rfl, Nat.le_of_ble_eq_true rfl⟩ ⟨(show _ ≤ 600000 by omega), (show _ ≤ 7302250 by omega)⟩ (zk_x fun z9 hz9 => ?_)
    obtain ⟨i, hi, rfl⟩ := hz9
    refine zv_callS (m_L_cup l D B (t := t + 1) hR hQ (by omega) hi hq (fun i hi => by rw [hg])) ml_L_81 st_L_cup rfl rfl (Nat.le_of_ble_eq_true rfl) dL_law_184 ⟨Nat.le_of_ble_eq_true rfl, Nat.le_of_ble_eq_true rfl⟩ ⟨(show _ ≤ 600000 by omega), (show _ ≤ 7302250 by omega)⟩ (zk_p fun G1 hG1 => ?_)
    obtain ⟨hR, hF1⟩ := hG1
    replace hg := (hF1 _ (Nat.le_refl _)).trans hg
    refine zv_if_eq (tgt := 205) dL_law_187 (by decide) (fun h => absurd h (by decide)) (fun _ => ?_)
    refine zv_aload_n dL_law_190 rfl ?_
    refine zv_aload_n dL_law_191 rfl ?_
    refine zv_iload dL_law_192 rfl ?_
    refine zv_ldc dL_law_194 kc_L_60 ?_
    refine zv_callS (m_L_low l D B _ (d := 65536) (by omega) (by omega)) ml_L_48 st_L_low rfl rfl (Nat.le_of_ble_eq_true rfl) dL_law_196 ⟨Nat.le_of_ble_eq_true rfl, Nat.le_of_ble_eq_true rfl⟩ ⟨(show _ ≤ 600000 by omega), (show _ ≤ 7302250 by omega)⟩ (zk_x fun z9 hz9 => ?_)
    obtain ⟨sd, hsd, rfl⟩ := hz9
    refine zv_callS (m_L_droplet l D B (t := t + 1) hR hQ hsd hq (fun i hi => by rw [hg])) ml_L_84 st_L_droplet rfl rfl (Nat.le_of_ble_eq_true rfl) dL_law_199 ⟨Nat.le_of_ble_eq_true rfl, Nat.le_of_ble_eq_true rfl⟩ ⟨(show _ ≤ 600000 by omega), (show _ ≤ 7302250 by omega)⟩ (zk_p fun G1 hG1 => ?_)
    obtain ⟨hR, hF1⟩ := hG1
    replace hg := (hF1 _ (Nat.le_refl _)).trans hg
    refine zv_if_ne (tgt := 207) dL_law_202 (by decide) (fun _ => ?_) (fun h => absurd h (by decide))
    refine zv_iinc1 dL_law_207 rfl (by decide) rfl ?_
    refine zv_goto (tgt := 127) dL_law_210 (by decide) ?_
    rw [nI_1]
    exact zv_widen (by omega) (by omega) (ih hlt L1 nx1 _ _ _ _ _ _ hq (by omega) hR hg hQ)

set_option maxRecDepth 100000 in
set_option maxHeartbeats 4000000 in
theorem law_2 (l : Launch) (D : zD) (B : Nat) {mn : String} {L : zL} {nx : Nat} {b S : Nat} {xs : Nat → Int32} {x tn : Nat} {sl : Nat → Option (Nat → Int32)} {T : Nat → Nat} {G1 : zG} (hS : S ≤ 260) (hsl : ∀ j, j < 2 → sl j = none) (hq : (x + 134, 116) ∈ L) (hB : B ≤ x) (hx : x + 135 ≤ nx) (hR : zRC L x nx G1 initR (fun _ => initR) 0 sl T tn) : zV l (lX B b S xs) D B RL mn cL_law 8 (some .boolean) room_1 zPL (200) (5000) L nx 13 [some (.ref b), some (.ref x), some (.ref (x + 134)), none, none, none, none, none] [] G1 := by
  refine zv_iconst (v := 1) dL_law_13 (by decide) ?_
  refine zv_aload_n dL_law_14 rfl ?_
  refine zv_iconst (v := 0) dL_law_15 (by decide) ?_
  refine zv_callSS (m_L_cell l D B (j := 0) (by omega) (by omega)) ml_L_66 st_L_cell rfl rfl (Nat.le_of_ble_eq_true rfl) dL_law_16 ⟨Nat.le_of_ble_eq_true rfl, Nat.le_of_ble_eq_true rfl⟩ ⟨(show _ ≤ 600000 by omega), (show _ ≤ 7302250 by omega)⟩ (zk_x fun z9 _ => ?_)
  refine zv_bipush (v := 16) dL_law_19 (by decide) ?_
  refine zv_callS (m_L_low l D B _ (d := 16) (by omega) (by omega)) ml_L_48 st_L_low rfl rfl (Nat.le_of_ble_eq_true rfl) dL_law_21 ⟨Nat.le_of_ble_eq_true rfl, Nat.le_of_ble_eq_true rfl⟩ ⟨(show _ ≤ 600000 by omega), (show _ ≤ 7302250 by omega)⟩ (zk_x fun z9 hz9 => ?_)
  obtain ⟨m0, hm0, rfl⟩ := hz9
  refine zv_iadd dL_law_24 ?_
  rw [show (1 : Int32) + nI m0 = nI (1 + m0) from nI_add 1 m0]
  generalize hn9 : 1 + m0 = n
  have hn0 : 0 < n := by omega
  have hn : n ≤ 16 := by omega
  refine zv_istore_n dL_law_25 (by decide) rfl ?_
  refine zv_iconst (v := 0) dL_law_26 (by decide) ?_
  refine zv_istore dL_law_27 (by decide) rfl ?_
  refine lp_ch l D B (n := n) hS hsl hq hn (fun G1 r h cc hR hL => ?_) 0 (Nat.zero_le _) G1 _ _ _ hR LC_init
  refine zv_iconst (v := 1) dL_law_73 (by decide) ?_
  refine zv_aload_n dL_law_74 rfl ?_
  refine zv_bipush (v := 17) dL_law_75 (by decide) ?_
  refine zv_callSS (m_L_cell l D B (j := 17) (by omega) (by omega)) ml_L_66 st_L_cell rfl rfl (Nat.le_of_ble_eq_true rfl) dL_law_77 ⟨Nat.le_of_ble_eq_true rfl, Nat.le_of_ble_eq_true rfl⟩ ⟨(show _ ≤ 600000 by omega), (show _ ≤ 7302250 by omega)⟩ (zk_x fun z9 _ => ?_)
  refine zv_iconst (v := 3) dL_law_80 (by decide) ?_
  refine zv_callS (m_L_low l D B _ (d := 3) (by omega) (by omega)) ml_L_48 st_L_low rfl rfl (Nat.le_of_ble_eq_true rfl) dL_law_81 ⟨Nat.le_of_ble_eq_true rfl, Nat.le_of_ble_eq_true rfl⟩ ⟨(show _ ≤ 600000 by omega), (show _ ≤ 7302250 by omega)⟩ (zk_x fun z9 hz9 => ?_)
  obtain ⟨m1, hm1, rfl⟩ := hz9
  refine zv_iadd dL_law_84 ?_
  rw [show (1 : Int32) + nI m1 = nI (1 + m1) from nI_add 1 m1]
  generalize hc9 : 1 + m1 = cn
  have hc0 : 0 < cn := by omega
  have hc3 : cn ≤ 3 := by omega
  refine zv_istore dL_law_85 (by decide) rfl ?_
  refine zv_iconst (v := 0) dL_law_87 (by decide) ?_
  refine zv_istore dL_law_88 (by decide) rfl ?_
  refine lp_cu l D B (n := n) (cn := cn) (bk := G1 (x + 134)) hS hsl hq hn hc3 (fun G2 r h cc hR hg hL => ?_) 0 (Nat.zero_le _) G1 _ _ _ hR rfl hL
  refine zv_iconst (v := 0) dL_law_124 (by decide) ?_
  refine zv_istore dL_law_125 (by decide) rfl ?_
  exact lp_act l D B hS hsl hB 0 (by omega) L nx G2 r h cc none none hq hx hR hg (LC_LQ hL hn0 hn hc0 hc3)

set_option maxRecDepth 100000 in
set_option maxHeartbeats 4000000 in
theorem law_entry (l : Launch) (D : zD) (B : Nat) {mn : String} {b S : Nat} {xs : Nat → Int32} (hS : S ≤ 260) : zV l (lX B b S xs) D B RL mn cL_law 8 (some .boolean) room_1 zPL 0 0 [] B 0 [some (.ref b), none, none, none, none, none, none, none] [] (fun _ _ => 0) := by
  refine zv_new (t := 16) (by omega) kl_L_11 inst_X6 ini_X6 rfl iwX6 tyX6_ok rfl hfs_X6 (Nat.le_of_ble_eq_true rfl) (Nat.le_of_ble_eq_true rfl) dL_law_0 ?_
  refine zv_dup dL_law_3 rfl ?_
  refine zv_callI (m_X6_init l D B (L := []) (x := B) (Nat.le_refl _) (fun b hb => by cases hb) (by rw [zst_same])) ml_L_65 in_X6_init rfl rfl rfl (Nat.le_of_ble_eq_true rfl) dL_law_4 ⟨Nat.le_of_ble_eq_true rfl, Nat.le_of_ble_eq_true rfl⟩ ⟨Nat.le_of_ble_eq_true rfl, Nat.le_of_ble_eq_true rfl⟩ (zk_cu fun G1 hG1 => ?_)
  refine zv_astore_n dL_law_7 (by decide) rfl ?_
  refine zv_bipush (v := 16) dL_law_8 (by decide) ?_
  refine zv_newarray (N := 16) (t := 116) (ta := 0) (by omega) rfl (by decide) zac_int (by decide) (by decide) (by decide) rfl (Nat.le_of_ble_eq_true rfl) (Nat.le_of_ble_eq_true rfl) dL_law_10 ?_
  refine zv_astore_n dL_law_12 (by decide) rfl ?_
  have hR0 : zRC ([] ++ zxL B ++ [(B + 134, 116)]) B (B + 134 + 1) G1 initR (fun _ => initR) 0 (fun _ => none) (fun _ => 0) 0 := zXP_RC hG1 (fun b hb => by simp [hb])
  exact zv_widen (Nat.le_of_ble_eq_true rfl) (Nat.le_of_ble_eq_true rfl) (law_2 l D B hS (fun _ _ => rfl) (by simp) (Nat.le_refl _) (Nat.le_refl _) (zRC_to hR0 (fun _ _ => rfl) (fun b hb => hb) (fun y hy => zst_ne _ _ (by omega))))
