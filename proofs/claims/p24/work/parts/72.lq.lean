/-! what the law knows of the state: t acts behind it, a book bk of n chapters, cn cups -/
def LQ (t n cn : Nat) (bk : Nat → Int32) (r : Nat → Int32) : Prop :=
  ∃ w ls p : Nat, r 0 = nI w ∧ w ≤ 2 ∧ r 1 = nI ls ∧ ls ≤ 99 ∧ r 2 = nI n ∧ 0 < n ∧ n ≤ 16 ∧ r 3 = nI cn ∧ 0 < cn ∧ cn ≤ 3 ∧ r 4 = nI p ∧ p ≤ t ∧
  (∀ i, i < 3 → zCI n (chR r) (cupR r i)) ∧ (∀ i, cn ≤ i → i < 3 → cupR r i = fun _ => 0) ∧ (∀ c, c < n → chR r c = bk c) ∧
  ∀ i, i < 3 → ∃ a b d : Nat, cupR r i 2 = nI a ∧ cupR r i 3 = nI b ∧ cupR r i 4 = nI d ∧ b + d ≤ a ∧ a ≤ t
theorem LQ_SI {t n cn : Nat} {bk r : Nat → Int32} (h : LQ t n cn bk r) : SI t r := by
  obtain ⟨w, ls, p, h0, hw, h1, hl, h2, hn0, hn, h3, hc0, hc, h4, hp, hI, hz, hb, hk⟩ := h
  refine ⟨w, ls, n, cn, h0, hw, h1, hl, h2, hn, h3, hc, hI, hz, fun i hi => ?_⟩
  obtain ⟨a, b, d, g1, g2, g3, g4, g5⟩ := hk i hi
  exact ⟨d, g3, by omega⟩
theorem cpI_at {r : Nat → Int32} {cn i : Nat} (h3 : r 3 = nI cn) (hcn : cn ≤ 3) (hi : i < cn) : cpI r (nI i) = some i := by
  unfold cpI
  rw [h3, nI_clamp (by omega)]
  refine zfind_of hi (by simp) (fun k hk => ?_)
  simp only [decide_eq_false_iff_not]
  intro e
  have := (nI_eq (by omega) (by omega)).mp e
  omega
theorem qOf_at {r : Nat → Int32} {cn i : Nat} (h3 : r 3 = nI cn) (hcn : cn ≤ 3) (hi : i < cn) (w : Int32) : qOfCup r (nI i) w = qOfV r (cupR r i) w (folM (cupR r i)) := by
  unfold qOfCup
  rw [cpI_at h3 hcn hi]
theorem qOf_0 {r f : Nat → Int32} {z : Int32} : qOfV r f 0 z = f 0 := by simp [qOfV]
theorem qOf_1 {r f : Nat → Int32} {z : Int32} : qOfV r f 1 z = f 1 := by simp [qOfV]
theorem qOf_2 {r f : Nat → Int32} {z : Int32} : qOfV r f 2 z = f 2 := by simp [qOfV]
theorem qOf_3 {r f : Nat → Int32} {z : Int32} : qOfV r f 3 z = f 3 := by simp [qOfV]
theorem qOf_4 {r f : Nat → Int32} {z : Int32} : qOfV r f 4 z = f 4 := by simp [qOfV]
theorem qOf_5 {r f : Nat → Int32} {z : Int32} : qOfV r f 5 z = bI (fullB r f) := by simp [qOfV]
theorem qOf_6 {r f : Nat → Int32} {z : Int32} : qOfV r f 6 z = nI (zcnt (zb (f 0)) 16) + nI (zcnt (zb z) 16) := by simp [qOfV]
theorem qOf_7 {r f : Nat → Int32} {z : Int32} : qOfV r f 7 z = -2 := by simp [qOfV]
theorem qCo_0 {r : Nat → Int32} {a b : Int32} : qCount r a b 0 = r 2 := by simp [qCount]
theorem qCo_2 {r : Nat → Int32} {a b : Int32} : qCount r a b 2 = fcN r (r 3).toNatClampNeg 3 := by simp [qCount]
theorem qCo_3 {r : Nat → Int32} {a b : Int32} : qCount r a b 3 = r 4 := by simp [qCount]
theorem qCo_4 {r : Nat → Int32} {a b : Int32} : qCount r a b 4 = r 0 := by simp [qCount]
theorem qCo_5 {r : Nat → Int32} {a b : Int32} : qCount r a b 5 = r 1 := by simp [qCount]
theorem qCo_8 {r : Nat → Int32} {a b : Int32} : qCount r a b 8 = -2 := by simp [qCount]
theorem zin3_nI {a m : Nat} (ha : a ≤ m) (hm : m < 2 ^ 31) : zin3 (nI a) 0 (nI m) = true := (zin3_iff hm).mpr ⟨a, ha, rfl⟩
theorem qDr_at {r : Nat → Int32} {n sd : Nat} (h2 : r 2 = nI n) (hn0 : 0 < n) (hn : n ≤ 16) (hsd : sd < 65536) {w : Nat} (hw : w ≤ 3) : qDrop r (nI sd) (nI w) = if w = 0 then dPR r sd 1 else if w = 1 then dPR r sd 2 else if w = 2 then dPR r sd 3 else dPR r sd 0 := by
  unfold qDrop
  have e1 : zin3 (nI sd) 0 65535 = true := zin3_nI (m := 65535) (by omega) (by decide)
  have e2 : zin3 (nI w) 0 3 = true := zin3_nI (m := 3) hw (by decide)
  have e3 : ¬ nI n = 0 := nI_ne0 hn0 (by omega)
  rw [e1, e2, h2, nI_clamp (by omega)]
  simp only [Bool.and_self, Bool.true_eq_false, if_false, if_neg e3]
  rcases (show w = 0 ∨ w = 1 ∨ w = 2 ∨ w = 3 by omega) with rfl | rfl | rfl | rfl
  · exact if_pos rfl
  · exact (if_neg (by decide)).trans (if_pos rfl)
  · exact (if_neg (by decide)).trans ((if_neg (by decide)).trans (if_pos rfl))
  · exact (if_neg (by decide)).trans ((if_neg (by decide)).trans (if_neg (by decide)))
theorem qKn_at {r : Nat → Int32} {n cn i j : Nat} (h2 : r 2 = nI n) (hn : n ≤ 16) (h3 : r 3 = nI cn) (hcn : cn ≤ 3) (hi : i < cn) (hj : j < n) : qKnown r (nI i) (nI j) = if zb (cupR r i 0) j then cupR r i (5 + j) else -6 := by
  unfold qKnown
  rw [cpI_at h3 hcn hi]
  dsimp only
  rw [if_pos ⟨zin3_nI (m := 15) (by omega) (by decide), by rw [h2]; exact nI_lt hj (by omega)⟩, nI_clamp (by omega)]
theorem qKn_no {r : Nat → Int32} {n cn i : Nat} (h2 : r 2 = nI n) (hn : n ≤ 16) (h3 : r 3 = nI cn) (hcn : cn ≤ 3) (hi : i < cn) : qKnown r (nI i) (nI n) = -1 := by
  unfold qKnown
  rw [cpI_at h3 hcn hi]
  dsimp only
  rw [if_neg (fun h => by
    rw [h2] at h
    exact absurd h.2 (i32_nlt.mpr (Int32.le_refl _)))]
theorem qKe_at {r : Nat → Int32} {cn i m q : Nat} (h3 : r 3 = nI cn) (hcn : cn ≤ 3) (hi : i < cn) (h1 : cupR r i 1 = nI m) (hm : m ≤ 24) (hq : q < m) : qKept r (nI i) (nI q) 0 = cupR r i (21 + q) ∧ qKept r (nI i) (nI q) 1 = cupR r i (45 + q) := by
  unfold qKept
  rw [cpI_at h3 hcn hi]
  dsimp only
  have hC : zin3 (nI q) 0 23 = true ∧ nI q < cupR r i 1 := ⟨zin3_nI (m := 23) (by omega) (by decide), by rw [h1]; exact nI_lt hq (by omega)⟩
  refine ⟨?_, ?_⟩
  · rw [if_pos hC, nI_clamp (by omega)]
    exact if_pos rfl
  · rw [if_pos hC, nI_clamp (by omega)]
    exact (if_neg (by decide)).trans (if_pos rfl)
theorem qKe_no {r : Nat → Int32} {cn i m : Nat} (h3 : r 3 = nI cn) (hcn : cn ≤ 3) (hi : i < cn) (h1 : cupR r i 1 = nI m) (hm : m ≤ 24) : qKept r (nI i) (nI m) 0 = -1 := by
  unfold qKept
  rw [cpI_at h3 hcn hi]
  dsimp only
  rw [if_neg (fun h => by
    rw [h1] at h
    exact absurd h.2 (i32_nlt.mpr (Int32.le_refl _)))]
/-- the mask of a whole book -/
theorem msk_b : ∀ n, n ≤ 16 → ∀ k, k < 32 → zb (1 <<< (nI n &&& 31) - 1) k = decide (k < n) := by decide +kernel
theorem zcnt_all {p : Nat → Bool} : ∀ {n : Nat}, zcnt p n = n → ∀ k, k < n → p k = true
  | 0, _, k, h => by omega
  | n + 1, h, k, hk => by
    unfold zcnt at h
    have h1 := zcnt_le p n
    cases e : p n with
    | false => rw [e] at h; simp at h; omega
    | true =>
      rw [e] at h
      rcases Nat.lt_or_ge k n with g | g
      · exact zcnt_all (by simpa using h) k g
      · rw [show k = n by omega, e]
theorem zcnt_cut {p : Nat → Bool} {n : Nat} (h : ∀ k, n ≤ k → p k = false) : ∀ {m : Nat}, n ≤ m → zcnt p m = zcnt p n
  | 0, hm => by rw [show n = 0 by omega]
  | m + 1, hm => by
    rcases Nat.lt_or_ge n (m + 1) with g | g
    · show zcnt p m + (if p m = true then 1 else 0) = zcnt p n
      rw [zcnt_cut h (m := m) (by omega), h m (by omega)]
      simp
    · rw [show n = m + 1 by omega]
theorem full_eq {r f : Nat → Int32} {n : Nat} (h2 : r 2 = nI n) (hn : n ≤ 16) (hl : zlim n (f 0)) : fullB r f = decide (zcnt (zb (f 0)) 16 = n) := by
  unfold fullB
  rw [h2]
  have key : f 0 = 1 <<< (nI n &&& 31) - 1 ↔ zcnt (zb (f 0)) 16 = n := by
    rw [zcnt_cut hl hn]
    constructor
    · intro e
      refine zcnt_full (fun k hk => ?_)
      rw [e, msk_b n hn k (by omega)]
      simp [hk]
    · intro e
      have h := zcnt_all e
      apply zb_ext
      intro k hk
      rw [msk_b n hn k hk]
      rcases Nat.lt_or_ge k n with g | g
      · rw [h k g]; simp [g]
      · rw [hl k g]; simp; omega
  simp only [key]
theorem fcN_b {r : Nat → Int32} {cn : Nat} : ∀ {m : Nat}, m ≤ 3 → ∀ k, k < 32 → zb (fcN r cn m) k = (decide (k < m) && decide (k < cn) && fullB r (cupR r k))
  | 0, _, k, hk => by
    show zb 0 k = _
    rw [zb_zero]
    simp
  | m + 1, hm, k, hk => by
    have ih := fcN_b (r := r) (cn := cn) (m := m) (by omega) k hk
    unfold fcN
    by_cases hc : m < cn ∧ fullB r (cupR r m) = true
    · rw [if_pos hc, zb_or, ih, zb_bt (by omega)]
      rcases Nat.lt_trichotomy k m with g | g | g
      · have e1 : decide (k = m) = false := by simp; omega
        have e2 : decide (k < m) = true := by simp; omega
        have e3 : decide (k < m + 1) = true := by simp; omega
        rw [e1, e2, e3]; simp
      · subst g
        simp [hc.1, hc.2]
      · have e1 : decide (k = m) = false := by simp; omega
        have e2 : decide (k < m) = false := by simp; omega
        have e3 : decide (k < m + 1) = false := by simp; omega
        rw [e1, e2, e3]; simp
    · rw [if_neg hc, ih]
      rcases Nat.lt_trichotomy k m with g | g | g
      · have e2 : decide (k < m) = true := by simp; omega
        have e3 : decide (k < m + 1) = true := by simp; omega
        rw [e2, e3]
      · subst g
        have e2 : decide (k < k) = false := by simp
        have e3 : decide (k < k + 1) = true := by simp
        rw [e2, e3]
        simp only [Bool.false_and, Bool.true_and]
        cases h1 : fullB r (cupR r k) with
        | false => simp
        | true =>
          have : ¬ k < cn := fun h => hc ⟨h, h1⟩
          simp [this]
      · have e2 : decide (k < m) = false := by simp; omega
        have e3 : decide (k < m + 1) = false := by simp; omega
        rw [e2, e3]
theorem bI_sh {z : Int32} {i : Nat} (hi : i < 32) : (z >>> (nI i &&& 31)) &&& 1 = bI (zb z i) := zb_test z hi
theorem shr_lim {n : Nat} {s : Int32} (hn : n ≤ 16) (h : zlim n s) : s >>> (nI n &&& 31) = 0 := by
  have h1 : zm s < 65536 := zlim_zm hn h
  have h2 : zm s < 2 ^ n := by
    apply Nat.lt_pow_two_of_testBit
    intro k hk
    rw [← zb_zm]
    exact h k hk
  rw [nI_31 (by omega), ← nI_zm s, pk_shrN (by omega) (nI n) n (nI_smod (by omega)), Nat.div_eq_of_lt h2]
  rfl
theorem xsN_lim {ch : Nat → Int32} {n : Nat} {s : Int32} (h : zlim n s) : ∀ {m : Nat}, n ≤ m → xsN ch s m = xsN ch s n
  | 0, hm => by rw [show n = 0 by omega]
  | m + 1, hm => by
    rcases Nat.lt_or_ge n (m + 1) with g | g
    · simp only [xsN]
      rw [xsN_lim h (m := m) (by omega), h m (by omega)]
      simp [i32_xor_zero]
    · rw [show n = m + 1 by omega]
/-- of two sets that are apart the one that follows has no place beyond n -/
theorem fol_lim {n : Nat} {ch f : Nat → Int32} {m : Nat} (hJ : zCJ n ch f m) : (∀ k, folB f k = true → k < 16 → zb (f 0) k = false ∧ k < n) := by
  intro k hk hk16
  unfold folB at hk
  have hsp : inSp (fun i => f (21 + i)) 24 (bt k) := by
    have := @of_decide_eq_true _ (Classical.propDecidable _) hk
    exact this
  have h1 := hsp (fun s => ∀ j, (zb (f 0) j = true → zb s j = false) ∧ (n ≤ j → zb s j = false)) (fun j => ⟨fun _ => zb_zero _, fun _ => zb_zero _⟩) (fun a b ha hb j => ⟨fun h => by rw [zb_xor, (ha j).1 h, (hb j).1 h]; rfl, fun h => by rw [zb_xor, (ha j).2 h, (hb j).2 h]; rfl⟩)
    (fun i hi j => ⟨fun h => (hJ.2.2.2.2.2 i hi).2.1 j h, fun h => (hJ.2.2.2.2.2 i hi).1 j h⟩) k
  have hself : zb (bt k) k = true := by rw [zb_bt (by omega)]; simp
  refine ⟨?_, ?_⟩
  · cases hz : zb (f 0) k with
    | false => rfl
    | true => rw [h1.1 hz] at hself; cases hself
  · rcases Nat.lt_or_ge k n with g | g
    · exact g
    · rw [h1.2 g] at hself; cases hself
theorem folM_b {f : Nat → Int32} (k : Nat) : zb (folM f) k = (decide (k < 16) && folB f k) := zb_mskOf (by omega) k
/-- counts of sets that are apart add up -/
theorem zcnt_disj {p q : Nat → Bool} : ∀ {n : Nat}, (∀ k, k < n → p k = true → q k = false) → zcnt (fun k => p k || q k) n = zcnt p n + zcnt q n
  | 0, _ => rfl
  | n + 1, h => by
    have ih := zcnt_disj (p := p) (q := q) (n := n) (fun k hk => h k (by omega))
    have h1 := h n (by omega)
    unfold zcnt
    rw [ih]
    cases e : p n with
    | false => cases e2 : q n <;> simp <;> omega
    | true => rw [h1 e]; simp; omega
theorem could_le {n : Nat} {ch f : Nat → Int32} {m : Nat} (hJ : zCJ n ch f m) : zcnt (zb (f 0)) 16 + zcnt (zb (folM f)) 16 ≤ n := by
  have hn := hJ.1
  have h0 := fol_lim hJ
  rw [← zcnt_disj (p := zb (f 0)) (q := zb (folM f)) (fun k hk h => by
    rw [folM_b]
    cases e : folB f k with
    | false => simp
    | true => rw [(h0 k e hk).1] at h; cases h)]
  rw [zcnt_cut (n := n) (fun k hk => by
    rw [hJ.2.2.2.1 k hk, folM_b]
    cases e : folB f k with
    | false => simp
    | true =>
      by_cases g : k < 16
      · have := (h0 k e g).2; omega
      · simp [g]) hn]
  exact zcnt_le _ _
/-- a cup that knows all keeps nothing -/
theorem full_none {n : Nat} {ch f : Nat → Int32} {m : Nat} (hJ : zCJ n ch f m) (hs : zsz f m) (hf : zcnt (zb (f 0)) 16 = n) : m = 0 := by
  have hn := hJ.1
  rw [zcnt_cut hJ.2.2.2.1 hn] at hf
  have hall := zcnt_all hf
  rcases Nat.eq_zero_or_pos m with h | h
  · exact h
  · exfalso
    have h2 := hs 0 h
    obtain ⟨g1, g2, -, -⟩ := hJ.2.2.2.2.2 0 (by omega)
    have : zcnt (zb (f (21 + 0))) 16 = 0 := by
      rw [show (0 : Nat) = zcnt (fun _ => false) 16 from by decide]
      refine zcnt_congr (fun k hk => ?_)
      rcases Nat.lt_or_ge k n with g | g
      · exact g2 k (hall k g)
      · exact g1 k g
    omega
theorem frT {x : Nat} {G0 G G1 : zG} (h : ∀ y, x + 134 ≤ y → G y = G0 y) (h1 : zFr x G G1) : ∀ y, x + 134 ≤ y → G1 y = G0 y := fun y hy => (h1 y (by omega)).trans (h y hy)
theorem frU {x : Nat} {G0 G G1 : zG} (h : ∀ y, x + 134 ≤ y → G y = G0 y) (h1 : ∀ y, x + 134 ≤ y → G1 y = G y) : ∀ y, x + 134 ≤ y → G1 y = G0 y := fun y hy => (h1 y hy).trans (h y hy)
theorem mkNum_congr {a b : Nat → Int32} {n x0 : Nat} (hn : 0 < n) (h : ∀ c, c < n → a c = b c) : ∀ i, mkNum a n x0 i = mkNum b n x0 i
  | 0 => rfl
  | i + 1 => by
    simp only [mkNum]
    rw [mkNum_congr hn h i, h _ (mkC_lt hn)]
theorem dPR_at {r bk : Nat → Int32} {w ls n sd : Nat} (h0 : r 0 = nI w) (hw : w ≤ 2) (h1 : r 1 = nI ls) (h2 : r 2 = nI n) (hn0 : 0 < n) (hn : n ≤ 16) (hb : ∀ c, c < n → chR r c = bk c) :
    dPR r sd 0 = bI (decide (nI (zdw sd % 100) < nI ls)) ∧ dPR r sd 1 = nI (zdeg w (zdw (zdw sd)) n) ∧ dPR r sd 2 = mkSet n (zdw (zdw sd)) (zdeg w (zdw (zdw sd)) n) ∧ dPR r sd 3 = mkNum bk n (zdw (zdw sd)) (zdeg w (zdw (zdw sd)) n) := by
  unfold dPR
  rw [h0, h1, h2, nI_clamp (by omega), nI_clamp (by omega)]
  obtain ⟨a0, a1, a2, a3⟩ := mkP_at (f := fun _ => 0) (w := w) (loss := nI ls) (n := n) (ch := chR r) (sd := sd)
  exact ⟨a0, a1, a2, a3.trans (mkNum_congr hn0 hb _)⟩
theorem nf_more {s : Int32} {n : Nat} : ∀ {f c : Nat} (g : Nat), zb s (nf s n c f) = false → nf s n c (f + g) = nf s n c f
  | 0, c, g, h => by
    have h' : zb s c = false := h
    cases g with
    | zero => rfl
    | succ g =>
      show nf s n c (0 + (g + 1)) = c
      rw [Nat.zero_add]
      unfold nf
      rw [if_neg (by rw [h']; simp)]
  | f + 1, c, g, h => by
    rw [show f + 1 + g = (f + g) + 1 by omega]
    unfold nf at h ⊢
    split
    · rename_i hc
      rw [if_pos hc] at h
      exact nf_more g h
    · rfl
theorem mkC_n {n x0 i : Nat} (hn0 : 0 < n) (hn : n ≤ 16) (hi : i < n) : nf (mkSet n x0 i) n (mkX x0 (i + 1) % n) n = mkC n x0 i := by
  have hf := (mk_inv (x0 := x0) hn0 hn i (by omega)).2.2 hi
  have hc0 := Nat.mod_lt (mkX x0 (i + 1)) hn0
  have hC := mkC_lt (n := n) (x0 := x0) (i := i) hn0
  have := nf_more (s := mkSet n x0 i) (n := n) (f := n) (c := mkX x0 (i + 1) % n) (16 - n) (nf_free hC hf hc0 (by split <;> omega))
  rw [show n + (16 - n) = 16 by omega] at this
  exact this.symm
theorem nx_eq {c n : Nat} (hc : c < n) : (c + 1) % n = if c + 1 < n then c + 1 else 0 := by
  split
  · rw [Nat.mod_eq_of_lt (by omega)]
  · rw [show c + 1 = n by omega, Nat.mod_self]
