theorem inSp_row {g : Nat → Int32} {N i : Nat} (hi : i < N) : inSp g N (g i) := fun _ _ _ h => h i hi
theorem inSp_xor {g : Nat → Int32} {N : Nat} {a b : Int32} (ha : inSp g N a) (hb : inSp g N b) : inSp g N (a ^^^ b) := fun P h0 hx h => hx _ _ (ha P h0 hx h) (hb P h0 hx h)
theorem inSp_zero {g : Nat → Int32} {N : Nat} : inSp g N 0 := fun _ h0 _ _ => h0
theorem inSp_of {g g' : Nat → Int32} {N N' : Nat} (h : ∀ i, i < N → inSp g' N' (g i)) {s : Int32} (hs : inSp g N s) : inSp g' N' s := hs (inSp g' N') inSp_zero (fun _ _ => inSp_xor) h
def comb (R : Nat → Int32) (o : Nat → Nat) (x : Int32) : Nat → Int32
  | 0 => 0
  | a + 1 => comb R o x a ^^^ (if R a ≠ 0 ∧ zb x (o a) = true then R a else 0)
theorem comb_xor (R : Nat → Int32) (o : Nat → Nat) (x y : Int32) : ∀ N, comb R o (x ^^^ y) N = comb R o x N ^^^ comb R o y N
  | 0 => (i32_xor_self 0).symm
  | a + 1 => by
    simp only [comb, comb_xor R o x y a, zb_xor]
    by_cases hR : R a = 0
    · simp [hR, i32_xor_zero]
    · apply zb_ext
      intro k _
      cases zb x (o a) <;> cases zb y (o a) <;> simp [hR, zb_xor, zb_zero] <;> cases zb (comb R o x a) k <;> cases zb (comb R o y a) k <;> cases zb (R a) k <;> rfl
theorem comb_none {R : Nat → Int32} {o : Nat → Nat} {x : Int32} : ∀ {N : Nat}, (∀ a, a < N → R a ≠ 0 → zb x (o a) = false) → comb R o x N = 0
  | 0, _ => rfl
  | a + 1, h => by
    simp only [comb]
    rw [comb_none (N := a) (fun b hb => h b (by omega)), if_neg (fun e => by rw [h a (by omega) e.1] at e; exact absurd e.2 (by simp)), i32_xor_zero]
theorem comb_one {R : Nat → Int32} {o : Nat → Nat} {x : Int32} {t : Nat} (ht : R t ≠ 0 → zb x (o t) = true) : ∀ {N : Nat}, (∀ a, a < N → a ≠ t → R a ≠ 0 → zb x (o a) = false) → comb R o x N = if t < N then R t else 0
  | 0, _ => rfl
  | a + 1, h => by
    simp only [comb]
    rcases Nat.lt_trichotomy t a with g | g | g
    · rw [comb_one ht (N := a) (fun b hb => h b (by omega)), if_pos g, if_pos (show t < a + 1 by omega), if_neg (fun e => by rw [h a (by omega) (by omega) e.1] at e; exact absurd e.2 (by simp)), i32_xor_zero]
    · subst g
      rw [comb_none (N := t) (fun b hb => h b (by omega) (by omega)), if_pos (show t < t + 1 by omega), i32_zero_xor]
      by_cases hR : R t = 0
      · rw [if_neg (fun e => e.1 hR), hR]
      · rw [if_pos ⟨hR, ht hR⟩]
    · rw [comb_none (N := a) (fun b hb => h b (by omega) (by omega)), if_neg (show ¬ t < a + 1 by omega), if_neg (fun e => by rw [h a (by omega) (by omega) e.1] at e; exact absurd e.2 (by simp)), i32_xor_zero]
/-- each row that isn't empty has a place of its own -/
def ownR (R : Nat → Int32) (N : Nat) (o : Nat → Nat) : Prop := ∀ a, a < N → R a ≠ 0 → zb (R a) (o a) = true ∧ ∀ i, i < N → i ≠ a → zb (R i) (o a) = false
theorem unit_row {R : Nat → Int32} {N c : Nat} {o : Nat → Nat} (hown : ownR R N o) (hc : c < 32) (h : inSp R N (bt c)) : ∃ a, a < N ∧ R a = bt c := by
  have hP : comb R o (bt c) N = bt c := by
    refine h (fun x => comb R o x N = x) (comb_none (fun a _ _ => zb_zero _)) (fun a b ha hb => by rw [comb_xor, ha, hb]) (fun i hi => ?_)
    rw [comb_one (t := i) (fun hR => (hown i hi hR).1) (fun a ha hne hR => (hown a ha hR).2 i hi (fun e => hne e.symm)), if_pos hi]
  have hne : bt c ≠ 0 := fun e => by
    have := zb_bt hc c
    rw [e, zb_zero] at this
    simp at this
  apply Classical.byContradiction
  intro hno
  by_cases hex : ∃ a, a < N ∧ R a ≠ 0 ∧ o a = c
  · obtain ⟨a, ha, hR, ho⟩ := hex
    have : comb R o (bt c) N = if a < N then R a else 0 := by
      refine comb_one (t := a) (fun _ => by rw [ho, zb_bt hc]; simp) (fun b hb hne2 hRb => ?_)
      rw [zb_bt hc]
      simp only [decide_eq_false_iff_not]
      intro e
      have h1 := (hown b hb hRb).2 a ha (fun e2 => hne2 e2.symm)
      have h2 := (hown a ha hR).1
      rw [ho] at h2
      rw [e, h2] at h1
      cases h1
    rw [if_pos ha, hP] at this
    exact hno ⟨a, ha, this.symm⟩
  · rw [comb_none (fun a ha hR => by
      rw [zb_bt hc]
      simp only [decide_eq_false_iff_not]
      exact fun e => hex ⟨a, ha, hR, e⟩)] at hP
    exact hne hP.symm
theorem zb_own {s : Int32} {k : Nat} (hk : k < 32) : zb (s &&& -s) k = (zb s k && !decide (∃ j, j < k ∧ zb s j = true)) := by
  rw [zb_and, zb_neg _ hk]
  cases zb s k <;> simp
/-- a row that leads has its lowest place for its own mark -/
theorem own_bt {s : Int32} (h : s ≠ 0) : ∃ p, p < 32 ∧ zb s p = true ∧ s &&& -s = bt p := by
  have hex : ∃ p, p < 32 ∧ zb s p = true ∧ ∀ j, j < p → zb s j = false := by
    cases e : zfind (zb s) 32 with
    | none => exact absurd (zb_ext (fun k hk => by rw [zfind_none e k hk, zb_zero])) h
    | some p =>
      obtain ⟨h1, h2, h3⟩ := zfind_some e
      exact ⟨p, h1, h2, h3⟩
  obtain ⟨p, h1, h2, h3⟩ := hex
  refine ⟨p, h1, h2, zb_ext (fun k hk => ?_)⟩
  rw [zb_own hk, zb_bt h1]
  rcases Nat.lt_trichotomy k p with g | g | g
  · rw [h3 k g]; simp; omega
  · subst g
    have : decide (∃ j, j < k ∧ zb s j = true) = false := by
      simp only [decide_eq_false_iff_not]
      rintro ⟨j, hj, e⟩
      rw [h3 j hj] at e; cases e
    rw [h2, this]; simp
  · have : decide (∃ j, j < k ∧ zb s j = true) = true := by
      simp only [decide_eq_true_eq]
      exact ⟨p, g, h2⟩
    rw [this]
    simp; omega
theorem red1_at {f : Nat → Int32} {a i : Nat} (hi : i < 24) : red1 f a i = (if i ≠ a ∧ ¬ f i &&& (f a &&& -f a) = 0 then f i ^^^ f a else f i) ∧ red1 f a (24 + i) = (if i ≠ a ∧ ¬ f i &&& (f a &&& -f a) = 0 then f (24 + i) ^^^ f (24 + a) else f (24 + i)) := by
  simp only [red1, redI]
  refine ⟨by rw [if_pos hi], ?_⟩
  rw [if_neg (by omega), if_pos (by omega), show 24 + i - 24 = i by omega]
  by_cases h : i = a
  · subst h; simp
  · have : 24 + i ≠ 24 + a := by omega
    simp [h]
theorem red1_own {f : Nat → Int32} {k : Nat} {o : Nat → Nat} (hk : k < 24) (h : ∀ a, a < k → f a ≠ 0 → zb (f a) (o a) = true ∧ ∀ i, i < 24 → i ≠ a → zb (f i) (o a) = false) :
    ∃ o' : Nat → Nat, ∀ a, a < k + 1 → red1 f k a ≠ 0 → zb (red1 f k a) (o' a) = true ∧ ∀ i, i < 24 → i ≠ a → zb (red1 f k i) (o' a) = false := by
  by_cases hs : f k = 0
  · have hsame : ∀ i, i < 24 → red1 f k i = f i := fun i hi => by
      rw [(red1_at hi).1, if_neg]
      rintro ⟨-, h2⟩
      apply h2
      rw [hs]
      apply zb_ext
      intro j _
      simp [zb_and, zb_zero]
    refine ⟨o, fun a ha hne => ?_⟩
    rw [hsame a (by omega)] at hne ⊢
    have hak : a < k := by
      rcases Nat.lt_or_ge a k with g | g
      · exact g
      · exact absurd (by rw [show a = k by omega]; exact hs) hne
    refine ⟨(h a hak hne).1, fun i hi hia => ?_⟩
    rw [hsame i hi]
    exact (h a hak hne).2 i hi hia
  · obtain ⟨p, hp, hp1, hp2⟩ := own_bt hs
    have hR : ∀ i, i < 24 → red1 f k i = if i ≠ k ∧ zb (f i) p = true then f i ^^^ f k else f i := fun i hi => by
      rw [(red1_at hi).1, hp2]
      have : (f i &&& bt p = 0) ↔ zb (f i) p = false := zb_and_bt _ hp
      cases e : zb (f i) p with
      | true =>
        have h2 : ¬ f i &&& bt p = 0 := fun h => by rw [this.mp h] at e; cases e
        by_cases hik : i = k
        · rw [if_neg (fun h => h.1 hik), if_neg (fun h => h.1 hik)]
        · rw [if_pos ⟨hik, h2⟩, if_pos ⟨hik, rfl⟩]
      | false => rw [if_neg (fun h => h.2 (this.mpr e)), if_neg (fun h => by cases h.2)]
    refine ⟨fun a => if a = k then p else o a, fun a ha hne => ?_⟩
    by_cases hak : a = k
    · subst hak
      simp only [if_true]
      refine ⟨by rw [hR a hk, if_neg (fun h => h.1 rfl)]; exact hp1, fun i hi hia => ?_⟩
      rw [hR i hi]
      cases e : zb (f i) p with
      | true => rw [if_pos ⟨hia, rfl⟩, zb_xor, e, hp1]; rfl
      | false => rw [if_neg (by simp)]; exact e
    · simp only [if_neg hak]
      have hfa : f a ≠ 0 := fun e => hne (by rw [hR a (by omega), if_neg (by rw [e, zb_zero]; simp)]; exact e)
      obtain ⟨g1, g2⟩ := h a (by omega) hfa
      have hk0 := g2 k hk (fun e => hak e.symm)
      have hz : ∀ i, i < 24 → zb (red1 f k i) (o a) = zb (f i) (o a) := fun i hi => by
        rw [hR i hi]
        split
        · rw [zb_xor, hk0, Bool.xor_false]
        · rfl
      exact ⟨by rw [hz a (by omega)]; exact g1, fun i hi hia => by rw [hz i hi]; exact g2 i hi hia⟩
theorem redN_own {f : Nat → Int32} : ∀ k, k ≤ 24 → ∃ o : Nat → Nat, ∀ a, a < k → redN f k a ≠ 0 → zb (redN f k a) (o a) = true ∧ ∀ i, i < 24 → i ≠ a → zb (redN f k i) (o a) = false
  | 0, _ => ⟨fun _ => 0, fun a ha => by omega⟩
  | k + 1, hk => by
    obtain ⟨o, h⟩ := redN_own (f := f) k (by omega)
    exact red1_own (by omega) h
theorem red1_sp {f : Nat → Int32} {k : Nat} (hk : k < 24) : (∀ i, i < 24 → inSp f 24 (red1 f k i)) ∧ ∀ i, i < 24 → inSp (red1 f k) 24 (f i) := by
  have hkk : red1 f k k = f k := by rw [(red1_at hk).1, if_neg (fun h => h.1 rfl)]
  refine ⟨fun i hi => ?_, fun i hi => ?_⟩
  · rw [(red1_at hi).1]
    split
    · exact inSp_xor (inSp_row hi) (inSp_row hk)
    · exact inSp_row hi
  · by_cases h : i ≠ k ∧ ¬ f i &&& (f k &&& -f k) = 0
    · have e : f i = red1 f k i ^^^ red1 f k k := by
        rw [hkk, (red1_at hi).1, if_pos h, i32_xor_assoc, i32_xor_self, i32_xor_zero]
      rw [e]
      exact inSp_xor (inSp_row hi) (inSp_row hk)
    · have e : f i = red1 f k i := by rw [(red1_at hi).1, if_neg h]
      rw [e]
      exact inSp_row hi
theorem redN_sp {f : Nat → Int32} : ∀ k, k ≤ 24 → ∀ s, inSp (redN f k) 24 s ↔ inSp f 24 s
  | 0, _, s => Iff.rfl
  | k + 1, hk, s => by
    have h1 := red1_sp (f := redN f k) (k := k) (by omega)
    have h2 := redN_sp (f := f) k (by omega) s
    exact ⟨fun h => h2.mp (inSp_of h1.1 h), fun h => inSp_of h1.2 (h2.mpr h)⟩
/-- what holds of rows and stays: within n, apart from what is known, numbers as they are -/
def rowsOK (n : Nat) (ch f g : Nat → Int32) : Prop := ∀ i, i < 24 → zlim n (g i) ∧ (∀ k, zb (f 0) k = true → zb (g i) k = false) ∧ g (24 + i) = xs ch (g i)
theorem red1_OK {n : Nat} {ch f g : Nat → Int32} {k : Nat} (hk : k < 24) (h : rowsOK n ch f g) : rowsOK n ch f (red1 g k) := by
  intro i hi
  obtain ⟨a1, a2⟩ := red1_at (f := g) (a := k) hi
  obtain ⟨b1, b2, b3⟩ := h i hi
  obtain ⟨c1, c2, c3⟩ := h k hk
  rw [a1, a2]
  split
  · exact ⟨zlim_xor b1 c1, fun j hj => by rw [zb_xor, b2 j hj, c2 j hj]; rfl, by rw [xs_xor, b3, c3]⟩
  · exact ⟨b1, b2, b3⟩
theorem redN_OK {n : Nat} {ch f g : Nat → Int32} (h : rowsOK n ch f g) : ∀ k, k ≤ 24 → rowsOK n ch f (redN g k)
  | 0, _ => h
  | k + 1, hk => red1_OK (by omega) (redN_OK h k (by omega))
theorem redN_hi {g : Nat → Int32} : ∀ k j, 48 ≤ j → redN g k j = g j
  | 0, _, _ => rfl
  | k + 1, j, hj => by
    simp only [redN, red1, redI]
    rw [if_neg (by omega), if_neg (by omega)]
    exact redN_hi k j hj

theorem zb_mskOf {p : Nat → Bool} : ∀ {n : Nat}, n ≤ 32 → ∀ k, zb (mskOf p n) k = (decide (k < n) && p k)
  | 0, _, k => by simp [mskOf, zb_zero]
  | n + 1, hn, k => by
    unfold mskOf
    have ih := zb_mskOf (p := p) (n := n) (by omega) k
    rcases Nat.lt_trichotomy k n with g | g | g
    · split
      · rw [zb_or, ih, zb_bt (by omega)]
        have e1 : decide (k = n) = false := by simp; omega
        have e2 : decide (k < n) = true := by simp; omega
        have e3 : decide (k < n + 1) = true := by simp; omega
        rw [e1, e2, e3]; simp
      · rw [ih]
        have e2 : decide (k < n) = true := by simp; omega
        have e3 : decide (k < n + 1) = true := by simp; omega
        rw [e2, e3]
    · subst g
      split
      · rename_i h
        rw [zb_or, ih, zb_bt (by omega), h]; simp
      · rename_i h
        rw [ih]
        have h' : p k = false := by simpa using h
        rw [h']; simp
    · have e2 : decide (k < n) = false := by simp; omega
      have e3 : decide (k < n + 1) = false := by simp; omega
      rw [e3]
      split
      · rw [zb_or, ih, zb_bt (by omega), e2]
        simp; omega
      · rw [ih, e2]
theorem knowAll_0 {f ch : Nat → Int32} : knowAll f ch 0 = f := by
  have h0 : ∀ a : Int32, a &&& 0 = 0 := fun a => zb_ext (fun k _ => by rw [zb_and, zb_zero]; simp)
  have h1 : ∀ a : Int32, a ||| 0 = a := fun a => zb_ext (fun k _ => by rw [zb_or, zb_zero]; simp)
  funext j
  simp only [knowAll, h0, h1, xs_zero, i32_xor_zero, zb_zero]
  by_cases hj : j = 0
  · subst hj; simp
  · simp [hj]
theorem xs_and_bt {ch : Nat → Int32} {s M : Int32} {c : Nat} (hc : c < 16) (hM : zb M c = false) : xs ch (s &&& (M ||| bt c)) = xs ch (s &&& M) ^^^ (if zb s c then ch c else 0) := by
  have e : s &&& (M ||| bt c) = (s &&& M) ^^^ (if zb s c then bt c else 0) := by
    apply zb_ext
    intro k hk
    rw [zb_and, zb_or, zb_bt (by omega), zb_xor, zb_and]
    by_cases hkc : k = c
    · subst hkc
      rw [hM]
      cases h : zb s k with
      | true => simp [zb_bt hk]
      | false => simp [zb_zero]
    · cases h : zb s c with
      | true => simp [zb_bt (show c < 32 by omega), hkc]
      | false => simp [zb_zero, hkc]
  rw [e, xs_xor]
  congr 1
  cases zb s c with
  | true => simp [xs_bt ch hc]
  | false => simp [xs_zero]
theorem knowAll_s {f ch : Nat → Int32} {M : Int32} {c : Nat} (hc : c < 16) (hM : zb M c = false) : knowP (knowAll f ch M) c (ch c) = knowAll f ch (M ||| bt c) := by
  obtain ⟨a1, a2, a3, a4, a5⟩ := knowP_at (f := knowAll f ch M) (v := ch c) hc
  funext j
  by_cases h0 : j = 0
  · subst h0
    rw [a1]
    show (f 0 ||| M) ||| bt c = f 0 ||| (M ||| bt c)
    apply zb_ext
    intro k _
    simp only [zb_or, Bool.or_assoc]
  by_cases h5 : 5 ≤ j ∧ j < 21
  · obtain ⟨k, rfl⟩ : ∃ k, j = 5 + k := ⟨j - 5, by omega⟩
    have e1 : ∀ M', knowAll f ch M' (5 + k) = if zb M' k then ch k else f (5 + k) := fun M' => by
      simp only [knowAll]
      rw [if_neg (by omega), if_pos (by omega), show 5 + k - 5 = k by omega]
    by_cases hk : k = c
    · subst hk
      rw [a3, e1, zb_or, zb_bt (by omega)]
      simp
    · rw [a4 k (by omega) hk, e1, e1, zb_or, zb_bt (by omega)]
      simp [hk]
  by_cases h21 : 21 ≤ j ∧ j < 45
  · obtain ⟨r, rfl⟩ : ∃ r, j = 21 + r := ⟨j - 21, by omega⟩
    have e1 : ∀ M', knowAll f ch M' (21 + r) = f (21 + r) ^^^ (f (21 + r) &&& M') := fun M' => by
      simp only [knowAll]
      rw [if_neg (by omega), if_neg (by omega), if_pos (by omega)]
    rw [(a5 r (by omega)).1, e1, e1]
    have hz : zb (f (21 + r) ^^^ (f (21 + r) &&& M)) c = zb (f (21 + r)) c := by rw [zb_xor, zb_and, hM]; simp
    rw [hz]
    apply zb_ext
    intro k hk
    cases h : zb (f (21 + r)) c with
    | true =>
      simp only [if_true, zb_xor, zb_and, zb_or, zb_bt (show c < 32 by omega)]
      by_cases e : k = c
      · subst e; simp [h, hM]
      · simp [e]
    | false =>
      simp only [Bool.false_eq_true, if_false, zb_xor, zb_and, zb_or, zb_bt (show c < 32 by omega)]
      by_cases e : k = c
      · subst e; simp [h]
      · simp [e]
  by_cases h45 : 45 ≤ j ∧ j < 69
  · obtain ⟨r, rfl⟩ : ∃ r, j = 45 + r := ⟨j - 45, by omega⟩
    have e1 : ∀ M', knowAll f ch M' (45 + r) = f (45 + r) ^^^ xs ch (f (21 + r) &&& M') := fun M' => by
      simp only [knowAll]
      rw [if_neg (by omega), if_neg (by omega), if_neg (by omega), if_pos (by omega), show 45 + r - 24 = 21 + r by omega]
    have e2 : knowAll f ch M (21 + r) = f (21 + r) ^^^ (f (21 + r) &&& M) := by
      simp only [knowAll]
      rw [if_neg (by omega), if_neg (by omega), if_pos (by omega)]
    rw [(a5 r (by omega)).2, e1, e1, e2]
    have hz : zb (f (21 + r) ^^^ (f (21 + r) &&& M)) c = zb (f (21 + r)) c := by rw [zb_xor, zb_and, hM]; simp
    rw [hz, xs_and_bt hc hM]
    cases h : zb (f (21 + r)) c with
    | true => simp [i32_xor_assoc]
    | false => simp [i32_xor_zero]
  · have e1 : ∀ M', knowAll f ch M' j = f j := fun M' => by
      simp only [knowAll]
      rw [if_neg h0, if_neg h5, if_neg h21, if_neg h45]
    rw [e1]
    have : knowP (knowAll f ch M) c (ch c) j = knowAll f ch M j := by
      simp only [knowP, knowA]
      rw [if_neg h0, if_neg (by omega), if_neg (by omega), if_neg (by omega)]
    rw [this, e1]
/-- the mask of the single places among the rows ahead of i -/
def mskR (R : Nat → Int32) : Nat → Int32
  | 0 => 0
  | i + 1 => if isSg (R i) then mskR R i ||| R i else mskR R i
theorem solve_rows {n : Nat} {ch f R : Nat → Int32} {m : Nat} (hJ : zCJ n ch f m) (hR : zRW n ch f R) : ∀ i, i ≤ 24 → lsP f R i = knowAll f ch (mskR R i) ∧ zcnt (zb (mskR R i)) 16 = zcnt (fun j => isSg (R j)) i ∧
    ∀ k, zb (mskR R i) k = true ↔ ∃ j, j < i ∧ isSg (R j) = true ∧ R j = bt k ∧ k < n
  | 0, _ => ⟨knowAll_0.symm, by show zcnt (zb 0) 16 = 0; decide, fun k => by simp [mskR, zb_zero]⟩
  | i + 1, hi => by
    obtain ⟨h1, h2, h3⟩ := solve_rows hJ hR i (by omega)
    cases hs : isSg (R i) with
    | false =>
      have e1 : lsP f R (i + 1) = lsP f R i := by simp [lsP, hs]
      have e2 : mskR R (i + 1) = mskR R i := by simp [mskR, hs]
      have e3 : zcnt (fun j => isSg (R j)) (i + 1) = zcnt (fun j => isSg (R j)) i := by simp [zcnt, hs]
      refine ⟨by rw [e1, e2]; exact h1, by rw [e2, e3]; exact h2, fun k => ?_⟩
      rw [e2, h3 k]
      constructor
      · rintro ⟨j, a, b⟩; exact ⟨j, by omega, b⟩
      · rintro ⟨j, a, b, c⟩
        rcases Nat.lt_or_ge j i with g | g
        · exact ⟨j, g, b, c⟩
        · rw [show j = i by omega, hs] at b; cases b
    | true =>
      obtain ⟨g1, g2, g3⟩ := hR.1 i (by omega)
      obtain ⟨s1, s2, s3⟩ := sg_one hJ.1 g1 hs
      have hn := hJ.1
      have hv : R (24 + i) = ch (zlow (R i)) := by
        rw [g3]
        conv => lhs; rw [s1]
        exact xs_bt ch (by omega)
      have hno : zb (mskR R i) (zlow (R i)) = false := by
        cases hz : zb (mskR R i) (zlow (R i)) with
        | false => rfl
        | true =>
          obtain ⟨j, a, b, c, -⟩ := (h3 _).mp hz
          exact absurd (c.trans s1.symm) (hR.2 j i a (by omega) b hs)
      have e1 : lsP f R (i + 1) = knowP (lsP f R i) (zlow (R i)) (R (24 + i)) := by simp [lsP, hs]
      have e2 : mskR R (i + 1) = mskR R i ||| bt (zlow (R i)) := by
        simp only [mskR, hs, if_true]
        rw [← s1]
      have e3 : zcnt (fun j => isSg (R j)) (i + 1) = zcnt (fun j => isSg (R j)) i + 1 := by simp [zcnt, hs]
      refine ⟨by rw [e1, e2, hv, h1, knowAll_s (by omega) hno], by rw [e2, e3, zcnt_or_bt (by omega) hno, h2], fun k => ?_⟩
      rw [e2, zb_or, zb_bt (by omega)]
      constructor
      · intro h
        by_cases e : k = zlow (R i)
        · subst e; exact ⟨i, by omega, hs, s1, s2⟩
        · simp [e] at h
          obtain ⟨j, a, b⟩ := (h3 k).mp h
          exact ⟨j, by omega, b⟩
      · rintro ⟨j, a, b, c, d⟩
        rcases Nat.lt_or_ge j i with g | g
        · rw [(h3 k).mpr ⟨j, g, b, c, d⟩]; rfl
        · have hji : j = i := by omega
          subst hji
          have : zlow (R j) = k := by rw [c]; exact zlow_bt (by omega)
          rw [this]; simp

/-- the rows that a cup's droplets are brought to -/
def rowsOf (f : Nat → Int32) : Nat → Int32 := fun j => if j < 48 then f (21 + j) else 0
def redF (f : Nat → Int32) : Nat → Int32 := redN (rowsOf f) 24
theorem isSg_bt {c : Nat} (hc : c < 16) : isSg (bt c) = true := by simp [isSg, zcnt_bt hc]
theorem rows_OK {n : Nat} {ch f : Nat → Int32} {m : Nat} (hJ : zCJ n ch f m) : rowsOK n ch f (rowsOf f) := by
  intro i hi
  obtain ⟨a1, a2, a3, -⟩ := hJ.2.2.2.2.2 i hi
  have e1 : rowsOf f i = f (21 + i) := by simp only [rowsOf]; rw [if_pos (by omega)]
  have e2 : rowsOf f (24 + i) = f (45 + i) := by simp only [rowsOf]; rw [if_pos (by omega)]; congr 1; omega
  rw [e1, e2]
  exact ⟨a1, a2, a3⟩
theorem folB_iff {f : Nat → Int32} {k : Nat} : folB f k = true ↔ inSp (fun i => f (21 + i)) 24 (bt k) := by
  unfold folB
  exact @decide_eq_true_iff _ (Classical.propDecidable _)
theorem rows_sp {f : Nat → Int32} {s : Int32} : inSp (rowsOf f) 24 s ↔ inSp (fun i => f (21 + i)) 24 s := by
  have e : ∀ i, i < 24 → rowsOf f i = f (21 + i) := fun i hi => by simp only [rowsOf]; rw [if_pos (by omega)]
  constructor
  · intro h
    refine inSp_of (fun i hi => ?_) h
    rw [e i hi]
    exact inSp_row (g := fun i => f (21 + i)) hi
  · intro h
    refine inSp_of (fun i hi => ?_) h
    show inSp (rowsOf f) 24 (f (21 + i))
    rw [← e i hi]
    exact inSp_row hi
theorem class_solve {n : Nat} {ch f : Nat → Int32} {m : Nat} (hJ : zCJ n ch f m) : zRW n ch f (redF f) ∧ solP f (redF f) = slvP f ch ∧ zcnt (fun i => isSg (redF f i)) 24 = zcnt (zb (folM f)) 16 := by
  have hOK : rowsOK n ch f (redF f) := redN_OK (rows_OK hJ) 24 (by omega)
  obtain ⟨o, ho⟩ := redN_own (f := rowsOf f) 24 (by omega)
  have hown : ownR (redF f) 24 o := ho
  have hsp : ∀ s, inSp (redF f) 24 s ↔ inSp (fun i => f (21 + i)) 24 s := fun s => (redN_sp 24 (by omega) s).trans rows_sp
  have hn := hJ.1
  have hRW : zRW n ch f (redF f) := by
    refine ⟨hOK, fun i j hij hj hi1 hj1 e => ?_⟩
    have hne : redF f i ≠ 0 := fun e0 => by
      rw [e0] at hi1
      exact absurd hi1 (by decide)
    have h1 := hown i (by omega) hne
    have h2 := h1.2 j hj (by omega)
    rw [← e, h1.1] at h2
    cases h2
  obtain ⟨s1, s2, s3⟩ := solve_rows hJ hRW 24 (by omega)
  have hM : folM f = mskR (redF f) 24 := by
    apply zb_ext
    intro k hk
    unfold folM
    rw [zb_mskOf (by omega)]
    cases hz : zb (mskR (redF f) 24) k with
    | true =>
      obtain ⟨j, hj, hs, e, hkn⟩ := (s3 k).mp hz
      have : folB f k = true := folB_iff.mpr ((hsp _).mp (by rw [← e]; exact inSp_row hj))
      rw [this]
      simp; omega
    | false =>
      cases hk16 : decide (k < 16) with
      | false => rfl
      | true =>
        have hk16' : k < 16 := by simpa using hk16
        cases hB : folB f k with
        | false => rfl
        | true =>
          exfalso
          obtain ⟨a, ha, e⟩ := unit_row hown (by omega) ((hsp _).mpr (folB_iff.mp hB))
          have hkn : k < n := by
            rcases Nat.lt_or_ge k n with g | g
            · exact g
            · have h1 := (hOK a ha).1 k g
              rw [e, zb_bt hk] at h1
              simp at h1
          have := (s3 k).mpr ⟨a, ha, by rw [e]; exact isSg_bt hk16', e, hkn⟩
          rw [hz] at this
          cases this
  refine ⟨hRW, ?_, by rw [hM, s2]⟩
  unfold solP slvP
  rw [s1, hM]
theorem folM_lim {n : Nat} {ch f : Nat → Int32} {m : Nat} (hJ : zCJ n ch f m) : zlim n (folM f) ∧ ∀ k, zb (f 0) k = true → zb (folM f) k = false := by
  obtain ⟨hRW, -, -⟩ := class_solve hJ
  have hOK := hRW.1
  have hsp : ∀ s, inSp (redF f) 24 s ↔ inSp (fun i => f (21 + i)) 24 s := fun s => (redN_sp 24 (by omega) s).trans rows_sp
  have key : ∀ k, zb (folM f) k = true → k < 16 ∧ inSp (redF f) 24 (bt k) := fun k h => by
    unfold folM at h
    rw [zb_mskOf (by omega)] at h
    simp at h
    exact ⟨h.1, (hsp _).mpr (folB_iff.mp h.2)⟩
  refine ⟨fun k hk => ?_, fun k hk => ?_⟩
  · cases hz : zb (folM f) k with
    | false => rfl
    | true =>
      obtain ⟨h1, h2⟩ := key k hz
      have := h2 (zlim n) (zlim_zero n) (fun a b => zlim_xor) (fun i hi => (hOK i hi).1) k hk
      rw [zb_bt (by omega)] at this
      simp at this
  · cases hz : zb (folM f) k with
    | false => rfl
    | true =>
      obtain ⟨h1, h2⟩ := key k hz
      have := h2 (fun s => zb s k = false) (zb_zero k) (fun a b ha hb => by rw [zb_xor, ha, hb]; rfl) (fun i hi => (hOK i hi).2.1 k hk)
      rw [zb_bt (by omega)] at this
      simp at this
/-- what a cup is behind solving -/
theorem zCJ_all {n : Nat} {ch f : Nat → Int32} {m : Nat} (hJ : zCJ n ch f m) : zCJ n ch (knowAll f ch (folM f)) m ∧ zCI n ch (slvP f ch) := by
  obtain ⟨hRW, h2, -⟩ := class_solve hJ
  have h3 := lsP_J hJ hRW 24 (by omega)
  have hOK := hRW.1
  have e : knowAll f ch (folM f) = lsP f (redF f) 24 := by
    obtain ⟨o, ho⟩ := redN_own (f := rowsOf f) 24 (by omega)
    obtain ⟨s1, s2, s3⟩ := solve_rows hJ hRW 24 (by omega)
    have : folM f = mskR (redF f) 24 := by
      apply zb_ext
      intro k hk
      have hsp : ∀ s, inSp (redF f) 24 s ↔ inSp (fun i => f (21 + i)) 24 s := fun s => (redN_sp 24 (by omega) s).trans rows_sp
      unfold folM
      rw [zb_mskOf (by omega)]
      cases hz : zb (mskR (redF f) 24) k with
      | true =>
        obtain ⟨j, hj, hs, e, hkn⟩ := (s3 k).mp hz
        have : folB f k = true := folB_iff.mpr ((hsp _).mp (by rw [← e]; exact inSp_row hj))
        have hn := hJ.1
        rw [this]
        simp; omega
      | false =>
        cases hk16 : decide (k < 16) with
        | false => rfl
        | true =>
          have hk16' : k < 16 := by simpa using hk16
          cases hB : folB f k with
          | false => rfl
          | true =>
            exfalso
            obtain ⟨a, ha, e⟩ := unit_row (show ownR (redF f) 24 o from ho) (by omega) ((hsp _).mpr (folB_iff.mp hB))
            have hkn : k < n := by
              rcases Nat.lt_or_ge k n with g | g
              · exact g
              · have h1 := (hOK a ha).1 k g
                rw [e, zb_bt hk] at h1
                simp at h1
            have := (s3 k).mpr ⟨a, ha, by rw [e]; exact isSg_bt hk16', e, hkn⟩
            rw [hz] at this
            cases this
    rw [this, ← s1]
  rw [e]
  refine ⟨h3.1, ?_⟩
  unfold slvP
  rw [e]
  exact zCI_peelP 24 _ m hJ.2.1 h3.1
theorem slvP_hi {n : Nat} {ch f : Nat → Int32} {m : Nat} (hJ : zCJ n ch f m) : ∀ j, 69 ≤ j → slvP f ch j = f j := fun j hj => by
  unfold slvP
  rw [peelP_hi 24 _ m (zCJ_all hJ).1 j hj]
  simp only [knowAll]
  rw [if_neg (by omega), if_neg (by omega), if_neg (by omega), if_neg (by omega)]
