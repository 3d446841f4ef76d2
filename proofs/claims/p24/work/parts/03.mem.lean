def zst (G : zG) (q : Nat) (f : Nat → Int32) : zG := fun x => if x = q then f else G x
theorem zst_same (G : zG) (q : Nat) (f : Nat → Int32) : zst G q f q = f := by simp [zst]
theorem zst_ne (G : zG) {q r : Nat} (f : Nat → Int32) (h : r ≠ q) : zst G q f r = G r := by simp [zst, h]
theorem zst_zst (G : zG) (q : Nat) (f g : Nat → Int32) : zst (zst G q f) q g = zst G q g := by
  funext x; by_cases h : x = q <;> simp [zst, h]
theorem zst_self (G : zG) (q : Nat) : zst G q (G q) = G := by
  funext x; by_cases h : x = q <;> simp [zst, h]
theorem zst_comm (G : zG) {q r : Nat} (f g : Nat → Int32) (h : q ≠ r) : zst (zst G q f) r g = zst (zst G r g) q f := by
  funext x
  by_cases h1 : x = q
  · subst h1; simp [zst, h]
  · by_cases h2 : x = r
    · subst h2; simp [zst, h1]
    · simp [zst, h1, h2]
theorem zpl_at {L : zL} {q t rel i : Nat} {cd : zCD} (hq : (q, t) ∈ L) (hi : (zbT t)[i]? = some (rel, cd)) : ∃ k : Nat, (zpl L)[k]? = some (q, rel, cd) :=
  List.getElem?_of_mem (List.mem_flatMap.mpr ⟨(q, t), hq, List.mem_map.mpr ⟨(rel, cd), List.mem_of_getElem? hi, rfl⟩⟩)
theorem zcs_at {D : zD} {L : zL} {G : zG} {k q rel : Nat} {cd : zCD} (h : (zpl L)[k]? = some (q, rel, cd)) : (zcs D L G)[k]? = some (q + rel, zce D q (G q) cd) := by
  unfold zcs
  rw [List.getElem?_map, h]
  rfl
def zlead : List Nat → Nat
  | [] => 0
  | z :: r => if zlead r = 0 then (if z < 2 then 1 else 0) else zlead r + 1
theorem zlead_at : ∀ {l : List Nat} {k z : Nat}, l[k]? = some z → z < 2 → k < zlead l
  | [], k, z, h, _ => by simp at h
  | a :: r, 0, z, h, hz => by
    simp at h
    subst h
    unfold zlead
    split <;> simp_all
  | a :: r, k + 1, z, h, hz => by
    have h1 : r[k]? = some z := by simpa using h
    have h2 := zlead_at h1 hz
    unfold zlead
    rw [if_neg (by omega)]
    omega
def zrg : zCD → Nat × Nat
  | .inl c => (0, zlead c.2)
  | .inr c => (c.2.2.1, c.2.2.1 + c.2.1)
theorem zfl_congr {q : Nat} {f g : Nat → Int32} : ∀ (l : List Nat) (s : Nat), (∀ j, s ≤ j → j < s + zlead l → f j = g j) → zfl q f s l = zfl q g s l
  | [], _, _ => rfl
  | z :: r, s, h => by
    have hl : zlead r = 0 ∨ zlead (z :: r) = zlead r + 1 := by
      by_cases h0 : zlead r = 0
      · exact Or.inl h0
      · exact Or.inr (by simp [zlead, h0])
    have h1 := zfl_congr (q := q) (f := f) (g := g) r (s + 1) (fun j a b => h j (by omega) (by rcases hl with hl | hl <;> omega))
    have h2 : zfv q f s z = zfv q g s z := by
      by_cases hz : z < 2
      · have h0 : f s = g s := h s (Nat.le_refl _) (by
          have := zlead_at (l := z :: r) (k := 0) (z := z) rfl hz
          omega)
        match z, hz with
        | 0, _ => simp [zfv, h0]
        | 1, _ => simp [zfv, h0]
      · match z, hz with
        | k + 2, _ => rfl
    simp [zfl, h1, h2]
theorem zce_congr {D : zD} {q : Nat} {f g : Nat → Int32} : ∀ {cd : zCD}, (∀ j, (zrg cd).1 ≤ j → j < (zrg cd).2 → f j = g j) → zce D q f cd = zce D q g cd
  | .inl c, h => by
    show Sum.inr (c.1, zfl q f 0 c.2) = Sum.inr (c.1, zfl q g 0 c.2)
    rw [zfl_congr c.2 0 (fun j a b => h j a (by simpa [zrg] using b))]
  | .inr (ta, n, off, a, b), h => by
    have h' : ∀ j, j < n → f (off + j) = g (off + j) := fun j hj => h (off + j) (by simp [zrg]) (by simp [zrg]; omega)
    have e1 : zai n off f = zai n off g := by
      funext j
      by_cases hj : j < n <;> simp [zai, hj]
      exact h' j hj
    have e2 : zar q n off a b f = zar q n off a b g := by
      funext j
      by_cases hj : j < n <;> simp [zar, hj]
      rw [h' j hj]
    simp only [zce, zac, e1, e2]
def zokb (t : Nat) : Bool := (zbT t).all fun c => (zbT t).all fun d => c.1 == d.1 || decide ((zrg c.2).2 ≤ (zrg d.2).1) || decide ((zrg d.2).2 ≤ (zrg c.2).1)
set_option maxRecDepth 100000 in
theorem zok : ∀ t, zokb t = true := by
  intro t
  unfold zokb zbT
  split <;> first | decide +kernel | skip
  split <;> simp
theorem zok_at {t rel r : Nat} {cd c : zCD} (h : (rel, cd) ∈ zbT t) (h2 : (r, c) ∈ zbT t) (hne : r ≠ rel) : (zrg cd).2 ≤ (zrg c).1 ∨ (zrg c).2 ≤ (zrg cd).1 := by
  have h0 := zok t
  unfold zokb at h0
  have h3 := List.all_eq_true.mp (List.all_eq_true.mp h0 _ h) _ h2
  simp only [Bool.or_eq_true, beq_iff_eq, decide_eq_true_eq] at h3
  rcases h3 with (h3 | h3) | h3
  · exact absurd h3.symm hne
  · exact Or.inl h3
  · exact Or.inr h3
theorem zpl_mem {L : zL} {q rel : Nat} {cd : zCD} (h : (q, rel, cd) ∈ zpl L) : ∃ t, (q, t) ∈ L ∧ (rel, cd) ∈ zbT t := by
  obtain ⟨b, hb, h⟩ := List.mem_flatMap.mp h
  obtain ⟨c, hc, h⟩ := List.mem_map.mp h
  cases h
  exact ⟨b.2, hb, hc⟩
/-- a write into one cell of a blob -/
theorem zcs_set {D : zD} {B : Nat} {L : zL} {nx : Nat} {G : zG} {q t rel k i : Nat} {cd : zCD} {f : Nat → Int32} (hD : va_D (fun q => B ≤ q) (zcs D L G)) (hf : zfun L nx) (hq : (q, t) ∈ L) (hi : (zbT t)[i]? = some (rel, cd)) (hk : (zpl L)[k]? = some (q, rel, cd))
    (hs : ∀ j, ¬ ((zrg cd).1 ≤ j ∧ j < (zrg cd).2) → f j = G q j) : zcs D L (zst G q f) = (zcs D L G).set k (q + rel, zce D q f cd) := by
  apply List.ext_getElem?
  intro j
  rw [List.getElem?_set]
  by_cases hj : k = j
  · subst hj
    rw [if_pos rfl, zcs_at hk, zst_same]
    have hl : k < (zcs D L G).length := (List.getElem?_eq_some_iff.mp (zcs_at (D := D) (G := G) hk)).1
    rw [if_pos hl]
  · rw [if_neg hj]
    cases hp : (zpl L)[j]? with
    | none => simp [zcs, hp]
    | some p =>
      obtain ⟨q', rel', cd'⟩ := p
      rw [zcs_at hp, zcs_at hp]
      by_cases hqq : q' = q
      · subst hqq
        obtain ⟨t', ht', hc'⟩ := zpl_mem (List.mem_of_getElem? hp)
        have htt : t' = t := hf.1 _ _ _ ht' hq
        subst htt
        have hrr : rel' ≠ rel := fun e => by
          subst e
          exact hj (hD.1 k j _ _ (zcs_at hk) (zcs_at hp) rfl)
        rw [zst_same]
        have h3 := zok_at (List.mem_of_getElem? hi) hc' hrr
        rw [zce_congr (g := G q') (fun j' a b => hs j' (by omega))]
      · rw [zst_ne _ _ hqq]
theorem zW_of {D : zD} {B : Nat} {L : zL} {nx : Nat} {G : zG} {H H1 : Heap} {q t rel k i : Nat} {cd : zCD} {f : Nat → Int32} (hW : zW D B L nx G H) (hq : (q, t) ∈ L) (hi : (zbT t)[i]? = some (rel, cd)) (hk : (zpl L)[k]? = some (q, rel, cd))
    (hs : ∀ j, ¬ ((zrg cd).1 ≤ j ∧ j < (zrg cd).2) → f j = G q j) (z : H1.size = H.size) (hP : va_P D.1 vwCl ((zcs D L G).set k (q + rel, zce D q f cd)) H1) : zW D B L nx (zst G q f) H1 := by
  obtain ⟨h1, h2, h3, h4⟩ := hW
  have e := zcs_set h3 h4 hq hi hk hs
  refine ⟨z.trans h1, by rw [e]; exact hP, ?_, h4⟩
  rw [e]
  exact h3.set (zcs_at hk)
theorem zfl_get {q : Nat} {f : Nat → Int32} : ∀ {l : List Nat} {k s z : Nat}, l[k]? = some z → (zfl q f s l)[k]? = some (zfv q f (s + k) z)
  | [], k, s, z, h => by simp at h
  | a :: r, 0, s, z, h => by
    simp at h
    subst h
    rfl
  | a :: r, k + 1, s, z, h => by
    have h1 : r[k]? = some z := by simpa using h
    have h2 := zfl_get (q := q) (f := f) (s := s + 1) h1
    rw [show s + (k + 1) = s + 1 + k by omega]
    simpa [zfl] using h2
theorem zfl_len {q : Nat} {f : Nat → Int32} : ∀ {l : List Nat} {s : Nat}, (zfl q f s l).length = l.length
  | [], _ => rfl
  | a :: r, s => by simp [zfl, zfl_len (l := r) (s := s + 1)]
theorem zfl_set {q : Nat} {f : Nat → Int32} {v : Int32} : ∀ {l : List Nat} {k s z : Nat}, l[k]? = some z → zfl q (upd f (s + k) v) s l = (zfl q f s l).set k (zfv q (upd f (s + k) v) (s + k) z)
  | [], k, s, z, h => by simp at h
  | a :: r, 0, s, z, h => by
    simp at h
    subst h
    have h1 := zfl_congr (q := q) (f := upd f (s + 0) v) (g := f) r (s + 1) (fun j a b => by simp only [upd]; rw [if_neg (by omega)])
    simp only [Nat.add_zero] at h1
    simp [zfl, h1]
  | a :: r, k + 1, s, z, h => by
    have h1 : r[k]? = some z := by simpa using h
    have h2 := zfl_set (q := q) (f := f) (v := v) (s := s + 1) h1
    have e : s + (k + 1) = s + 1 + k := by omega
    rw [e]
    have h0 : zfv q (upd f (s + 1 + k) v) s a = zfv q f s a := by
      have h5 : upd f (s + 1 + k) v s = f s := by simp only [upd]; rw [if_neg (by omega)]
      match a with
      | 0 => simp [zfv, h5]
      | 1 => simp [zfv, h5]
      | b + 2 => rfl
    simp only [zfl, List.set_cons_succ, h0]
    rw [h2]
def zFL (own : String) (ix ci k : Nat) : Prop := ∃ (C : String) (T : u_T) (N : Nat), vwCl[ci]? = some (C, T, N) ∧ k < N ∧ Cond.fieldLink own ix (T k).1 (T k).2.1 (T k).2.2.1 ∈ zgw ∧ ∀ w ∈ u_ws C T N, w ∈ zgw
def zFLN (own : String) (ix ci k : Nat) : Prop := ∃ (C : String) (T : u_T) (N : Nat) (host : String), vwCl[ci]? = some (C, T, N) ∧ k < N ∧ Cond.fieldLinkNest own ix (T k).1 (T k).2.1 (T k).2.2.1 host ∈ zbw ∧ ∀ w ∈ u_ws C T N, w ∈ zgw
def zFT (own : String) (ci k : Nat) (ty : FieldType) (fin : Bool) : Prop := ∃ (C : String) (T : u_T) (N : Nat) (ty0 : Nat → FieldType), vwCl[ci]? = some (C, T, N) ∧ (∀ k, k < N → parseFieldDescriptor (T k).2.2.1 = some (ty0 k)) ∧ (∀ a, a < N → ∀ b, b < N → a ≠ b → (T a).2.1 ≠ (T b).2.1) ∧ (T k).2.2.2 = fin ∧ parseFieldDescriptor (T k).2.2.1 = some ty ∧ (fin = true → (T k).1 = own)
/-- the words of a call: link, code, class -/
def zML (own : String) (ix : Nat) (y : MethodName) (cc' : ByteArray) (nL' : Nat) (ret' : Option FieldType) (np : Nat) : Prop :=
  Cond.methodLink own ix y ∈ zgw ∧ Cond.code y cc' nL' ret' ∈ zgw ∧ Cond.initialized y.cls ∈ zgw ∧ y.cls ≠ "java/lang/invoke/MethodHandle" ∧ y.cls ≠ "java/lang/invoke/VarHandle" ∧ (parseMethodDescriptor y.desc).map (fun d => d.parameters.length) = some np
def zMLN (own : String) (ix : Nat) (y : MethodName) (cc' : ByteArray) (nL' : Nat) (ret' : Option FieldType) (np : Nat) : Prop :=
  (∃ host : String, Cond.methodLinkNest own ix y host ∈ zbw) ∧ Cond.code y cc' nL' ret' ∈ zgw ∧ Cond.initialized y.cls ∈ zgw ∧ y.cls ≠ "java/lang/invoke/MethodHandle" ∧ y.cls ≠ "java/lang/invoke/VarHandle" ∧ (parseMethodDescriptor y.desc).map (fun d => d.parameters.length) = some np
def zix (j : Int32) (i n : Nat) : Prop := ¬ j < 0 ∧ j.toNatClampNeg = i ∧ i < n
theorem zix_in {j : Int32} {i n : Nat} (h : zix j i n) : vp_in j n := by
  rintro (h1 | h1)
  · exact h.1 h1
  · rw [h.2.1] at h1
    exact absurd h.2.2 (Nat.not_lt.mpr h1)
theorem zix_nI {i n : Nat} (h : i < n) (hn : n < 2 ^ 31) : zix (nI i) i n := by
  have h1 := vp_in_nI h (by omega : n < 2 ^ 31)
  exact ⟨fun h2 => h1 (Or.inl h2), nI_clamp (by omega), h⟩
section ZMEM
variable {l : Launch} {X0 : State → Prop} {D : zD} {B : Nat} {own mn : String} {cc : ByteArray} {nL : Nat} {ret : Option FieldType} {R : Room} {post : zP} {k n : Nat} {L : zL} {nx : Nat} {pc : Nat} {lv : List (Option Value)} {st : List Value} {G : zG}
theorem zv_get {q t ci fk ix f : Nat} {fks : List Nat} (hq : (q, t) ∈ L) (ho : (zbT t)[0]? = some (0, .inl (ci, fks))) (fl : zFL own ix ci f) (hk : fks[f]? = some fk) (hd : decode cc pc = .ok (.getfield ix, 3))
    (kk : zV l X0 D B own mn cc nL ret R post k n L nx (pc + 3) lv (zfv q (G q) f fk :: st) G) : zV l X0 D B own mn cc nL ret R post k n L nx pc lv (.ref q :: st) G := by
  intro p e s m args below meth c H locs ls Q hX hR hl hW hS
  obtain ⟨C, T, N, h1, h2, h3, h4⟩ := fl
  obtain ⟨k0, hk0⟩ := zpl_at hq ho
  have hz := zcs_at (D := D) (G := G) hk0
  exact va_get hX.1 hX.2.1 hX.2.2.2.2.1 h4 hX.2.2.2.1 hX.2.2.2.2.2.1 hW.2.1 k0 (fs := zfl q (G q) 0 fks) hz h1 f h2 (hX.2.2.2.2.1 _ h3) (fun x h => h) (by rw [zfl_get hk, Nat.zero_add]) hd (kk p e s m args below meth c H locs ls Q hX hR hl hW hS)
theorem zv_getI {q t ci ix f : Nat} {fks : List Nat} (hq : (q, t) ∈ L) (ho : (zbT t)[0]? = some (0, .inl (ci, fks))) (fl : zFL own ix ci f) (hk : fks[f]? = some 0) (hd : decode cc pc = .ok (.getfield ix, 3))
    (kk : zV l X0 D B own mn cc nL ret R post k n L nx (pc + 3) lv (.int (G q f) :: st) G) : zV l X0 D B own mn cc nL ret R post k n L nx pc lv (.ref q :: st) G := zv_get hq ho fl hk hd kk
theorem zv_getS {q t ci ix f r : Nat} {fks : List Nat} (hq : (q, t) ∈ L) (ho : (zbT t)[0]? = some (0, .inl (ci, fks))) (fl : zFL own ix ci f) (hk : fks[f]? = some (r + 2)) (hd : decode cc pc = .ok (.getfield ix, 3))
    (kk : zV l X0 D B own mn cc nL ret R post k n L nx (pc + 3) lv (.ref (q + r) :: st) G) : zV l X0 D B own mn cc nL ret R post k n L nx pc lv (.ref q :: st) G := zv_get hq ho fl hk hd kk
theorem zv_getD {q t ci ix f a : Nat} {fks : List Nat} (hq : (q, t) ∈ L) (ho : (zbT t)[0]? = some (0, .inl (ci, fks))) (fl : zFL own ix ci f) (hk : fks[f]? = some 1) (ha : zdr q (G q f) = some a) (hd : decode cc pc = .ok (.getfield ix, 3))
    (kk : zV l X0 D B own mn cc nL ret R post k n L nx (pc + 3) lv (.ref a :: st) G) : zV l X0 D B own mn cc nL ret R post k n L nx pc lv (.ref q :: st) G := zv_get hq ho fl hk hd (by show zV _ _ _ _ _ _ _ _ _ _ _ _ _ _ _ _ _ (va_rf (zdr q (G q f)) :: st) _; rw [ha]; exact kk)
theorem zv_getIN {q t ci ix f : Nat} {fks : List Nat} (hq : (q, t) ∈ L) (ho : (zbT t)[0]? = some (0, .inl (ci, fks))) (fl : zFLN own ix ci f) (hk : fks[f]? = some 0) (hd : decode cc pc = .ok (.getfield ix, 3))
    (kk : zV l X0 D B own mn cc nL ret R post k n L nx (pc + 3) lv (.int (G q f) :: st) G) : zV l X0 D B own mn cc nL ret R post k n L nx pc lv (.ref q :: st) G := by
  intro p e s m args below meth c H locs ls Q hX hR hl hW hS
  obtain ⟨C, T, N, host, h1, h2, h3, h4⟩ := fl
  obtain ⟨k0, hk0⟩ := zpl_at hq ho
  have hz := zcs_at (D := D) (G := G) hk0
  exact va_getN hX.1 hX.2.1 hX.2.2.2.2.1 h4 hX.2.2.2.1 hX.2.2.2.2.2.1 hW.2.1 k0 (fs := zfl q (G q) 0 fks) hz h1 f h2 (va_Nw.use rfl (hX.2.2.2.2.2.2.2.1 _ h3)) (fun x h => h) (v := .int (G q f)) (by rw [zfl_get hk, Nat.zero_add]; rfl) hd (kk p e s m args below meth c H locs ls Q hX hR hl hW hS)
theorem zv_put {q t ci fk ix f : Nat} {fks : List Nat} {w : Value} {v : Int32} {ty : FieldType} (hq : (q, t) ∈ L) (ho : (zbT t)[0]? = some (0, .inl (ci, fks))) (fl : zFL own ix ci f) {ow2 : String} (ft : zFT ow2 ci f ty false) (hk : fks[f]? = some fk) (hf2 : fk < 2) (hw : zfv q (upd (G q) f v) f fk = w) (hn : narrow ty w = w) (hfit : fits ty w = true) (hd : decode cc pc = .ok (.putfield ix, 3))
    (kk : zV l X0 D B own mn cc nL ret R post k n L nx (pc + 3) lv st (zst G q (upd (G q) f v))) : zV l X0 D B own mn cc nL ret R post k n L nx pc lv (w :: .ref q :: st) G := by
  intro p e s m args below meth c H locs ls Q hX hR hl hW hS
  obtain ⟨C, T, N, h1, h2, h3, h4⟩ := fl
  obtain ⟨C', T', N', ty0, g1, g2, g3, g4, g5, -⟩ := ft
  obtain ⟨rfl, rfl, rfl⟩ : C' = C ∧ T' = T ∧ N' = N := by
    have := g1.symm.trans h1
    simp only [Option.some.injEq, Prod.mk.injEq] at this
    exact this
  obtain ⟨k0, hk0⟩ := zpl_at hq ho
  have hz := zcs_at (D := D) (G := G) hk0
  have hlen : f < fks.length := (List.getElem?_eq_some_iff.mp hk).1
  have hlead : f < zlead fks := zlead_at hk (by omega)
  have hap := va_apart (own := own) hX.2.2.2.2.1 h4 ty0 g2 g3 hX.2.2.2.2.2.1 h1
  obtain ⟨r, r1, cell, q1, q2, q3, q4⟩ := hW.2.1 k0 _ hz
  have hr : r = (C', T', N') := Option.some.inj (r1.symm.trans h1)
  subst hr
  obtain ⟨hSl, hfc, kC, hkC, hkind⟩ := hX.2.2.2.2.2.1.1 ci _ h1
  obtain ⟨cf, kf, fi, fd, hi, hsl⟩ := hSl f h2
  have hlay := hX.2.2.2.2.1 _ (h4 _ (u_in_lay h2))
  unfold u_lay at hlay
  rw [if_neg (by rw [g4]; decide)] at hlay
  have hst := (u_facts hfc hkC (u_lays hX.2.2.2.2.1 h4 h2) hi).1
  have h6 := u_store hfc hkC hkind hlay hi g5 hn hfit
  refine W.putK hX.1 hX.2.1 (f := fd) ⟨hX.2.2.2.1, hX.2.2.2.2.1 _ h3, ⟨_, _, _, hi⟩, hst⟩ (by rw [q2]; exact h6) q1 q3 (by rw [hsl]; exact k2_hasslot (q4 f h2)) rfl rfl hd fun H' e1 e2 e3 => ?_
  rw [hsl] at e1 ⊢
  have hne : zfl q (upd (G q) f v) 0 fks = (zfl q (G q) 0 fks).set f w := by
    have := zfl_set (q := q) (f := G q) (v := v) (s := 0) hk
    rw [Nat.zero_add] at this
    rw [this, hw]
  have hP : va_P D.1 vwCl ((zcs D L G).set k0 (q + 0, zce D q (upd (G q) f v) (.inl (ci, fks)))) H' := by
    refine hW.2.1.set hW.2.2.1 hz ?_ e3
    refine ⟨_, h1, t_OB.to (V := updV (vp_V (zfl q (G q) 0 fks)) f w) ⟨_, e1, q2, q3, t_set q4 hap h2 w⟩ (fun j _ => ?_)⟩
    rw [vp_updV_set (by rw [zfl_len]; exact hlen) w j]
    show vp_V _ j = vp_V (zfl q (upd (G q) f v) 0 fks) j
    rw [hne]
  refine kk p e s m args below meth c H' _ ls Q hX hR hl (zW_of hW hq ho hk0 (fun j hj => ?_) e2 hP) (hS.put e2 e3 (hW.2.2.1.2 k0 _ hz))
  show upd (G q) f v j = G q j
  simp only [upd]
  rw [if_neg (fun e => hj (by rw [e]; exact ⟨Nat.zero_le _, hlead⟩))]
theorem zv_putI {q t ci ix f : Nat} {fks : List Nat} {v : Int32} (hq : (q, t) ∈ L) (ho : (zbT t)[0]? = some (0, .inl (ci, fks))) (fl : zFL own ix ci f) {ow2 : String} (ft : zFT ow2 ci f .int false) (hk : fks[f]? = some 0) (hd : decode cc pc = .ok (.putfield ix, 3))
    (kk : zV l X0 D B own mn cc nL ret R post k n L nx (pc + 3) lv st (zst G q (upd (G q) f v))) : zV l X0 D B own mn cc nL ret R post k n L nx pc lv (.int v :: .ref q :: st) G :=
  zv_put hq ho fl ft hk (by omega) (by simp [zfv, upd]) rfl rfl hd kk
theorem zv_putZ {q t ci ix f : Nat} {fks : List Nat} {v : Int32} (hq : (q, t) ∈ L) (ho : (zbT t)[0]? = some (0, .inl (ci, fks))) (fl : zFL own ix ci f) {ow2 : String} (ft : zFT ow2 ci f .boolean false) (hk : fks[f]? = some 0) (hv : v = 0 ∨ v = 1) (hd : decode cc pc = .ok (.putfield ix, 3))
    (kk : zV l X0 D B own mn cc nL ret R post k n L nx (pc + 3) lv st (zst G q (upd (G q) f v))) : zV l X0 D B own mn cc nL ret R post k n L nx pc lv (.int v :: .ref q :: st) G :=
  zv_put hq ho fl ft hk (by omega) (by simp [zfv, upd]) (by rcases hv with rfl | rfl <;> rfl) (by rcases hv with rfl | rfl <;> rfl) hd kk
theorem zv_putF {q t ci ix f a : Nat} {fks : List Nat} {C2 : String} {ty : FieldType} (hq : (q, t) ∈ L) (ho : (zbT t)[0]? = some (0, .inl (ci, fks))) (fl : zFL own ix ci f) (ft : zFT own ci f ty true) (hk : fks[f]? = some 1) (hini : mn = "<init>") (hty : (∃ C2, ty = .object C2) ∨ ∃ t2, ty = .array t2) (ha : q < a) (ha2 : a - q < 2 ^ 31) (hd : decode cc pc = .ok (.putfield ix, 3))
    (kk : zV l X0 D B own mn cc nL ret R post k n L nx (pc + 3) lv st (zst G q (upd (G q) f (nI (a - q))))) : zV l X0 D B own mn cc nL ret R post k n L nx pc lv (.ref a :: .ref q :: st) G := by
  intro p e s m args below meth c H locs ls Q hX hR hl hW hS
  obtain ⟨C, T, N, h1, h2, h3, h4⟩ := fl
  obtain ⟨C', T', N', ty0, g1, g2, g3, g4, g5, g6⟩ := ft
  obtain ⟨rfl, rfl, rfl⟩ : C' = C ∧ T' = T ∧ N' = N := by
    have := g1.symm.trans h1
    simp only [Option.some.injEq, Prod.mk.injEq] at this
    exact this
  obtain ⟨k0, hk0⟩ := zpl_at hq ho
  have hz := zcs_at (D := D) (G := G) hk0
  have hlen : f < fks.length := (List.getElem?_eq_some_iff.mp hk).1
  have hlead : f < zlead fks := zlead_at hk (by omega)
  have hap := va_apart (own := own) hX.2.2.2.2.1 h4 ty0 g2 g3 hX.2.2.2.2.2.1 h1
  obtain ⟨r, r1, cell, q1, q2, q3, q4⟩ := hW.2.1 k0 _ hz
  have hr : r = (C', T', N') := Option.some.inj (r1.symm.trans h1)
  subst hr
  obtain ⟨hSl, hfc, kC, hkC, hkind⟩ := hX.2.2.2.2.2.1.1 ci _ h1
  obtain ⟨cf, kf, fi, fd, hi, hsl⟩ := hSl f h2
  have hlay := hX.2.2.2.2.1 _ (h4 _ (u_in_lay h2))
  unfold u_lay at hlay
  rw [if_pos g4] at hlay
  have hst := (u_facts hfc hkC (u_lays hX.2.2.2.2.1 h4 h2) hi).1
  have hcf : m.cls = cf := by
    obtain ⟨_, _, c', _, _, _, -, -, hf', -, -, -, hown2, -⟩ := Cond.laysFinal_spec hlay
    have e1 : c' = cf := by have := hi.symm.trans hf'; simp at this; exact this.1.symm
    rw [g6 rfl] at hown2
    rw [← e1]; exact Option.some.inj (hX.2.2.2.1.symm.trans hown2)
  have hn : narrow ty (.ref a) = .ref a := by rcases hty with ⟨c2, rfl⟩ | ⟨c2, rfl⟩ <;> rfl
  have hfit : fits ty (.ref a) = true := by rcases hty with ⟨c2, rfl⟩ | ⟨c2, rfl⟩ <;> rfl
  have h6 := u_fits hfc hkC hkind (Or.inr hlay) hi g5 hn hfit
  refine W.putFinK hX.1 hX.2.1 hX.2.2.2.1 (hX.2.2.2.2.1 _ h3) hi hst hcf (hX.2.2.2.2.2.2.1.trans hini) (by rw [q2]; exact h6) q1 q3 (by rw [hsl]; exact k2_hasslot (q4 f h2)) rfl rfl hd fun H' e1 e2 e3 => ?_
  rw [hsl] at e1 ⊢
  have hw : zfv q (upd (G q) f (nI (a - q))) f 1 = .ref a := by
    have hc := nI_clamp (n := a - q) ha2
    have h0 : nI (a - q) ≠ 0 := fun h => by rw [h] at hc; simp at hc; omega
    have : zdr q (nI (a - q)) = some a := by
      unfold zdr
      rw [if_neg h0, hc]
      congr 1
      omega
    simp [zfv, upd, this, va_rf]
  have hne : zfl q (upd (G q) f (nI (a - q))) 0 fks = (zfl q (G q) 0 fks).set f (.ref a) := by
    have := zfl_set (q := q) (f := G q) (v := nI (a - q)) (s := 0) hk
    rw [Nat.zero_add] at this
    rw [this, hw]
  have hP : va_P D.1 vwCl ((zcs D L G).set k0 (q + 0, zce D q (upd (G q) f (nI (a - q))) (.inl (ci, fks)))) H' := by
    refine hW.2.1.set hW.2.2.1 hz ?_ e3
    refine ⟨_, h1, t_OB.to (V := updV (vp_V (zfl q (G q) 0 fks)) f (.ref a)) ⟨_, e1, q2, q3, t_set q4 hap h2 (.ref a)⟩ (fun j _ => ?_)⟩
    rw [vp_updV_set (by rw [zfl_len]; exact hlen) (.ref a) j]
    show vp_V _ j = vp_V (zfl q (upd (G q) f (nI (a - q))) 0 fks) j
    rw [hne]
  refine kk p e s m args below meth c H' _ ls Q hX hR hl (zW_of hW hq ho hk0 (fun j hj => ?_) e2 hP) (hS.put e2 e3 (hW.2.2.1.2 k0 _ hz))
  show upd (G q) f (nI (a - q)) j = G q j
  simp only [upd]
  rw [if_neg (fun e => hj (by rw [e]; exact ⟨Nat.zero_le _, hlead⟩))]
end ZMEM
