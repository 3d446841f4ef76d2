/-- a text: n codes; beyond it nothing stands -/
def sg (T : Nat → Nat) (n i : Nat) : Nat := if i < n then T i else 0
def zdg (T : Nat → Nat) (n i : Nat) : Bool := decide (48 ≤ sg T n i) && decide (sg T n i ≤ 57)
/-- a number goes on: its value and the place behind it -/
def numL (T : Nat → Nat) (n : Nat) : Nat → Nat → Nat → Nat × Nat
  | v, q, 0 => (v, q)
  | v, q, k + 1 => if 0 < v ∧ zdg T n q = true ∧ 10 * v + (sg T n q - 48) ≤ 65535 then numL T n (10 * v + (sg T n q - 48)) (q + 1) k else (v, q)
def rdN (T : Nat → Nat) (n q : Nat) : Nat × Nat := numL T n (sg T n q - 48) (q + 1) 80
theorem numL_le {T : Nat → Nat} {n : Nat} : ∀ {k v q : Nat}, v ≤ 65535 → q ≤ n → (numL T n v q k).1 ≤ 65535 ∧ q ≤ (numL T n v q k).2 ∧ (numL T n v q k).2 ≤ n
  | 0, v, q, h, hq => ⟨h, Nat.le_refl _, hq⟩
  | k + 1, v, q, h, hq => by
    unfold numL
    split
    · rename_i hc
      have hqn : q < n := by
        rcases Nat.lt_or_ge q n with g | g
        · exact g
        · have h2 := hc.2.1
          simp only [zdg, sg, if_neg (Nat.not_lt.mpr g)] at h2
          simp at h2
      have := numL_le (T := T) (k := k) hc.2.2 (show q + 1 ≤ n by omega)
      exact ⟨this.1, by omega, this.2.2⟩
    · exact ⟨h, Nat.le_refl _, hq⟩
theorem zdg_lt {T : Nat → Nat} {n q : Nat} (h : zdg T n q = true) : q < n ∧ 48 ≤ sg T n q ∧ sg T n q ≤ 57 := by
  simp only [zdg, Bool.and_eq_true, decide_eq_true_eq] at h
  refine ⟨?_, h⟩
  rcases Nat.lt_or_ge q n with g | g
  · exact g
  · simp only [sg, if_neg (Nat.not_lt.mpr g)] at h
    omega
theorem rdN_le {T : Nat → Nat} {n q : Nat} (h : zdg T n q = true) : (rdN T n q).1 ≤ 65535 ∧ q + 1 ≤ (rdN T n q).2 ∧ (rdN T n q).2 ≤ n := by
  obtain ⟨h1, h2, h3⟩ := zdg_lt h
  exact numL_le (by omega) h1
/-- more steps change nothing once the text is at its end -/
theorem numL_more {T : Nat → Nat} {n : Nat} : ∀ {k v q : Nat}, n ≤ q + k → ∀ j, numL T n v q (k + j) = numL T n v q k
  | 0, v, q, h, j => by
    cases j with
    | zero => rfl
    | succ j =>
      have hz : zdg T n q = false := by
        cases e : zdg T n q with
        | false => rfl
        | true => have := (zdg_lt e).1; omega
      simp [numL, hz]
  | k + 1, v, q, h, j => by
    rw [show k + 1 + j = (k + j) + 1 by omega]
    conv => lhs; unfold numL
    conv => rhs; unfold numL
    rw [numL_more (k := k) (q := q + 1) (by omega) j]
/-- an order at a place: whether it can be read, where the reader stands then, cup, number, many -/
def rdO (T : Nat → Nat) (n p : Nat) : Bool × Nat × Nat × Nat × Nat :=
  if sg T n p = 99 then (if zdg T n (p + 1) then (true, (rdN T n (p + 1)).2, 0, (rdN T n (p + 1)).1, 1) else (false, p + 1, 0, 0, 1))
  else if sg T n p = 117 then (true, p + 1, 0, 0, 1)
  else if sg T n p = 115 then (if zdg T n (p + 1) then (true, p + 2, sg T n (p + 1) - 48, 0, 1) else (false, p + 1, 0, 0, 1))
  else if sg T n p = 112 then
    (if zdg T n (p + 1) then
      (if sg T n (p + 2) = 46 then
        (if zdg T n (p + 3) then
          (if sg T n (rdN T n (p + 3)).2 = 42 then
            (if zdg T n ((rdN T n (p + 3)).2 + 1) then (true, (rdN T n ((rdN T n (p + 3)).2 + 1)).2, sg T n (p + 1) - 48, (rdN T n (p + 3)).1, (rdN T n ((rdN T n (p + 3)).2 + 1)).1)
             else (false, (rdN T n (p + 3)).2 + 1, 0, 0, 1))
           else (true, (rdN T n (p + 3)).2, sg T n (p + 1) - 48, (rdN T n (p + 3)).1, 1))
         else (false, p + 3, 0, 0, 1))
       else (false, p + 2, 0, 0, 1))
     else (false, p + 1, 0, 0, 1))
  else (false, p, 0, 0, 1)
/-- the pad holds a text -/
def zPT (L : zL) (G : zG) (p : Nat) (T : Nat → Nat) (n : Nat) : Prop := (p, 7) ∈ L ∧ n ≤ 80 ∧ G p 1 = nI n ∧ ∀ i, i < n → G p (7 + i) = nI (T i) ∧ T i < 128
theorem zPT_upd {L : zL} {G : zG} {p : Nat} {T : Nat → Nat} {n : Nat} {g : Nat → Int32} (h : zPT L G p T n) (h1 : g 1 = G p 1) (h7 : ∀ j, 7 ≤ j → g j = G p j) : zPT L (zst G p g) p T n := by
  obtain ⟨a1, a2, a3, a4⟩ := h
  refine ⟨a1, a2, by rw [zst_same, h1]; exact a3, fun i hi => ?_⟩
  rw [zst_same, h7 _ (by omega)]
  exact a4 i hi
theorem sg_lt {L : zL} {G : zG} {p : Nat} {T : Nat → Nat} {n : Nat} (h : zPT L G p T n) (i : Nat) : sg T n i < 128 := by
  unfold sg
  split
  · exact (h.2.2.2 i (by assumption)).2
  · omega
section ZPC
variable {l : Launch} {X0 : State → Prop} {D : zD} {B : Nat} {own mn : String} {cc : ByteArray} {nL : Nat} {ret : Option FieldType} {R : Room} {post : zP} {k n : Nat} {L : zL} {nx : Nat} {pc : Nat} {lv : List (Option Value)} {st : List Value} {G : zG}
theorem zv_putC {q t ci ix f w : Nat} {fks : List Nat} (hq : (q, t) ∈ L) (ho : (zbT t)[0]? = some (0, .inl (ci, fks))) (fl : zFL own ix ci f) {ow2 : String} (ft : zFT ow2 ci f .char false) (hk : fks[f]? = some 0) (hw : w < 65536) (hd : decode cc pc = .ok (.putfield ix, 3))
    (kk : zV l X0 D B own mn cc nL ret R post k n L nx (pc + 3) lv st (zst G q (upd (G q) f (nI w)))) : zV l X0 D B own mn cc nL ret R post k n L nx pc lv (.int (nI w) :: .ref q :: st) G :=
  zv_put hq ho fl ft hk (by omega) (by simp [zfv, upd]) (pk_charN hw).1 (pk_charN hw).2 hd kk
/-- the end with more to say -/
theorem zv_iretP {x : Int32} {ty : FieldType} {q : zQ} (hd : decode cc pc = .ok (.ireturn, 1)) (hr : ret = some ty) (hn : narrow ty (.int x) = .int x) (hp : q (some (.int x)) L nx G) : zV l X0 D B own mn cc nL ret R (zN q) 0 0 L nx pc lv [.int x] G :=
  zv_iret hd hr hn ⟨hp, Nat.le_refl _, Nat.le_refl _⟩
end ZPC
def dgV (T : Nat → Nat) (n i : Nat) : Int32 := if zdg T n i then nI (sg T n i - 48) else -6
theorem rdO_le {T : Nat → Nat} {n p : Nat} (hp : p ≤ n) : (rdO T n p).2.1 ≤ n ∧ p ≤ (rdO T n p).2.1 ∧ ((rdO T n p).1 = true → p + 1 ≤ (rdO T n p).2.1) := by
  have hlt : ∀ {i}, sg T n i ≠ 0 → i < n := fun {i} h => by
    rcases Nat.lt_or_ge i n with g | g
    · exact g
    · exact absurd (by simp only [sg, if_neg (Nat.not_lt.mpr g)]) h
  unfold rdO
  by_cases h1 : sg T n p = 99
  · rw [if_pos h1]
    have := hlt (i := p) (by omega)
    cases h2 : zdg T n (p + 1) with
    | true => have := rdN_le h2; simp only [if_true]; exact ⟨this.2.2, by omega, fun _ => by omega⟩
    | false => simp; omega
  rw [if_neg h1]
  by_cases h2 : sg T n p = 117
  · rw [if_pos h2]
    have := hlt (i := p) (by omega)
    exact ⟨this, Nat.le_succ _, fun _ => Nat.le_refl _⟩
  rw [if_neg h2]
  by_cases h3 : sg T n p = 115
  · rw [if_pos h3]
    have := hlt (i := p) (by omega)
    cases h4 : zdg T n (p + 1) with
    | true => have := zdg_lt h4; simp only [if_true]; exact ⟨by omega, by omega, fun _ => by omega⟩
    | false => simp; omega
  rw [if_neg h3]
  by_cases h4 : sg T n p = 112
  · rw [if_pos h4]
    have := hlt (i := p) (by omega)
    cases h5 : zdg T n (p + 1) with
    | false => simp; omega
    | true =>
      have := zdg_lt h5
      simp only [if_true]
      by_cases h6 : sg T n (p + 2) = 46
      · rw [if_pos h6]
        have := hlt (i := p + 2) (by omega)
        cases h7 : zdg T n (p + 3) with
        | false => simp; omega
        | true =>
          have h9 := rdN_le h7
          simp only [if_true]
          by_cases h8 : sg T n (rdN T n (p + 3)).2 = 42
          · rw [if_pos h8]
            have := hlt (i := (rdN T n (p + 3)).2) (by omega)
            cases h10 : zdg T n ((rdN T n (p + 3)).2 + 1) with
            | false => simp; omega
            | true => have := rdN_le h10; simp only [if_true]; exact ⟨this.2.2, by omega, fun _ => by omega⟩
          · rw [if_neg h8]
            dsimp only
            exact ⟨h9.2.2, by omega, fun _ => by omega⟩
      · rw [if_neg h6]; simp; omega
  rw [if_neg h4]
  exact ⟨hp, Nat.le_refl _, fun h => by cases h⟩
/-- the fault of a text from a place on -/
def ffL (T : Nat → Nat) (n : Nat) : Nat → Nat → Int32
  | p, 0 => nI p
  | p, k + 1 => if (rdO T n p).1 = false then nI (rdO T n p).2.1 else if n ≤ (rdO T n p).2.1 then -6 else if sg T n (rdO T n p).2.1 = 59 then ffL T n ((rdO T n p).2.1 + 1) k else nI (rdO T n p).2.1
def roOK (T : Nat → Nat) (n p : Nat) (g g' : Nat → Int32) : Prop := g' 1 = g 1 ∧ (∀ j, 7 ≤ j → g' j = g j) ∧ g' 2 = nI (rdO T n p).2.1 ∧
  ((rdO T n p).1 = true → g' 3 = nI (sg T n p) ∧ (sg T n p = 99 → g' 5 = nI (rdO T n p).2.2.2.1) ∧ (sg T n p = 115 → g' 4 = nI (rdO T n p).2.2.1) ∧
    (sg T n p = 112 → g' 4 = nI (rdO T n p).2.2.1 ∧ g' 5 = nI (rdO T n p).2.2.2.1 ∧ g' 6 = nI (rdO T n p).2.2.2.2))
theorem upd_4 {f : Nat → Int32} {a b c d : Int32} {i j : Nat} (h : i ≠ j) : upd (upd (upd (upd f i a) j b) i c) j d = upd (upd f i c) j d := by
  funext y
  simp only [upd]
  by_cases h1 : y = j <;> by_cases h2 : y = i <;> simp [h1, h2]
/-- an answer, and something of the blobs behind it -/
def zI (x : Int32) (L : zL) (nx : Nat) (Q : zG → Prop) : zQ := fun v L' nx' G' => v = some (.int x) ∧ L' = L ∧ nx' = nx ∧ Q G'
def zU (L : zL) (nx : Nat) (Q : zG → Prop) : zQ := fun v L' nx' G' => v = none ∧ L' = L ∧ nx' = nx ∧ Q G'
section ZPK
variable {l : Launch} {X0 : State → Prop} {D : zD} {B : Nat} {own mn : String} {cc : ByteArray} {nL : Nat} {ret : Option FieldType} {R : Room} {post : zP} {k n : Nat} {L : zL} {nx : Nat} {pc : Nat} {lv : List (Option Value)} {st : List Value} {G : zG}
theorem zk_p {x : Int32} {Q : zG → Prop} (kk : ∀ G1, Q G1 → zV l X0 D B own mn cc nL ret R post k n L nx (pc + 3) lv (.int x :: st) G1) : ∀ (v : Option Value) (L' : zL) (nx' : Nat) (G' : zG), zI x L nx Q v L' nx' G' → zV l X0 D B own mn cc nL ret R post (k + 0) (n + 0) L' nx' (pc + 3) lv (v.toList ++ st) G' := by
  rintro _ _ _ _ ⟨rfl, rfl, rfl, h⟩
  exact kk _ h
theorem zk_u {Q : zG → Prop} (kk : ∀ G1, Q G1 → zV l X0 D B own mn cc nL ret R post k n L nx (pc + 3) lv st G1) : ∀ (v : Option Value) (L' : zL) (nx' : Nat) (G' : zG), zU L nx Q v L' nx' G' → zV l X0 D B own mn cc nL ret R post (k + 0) (n + 0) L' nx' (pc + 3) lv (v.toList ++ st) G' := by
  rintro _ _ _ _ ⟨rfl, rfl, rfl, h⟩
  exact kk _ h
theorem zv_iretI {x r : Int32} {ty : FieldType} {Q : zG → Prop} (hd : decode cc pc = .ok (.ireturn, 1)) (hr : ret = some ty) (hn : narrow ty (.int x) = .int x) (hx : x = r) (hq : Q G) : zV l X0 D B own mn cc nL ret R (zN (zI r L nx Q)) 0 0 L nx pc lv [.int x] G :=
  zv_iret hd hr hn ⟨⟨by rw [hx], rfl, rfl, hq⟩, Nat.le_refl _, Nat.le_refl _⟩
theorem zv_vretU {Q : zG → Prop} (hd : decode cc pc = .ok (.return_, 1)) (hr : ret = none) (hq : Q G) : zV l X0 D B own mn cc nL ret R (zN (zU L nx Q)) 0 0 L nx pc lv [] G :=
  zv_vret hd hr ⟨⟨rfl, rfl, rfl, hq⟩, Nat.le_refl _, Nat.le_refl _⟩
end ZPK
theorem rm_y {f : Nat → Int32} {a b c : Int32} : upd (upd (upd (upd (upd f 2 a) 5 b) 2 c) 6 b) 5 (f 5) = upd (upd f 2 c) 6 b := by
  funext y
  simp only [upd]
  by_cases h5 : y = 5
  · subst h5; simp
  · by_cases h6 : y = 6
    · subst h6; simp
    · by_cases h2 : y = 2 <;> simp [h2, h5, h6]
theorem rm_n {f : Nat → Int32} {a : Int32} : upd (upd (upd f 2 a) 6 (f 5)) 5 (f 5) = upd (upd f 2 a) 6 (f 5) := by
  funext y
  simp only [upd]
  by_cases h5 : y = 5
  · subst h5; simp
  · simp [h5]
