section ZHIST
variable {l : Launch} {X0 : State → Prop} {D : zD} {B : Nat} {own mn : String} {cc : ByteArray} {nL : Nat} {ret : Option FieldType} {R : Room} {post : zP} {k n : Nat} {L : zL} {nx : Nat} {pc : Nat} {lv : List (Option Value)} {st : List Value} {G : zG}
theorem zv_eqN {nx' : Nat} (h : nx = nx') (kk : zV l X0 D B own mn cc nL ret R post k n L nx' pc lv st G) : zV l X0 D B own mn cc nL ret R post k n L nx pc lv st G := h ▸ kk
theorem zk_cu {k1 n1 : Nat} {L1 : zL} {nx1 : Nat} {Q : zG → Prop} {mc ms : Nat} (kk : ∀ G1, Q G1 → zV l X0 D B own mn cc nL ret R post (k1 + mc) (n1 + ms) L1 nx1 (pc + 3) lv st G1) : ∀ (v : Option Value) (L' : zL) (nx' : Nat) (G' : zG), zU L1 nx1 Q v L' nx' G' → zV l X0 D B own mn cc nL ret R post (k1 + mc) (n1 + ms) L' nx' (pc + 3) lv (v.toList ++ st) G' := by
  rintro _ _ _ _ ⟨rfl, rfl, rfl, h⟩
  exact kk _ h
end ZHIST
/-- k states in a row -/
def zsL (s : Nat) : Nat → zL
  | 0 => []
  | k + 1 => zsL s k ++ [(s + 15 * k, 2), (s + 15 * k + 3, 3), (s + 15 * k + 7, 3), (s + 15 * k + 11, 3)]
theorem mem_zsL {s y t : Nat} : ∀ {k : Nat}, (y, t) ∈ zsL s k ↔ ∃ j, j < k ∧ ((y = s + 15 * j ∧ t = 2) ∨ (t = 3 ∧ (y = s + 15 * j + 3 ∨ y = s + 15 * j + 7 ∨ y = s + 15 * j + 11)))
  | 0 => by simp [zsL]
  | k + 1 => by
    unfold zsL
    rw [List.mem_append, mem_zsL (k := k)]
    simp only [List.mem_cons, Prod.mk.injEq, List.not_mem_nil, or_false]
    constructor
    · rintro (⟨j, hj, h⟩ | h | h | h | h)
      · exact ⟨j, by omega, h⟩
      · exact ⟨k, by omega, Or.inl h⟩
      · exact ⟨k, by omega, Or.inr ⟨h.2, Or.inl h.1⟩⟩
      · exact ⟨k, by omega, Or.inr ⟨h.2, Or.inr (Or.inl h.1)⟩⟩
      · exact ⟨k, by omega, Or.inr ⟨h.2, Or.inr (Or.inr h.1)⟩⟩
    · rintro ⟨j, hj, h⟩
      by_cases e : j = k
      · subst e
        rcases h with h | ⟨h1, h | h | h⟩
        · exact Or.inr (Or.inl h)
        · exact Or.inr (Or.inr (Or.inl ⟨h, h1⟩))
        · exact Or.inr (Or.inr (Or.inr (Or.inl ⟨h, h1⟩)))
        · exact Or.inr (Or.inr (Or.inr (Or.inr ⟨h, h1⟩)))
      · exact Or.inl ⟨j, by omega, h⟩
theorem zsL_lt {s k : Nat} : ∀ b ∈ zsL s k, s ≤ b.1 ∧ b.1 < s + 15 * k := by
  rintro ⟨y, t⟩ hb
  obtain ⟨j, hj, h⟩ := mem_zsL.mp hb
  dsimp only
  omega
theorem zsL_fun {s k y t u : Nat} (h1 : (y, t) ∈ zsL s k) (h2 : (y, u) ∈ zsL s k) : t = u := by
  obtain ⟨j, hj, a⟩ := mem_zsL.mp h1
  obtain ⟨i, hi, b⟩ := mem_zsL.mp h2
  omega
theorem zsL_St {s k j : Nat} {L : zL} (h : ∀ b ∈ zsL s k, b ∈ L) (hj : j < k) : zSt L (s + 15 * j) := by
  refine ⟨h _ (mem_zsL.mpr ⟨j, hj, Or.inl ⟨rfl, rfl⟩⟩), fun i hi => h _ (mem_zsL.mpr ⟨j, hj, Or.inr ⟨rfl, ?_⟩⟩)⟩
  omega
theorem zar_hist {h : Nat} {f g : Nat → Int32} (hf : f = fun j => if j < 7 then nI (1 + 15 * j) else 0) : zar (h + 1) 7 0 0 0 f = zar h 7 3 2 15 g := by
  subst hf
  funext j
  unfold zar
  by_cases hj : j < 7
  · rw [if_pos hj, if_pos hj, if_pos rfl, if_neg (by decide), Nat.zero_add]
    dsimp only
    rw [if_pos hj, zdr_l (by omega) (by omega)]
    congr 1
    omega
  · rw [if_neg hj, if_neg hj]
/-- the heap while a history's states are laid: i of them stand -/
def zHP (G0 : zG) (h i : Nat) (G : zG) : Prop := G h = upd (fun _ => 0) 0 (nI 1) ∧ (G (h + 1) = fun j => if j < i then nI (1 + 15 * j) else 0) ∧ (∀ j, j < i → stOK G (h + 2 + 15 * j) initR) ∧ ∀ y, y < h → G y = G0 y
def zHQ (G0 : zG) (h : Nat) (G : zG) : Prop := G h 1 = 0 ∧ G h 2 = 0 ∧ (∀ j, j < 7 → stOK G (h + (2 + 15 * j)) initR) ∧ ∀ y, y < h → G y = G0 y
theorem zHP_s {G0 G : zG} {h i : Nat} (hp : zHP G0 h i G) (hi : i < 7) : zHP G0 h (i + 1) (zst (stPut (zst G (h + 2 + 15 * i) fun _ => 0) (h + 2 + 15 * i) initR) (h + 1) (upd (stPut (zst G (h + 2 + 15 * i) fun _ => 0) (h + 2 + 15 * i) initR (h + 1)) i (nI (h + 2 + 15 * i - (h + 1))))) := by
  obtain ⟨p1, p2, p3, p4⟩ := hp
  have hF : ∀ y, y < h + 2 + 15 * i → stPut (zst G (h + 2 + 15 * i) fun _ => 0) (h + 2 + 15 * i) initR y = G y := fun y hy => by rw [stPut_ne _ _ (by omega), zst_ne _ _ (by omega)]
  refine ⟨by rw [zst_ne _ _ (by omega), hF _ (by omega)]; exact p1, ?_, fun j hj => ?_, fun y hy => by rw [zst_ne _ _ (by omega), hF _ (by omega)]; exact p4 y hy⟩
  · rw [zst_same, hF _ (by omega), p2]
    funext j
    simp only [upd]
    by_cases e : j = i
    · subst e
      rw [if_pos rfl, if_pos (by omega), show h + 2 + 15 * j - (h + 1) = 1 + 15 * j by omega]
    · rw [if_neg e]
      by_cases e2 : j < i
      · rw [if_pos e2, if_pos (by omega)]
      · rw [if_neg e2, if_neg (by omega)]
  · by_cases e : j = i
    · subst e
      exact stOK_of (stPut_OK _ _ _) (fun y g1 g2 => zst_ne _ _ (by omega))
    · exact stOK_of (p3 j (by omega)) (fun y g1 g2 => by rw [zst_ne _ _ (by omega), hF _ (by omega)])
theorem zHP_end {G0 G : zG} {h : Nat} (hp : zHP G0 h 7 G) : zHQ G0 h G := by
  obtain ⟨p1, p2, p3, p4⟩ := hp
  exact ⟨by rw [p1]; rfl, by rw [p1]; rfl, fun j hj => by rw [← Nat.add_assoc]; exact p3 j hj, p4⟩
def zhL (h : Nat) : zL := (h, 6) :: zsL (h + 2) 7
theorem zhL_fun {h nx : Nat} (hn : h + 107 ≤ nx) : zfun (zhL h) nx := by
  refine ⟨fun y t u h1 h2 => ?_, fun b hb => ?_⟩
  · rcases List.mem_cons.mp h1 with h1 | h1 <;> rcases List.mem_cons.mp h2 with h2 | h2
    · rw [Prod.mk.injEq] at h1 h2; omega
    · have := zsL_lt _ h2; rw [Prod.mk.injEq] at h1; dsimp only at this; omega
    · have := zsL_lt _ h1; rw [Prod.mk.injEq] at h2; dsimp only at this; omega
    · exact zsL_fun h1 h2
  · rcases List.mem_cons.mp hb with hb | hb
    · rw [hb]; dsimp only; omega
    · have := zsL_lt _ hb; omega
theorem zhL_ge {h : Nat} : ∀ b ∈ zhL h, h ≤ b.1 := fun b hb => by
  rcases List.mem_cons.mp hb with hb | hb
  · rw [hb]; exact Nat.le_refl _
  · have := zsL_lt _ hb; omega
theorem zhL_lt {h : Nat} : ∀ b ∈ zhL h, b.1 < h + 107 := fun b hb => (zhL_fun (Nat.le_refl _)).2 b hb
theorem zhL_Hi {h : Nat} {L : zL} (hs : ∀ b ∈ zhL h, b ∈ L) : zHi L h := ⟨hs _ List.mem_cons_self, fun j hj => by
  have := zsL_St (s := h + 2) (k := 7) (L := L) (fun b hb => hs _ (List.mem_cons_of_mem _ hb)) hj
  rwa [Nat.add_assoc] at this⟩
