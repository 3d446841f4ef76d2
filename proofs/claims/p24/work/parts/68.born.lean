section ZBORN
variable {l : Launch} {X0 : State → Prop} {D : zD} {B : Nat} {own mn : String} {cc : ByteArray} {nL : Nat} {ret : Option FieldType} {R : Room} {post : zP} {k n : Nat} {L : zL} {nx : Nat} {pc : Nat} {lv : List (Option Value)} {st : List Value} {G : zG}
theorem zv_abs {P : zG → Prop} (h : P G) (kk : ∀ G', P G' → zV l X0 D B own mn cc nL ret R post k n L nx pc lv st G') : zV l X0 D B own mn cc nL ret R post k n L nx pc lv st G := kk G h
end ZBORN
theorem lt_app2 {A Y : zL} {q : Nat} (h : ∀ b ∈ A, b.1 < q) (h2 : ∀ b ∈ Y, b.1 < q) : ∀ b ∈ A ++ Y, b.1 < q := by
  intro b hb
  rcases List.mem_append.mp hb with hb | hb
  · exact h b hb
  · exact h2 b hb
theorem lt_1 {a t q : Nat} (h : a < q) : ∀ b ∈ [(a, t)], b.1 < q := by
  intro b hb
  rw [List.mem_singleton.mp hb]
  exact h
theorem lt_4 {q : Nat} : ∀ b ∈ [(q, 2), (q + 3, 3), (q + 7, 3), (q + 11, 3)], b.1 < q + 15 := by
  intro b hb
  simp at hb
  rcases hb with hb | hb | hb | hb <;> subst hb <;> dsimp only <;> omega
theorem zfun_4 {q nx : Nat} (h : q + 15 ≤ nx) : zfun [(q, 2), (q + 3, 3), (q + 7, 3), (q + 11, 3)] nx := by
  refine ⟨fun y t u h1 h2 => ?_, fun b hb => ?_⟩
  · simp at h1 h2; omega
  · have := lt_4 b hb; omega
theorem zfun_app {A Y : zL} {m nx : Nat} (h1 : zfun A nx) (h2 : zfun Y nx) (h3 : ∀ a ∈ A, a.1 < m) (h4 : ∀ b ∈ Y, m ≤ b.1) : zfun (A ++ Y) nx := by
  refine ⟨fun y t u g1 g2 => ?_, fun b hb => ?_⟩
  · rcases List.mem_append.mp g1 with g1 | g1 <;> rcases List.mem_append.mp g2 with g2 | g2
    · exact h1.1 _ _ _ g1 g2
    · have := h3 _ g1; have := h4 _ g2; dsimp only at *; omega
    · have := h3 _ g2; have := h4 _ g1; dsimp only at *; omega
    · exact h2.1 _ _ _ g1 g2
  · rcases List.mem_append.mp hb with hb | hb
    · exact h1.2 _ hb
    · exact h2.2 _ hb
theorem ge_1 {a t q : Nat} (h : q ≤ a) : ∀ b ∈ [(a, t)], q ≤ b.1 := by
  intro b hb
  rw [List.mem_singleton.mp hb]
  exact h
/-- what a fresh object holds behind it -/
def zxT (x : Nat) : zL := [(x + 1, 2), (x + 1 + 3, 3), (x + 1 + 7, 3), (x + 1 + 11, 3)] ++ zhL (x + 16) ++ [(x + 123, 30102)] ++ [(x + 124, 7)] ++ [(x + 126, 4)] ++ [(x + 127, 3)] ++ [(x + 131, 5)]
def zxL (x : Nat) : zL := [(x, 1)] ++ zxT x
theorem zxT_ge {x : Nat} : ∀ b ∈ zxT x, x + 1 ≤ b.1 := by
  intro b hb
  simp only [zxT, List.mem_append] at hb
  rcases hb with (((((hb | hb) | hb) | hb) | hb) | hb) | hb
  · simp at hb
    rcases hb with hb | hb | hb | hb <;> subst hb <;> dsimp only <;> omega
  · have := zhL_ge b hb; omega
  all_goals (rw [List.mem_singleton.mp hb]; dsimp only; omega)
theorem zxT_fun {x nx : Nat} (hn : x + 134 ≤ nx) : zfun (zxT x) nx := by
  unfold zxT
  refine zfun_app (m := x + 131) (zfun_app (m := x + 127) (zfun_app (m := x + 126) (zfun_app (m := x + 124) (zfun_app (m := x + 123) (zfun_app (m := x + 16) (zfun_4 (by omega)) (zhL_fun (by omega)) (lt_ge lt_4 (by omega)) zhL_ge) (zfun_1 (by omega)) ?_ (ge_1 (by omega))) (zfun_1 (by omega)) ?_ (ge_1 (by omega))) (zfun_1 (by omega)) ?_ (ge_1 (by omega))) (zfun_1 (by omega)) ?_ (ge_1 (by omega))) (zfun_1 (by omega)) ?_ (ge_1 (by omega))
  all_goals repeat first | exact lt_1 (by omega) | exact lt_ge lt_4 (by omega) | exact lt_ge zhL_lt (by omega) | refine lt_app2 ?_ ?_
theorem zxL_fun {x nx : Nat} (hn : x + 134 ≤ nx) : zfun (zxL x) nx := zfun_app (m := x + 1) (zfun_1 (by omega)) (zxT_fun hn) (lt_1 (by omega)) zxT_ge
theorem zxL_ge {x : Nat} : ∀ b ∈ zxL x, x ≤ b.1 := by
  intro b hb
  rcases List.mem_append.mp hb with hb | hb
  · rw [List.mem_singleton.mp hb]; exact Nat.le_refl _
  · have := zxT_ge b hb; omega
theorem zxL_BD {L : zL} {x : Nat} (h : ∀ b ∈ zxL x, b ∈ L) : zBD L x := by
  have hT : ∀ b ∈ zxT x, b ∈ L := fun b hb => h b (List.mem_append_right _ hb)
  refine ⟨h _ (by simp [zxL]), ⟨hT _ (by simp [zxT]), fun i hi => hT _ ?_⟩, zhL_Hi (fun b hb => hT _ (by simp [zxT, hb])), hT _ (by simp [zxT]), hT _ (by simp [zxT]), hT _ (by simp [zxT]), hT _ (by simp [zxT]), hT _ (by simp [zxT])⟩
  match i, hi with
  | 0, _ => simp [zxT]
  | 1, _ => simp [zxT]
  | 2, _ => simp [zxT]
/-- the places where its parts begin -/
def bsX : Nat → Nat
  | 0 => 1
  | 1 => 16
  | 2 => 123
  | 3 => 124
  | 4 => 126
  | 5 => 127
  | 6 => 131
  | _ => 134
def blkX (x : Nat) (G : zG) : Nat → Prop
  | 0 => stOK G (x + 1) initR
  | 1 => G (x + 16) 1 = 0 ∧ G (x + 16) 2 = 0 ∧ ∀ j, j < 7 → stOK G (x + 16 + (2 + 15 * j)) initR
  | 2 => G (x + 123) = fun _ => 0
  | 3 => G (x + 124) = fun _ => 0
  | 4 => True
  | 5 => G (x + 127) = fun _ => 0
  | 6 => G (x + 131) = fun _ => 0
  | _ => True
theorem blkX_cg {x i : Nat} {G G' : zG} (h : ∀ y, x + bsX i ≤ y → y < x + bsX (i + 1) → G' y = G y) (hb : blkX x G i) : blkX x G' i := by
  match i with
  | 0 =>
    have h : ∀ y, x + 1 ≤ y → y < x + 16 → G' y = G y := h
    exact stOK_of hb (fun y g1 g2 => h y (by omega) (by omega))
  | 1 =>
    have h : ∀ y, x + 16 ≤ y → y < x + 123 → G' y = G y := h
    exact ⟨by rw [h _ (by omega) (by omega)]; exact hb.1, by rw [h _ (by omega) (by omega)]; exact hb.2.1, fun j hj => stOK_of (hb.2.2 j hj) (fun y g1 g2 => h y (by omega) (by omega))⟩
  | 2 =>
    have h : ∀ y, x + 123 ≤ y → y < x + 124 → G' y = G y := h
    exact (h _ (by omega) (by omega)).trans hb
  | 3 =>
    have h : ∀ y, x + 124 ≤ y → y < x + 126 → G' y = G y := h
    exact (h _ (by omega) (by omega)).trans hb
  | 4 => trivial
  | 5 =>
    have h : ∀ y, x + 127 ≤ y → y < x + 131 → G' y = G y := h
    exact (h _ (by omega) (by omega)).trans hb
  | 6 =>
    have h : ∀ y, x + 131 ≤ y → y < x + 134 → G' y = G y := h
    exact (h _ (by omega) (by omega)).trans hb
  | _ + 7 => trivial
def zXP (x : Nat) (G0 : zG) (k : Nat) (G : zG) : Prop := (∀ y, y < x → G y = G0 y) ∧ (G x = fun j => if j < k then nI (bsX j) else 0) ∧ ∀ i, i < k → blkX x G i
theorem bsX_le : ∀ k, k < 7 → ∀ i, i < k → bsX (i + 1) ≤ bsX k ∧ 0 < bsX i := by decide
theorem bsX_0 : ∀ k, k < 7 → 0 < bsX k := by decide
theorem zXP_step {x k : Nat} {G0 G G1 : zG} (h : zXP x G0 k G) (hk : k < 7) (hF : ∀ y, y < x + bsX k → G1 y = G y) (hb : blkX x G1 k) : zXP x G0 (k + 1) (zst G1 x (upd (G1 x) k (nI (bsX k)))) := by
  obtain ⟨h1, h2, h3⟩ := h
  have hk0 := bsX_0 k hk
  refine ⟨fun y hy => by rw [zst_ne _ _ (by omega), hF _ (by omega)]; exact h1 y hy, ?_, fun i hi => ?_⟩
  · rw [zst_same, hF _ (by omega), h2]
    funext j
    simp only [upd]
    by_cases e : j = k
    · subst e; rw [if_pos rfl, if_pos (by omega)]
    · rw [if_neg e]
      by_cases e2 : j < k
      · rw [if_pos e2, if_pos (by omega)]
      · rw [if_neg e2, if_neg (by omega)]
  · by_cases e : i = k
    · subst e
      exact blkX_cg (fun y g1 g2 => zst_ne _ _ (by omega)) hb
    · have := bsX_le k hk i (by omega)
      exact blkX_cg (fun y g1 g2 => by rw [zst_ne _ _ (by omega), hF _ (by omega)]) (h3 i (by omega))
/-- a fresh object is what it ought to be -/
theorem zXP_RC {L : zL} {x nx : Nat} {G0 G : zG} (h : zXP x G0 7 G) (hb : ∀ b ∈ zxL x, b ∈ L) : zRC L x nx G initR (fun _ => initR) 0 (fun _ => none) (fun _ => 0) 0 := by
  have hB := zxL_BD hb
  have b0 := h.2.2 0 (by decide)
  have b1 := h.2.2 1 (by decide)
  have b2 := h.2.2 2 (by decide)
  have b3 := h.2.2 3 (by decide)
  have b5 := h.2.2 5 (by decide)
  have b6 := h.2.2 6 (by decide)
  refine ⟨hB, ⟨b0, fun j hj => by rw [show G (x + 127) = fun _ => 0 from b5], fun j hj => by rw [show G (x + 131) = fun _ => 0 from b6]⟩, ⟨0, by decide, b1.1, b1.2.1, by decide, fun j hj => ⟨_, b1.2.2 j hj⟩, fun k hk => absurd hk (by omega)⟩, ⟨fun _ => 0, fun j hj => Or.inl ⟨rfl, by rw [show G (x + 123) = fun _ => 0 from b2]⟩, fun r0 r1 h0 => by cases h0⟩, ⟨hB.2.2.2.2.1, by omega, by rw [show G (x + 124) = fun _ => 0 from b3]; rfl, fun i hi => absurd hi (by omega)⟩⟩
def initM : Nat → Int32 := fun j => if j = 18 then 1 else 0
theorem zai_M : zai 228 0 (upd (fun _ => 0) 0 1) = zai 228 18 initM := by
  funext j
  simp only [zai, upd, initM]
  grind
theorem zai_M2 {n off : Nat} (h : 18 < off) : zai n off initM = fun _ => 0 := by
  funext j
  simp only [zai, initM]
  grind
theorem inM (k : Nat) (h : k < 18) : initM k = 0 := by simp only [initM]; rw [if_neg (by omega)]
