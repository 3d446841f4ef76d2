/-! the law's own rows: its script, and what both objects hold together -/
def lX (B b S : Nat) (xs : Nat → Int32) : State → Prop := fun s => va_X b S xs s s.heap ∧ b < s.heap.size ∧ b < B
section ZLAW
variable {l : Launch} {D : zD} {B : Nat} {own mn : String} {cc : ByteArray} {nL : Nat} {ret : Option FieldType} {R : Room} {post : zP} {k n : Nat} {L : zL} {nx : Nat} {pc : Nat} {lv : List (Option Value)} {st : List Value} {G : zG} {b S : Nat} {xs : Nat → Int32}
theorem zv_sld {i : Nat} (hi : i < S) (hS : S < 2 ^ 31) (hd : decode cc pc = .ok (.iaload, 1)) (kk : zV l (lX B b S xs) D B own mn cc nL ret R post k n L nx (pc + 1) lv (.int (xs i) :: st) G) : zV l (lX B b S xs) D B own mn cc nL ret R post k n L nx pc lv (.int (nI i) :: .ref b :: st) G := by
  intro p e s m args below meth c H locs ls Q hX hR hl hW hSS
  obtain ⟨hXX, hbl, hbB⟩ := hX.2.2.2.2.2.2.2.2
  refine va_sld hX.1 hX.2.1 hXX hbl (show ¬ B ≤ b by omega) hSS (vp_in_nI hi hS) hd ?_
  rw [nI_clamp (by omega)]
  exact kk p e s m args below meth c H locs ls Q hX hR hl hW hSS
theorem zv_slen (hd : decode cc pc = .ok (.arraylength, 1)) (kk : zV l (lX B b S xs) D B own mn cc nL ret R post k n L nx (pc + 1) lv (.int (nI S) :: st) G) : zV l (lX B b S xs) D B own mn cc nL ret R post k n L nx pc lv (.ref b :: st) G := by
  intro p e s m args below meth c H locs ls Q hX hR hl hW hSS
  obtain ⟨hXX, hbl, hbB⟩ := hX.2.2.2.2.2.2.2.2
  refine va_slen hX.1 hX.2.1 hXX hbl (show ¬ B ≤ b by omega) hSS hd ?_
  exact kk p e s m args below meth c H locs ls Q hX hR hl hW hSS
theorem zv_nameL {X0 : State → Prop} {z : Int64} (kk : ∀ u, u < 2 ^ 64 → z = lN u → zV l X0 D B own mn cc nL ret R post k n L nx pc lv (.long (lN u) :: st) G) : zV l X0 D B own mn cc nL ret R post k n L nx pc lv (.long z :: st) G := by
  have h := kk z.toUInt64.toNat (UInt64.toNat_lt _) (lN_of z).symm
  rw [lN_of] at h
  exact h
end ZLAW
theorem nI_s4 {i S : Nat} (hi : i < 2 ^ 30) (hS : S < 2 ^ 30) : nI i ≤ nI S - 4 ↔ i + 4 ≤ S := by
  rcases Nat.lt_or_ge S 4 with h | h
  · constructor
    · intro hle
      exfalso
      have hn : ¬ nI i < 0 := nI_pos (by omega)
      apply hn
      refine Int32.lt_of_le_of_lt hle ?_
      rcases (show S = 0 ∨ S = 1 ∨ S = 2 ∨ S = 3 by omega) with rfl | rfl | rfl | rfl <;> decide
    · intro h2; omega
  · rw [show nI S - 4 = nI (S - 4) from pk_sub (a := S) (b := 4) (by omega), nI_leI (by omega) (by omega)]
    omega
theorem zRM_to {L L' : zL} {m : Nat} {G G' : zG} {r : Nat → Int32} {h : Nat → (Nat → Int32)} {c : Nat} {sl : Nat → Option (Nat → Int32)} {T : Nat → Nat} {tn : Nat} (hR : zRM L m G r h c sl T tn) (hL : ∀ b ∈ L, b ∈ L') (hG : G' m = G m) : zRM L' m G' r h c sl T tn := by
  obtain ⟨a1, a2, a3, a4, a5, a6, a7, a8, a9⟩ := hR
  unfold zRM
  rw [hG]
  exact ⟨hL _ a1, a2, a3, a4, a5, a6, a7, a8, a9⟩
theorem zRC_ne {L : zL} {x nx : Nat} {G G' : zG} {r : Nat → Int32} {h : Nat → (Nat → Int32)} {c : Nat} {sl : Nat → Option (Nat → Int32)} {T : Nat → Nat} {tn : Nat} (hR : zRC L x nx G r h c sl T tn) (hF : ∀ y, y ≠ x + 134 → G' y = G y) : zRC L x nx G' r h c sl T tn := by
  obtain ⟨a1, ⟨⟨c1, c2⟩, c3, c4⟩, ⟨f, b1, b2, b3, b4, b5, b6⟩, ⟨ad, a4⟩, a5⟩ := hR
  refine ⟨a1, ⟨⟨by rw [hF _ (by omega)]; exact c1, fun k hk => by rw [hF _ (by omega)]; exact c2 k hk⟩, fun j hj => by rw [hF _ (by omega)]; exact c3 j hj, fun j hj => by rw [hF _ (by omega)]; exact c4 j hj⟩, ⟨f, b1, by rw [hF _ (by omega)]; exact b2, by rw [hF _ (by omega)]; exact b3, b4, fun j hj => ?_, fun k hk => ?_⟩, ⟨ad, zSl_of a4 (hF _ (by omega)) (fun y hy => hF _ (by omega))⟩, zPT_of a5 (hF _ (by omega))⟩
  · obtain ⟨q, hq⟩ := b5 j hj
    exact ⟨q, stOK_of hq (fun y g1 g2 => hF _ (by omega))⟩
  · exact stOK_of (b6 k hk) (fun y g1 g2 => hF _ (by omega))
/-- every state that is held is one of a book -/
def zLS (b : Nat) (r : Nat → Int32) (h : Nat → (Nat → Int32)) (c : Nat) (sl : Nat → Option (Nat → Int32)) : Prop :=
  SI b r ∧ (∀ k, k < c → SI b (h k)) ∧ ∀ j r', sl j = some r' → SI b r'
theorem zLS_mono {b b' : Nat} {r : Nat → Int32} {h : Nat → (Nat → Int32)} {c : Nat} {sl : Nat → Option (Nat → Int32)} (H : zLS b r h c sl) (hb : b ≤ b') : zLS b' r h c sl :=
  ⟨SI_mono H.1 hb, fun k hk => SI_mono (H.2.1 k hk) hb, fun j r' e => SI_mono (H.2.2 j r' e) hb⟩
theorem zLS_push {b b' : Nat} {r rf : Nat → Int32} {h : Nat → (Nat → Int32)} {c : Nat} {sl : Nat → Option (Nat → Int32)} (H : zLS b r h c sl) (hb : b ≤ b') (hr : SI b' rf) : zLS b' rf (pushH h c r).1 (pushH h c r).2 sl := by
  have H' := zLS_mono H hb
  refine ⟨hr, fun k hk => ?_, H'.2.2⟩
  unfold pushH at hk ⊢
  by_cases e : c < 6
  · rw [if_pos e] at hk ⊢
    dsimp only at hk ⊢
    by_cases ek : k = c
    · rw [if_pos ek]; exact H'.1
    · rw [if_neg ek]; exact H'.2.1 k (by omega)
  · rw [if_neg e] at hk ⊢
    dsimp only at hk ⊢
    by_cases ek : k = 5
    · rw [if_pos ek]; exact H'.1
    · rw [if_neg ek]; exact H'.2.1 (k + 1) (by omega)
theorem zLS_chg {b b' : Nat} {r : Nat → Int32} {h : Nat → (Nat → Int32)} {c : Nat} {sl : Nat → Option (Nat → Int32)} {o : Int32 × (Nat → Int32)} (H : zLS b r h c sl) (hb : b ≤ b') (ho : SI b' o.2) : zLS b' (chg r h c o).1 (chg r h c o).2.1 (chg r h c o).2.2 sl := by
  by_cases hn : o.1 < 0
  · rw [chg_neg hn]
    exact zLS_mono H hb
  · rw [chg_pos hn]
    exact zLS_push H hb ho
theorem SI_rest {b : Nat} {r : Nat → Int32} {h : Nat → (Nat → Int32)} {c : Nat} {sl : Nat → Option (Nat → Int32)} {v : Int32} (H : zLS b r h c sl) : SI b (opRest r sl v).2 := by
  unfold opRest
  cases slI v with
  | none => exact H.1
  | some j =>
    dsimp only
    cases e : sl j with
    | none => exact H.1
    | some r' => exact H.2.2 j r' e
theorem zLS_undo {b : Nat} {r : Nat → Int32} {h : Nat → (Nat → Int32)} {c : Nat} {sl : Nat → Option (Nat → Int32)} (H : zLS b r h c sl) : zLS b (opUndo r h c).2.1 h (opUndo r h c).2.2 sl := by
  unfold opUndo
  split
  · exact ⟨H.1, fun k hk => absurd (show k < 0 from hk) (by omega), H.2.2⟩
  · exact ⟨H.2.1 _ (by omega), fun k hk => H.2.1 k (by dsimp only at hk; omega), H.2.2⟩
theorem zLS_save {b : Nat} {r : Nat → Int32} {h : Nat → (Nat → Int32)} {c : Nat} {sl : Nat → Option (Nat → Int32)} {v : Int32} (H : zLS b r h c sl) : zLS b r h c (opSave r sl v).2 := by
  refine ⟨H.1, H.2.1, fun j r' e => ?_⟩
  unfold opSave at e
  cases hz : slI v with
  | none => rw [hz] at e; exact H.2.2 j r' e
  | some i =>
    rw [hz] at e
    dsimp only at e
    by_cases ej : j = i
    · subst ej
      rw [setO_s] at e
      cases e
      exact H.1
    · rw [setO_n ej] at e
      exact H.2.2 j r' e
theorem zLS_car {b : Nat} {r : Nat → Int32} {h : Nat → (Nat → Int32)} {c : Nat} {sl : Nat → Option (Nat → Int32)} {T : Nat → Nat} {tn : Nat} (H : zLS b r h c sl) : zLS (b + 7920) (opCar r h c T tn).2.1 (opCar r h c T tn).2.2.1 (opCar r h c T tn).2.2.2.1 sl := by
  unfold opCar
  split
  · exact zLS_push H (by omega) (exL_SI (T := T) (n := tn) 80 0 r 0 b H.1).1
  · exact zLS_mono H (by omega)
theorem zLS_neg {b : Nat} {r : Nat → Int32} {h : Nat → (Nat → Int32)} {c : Nat} {sl : Nat → Option (Nat → Int32)} (H : zLS b r h c sl) : ∀ j r2, sl j = some r2 → ¬ r2 3 < 0 := fun j r2 e => by
  obtain ⟨w, ls, n, cn, -, -, -, -, -, -, i4, i5, -⟩ := H.2.2 j r2 e
  rw [i4]
  exact nI_pos (by omega)
/-- both objects hold the same -/
def zLJ (L : zL) (x nx : Nat) (G : zG) (b : Nat) : Prop := ∃ r h c sl T tn, zRC L x nx G r h c sl T tn ∧ zRM L (x + 134) G r h c sl T tn ∧ zLS b r h c sl
theorem zLJ_of {L : zL} {x nx b : Nat} {G G' : zG} {r : Nat → Int32} {h : Nat → (Nat → Int32)} {c : Nat} {sl : Nat → Option (Nat → Int32)} {T : Nat → Nat} {tn : Nat} (hR : zRC L x nx G r h c sl T tn) (hM : zRM L (x + 134) G' r h c sl T tn) (hF : ∀ y, y ≠ x + 134 → G' y = G y) (hL : zLS b r h c sl) : zLJ L x nx G' b :=
  ⟨r, h, c, sl, T, tn, zRC_ne hR hF, hM, hL⟩
