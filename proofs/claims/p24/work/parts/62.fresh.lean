section ZFRESH
variable {l : Launch} {X0 : State → Prop} {D : zD} {B : Nat} {own mn : String} {cc : ByteArray} {nL : Nat} {ret : Option FieldType} {R : Room} {post : zP} {k n : Nat} {L : zL} {nx : Nat} {pc : Nat} {lv : List (Option Value)} {st : List Value} {G : zG}
/-- what is listed lies below -/
theorem zv_fresh (kk : (∀ b ∈ L, b.1 < nx) → zV l X0 D B own mn cc nL ret R post k n L nx pc lv st G) : zV l X0 D B own mn cc nL ret R post k n L nx pc lv st G :=
  fun p e s m args below meth c H locs ls Q hX hR hl hW hS => kk hW.2.2.2.2 p e s m args below meth c H locs ls Q hX hR hl hW hS
theorem zcs_app {D : zD} {L X : zL} {G : zG} : zcs D (L ++ X) G = zcs D L G ++ zcs D X G := by simp [zcs, zpl]
theorem zcs_cg {D : zD} {L : zL} {G G' : zG} (h : ∀ b ∈ L, G b.1 = G' b.1) : zcs D L G = zcs D L G' := by
  apply List.map_congr_left
  rintro ⟨q, r, cd⟩ hp
  obtain ⟨t, ht, -⟩ := zpl_mem hp
  rw [h _ ht]
theorem zcs_cons {D : zD} {q t : Nat} {X : zL} {G : zG} : zcs D ((q, t) :: X) G = (zbT t).map (fun c => (q + c.1, zce D q (G q) c.2)) ++ zcs D X G := by simp [zcs, zpl]
theorem zcs_nil {D : zD} {G : zG} : zcs D [] G = [] := rfl
/-- what was laid cell by cell is read as blobs -/
theorem zv_lay {L0 X Y : zL} {q : Nat} {G' : zG} (hL : ∀ b ∈ L0, b.1 < q) (e : L = L0 ++ X) (hG : ∀ y, y < q → G y = G' y) (hX : ∀ D : zD, zcs D X G = zcs D Y G') (hY : zfun Y nx) (hq : ∀ b ∈ Y, q ≤ b.1) (hnx : q ≤ nx)
    (kk : zV l X0 D B own mn cc nL ret R post k n (L0 ++ Y) nx pc lv st G') : zV l X0 D B own mn cc nL ret R post k n L nx pc lv st G := by
  subst e
  refine zv_relay (fun D => ?_) (fun hf => ?_) kk
  · rw [zcs_app, zcs_app, hX D, zcs_cg (G' := G') (fun b hb => hG _ (hL b hb))]
  · refine ⟨fun y t u h1 h2 => ?_, fun b hb => ?_⟩
    · rcases List.mem_append.mp h1 with h1 | h1 <;> rcases List.mem_append.mp h2 with h2 | h2
      · exact hf.1 _ _ _ (List.mem_append_left _ h1) (List.mem_append_left _ h2)
      · have := hL _ h1; have := hq _ h2; simp only at *; omega
      · have := hL _ h2; have := hq _ h1; simp only at *; omega
      · exact hY.1 _ _ _ h1 h2
    · rcases List.mem_append.mp hb with hb | hb
      · have := hL _ hb; omega
      · exact hY.2 _ hb
theorem zk_c {k1 n1 : Nat} {L1 : zL} {nx1 : Nat} {G1 : zG} {mc ms : Nat} (kk : zV l X0 D B own mn cc nL ret R post (k1 + mc) (n1 + ms) L1 nx1 (pc + 3) lv st G1) : ∀ (v : Option Value) (L' : zL) (nx' : Nat) (G' : zG), zE none L1 nx1 G1 v L' nx' G' → zV l X0 D B own mn cc nL ret R post (k1 + mc) (n1 + ms) L' nx' (pc + 3) lv (v.toList ++ st) G' := by
  rintro _ _ _ _ ⟨rfl, rfl, rfl, rfl⟩
  exact kk
theorem zv_vretC {mc ms : Nat} {L1 : zL} {nx1 : Nat} {G1 : zG} (hd : decode cc pc = .ok (.return_, 1)) (hr : ret = none) (hk : k ≤ mc) (hn : n ≤ ms) (hL : L = L1) (hx : nx = nx1) (hG : G = G1) : zV l X0 D B own mn cc nL ret R (fun v L' nx' G' k n => zE none L1 nx1 G1 v L' nx' G' ∧ k ≤ mc ∧ n ≤ ms) k n L nx pc lv [] G :=
  zv_vret hd hr ⟨⟨rfl, hL, hx, hG⟩, hk, hn⟩
theorem zv_eqL {L' : zL} (h : L = L') (kk : zV l X0 D B own mn cc nL ret R post k n L' nx pc lv st G) : zV l X0 D B own mn cc nL ret R post k n L nx pc lv st G := h ▸ kk
end ZFRESH
theorem hfs_X0 : ∀ q j, j < 8 → defaultValue (tyX0 j) = vp_V (zfl q (fun _ => 0) 0 [0, 0, 0, 0, 0, 1, 1, 1]) j := fun q j hj => by
  match j, hj with
  | 0, _ => rfl
  | 1, _ => rfl
  | 2, _ => rfl
  | 3, _ => rfl
  | 4, _ => rfl
  | 5, _ => rfl
  | 6, _ => rfl
  | 7, _ => rfl
theorem hfs_X1 : ∀ q j, j < 4 → defaultValue (tyX1 j) = vp_V (zfl q (fun _ => 0) 0 [0, 0, 0, 0]) j := fun q j hj => by
  match j, hj with
  | 0, _ => rfl
  | 1, _ => rfl
  | 2, _ => rfl
  | 3, _ => rfl
theorem hfs_X2 : ∀ q j, j < 3 → defaultValue (tyX2 j) = vp_V (zfl q (fun _ => 0) 0 [1, 0, 0]) j := fun q j hj => by
  match j, hj with
  | 0, _ => rfl
  | 1, _ => rfl
  | 2, _ => rfl
theorem hfs_X3 : ∀ q j, j < 7 → defaultValue (tyX3 j) = vp_V (zfl q (fun _ => 0) 0 [1, 0, 0, 0, 0, 0, 0]) j := fun q j hj => by
  match j, hj with
  | 0, _ => rfl
  | 1, _ => rfl
  | 2, _ => rfl
  | 3, _ => rfl
  | 4, _ => rfl
  | 5, _ => rfl
  | 6, _ => rfl
theorem hfs_X4 : ∀ q j, j < 2 → defaultValue (tyX4 j) = vp_V (zfl q (fun _ => 0) 0 [1, 1]) j := fun q j hj => by
  match j, hj with
  | 0, _ => rfl
  | 1, _ => rfl
theorem hfs_X5 : ∀ q j, j < 7 → defaultValue (tyX5 j) = vp_V (zfl q (fun _ => 0) 0 [0, 0, 0, 0, 0, 1, 1]) j := fun q j hj => by
  match j, hj with
  | 0, _ => rfl
  | 1, _ => rfl
  | 2, _ => rfl
  | 3, _ => rfl
  | 4, _ => rfl
  | 5, _ => rfl
  | 6, _ => rfl
theorem hfs_X6 : ∀ q j, j < 7 → defaultValue (tyX6 j) = vp_V (zfl q (fun _ => 0) 0 [1, 1, 1, 1, 1, 1, 1]) j := fun q j hj => by
  match j, hj with
  | 0, _ => rfl
  | 1, _ => rfl
  | 2, _ => rfl
  | 3, _ => rfl
  | 4, _ => rfl
  | 5, _ => rfl
  | 6, _ => rfl
theorem zfun_1 {q t nx : Nat} (h : q < nx) : zfun [(q, t)] nx := ⟨fun y a b h1 h2 => by
  have e1 := List.mem_singleton.mp h1
  have e2 := List.mem_singleton.mp h2
  rw [Prod.mk.injEq] at e1 e2
  rw [e1.2, e2.2], fun b hb => by rw [List.mem_singleton.mp hb]; exact h⟩
theorem nI_d1 {q : Nat} : zdr q (nI (q + 1 - q)) = some (q + 1) := zdr_nI (by omega) (by omega)
theorem zdr_l {q k : Nat} (h : 0 < k) (h2 : k < 2147483648) : zdr q (nI k) = some (q + k) := by
  have := zdr_nI (q := q) (a := q + k) (by omega) (by omega)
  rwa [show q + k - q = k by omega] at this
theorem zdr_0 {q : Nat} : zdr q 0 = none := by unfold zdr; rw [if_pos rfl]
theorem zai_0 {n off : Nat} : zai n off (fun _ => 0) = fun _ => 0 := by funext j; simp [zai]
theorem lt_app {L : zL} {q a t : Nat} (h : ∀ b ∈ L, b.1 < q) (ha : a < q) : ∀ b ∈ L ++ [(a, t)], b.1 < q := by
  intro b hb
  rcases List.mem_append.mp hb with hb | hb
  · exact h b hb
  · rw [List.mem_singleton.mp hb]; exact ha
theorem lt_ge {L : zL} {q q' : Nat} (h : ∀ b ∈ L, b.1 < q) (ha : q ≤ q') : ∀ b ∈ L, b.1 < q' := fun b hb => Nat.lt_of_lt_of_le (h b hb) ha
/-- a new state's row -/
def initR : Nat → Int32 := fun j => if j = 0 then 1 else 0
theorem zar_cups {q : Nat} {g : Nat → Int32} : zar (q + 2) 3 0 0 0 (upd (upd (upd (fun _ => 0) 0 (nI 1)) 1 (nI 5)) 2 (nI 9)) = zar q 3 21 3 4 g := by
  funext j
  unfold zar
  by_cases h : j < 3
  · rw [if_pos h, if_pos h, if_pos rfl, if_neg (by decide)]
    match j, h with
    | 0, _ => exact zdr_l (by decide) (by decide)
    | 1, _ => exact zdr_l (by decide) (by decide)
    | 2, _ => exact zdr_l (by decide) (by decide)
  · rw [if_neg h, if_neg h]
theorem zai_init : (zai 16 0 fun _ => 0) = zai 16 5 (hdR initR) := by
  funext j
  simp only [zai, hdR, initR]
  grind
theorem zai_in2 : zai 16 5 (hdR initR) = fun _ => 0 := by rw [← zai_init, zai_0]
theorem hdR_in0 : hdR initR 0 = 1 := rfl
theorem hdR_inS {k : Nat} : hdR initR (k + 1) = 0 := by simp [hdR, initR]
theorem cupR_in {i : Nat} : cupR initR i = fun _ => 0 := by funext j; simp [cupR, initR]
theorem in_0 {G : zG} {q : Nat} : stPut G q initR q = hdR initR := (stPut_OK G q initR).1
theorem in_3 {G : zG} {q : Nat} : stPut G q initR (q + 3) = fun _ => 0 := by rw [← cupR_in (i := 0)]; exact (stPut_OK G q initR).2 0 (by decide)
theorem in_7 {G : zG} {q : Nat} : stPut G q initR (q + 7) = fun _ => 0 := by rw [← cupR_in (i := 1)]; exact (stPut_OK G q initR).2 1 (by decide)
theorem in_11 {G : zG} {q : Nat} : stPut G q initR (q + 11) = fun _ => 0 := by rw [← cupR_in (i := 2)]; exact (stPut_OK G q initR).2 2 (by decide)
theorem hd_1 : hdR initR 1 = 0 := rfl
theorem hd_2 : hdR initR 2 = 0 := rfl
theorem hd_3 : hdR initR 3 = 0 := rfl
theorem hd_4 : hdR initR 4 = 0 := rfl
