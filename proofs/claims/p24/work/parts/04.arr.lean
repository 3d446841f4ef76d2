section ZARR
variable {l : Launch} {X0 : State → Prop} {D : zD} {B : Nat} {own mn : String} {cc : ByteArray} {nL : Nat} {ret : Option FieldType} {R : Room} {post : zP} {k n : Nat} {L : zL} {nx : Nat} {pc : Nat} {lv : List (Option Value)} {st : List Value} {G : zG}
theorem ztys_at {D : zD} {ta : Nat} (h : ta < 5) : (ztys D)[ta]? = some (D.2 ta, zty ta) := by
  match ta, h with
  | 0, _ => rfl
  | 1, _ => rfl
  | 2, _ => rfl
  | 3, _ => rfl
  | 4, _ => rfl
theorem zai_upd {n off i : Nat} {f : Nat → Int32} {v : Int32} (hi : i < n) : zai n off (upd f (off + i) v) = upd (zai n off f) i v := by
  funext j
  simp only [zai, upd]
  by_cases hj : j < n
  · by_cases e : j = i
    · subst e; simp [hj]
    · rw [if_pos hj, if_neg (by omega), if_neg e, if_pos hj]
  · rw [if_neg hj, if_neg (by omega), if_neg hj]
theorem zv_ald {q t r i N off j0 : Nat} {j : Int32} (ta : Nat) (hta : ta < 2) (hq : (q, t) ∈ L) (hi : (zbT t)[i]? = some (r, .inr (ta, N, off, 0, 0))) (hj : zix j j0 N) {ins : Instr} (hins : ins = (if ta = 0 then .iaload else if ta = 1 then .caload else .baload)) (hd : decode cc pc = .ok (ins, 1))
    (kk : zV l X0 D B own mn cc nL ret R post k n L nx (pc + 1) lv (.int (G q (off + j0)) :: st) G) : zV l X0 D B own mn cc nL ret R post k n L nx pc lv (.int j :: .ref (q + r) :: st) G := by
  intro p e s m args below meth c H locs ls Q hX hR hl hW hS
  obtain ⟨k0, hk0⟩ := zpl_at hq hi
  have hz := zcs_at (D := D) (G := G) hk0
  have hty := ztys_at (D := D) (ta := ta) (by omega)
  have hz' : (zcs D L G)[k0]? = some (q + r, .inl (D.2 ta, N, .inl (zai N off (G q)))) := by
    rw [hz]
    simp only [zce, zac]
    rw [if_pos (show ta < 3 by omega)]
  have hval : zai N off (G q) j.toNatClampNeg = G q (off + j0) := by
    rw [hj.2.1]
    simp [zai, hj.2.2]
  have kk' := kk p e s m args below meth c H locs ls Q hX hR hl hW hS
  rw [← hval] at kk'
  subst hins
  match ta, hta with
  | 0, _ => exact va_iald hX.1 hX.2.1 hX.2.2.2.2.2.1 hW.2.1 k0 _ hz' hty (zix_in hj) hd kk'
  | 1, _ => exact va_cald hX.1 hX.2.1 hX.2.2.2.2.2.1 hW.2.1 k0 _ hz' hty (zix_in hj) hd kk'
  | k + 2, h => exact absurd h (by omega)
theorem zv_iald {q t r i N off j0 : Nat} {j : Int32} (hq : (q, t) ∈ L) (hi : (zbT t)[i]? = some (r, .inr (0, N, off, 0, 0))) (hj : zix j j0 N) (hd : decode cc pc = .ok (.iaload, 1))
    (kk : zV l X0 D B own mn cc nL ret R post k n L nx (pc + 1) lv (.int (G q (off + j0)) :: st) G) : zV l X0 D B own mn cc nL ret R post k n L nx pc lv (.int j :: .ref (q + r) :: st) G := zv_ald 0 (by omega) hq hi hj rfl hd kk
theorem zv_cald {q t r i N off j0 : Nat} {j : Int32} (hq : (q, t) ∈ L) (hi : (zbT t)[i]? = some (r, .inr (1, N, off, 0, 0))) (hj : zix j j0 N) (hd : decode cc pc = .ok (.caload, 1))
    (kk : zV l X0 D B own mn cc nL ret R post k n L nx (pc + 1) lv (.int (G q (off + j0)) :: st) G) : zV l X0 D B own mn cc nL ret R post k n L nx pc lv (.int j :: .ref (q + r) :: st) G := zv_ald 1 (by omega) hq hi hj rfl hd kk
/-- the heap behind a store of a number into an array of a blob -/
theorem zW_ast {q t r i N off j0 k0 ta : Nat} {j : Int32} {v : Int32} {H H' : Heap} (hta : ta < 3) (hW : zW D B L nx G H) (hq : (q, t) ∈ L) (hi : (zbT t)[i]? = some (r, .inr (ta, N, off, 0, 0))) (hk0 : (zpl L)[k0]? = some (q, r, .inr (ta, N, off, 0, 0))) (hj : zix j j0 N)
    (e1 : H'[q + r]? = some ((arrV (D.2 ta) N (fun j => .int (zai N off (G q) j))).setSlot j.toNatClampNeg (.int v))) (e2 : H'.size = H.size) (e3 : ∀ x : Nat, x ≠ q + r → H'[x]? = H[x]?) : zW D B L nx (zst G q (upd (G q) (off + j0) v)) H' := by
  have hz := zcs_at (D := D) (G := G) hk0
  refine zW_of hW hq hi hk0 (fun x hx => ?_) e2 (hW.2.1.set hW.2.2.1 hz ?_ e3)
  · simp only [upd]
    have hb := hj.2.2
    rw [if_neg (fun e => hx (by rw [e]; simp only [zrg]; omega))]
  · show H'[q + r]? = some (vp_cell _ _)
    rw [e1, arrV_store, hj.2.1]
    congr 1
    simp only [zac]
    rw [if_pos hta, zai_upd hj.2.2, vp_cell_i]
    congr 1
    funext x
    simp only [updV, upd]
    split <;> rfl
theorem zv_iast {q t r i N off j0 : Nat} {j v : Int32} (hq : (q, t) ∈ L) (hi : (zbT t)[i]? = some (r, .inr (0, N, off, 0, 0))) (hj : zix j j0 N) (hd : decode cc pc = .ok (.iastore, 1))
    (kk : zV l X0 D B own mn cc nL ret R post k n L nx (pc + 1) lv st (zst G q (upd (G q) (off + j0) v))) : zV l X0 D B own mn cc nL ret R post k n L nx pc lv (.int v :: .int j :: .ref (q + r) :: st) G := by
  intro p e s m args below meth c H locs ls Q hX hR hl hW hS
  obtain ⟨k0, hk0⟩ := zpl_at hq hi
  have hz : (zcs D L G)[k0]? = some (q + r, .inl (D.2 0, N, .inl (zai N off (G q)))) := zcs_at (D := D) (G := G) hk0
  refine W.iast hX.1 hX.2.1 (hW.2.1 k0 _ hz) ((hX.2.2.2.2.2.1.2 0 _ (ztys_at (by omega))).1 N _) (fun q => by cases q) (by show ¬ (j < 0 ∨ (arrV _ _ _).slots.size ≤ _); rw [arrV_size]; exact zix_in hj) rfl rfl hd fun H1 e1 e2 e3 => ?_
  exact kk p e s m args below meth c H1 _ ls Q hX hR hl (zW_ast (by omega) hW hq hi hk0 hj e1 e2 e3) (hS.put e2 e3 (hW.2.2.1.2 k0 _ hz))
theorem zv_cast {q t r i N off j0 : Nat} {j v w : Int32} (hq : (q, t) ∈ L) (hi : (zbT t)[i]? = some (r, .inr (1, N, off, 0, 0))) (hj : zix j j0 N) (hw : narrow .char (.int v) = .int w) (hd : decode cc pc = .ok (.castore, 1))
    (kk : zV l X0 D B own mn cc nL ret R post k n L nx (pc + 1) lv st (zst G q (upd (G q) (off + j0) w))) : zV l X0 D B own mn cc nL ret R post k n L nx pc lv (.int v :: .int j :: .ref (q + r) :: st) G := by
  intro p e s m args below meth c H locs ls Q hX hR hl hW hS
  obtain ⟨k0, hk0⟩ := zpl_at hq hi
  have hz : (zcs D L G)[k0]? = some (q + r, .inl (D.2 1, N, .inl (zai N off (G q)))) := zcs_at (D := D) (G := G) hk0
  refine W.cast hX.1 hX.2.1 (hW.2.1 k0 _ hz) ((hX.2.2.2.2.2.1.2 1 _ (ztys_at (by omega))).1 N _) (fun q => by cases q) (by show ¬ (j < 0 ∨ (arrV _ _ _).slots.size ≤ _); rw [arrV_size]; exact zix_in hj) rfl rfl hd fun H1 e1 e2 e3 => ?_
  exact kk p e s m args below meth c H1 _ ls Q hX hR hl (zW_ast (by omega) hW hq hi hk0 hj (by rw [e1, hw]; rfl) e2 e3) (hS.put e2 e3 (hW.2.2.1.2 k0 _ hz))
theorem zty_ref {ta : Nat} (h3 : 3 ≤ ta) (h5 : ta < 5) : ∃ C, zty ta = .object C := by
  match ta, h3, h5 with
  | 3, _, _ => exact ⟨_, rfl⟩
  | 4, _, _ => exact ⟨_, rfl⟩
theorem zv_aald {q t r i N off a b j0 ta : Nat} {j : Int32} (h3 : 3 ≤ ta) (h5 : ta < 5) (hq : (q, t) ∈ L) (hi : (zbT t)[i]? = some (r, .inr (ta, N, off, a, b))) (hj : zix j j0 N) (hd : decode cc pc = .ok (.aaload, 1))
    (kk : zV l X0 D B own mn cc nL ret R post k n L nx (pc + 1) lv (va_rf (zar q N off a b (G q) j0) :: st) G) : zV l X0 D B own mn cc nL ret R post k n L nx pc lv (.int j :: .ref (q + r) :: st) G := by
  intro p e s m args below meth c H locs ls Q hX hR hl hW hS
  obtain ⟨k0, hk0⟩ := zpl_at hq hi
  have hz := zcs_at (D := D) (G := G) hk0
  have hty := ztys_at (D := D) (ta := ta) (by omega)
  obtain ⟨C, hC⟩ := zty_ref h3 h5
  rw [hC] at hty
  have hz' : (zcs D L G)[k0]? = some (q + r, .inl (D.2 ta, N, .inr (.inr (.inr (.inr (zar q N off a b (G q))))))) := by
    rw [hz]
    simp only [zce, zac]
    rw [if_neg (by omega)]
  have kk' := kk p e s m args below meth c H locs ls Q hX hR hl hW hS
  refine va_aldq hX.1 hX.2.1 hX.2.2.2.2.2.1 hW.2.1 k0 ta hz' hty (zix_in hj) hd ?_
  rw [hj.2.1]
  exact kk'
theorem zv_aaldS {q t r i N off a b j0 ta : Nat} {j : Int32} (h3 : 3 ≤ ta) (h5 : ta < 5) (hq : (q, t) ∈ L) (hi : (zbT t)[i]? = some (r, .inr (ta, N, off, a, b + 1))) (hj : zix j j0 N) (hd : decode cc pc = .ok (.aaload, 1))
    (kk : zV l X0 D B own mn cc nL ret R post k n L nx (pc + 1) lv (.ref (q + (a + (b + 1) * j0)) :: st) G) : zV l X0 D B own mn cc nL ret R post k n L nx pc lv (.int j :: .ref (q + r) :: st) G := by
  refine zv_aald h3 h5 hq hi hj hd ?_
  have e : zar q N off a (b + 1) (G q) j0 = some (q + (a + (b + 1) * j0)) := by simp [zar, hj.2.2]
  rw [e]
  exact kk
theorem zv_aaldD {q t r i N off j0 ta x : Nat} {j : Int32} (h3 : 3 ≤ ta) (h5 : ta < 5) (hq : (q, t) ∈ L) (hi : (zbT t)[i]? = some (r, .inr (ta, N, off, 0, 0))) (hj : zix j j0 N) (hx : zdr q (G q (off + j0)) = some x) (hd : decode cc pc = .ok (.aaload, 1))
    (kk : zV l X0 D B own mn cc nL ret R post k n L nx (pc + 1) lv (.ref x :: st) G) : zV l X0 D B own mn cc nL ret R post k n L nx pc lv (.int j :: .ref (q + r) :: st) G := by
  refine zv_aald h3 h5 hq hi hj hd ?_
  have e : zar q N off 0 0 (G q) j0 = some x := by simp [zar, hj.2.2, hx]
  rw [e]
  exact kk
theorem zv_aaldN {q t r i N off j0 ta : Nat} {j : Int32} (h3 : 3 ≤ ta) (h5 : ta < 5) (hq : (q, t) ∈ L) (hi : (zbT t)[i]? = some (r, .inr (ta, N, off, 0, 0))) (hj : zix j j0 N) (hx : G q (off + j0) = 0) (hd : decode cc pc = .ok (.aaload, 1))
    (kk : zV l X0 D B own mn cc nL ret R post k n L nx (pc + 1) lv (.null :: st) G) : zV l X0 D B own mn cc nL ret R post k n L nx pc lv (.int j :: .ref (q + r) :: st) G := by
  refine zv_aald h3 h5 hq hi hj hd ?_
  have e : zar q N off 0 0 (G q) j0 = none := by simp [zar, hx, zdr]
  rw [e]
  exact kk
theorem zdr_nI {q a : Nat} (ha : q < a) (ha2 : a - q < 2 ^ 31) : zdr q (nI (a - q)) = some a := by
  have hc := nI_clamp (n := a - q) ha2
  have h0 : nI (a - q) ≠ 0 := fun h => by rw [h] at hc; simp at hc; omega
  unfold zdr
  rw [if_neg h0, hc]
  congr 1
  omega
theorem zv_aast {q t r i N off j0 ta x tx ci : Nat} {j : Int32} {fks : List Nat} {C : String} {T : u_T} {N1 : Nat} (h3 : 3 ≤ ta) (h5 : ta < 5) (hq : (q, t) ∈ L) (hi : (zbT t)[i]? = some (r, .inr (ta, N, off, 0, 0))) (hj : zix j j0 N) (hx : (x, tx) ∈ L) (hxo : (zbT tx)[0]? = some (0, .inl (ci, fks))) (hci : vwCl[ci]? = some (C, T, N1)) (hta : zty ta = .object C) (ha : q < x) (ha2 : x - q < 2 ^ 31) (hd : decode cc pc = .ok (.aastore, 1))
    (kk : zV l X0 D B own mn cc nL ret R post k n L nx (pc + 1) lv st (zst G q (upd (G q) (off + j0) (nI (x - q))))) : zV l X0 D B own mn cc nL ret R post k n L nx pc lv (.ref x :: .int j :: .ref (q + r) :: st) G := by
  intro p e s m args below meth c H locs ls Q hX hR hl hW hS
  obtain ⟨k0, hk0⟩ := zpl_at hq hi
  have hz := zcs_at (D := D) (G := G) hk0
  have hz' : (zcs D L G)[k0]? = some (q + r, .inl (D.2 ta, N, .inr (.inr (.inr (.inr (zar q N off 0 0 (G q))))))) := by
    rw [hz]
    simp only [zce, zac]
    rw [if_neg (by omega)]
  obtain ⟨kx, hkx⟩ := zpl_at hx hxo
  have hzx := zcs_at (D := D) (G := G) hkx
  have hty := ztys_at (D := D) (ta := ta) (by omega)
  rw [hta] at hty
  obtain ⟨r', hr', cellV, g1, g2, g3, -⟩ := hW.2.1 kx _ hzx
  have hcls := (hX.2.2.2.2.2.1.1 ci _ hci).2
  obtain ⟨kA, comp, k1, k2, k3, -⟩ := (hX.2.2.2.2.2.1.2 ta _ hty).2
  have hcomp : comp = D.1.1 ci := Option.some.inj (k3.symm.trans hcls.1)
  subst hcomp
  obtain ⟨kC, hkC, -⟩ := id hcls.2
  refine W.aast hX.1 hX.2.1 (hW.2.1 k0 _ hz') (fun q h => by cases h) (fun h => by cases h) k1 k2 rfl hkC ⟨hj.1, by show _ < (arrV _ _ _).slots.size; rw [arrV_size, hj.2.1]; exact hj.2.2⟩ g1 (fun q h => by rw [g3] at h; cases h) (by rw [g2]; exact hkC) (by rw [g2]; exact va_assign hcls) rfl rfl hd fun H1 e1 e2 e3 => ?_
  refine kk p e s m args below meth c H1 _ ls Q hX hR hl (zW_of hW hq hi hk0 (fun y hy => ?_) e2 (hW.2.1.set hW.2.2.1 hz ?_ e3)) (hS.put e2 e3 (hW.2.2.1.2 k0 _ hz'))
  · simp only [upd]
    have hb := hj.2.2
    rw [if_neg (fun e => hy (by rw [e]; simp only [zrg]; omega))]
  · show H1[q + r]? = some (vp_cell _ _)
    rw [e1]
    rw [show vp_cell (D.2 ta) (N, .inr (.inr (.inr (.inr (zar q N off 0 0 (G q)))))) = arrV (D.2 ta) N (fun j => va_rf (zar q N off 0 0 (G q) j)) from rfl, arrV_store, hj.2.1]
    congr 1
    simp only [zac]
    rw [if_neg (by omega)]
    rw [vp_cell_q]
    congr 1
    funext y
    simp only [updV, zar, upd]
    by_cases hy : y = j0
    · subst hy
      simp [hj.2.2, zdr_nI ha ha2, va_rf]
    · have hne : ¬ off + y = off + j0 := by omega
      simp [hy, hne]
end ZARR
