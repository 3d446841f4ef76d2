section ZCOPY
variable {l : Launch} {X0 : State → Prop} {D : zD} {B : Nat} {own mn : String} {cc : ByteArray} {nL : Nat} {ret : Option FieldType} {R : Room} {post : zP} {k n : Nat} {L : zL} {nx : Nat} {pc : Nat} {lv : List (Option Value)} {st : List Value} {G : zG}
def zcp (off M : Nat) (f : Nat → Int32) (off0 : Nat) (g : Nat → Int32) : Nat → Int32 := fun y => if off ≤ y ∧ y < off + M then f (off0 + (y - off)) else g y
theorem zv_copy {q0 t0 r0 i0 N0 off0 q t r i N off M ix : Nat} {a : Int32} (hlink : Cond.methodLink own ix arraycopyName ∈ zgw) (hnat : Cond.native arraycopyName ∈ zgw) (hstat : Cond.static arraycopyName ∈ zgw) (hini : Cond.initialized "java/lang/System" ∈ zgw)
    (hq0 : (q0, t0) ∈ L) (hi0 : (zbT t0)[i0]? = some (r0, .inr (0, N0, off0, 0, 0))) (hq : (q, t) ∈ L) (hi : (zbT t)[i]? = some (r, .inr (0, N, off, 0, 0))) (h3 : ¬ a < 0) (hM : a.toNatClampNeg = M) (hM0 : M ≤ N0) (hM1 : M ≤ N)
    (hfr : 1 ≤ R.frames) (hlo : (st.map fun v => v.category).sum + (nativeFrameWords "java/lang/System" "arraycopy" 5 + 11) ≤ R.locals) (hd : decode cc pc = .ok (.invokestatic ix, 3))
    (kk : zV l X0 D B own mn cc nL ret R post k n L nx (pc + 3) lv st (zst G q (zcp off M (G q0) off0 (G q)))) : zV l X0 D B own mn cc nL ret R post k n L nx pc lv (.int a :: .int 0 :: .ref (q + r) :: .int 0 :: .ref (q0 + r0) :: st) G := by
  intro p e s m args below meth c H locs ls Q hX hR hl hW hS
  obtain ⟨k0, hk0⟩ := zpl_at hq0 hi0
  obtain ⟨k1, hk1⟩ := zpl_at hq hi
  have hz0 : (zcs D L G)[k0]? = some (q0 + r0, .inl (D.2 0, N0, .inl (zai N0 off0 (G q0)))) := zcs_at (D := D) (G := G) hk0
  have hz1 : (zcs D L G)[k1]? = some (q + r, .inl (D.2 0, N, .inl (zai N off (G q)))) := zcs_at (D := D) (G := G) hk1
  have hc0 : H[q0 + r0]? = some (vp_cell (D.2 0) (N0, .inl (zai N0 off0 (G q0)))) := hW.2.1 k0 _ hz0
  have hc1 : H[q + r]? = some (vp_cell (D.2 0) (N, .inl (zai N off (G q)))) := hW.2.1 k1 _ hz1
  have hAr := (hX.2.2.2.2.2.1.2 0 _ (ztys_at (by omega))).1
  obtain ⟨-, ka, hka, cma, hkka⟩ := hAr N0 (fun j => .int (zai N0 off0 (G q0) j))
  obtain ⟨-, kb, hkb, cmb, hkkb⟩ := hAr N (fun j => .int (zai N off (G q) j))
  have nn : a.toInt = (M : Int) := by
    have h0 : (0 : Int) ≤ a.toInt := by
      have := Int32.not_lt.mp h3
      simpa using Int32.le_iff_toInt_le.mp this
    have h1 : a.toInt.toNat = M := hM
    omega
  have z0 : (0 : Int32).toInt = 0 := rfl
  have zc0 : (0 : Int32).toNatClampNeg = 0 := rfl
  have e1 : copied (vp_cell (D.2 0) (N0, .inl (zai N0 off0 (G q0)))) (vp_cell (D.2 0) (N, .inl (zai N off (G q)))) 0 0 a = vp_cell (D.2 0) (N, .inl (va_cpy (zai N0 off0 (G q0)) (zai N off (G q)) 0 0 M)) := by
    rw [← hM]
    exact va_copied (fun z => .int z) (D.2 0) (D.2 0) _ _ (by rw [hM]; omega)
  intro T hT X
  obtain ⟨vm', X', step⟩ := X.arraycopy hX.1 hX.2.2.2.1 (hX.2.2.2.2.1 _ hlink) (hX.2.2.2.2.1 _ hnat) (hX.2.2.2.2.1 _ hstat) (hX.2.2.2.2.1 _ hini) (src := q0 + r0) (dst := q + r) (cs := vp_cell (D.2 0) (N0, .inl (zai N0 off0 (G q0)))) (cd := vp_cell (D.2 0) (N, .inl (zai N off (G q)))) (srcPos := 0) (destPos := 0) (n := a) (by rw [hT]; exact hc0) (by rw [hT]; exact hc1)
    (fun _ h => by cases h) (fun _ h => by cases h) (fun h => by cases h) (fun h => by cases h) hka hkb hkka hkkb (by rfl) (by decide) (by decide) h3
    (by rw [z0, nn]; show ¬ _ > ((arrV (D.2 0) N0 (fun j => .int (zai N0 off0 (G q0) j))).slots.size : Int); rw [arrV_size]; omega)
    (by rw [z0, nn]; show ¬ _ > ((arrV (D.2 0) N (fun j => .int (zai N off (G q) j))).slots.size : Int); rw [arrV_size]; omega)
    (fun vm₁ _ i hi => by
      have e : (vp_cell (D.2 0) (N0, .inl (zai N0 off0 (G q0)))).slots.getD ((0 : Int32).toNatClampNeg + i) .null = .int (zai N0 off0 (G q0) ((0 : Int32).toNatClampNeg + i)) := by
        show (arrV (D.2 0) N0 (fun j => .int (zai N0 off0 (G q0) j))).slots.getD _ _ = _
        rw [Array.getD_eq_getD_getElem?, arrV_read _ _ (by rw [hM] at hi; rw [zc0]; omega)]
        rfl
      rw [e]
      exact ⟨rfl, trivial⟩)
    (g := F0 m pc ls (.int a :: .int 0 :: .ref (q + r) :: .int 0 :: .ref (q0 + r0) :: st)) rfl (by show ls.size = c.maxLocals; rw [hl.2.1, hX.2.2.1]) (rest := st) rfl (by rw [hX.2.1]; exact hd) hfr (by show 2 * 0 + _ + _ ≤ _; omega)
  rw [e1] at X' step
  have hlt : q + r < H.size := (Array.getElem?_eq_some_iff.mp hc1).1
  have hheap : ((T.setVm vm').setCell (q + r) (vp_cell (D.2 0) (N, .inl (va_cpy (zai N0 off0 (G q0)) (zai N off (G q)) 0 0 M)))).heap = H.setIfInBounds (q + r) (vp_cell (D.2 0) (N, .inl (va_cpy (zai N0 off0 (G q0)) (zai N off (G q)) 0 0 M))) := by rw [← hT]; rfl
  have oq : ∀ x : Nat, x ≠ q + r → (H.setIfInBounds (q + r) (vp_cell (D.2 0) (N, .inl (va_cpy (zai N0 off0 (G q0)) (zai N off (G q)) 0 0 M))))[x]? = H[x]? := fun x hx => by simp [Array.getElem?_setIfInBounds, Ne.symm hx]
  have hval : va_cpy (zai N0 off0 (G q0)) (zai N off (G q)) 0 0 M = zai N off (zcp off M (G q0) off0 (G q)) := by
    funext y
    simp only [va_cpy, zai, zcp, Nat.zero_add, Nat.sub_zero, Nat.zero_le, true_and, Nat.le_add_right]
    by_cases hy : y < M
    · have h2 : y < N0 := by omega
      have h4 : y < N := by omega
      simp [hy, h2, h4]
    · have h5 : ¬ off + y < off + M := by omega
      simp [hy]
  have hside : ∀ x, ¬ ((zrg (.inr (0, N, off, 0, 0))).1 ≤ x ∧ x < (zrg (.inr (0, N, off, 0, 0))).2) → zcp off M (G q0) off0 (G q) x = G q x := by
    intro x hx
    simp only [zcp]
    rw [if_neg (fun h => hx ⟨h.1, by simp only [zrg]; omega⟩)]
  obtain ⟨t2, a1, b1⟩ := kk p e s m args below meth c _ _ ls Q hX hR hl (zW_of hW hq hi hk1 hside (by simp) (hW.2.1.set hW.2.2.1 hz1 (show (H.setIfInBounds (q + r) _)[q + r]? = some _ by
      rw [Array.getElem?_setIfInBounds, if_pos rfl, if_pos hlt]
      simp only [zac]
      rw [if_pos (by omega), hval]) oq))
    ⟨by simp; exact hS.1, fun x g1 g2 => by
      rw [oq x (fun e => g2 (by rw [e]; exact hW.2.2.1.2 k1 _ hz1))]
      exact hS.2.1 x g1 g2, fun x hx => by
      rcases List.mem_append.mp hx with h | h
      · exact hS.2.2 x h
      · obtain ⟨z, -, hz⟩ := List.mem_map.mp h
        rw [← hz]
        exact hW.2.2.1.2 k1 _ hz1⟩ _ hheap X'
  exact ⟨t2, step t2 a1, b1⟩
end ZCOPY
