def zpairs (lv : List (Option Value)) : List (Nat × Value) := (List.range lv.length).filterMap (fun i => (lv[i]?.join).map (fun v => (i, v)))
theorem mem_zpairs {lv : List (Option Value)} {i : Nat} {v : Value} : (i, v) ∈ zpairs lv ↔ lv[i]? = some (some v) := by
  unfold zpairs
  rw [List.mem_filterMap]
  constructor
  · rintro ⟨j, -, h⟩
    cases hj : lv[j]? with
    | none => rw [hj] at h; cases h
    | some w =>
      cases w with
      | none => rw [hj] at h; cases h
      | some w =>
        rw [hj] at h
        simp at h
        obtain ⟨rfl, rfl⟩ := h
        exact hj
  · intro h
    exact ⟨i, List.mem_range.mpr (List.getElem?_eq_some_iff.mp h).1, by rw [h]; rfl⟩
theorem zlv_has {ls : Array Slot} {nL : Nat} {lv : List (Option Value)} (h : zlv ls nL lv) : lv_has ls nL (zpairs lv) :=
  ⟨h.2.1, h.2.2.1, fun q hq => h.2.2.2 q.1 q.2 (mem_zpairs.mp hq)⟩
/-- no long stands just ahead of the place -/
def zn2 (lv : List (Option Value)) : Nat → Bool
  | 0 => true
  | i + 1 => match lv[i]? with
    | some (some v) => v.category == 1
    | _ => true
theorem zn2_at {lv : List (Option Value)} {i j : Nat} {v : Value} (h : zn2 lv i = true) (hj : lv[j]? = some (some v)) (hij : j + 1 = i) : (v.category == 2) = false := by
  subst hij
  simp only [zn2, hj, beq_iff_eq] at h
  rw [h]
  rfl
theorem zlv_set1 {ls ls' : Array Slot} {nL i : Nat} {lv : List (Option Value)} {v : Value} (h : zlv ls nL lv) (hn : zn2 lv i = true) (hi : i < nL)
    (h' : lv_has ls' nL ((i, v) :: (zpairs lv).filter (fun q => !(q.1 == i) && !(q.1 + 1 == i && q.2.category == 2)))) : zlv ls' nL (lv.set i (some v)) := by
  refine ⟨by rw [List.length_set]; exact h.1, h'.1, h'.2.1, fun j w hj => ?_⟩
  rw [List.getElem?_set] at hj
  by_cases e : i = j
  · subst e
    rw [if_pos rfl, if_pos (by rw [h.1]; exact hi)] at hj
    cases hj
    exact h'.2.2 (i, v) List.mem_cons_self
  · rw [if_neg e] at hj
    refine h'.2.2 (j, w) (List.mem_cons_of_mem _ (List.mem_filter.mpr ⟨mem_zpairs.mpr hj, ?_⟩))
    have e1 : (j == i) = false := by simp; omega
    by_cases e2 : j + 1 = i
    · simp [e1, zn2_at hn hj e2]
    · have e3 : (j + 1 == i) = false := by simp; omega
      simp [e1, e3]
theorem zlv_set2 {ls ls' : Array Slot} {nL i : Nat} {lv : List (Option Value)} {v : Value} (h : zlv ls nL lv) (hn : zn2 lv i = true) (hi : i + 1 < nL)
    (h' : lv_has ls' nL ((i, v) :: (zpairs lv).filter (fun q => !(q.1 == i) && (!(q.1 == i + 1) && !(q.1 + 1 == i && q.2.category == 2))))) : zlv ls' nL ((lv.set i (some v)).set (i + 1) none) := by
  refine ⟨by rw [List.length_set, List.length_set]; exact h.1, h'.1, h'.2.1, fun j w hj => ?_⟩
  rw [List.getElem?_set] at hj
  by_cases e4 : i + 1 = j
  · subst e4
    rw [if_pos rfl] at hj
    split at hj <;> cases hj
  rw [if_neg e4, List.getElem?_set] at hj
  by_cases e : i = j
  · subst e
    rw [if_pos rfl, if_pos (by rw [h.1]; omega)] at hj
    cases hj
    exact h'.2.2 (i, v) List.mem_cons_self
  · rw [if_neg e] at hj
    refine h'.2.2 (j, w) (List.mem_cons_of_mem _ (List.mem_filter.mpr ⟨mem_zpairs.mpr hj, ?_⟩))
    have e1 : (j == i) = false := by simp; omega
    have e5 : (j == i + 1) = false := by simp; omega
    by_cases e2 : j + 1 = i
    · simp [e1, e5, zn2_at hn hj e2]
    · have e3 : (j + 1 == i) = false := by simp; omega
      simp [e1, e5, e3]
section ZLOC
variable {l : Launch} {X0 : State → Prop} {D : zD} {B : Nat} {own mn : String} {cc : ByteArray} {nL : Nat} {ret : Option FieldType} {R : Room} {post : zP} {k n : Nat} {L : zL} {nx : Nat} {pc : Nat} {lv : List (Option Value)} {st : List Value} {G : zG}
theorem zv_istore_n {i : Fin 4} {x : Int32} (hd : decode cc pc = .ok (.istore_n i, 1)) (hi : (i : Nat) < nL) (hn : zn2 lv i = true) (kk : zV l X0 D B own mn cc nL ret R post k n L nx (pc + 1) (lv.set i (some (.int x))) st G) : zV l X0 D B own mn cc nL ret R post k n L nx pc lv (.int x :: st) G :=
  fun p e s m args below meth c H locs ls Q hX hR hl hW hS => lv_istore_n hX.1 hX.2.1 hd rfl (zlv_has hl) hi rfl (fun ls' h' => kk p e s m args below meth c H locs ls' Q hX hR (zlv_set1 hl hn hi h') hW hS)
theorem zv_istore {i : Nat} {x : Int32} (hd : decode cc pc = .ok (.istore i, 2)) (hi : i < nL) (hn : zn2 lv i = true) (kk : zV l X0 D B own mn cc nL ret R post k n L nx (pc + 2) (lv.set i (some (.int x))) st G) : zV l X0 D B own mn cc nL ret R post k n L nx pc lv (.int x :: st) G :=
  fun p e s m args below meth c H locs ls Q hX hR hl hW hS => lv_istore hX.1 hX.2.1 hd (zlv_has hl) hi rfl (fun ls' h' => kk p e s m args below meth c H locs ls' Q hX hR (zlv_set1 hl hn hi h') hW hS)
theorem zv_astore_n {i : Fin 4} {x : Nat} (hd : decode cc pc = .ok (.astore_n i, 1)) (hi : (i : Nat) < nL) (hn : zn2 lv i = true) (kk : zV l X0 D B own mn cc nL ret R post k n L nx (pc + 1) (lv.set i (some (.ref x))) st G) : zV l X0 D B own mn cc nL ret R post k n L nx pc lv (.ref x :: st) G :=
  fun p e s m args below meth c H locs ls Q hX hR hl hW hS => lv_astore_n hX.1 hX.2.1 hd rfl (zlv_has hl) hi rfl (fun ls' h' => kk p e s m args below meth c H locs ls' Q hX hR (zlv_set1 hl hn hi h') hW hS)
theorem zv_astore {i : Nat} {x : Nat} (hd : decode cc pc = .ok (.astore i, 2)) (hi : i < nL) (hn : zn2 lv i = true) (kk : zV l X0 D B own mn cc nL ret R post k n L nx (pc + 2) (lv.set i (some (.ref x))) st G) : zV l X0 D B own mn cc nL ret R post k n L nx pc lv (.ref x :: st) G :=
  fun p e s m args below meth c H locs ls Q hX hR hl hW hS => lv_astore hX.1 hX.2.1 hd (zlv_has hl) hi rfl (fun ls' h' => kk p e s m args below meth c H locs ls' Q hX hR (zlv_set1 hl hn hi h') hW hS)
theorem zv_lstore_n {i : Fin 4} {x : Int64} (hd : decode cc pc = .ok (.lstore_n i, 1)) (hi : (i : Nat) + 1 < nL) (hn : zn2 lv i = true) (kk : zV l X0 D B own mn cc nL ret R post k n L nx (pc + 1) ((lv.set i (some (.long x))).set ((i : Nat) + 1) none) st G) : zV l X0 D B own mn cc nL ret R post k n L nx pc lv (.long x :: st) G :=
  fun p e s m args below meth c H locs ls Q hX hR hl hW hS => lv_lstore_n hX.1 hX.2.1 hd rfl (zlv_has hl) hi rfl (fun ls' h' => kk p e s m args below meth c H locs ls' Q hX hR (zlv_set2 hl hn hi h') hW hS)
theorem zv_iinc {i : Nat} {a : Int} {x v : Int32} (hd : decode cc pc = .ok (.iinc i a, 3)) (hv : lv[i]? = some (some (.int x))) (hx : x + Int32.ofInt a = v) (hi : i < nL) (hn : zn2 lv i = true) (kk : zV l X0 D B own mn cc nL ret R post k n L nx (pc + 3) (lv.set i (some (.int v))) st G) : zV l X0 D B own mn cc nL ret R post k n L nx pc lv st G := by
  intro p e s m args below meth c H locs ls Q hX hR hl hW hS
  obtain ⟨k0, hk0⟩ := List.getElem?_of_mem (mem_zpairs.mpr hv)
  exact lv_iinc hX.1 hX.2.1 hd (zlv_has hl) hk0 hx hi rfl (fun ls' h' => kk p e s m args below meth c H locs ls' Q hX hR (zlv_set1 hl hn hi h') hW hS)
theorem zv_astore_nN {i : Fin 4} (hd : decode cc pc = .ok (.astore_n i, 1)) (hi : (i : Nat) < nL) (hn : zn2 lv i = true) (kk : zV l X0 D B own mn cc nL ret R post k n L nx (pc + 1) (lv.set i (some .null)) st G) : zV l X0 D B own mn cc nL ret R post k n L nx pc lv (.null :: st) G :=
  fun p e s m args below meth c H locs ls Q hX hR hl hW hS => lv_astore_nN hX.1 hX.2.1 hd rfl (zlv_has hl) hi rfl (fun ls' h' => kk p e s m args below meth c H locs ls' Q hX hR (zlv_set1 hl hn hi h') hW hS)
theorem zv_astoreN {i : Nat} (hd : decode cc pc = .ok (.astore i, 2)) (hi : i < nL) (hn : zn2 lv i = true) (kk : zV l X0 D B own mn cc nL ret R post k n L nx (pc + 2) (lv.set i (some .null)) st G) : zV l X0 D B own mn cc nL ret R post k n L nx pc lv (.null :: st) G :=
  fun p e s m args below meth c H locs ls Q hX hR hl hW hS => lv_astoreN hX.1 hX.2.1 hd (zlv_has hl) hi rfl (fun ls' h' => kk p e s m args below meth c H locs ls' Q hX hR (zlv_set1 hl hn hi h') hW hS)
theorem zv_aload_nN {i : Fin 4} (hd : decode cc pc = .ok (.aload_n i, 1)) (hv : lv[(i : Nat)]? = some (some .null)) (kk : zV l X0 D B own mn cc nL ret R post k n L nx (pc + 1) lv (.null :: st) G) : zV l X0 D B own mn cc nL ret R post k n L nx pc lv (st) G :=
  fun p e s m args below meth c H locs ls Q hX hR hl hW hS => lv_aload_nN hX.1 hX.2.1 hd rfl (hl.2.2.2 _ _ hv) (kk p e s m args below meth c H locs ls Q hX hR hl hW hS)
theorem zv_aloadN {i : Nat} (hd : decode cc pc = .ok (.aload i, 2)) (hv : lv[i]? = some (some .null)) (kk : zV l X0 D B own mn cc nL ret R post k n L nx (pc + 2) lv (.null :: st) G) : zV l X0 D B own mn cc nL ret R post k n L nx pc lv (st) G :=
  fun p e s m args below meth c H locs ls Q hX hR hl hW hS => lv_aloadN hX.1 hX.2.1 hd (hl.2.2.2 _ _ hv) (kk p e s m args below meth c H locs ls Q hX hR hl hW hS)
/-- a local that is a reference or null -/
theorem zv_aload_w {i : Nat} {ins : Instr} {ln : Nat} {w : Value} (hins : (ins = .aload i ∧ ln = 2) ∨ (∃ j : Fin 4, ins = .aload_n j ∧ (j : Nat) = i ∧ ln = 1)) (hw : ∃ a, w = .ref a) (hd : decode cc pc = .ok (ins, ln)) (hv : lv[i]? = some (some w)) (kk : zV l X0 D B own mn cc nL ret R post k n L nx (pc + ln) lv (w :: st) G) : zV l X0 D B own mn cc nL ret R post k n L nx pc lv st G := by
  obtain ⟨a, rfl⟩ := hw
  rcases hins with ⟨rfl, rfl⟩ | ⟨j, rfl, rfl, rfl⟩
  · exact zv_aload hd hv kk
  · exact zv_aload_n hd hv kk
/-- a new cell -/
theorem zW_new {H H1 : Heap} {t : Nat} {cd : zCD} {f : Nat → Int32} (hW : zW D B L nx G H) (hB : B ≤ nx) (ht : zbT t = [(0, cd)]) (z : H1.size = H.size + 1) (ho : ∀ q : Nat, q < H.size → H1[q]? = H[q]?) (hat : va_at D.1 vwCl (nx, zce D nx f cd) H1) : zW D B (L ++ [(nx, t)]) (nx + 1) (zst G nx f) H1 := by
  obtain ⟨h1, h2, h3, h4⟩ := hW
  have e0 : zpl (L ++ [(nx, t)]) = zpl L ++ [(nx, 0, cd)] := by simp [zpl, ht]
  have hlt : ∀ p ∈ zpl L, p.1 ≠ nx := by
    intro p hp e
    obtain ⟨q, r, c⟩ := p
    obtain ⟨t', ht', -⟩ := zpl_mem hp
    have := h4.2 _ ht'
    simp only at e this
    omega
  have e1 : zcs D (L ++ [(nx, t)]) (zst G nx f) = zcs D L G ++ [(nx, zce D nx f cd)] := by
    unfold zcs
    rw [e0, List.map_append]
    congr 1
    · apply List.map_congr_left
      intro p hp
      rw [zst_ne _ _ (hlt p hp)]
    · simp [zst_same]
  have hk : ∀ (k : Nat) (x : Nat × va_E), (zcs D L G)[k]? = some x → H1[x.1]? = H[x.1]? := fun k x hx => ho x.1 ((h2 k x hx).lt)
  refine ⟨by rw [z, h1], ?_, ?_, ?_⟩
  · rw [e1]
    refine (h2.kept hk).app (fun k x hx => ?_)
    have hz : k < 1 := (List.getElem?_eq_some_iff.mp hx).1
    rw [show k = 0 by omega] at hx
    cases hx
    exact hat
  · rw [e1]
    exact h3.push h2 h1.symm hB
  · refine ⟨fun q t1 u hq hu => ?_, fun b hb => ?_⟩
    · rcases List.mem_append.mp hq with hq | hq <;> rcases List.mem_append.mp hu with hu | hu
      · exact h4.1 _ _ _ hq hu
      · simp at hu
        have := h4.2 _ hq
        simp only at this
        omega
      · simp at hq
        have := h4.2 _ hu
        simp only at this
        omega
      · simp at hq hu
        rw [hq.2, hu.2]
    · rcases List.mem_append.mp hb with hb | hb
      · have := h4.2 _ hb
        omega
      · simp at hb
        subst hb
        simp
theorem zS_new {A : Nat → Prop} {H0 H H1 : Heap} {locs : List Loc} (h : va_S A H0 H locs) (z : H1.size = H.size + 1) (ho : ∀ q : Nat, q < H.size → H1[q]? = H[q]?) : va_S A H0 H1 locs :=
  ⟨Nat.le_trans h.1 (by omega), fun x h1 h2 => (ho x (Nat.lt_of_lt_of_le h1 h.1)).trans (h.2.1 x h1 h2), h.2.2⟩
theorem zv_new {C : String} {T : u_T} {N ci ix t : Nat} {fks : List Nat} {ty : Nat → FieldType} (hB : B ≤ nx) (hcl : Cond.classLink own ix C ∈ zgw) (hin : Cond.instantiable C N ∈ zgw) (hini : Cond.initialized C ∈ zgw) (hci : vwCl[ci]? = some (C, T, N)) (hu : ∀ w ∈ u_ws C T N, w ∈ zgw) (hty : ∀ k, k < N → parseFieldDescriptor (T k).2.2.1 = some (ty k)) (ht : zbT t = [(0, .inl (ci, fks))]) (hfs : ∀ q j, j < N → defaultValue (ty j) = vp_V (zfl q (fun _ => 0) 0 fks) j) (hcells : k + 1 ≤ R.cells) (hslots : n + N ≤ R.slots) (hd : decode cc pc = .ok (.new ix, 3))
    (kk : zV l X0 D B own mn cc nL ret R post (k + 1) (n + N) (L ++ [(nx, t)]) (nx + 1) (pc + 3) lv (.ref nx :: st) (zst G nx (fun _ => 0))) : zV l X0 D B own mn cc nL ret R post k n L nx pc lv st G := by
  intro p e s m args below meth c H locs ls Q hX hR hl hW hS
  have hKn := hX.2.2.2.2.2.1.1 ci _ hci
  refine W.newcK hX.1 hX.2.1 hX.2.2.2.1 (hX.2.2.2.2.1 _ hcl) (hX.2.2.2.2.1 _ hin) (hX.2.2.2.2.1 _ hini) rfl hd hcells hslots hKn.2.1 hW.1 fun H1 kC hkC e1 z1 o1 => ?_
  rw [← hW.1] at z1 o1
  exact kk p e s m args below meth c H1 locs ls Q hX hR hl (zW_new hW hB ht z1 o1 ⟨_, hci, (u_born ty hX.2.2.2.2.1 hu hKn hkC e1 hty).to (fun j hj => hfs nx j hj)⟩) (zS_new hS z1 o1)
theorem zv_newarray {N t ta : Nat} {a : Int32} {atype : ArrayType} (hB : B ≤ nx) (hat : newarray.typeOf atype = zty ta) (hta : ta < 3) (hw : Cond.arrayClass (zty ta) ∈ zgw) (hn : ¬ a < 0) (hN : a.toNatClampNeg = N) (hNN : N < 10000) (ht : zbT t = [(0, .inr (ta, N, 0, 0, 0))]) (hcells : k + 1 ≤ R.cells) (hslots : n + N ≤ R.slots) (hd : decode cc pc = .ok (.newarray atype, 2))
    (kk : zV l X0 D B own mn cc nL ret R post (k + 1) (n + N) (L ++ [(nx, t)]) (nx + 1) (pc + 2) lv (.ref nx :: st) (zst G nx (fun _ => 0))) : zV l X0 D B own mn cc nL ret R post k n L nx pc lv (.int a :: st) G := by
  intro p e s m args below meth c H locs ls Q hX hR hl hW hS
  have hcb : componentBytes (zty ta) ≤ 8 := by
    match ta, hta with
    | 0, _ => decide
    | 1, _ => decide
    | 2, _ => decide
  refine va_newaK hX.1 hX.2.1 (by rw [hat]; exact hX.2.2.2.2.1 _ hw) rfl hd rfl hn hN (by rw [hat]; exact Nat.le_trans (Nat.mul_le_mul (Nat.le_of_lt hNN) hcb) (Nat.le_of_ble_eq_true rfl)) hcells hslots hW.1 fun H1 cA e1 z1 o1 hAr hNm => ?_
  rw [← hW.1] at z1 o1
  rw [hat] at e1 hNm
  have hra := (hX.2.2.2.2.2.1.2 ta _ (ztys_at (by omega))).2
  have hcA : cA = D.2 ta := by
    match ta, hta with
    | 0, _ => exact Option.some.inj (hNm.symm.trans hra)
    | 1, _ => exact Option.some.inj (hNm.symm.trans hra)
    | 2, _ => exact Option.some.inj (hNm.symm.trans hra)
  subst hcA
  refine kk p e s m args below meth c H1 locs ls Q hX hR hl (zW_new hW hB ht z1 o1 ?_) (zS_new hS z1 o1)
  show H1[nx]? = some (vp_cell _ _)
  rw [e1]
  simp only [zac]
  rw [if_pos hta, vp_cell_i]
  congr 2
  funext j
  have : defaultValue (zty ta) = .int 0 := by
    match ta, hta with
    | 0, _ => rfl
    | 1, _ => rfl
    | 2, _ => rfl
  rw [this]
  simp [zai]
theorem zv_anew {N t ta ix : Nat} {a : Int32} {C : String} (hB : B ≤ nx) (hC : zty ta = .object C) (h5 : ta < 5) (h3 : 3 ≤ ta) (hcl : Cond.classLink own ix C ∈ zgw) (hov : Cond.arrayOver (.object C) ∈ zbw) (hn : ¬ a < 0) (hN : a.toNatClampNeg = N) (hNN : N < 10000) (ht : zbT t = [(0, .inr (ta, N, 0, 0, 0))]) (hcells : k + 1 ≤ R.cells) (hslots : n + N ≤ R.slots) (hd : decode cc pc = .ok (.anewarray ix, 3))
    (kk : zV l X0 D B own mn cc nL ret R post (k + 1) (n + N) (L ++ [(nx, t)]) (nx + 1) (pc + 3) lv (.ref nx :: st) (zst G nx (fun _ => 0))) : zV l X0 D B own mn cc nL ret R post k n L nx pc lv (.int a :: st) G := by
  intro p e s m args below meth c H locs ls Q hX hR hl hW hS
  subst hN
  refine W.anew hX.1 hX.2.1 hX.2.2.2.1 (hX.2.2.2.2.1 _ hcl) (va_AO.use (hX.2.2.2.2.2.2.2.1 _ hov)) rfl hd rfl hn (by omega) hcells hslots fun cA kA comp f1 f2 f3 f4 => ?_
  generalize hH1 : H.push ({ cls := cA, slots := Array.replicate a.toNatClampNeg .null, vm := .none } : Cell) = H1
  have z1 : H1.size = H.size + 1 := by rw [← hH1, Array.size_push]
  have e1 : H1[H.size]? = some (arrV cA a.toNatClampNeg (fun _ => .null)) := by rw [← hH1, Array.getElem?_push_size, ← arrV_new]
  have o1 : ∀ q : Nat, q < H.size → H1[q]? = H[q]? := fun q hq => by rw [← hH1, Array.getElem?_push, if_neg (Nat.ne_of_lt hq)]
  have hty := ztys_at (D := D) (ta := ta) h5
  rw [hC] at hty
  obtain ⟨_, _, -, -, -, g4⟩ := (hX.2.2.2.2.2.1.2 ta _ hty).2
  have hcA : cA = D.2 ta := Option.some.inj (f1.symm.trans g4)
  subst hcA
  have hsz := hW.1
  rw [hsz] at e1 ⊢
  refine kk p e s m args below meth c H1 locs ls Q hX hR hl (zW_new hW hB ht z1 o1 ?_) (zS_new hS z1 o1)
  show H1[nx]? = some (vp_cell _ _)
  rw [e1]
  simp only [zac]
  rw [if_neg (by omega), vp_cell_q]
  congr 2
  funext j
  simp [zar, zdr, va_rf]
theorem zv_objInit {ix : Nat} {a : Nat} (hlink : Cond.methodLink own ix Lib.objectInit ∈ zgw) (hinst : Cond.instanceMethod Lib.objectInit ∈ zgw) (hcode : Cond.code Lib.objectInit ⟨#[0xb1]⟩ 1 none ∈ zgw) (hd : decode cc pc = .ok (.invokespecial ix, 3)) (hfr : 1 ≤ R.frames) (hlo : 12 ≤ R.locals)
    (kk : zV l X0 D B own mn cc nL ret R post k n L nx (pc + 3) lv [] G) : zV l X0 D B own mn cc nL ret R post k n L nx pc lv [.ref a] G :=
  fun p e s m args below meth c H locs ls Q hX hR hl hW hS => W.objInit hX.1 hX.2.1 hX.2.2.2.1 (hX.2.2.2.2.1 _ hlink) (hX.2.2.2.2.1 _ hinst) (hX.2.2.2.2.1 _ hcode) rfl (by show ls.size = c.maxLocals; rw [hl.2.1, hX.2.2.1]) rfl hd hfr (by simpa using hlo) (kk p e s m args below meth c H locs ls Q hX hR hl hW hS)
/-- the same heap under other words: what is listed anew stood there -/
theorem zv_ext {G' : zG} (h : ∀ q r cd, (q, r, cd) ∈ zpl L → ∀ j, (zrg cd).1 ≤ j → j < (zrg cd).2 → G q j = G' q j) (kk : zV l X0 D B own mn cc nL ret R post k n L nx pc lv st G') : zV l X0 D B own mn cc nL ret R post k n L nx pc lv st G := by
  intro p e s m args below meth c H locs ls Q hX hR hl hW hS
  have e0 : zcs D L G = zcs D L G' := by
    apply List.map_congr_left
    rintro ⟨q, r, cd⟩ hp
    rw [zce_congr (h q r cd hp)]
  exact kk p e s m args below meth c H locs ls Q hX hR hl ⟨hW.1, by rw [← e0]; exact hW.2.1, by rw [← e0]; exact hW.2.2.1, hW.2.2.2⟩ hS
theorem zv_relay {L' : zL} {G' : zG} (h : ∀ D : zD, zcs D L G = zcs D L' G') (hf : zfun L nx → zfun L' nx) (kk : zV l X0 D B own mn cc nL ret R post k n L' nx pc lv st G') : zV l X0 D B own mn cc nL ret R post k n L nx pc lv st G := by
  intro p e s m args below meth c H locs ls Q hX hR hl hW hS
  exact kk p e s m args below meth c H locs ls Q hX hR hl ⟨hW.1, by rw [← h D]; exact hW.2.1, by rw [← h D]; exact hW.2.2.1, hf hW.2.2.2⟩ hS
end ZLOC
