/-! the law's own methods: the script is read by one of them -/
theorem cnt_s {z : Int32} {i : Nat} (h : i < 32) : nI (zcnt (zb z) i) + ((z >>> (nI i &&& 31)) &&& 1) = nI (zcnt (zb z) (i + 1)) := by
  rw [zb_test z h, bI_cnt, nI_add]
  rfl
def lX (B b S : Nat) (xs : Nat → Int32) : State → Prop := fun s => va_X b S xs s s.heap ∧ b < s.heap.size ∧ b < B
/-- some number of a kind is answered, nothing changes -/
def zEx (P : Int32 → Prop) (L : zL) (nx : Nat) (G : zG) : zQ := fun v L' nx' G' => ∃ z, v = some (.int z) ∧ P z ∧ L' = L ∧ nx' = nx ∧ G' = G
/-- a contract of a method that gets the script, too -/
def zMetS (l : Launch) (D : zD) (B : Nat) (y : MethodName) (cc : ByteArray) (nL : Nat) (ret : Option FieldType) (fr lo : Nat) (b S : Nat) (xs : Nat → Int32) (av : List Value) (L : zL) (nx : Nat) (G : zG) (post : zQ) : Prop :=
  Met l y (zws y cc nL ret) (zrm fr lo 0 0) (fun v U => v = av.toArray ∧ zW D B L nx G U.heap ∧ va_K D.1 vwCl (ztys D) U ∧ zNw U ∧ lX B b S xs U) (fun _ st o t => zQc D B post st o t) 0 0 (fun q => B ≤ q)
section ZLAW
variable {l : Launch} {D : zD} {B : Nat} {own mn : String} {cc : ByteArray} {nL : Nat} {ret : Option FieldType} {R : Room} {post : zP} {k n : Nat} {L : zL} {nx : Nat} {pc : Nat} {lv : List (Option Value)} {st : List Value} {G : zG} {b S : Nat} {xs : Nat → Int32}
theorem zv_sld {i : Nat} (hi : i < S) (hS : S < 2 ^ 31) (hd : decode cc pc = .ok (.iaload, 1)) (kk : zV l (lX B b S xs) D B own mn cc nL ret R post k n L nx (pc + 1) lv (.int (xs i) :: st) G) : zV l (lX B b S xs) D B own mn cc nL ret R post k n L nx pc lv (.int (nI i) :: .ref b :: st) G := by
  intro p e s m args below meth c H locs ls Q hX hR hl hW hSS
  obtain ⟨hXX, hbl, hbB⟩ := hX.2.2.2.2.2.2.2.2
  refine va_sld hX.1 hX.2.1 hXX hbl (show ¬ B ≤ b by omega) hSS (vp_in_nI hi hS) hd ?_
  rw [nI_clamp (by omega)]
  exact kk p e s m args below meth c H locs ls Q hX hR hl hW hSS
theorem zv_slen (hd : decode cc pc = .ok (.arraylength, 1)) (kk : zV l (lX B b S xs) D B own mn cc nL ret R post k n L nx (pc + 1) lv (.int (nI S) :: st) G) : zV l (lX B b S xs) D B own mn cc nL ret R post k n L nx pc lv (.ref b :: st) G := by
  intro p e s m args below meth c H locs ls Q hX hR hl hW hSS
  obtain ⟨hXX, hbl, hbB⟩ := hX.2.2.2.2.2.2.2.2
  refine va_slen hX.1 hX.2.1 hXX hbl (show ¬ B ≤ b by omega) hSS hd ?_
  exact kk p e s m args below meth c H locs ls Q hX hR hl hW hSS
theorem zk_x {X0 : State → Prop} {P : Int32 → Prop} (kk : ∀ z, P z → zV l X0 D B own mn cc nL ret R post k n L nx (pc + 3) lv (.int z :: st) G) : ∀ (v : Option Value) (L' : zL) (nx' : Nat) (G' : zG), zEx P L nx G v L' nx' G' → zV l X0 D B own mn cc nL ret R post (k + 0) (n + 0) L' nx' (pc + 3) lv (v.toList ++ st) G' := by
  rintro _ _ _ _ ⟨z, rfl, h, rfl, rfl, rfl⟩
  exact kk z h
theorem zMetS_of {y : MethodName} {fr lo : Nat} {av : List Value} {q : zQ} (lv0 : List (Option Value))
    (hy : plainFor y = true) (hown : y.cls = own) (hmn : y.name = mn) (hlv : zen av ++ List.replicate (nL - (zen av).length) none = lv0) (hlen : (zen av).length ≤ nL)
    (body : zV l (lX B b S xs) D B own mn cc nL ret (zrm fr lo 0 0) (fun v L' nx' G' k n => q v L' nx' G' ∧ k ≤ 0 ∧ n ≤ 0) 0 0 L nx 0 lv0 [] G) : zMetS l D B y cc nL ret fr lo b S xs av L nx G q := by
  refine va_MetF (cc := cc) (maxL := nL) (ret := ret) hy rfl ?_
  intro p e s m args below meth c s₁ Bo hml hv
  obtain ⟨rfl, hW, hK, hN, hlX⟩ := hv
  have hts := atoms_spec (ws := zws y cc nL ret) Bo.pre
  have hr := Bo.returns
  have hlocks := Bo.notSynchronized
  have hown' : s.vm.findClass own = some m.cls := by rw [← hown]; exact findClass_of_methodNamed Bo.named
  have hname : meth.name = mn := by rw [← hmn]; exact (name_of_methodNamed Bo.named Bo.method).1
  have hl0 := lv_entry av (n := nL) (by rw [← zen_len]; exact hlen)
  rw [lg_entry_eq]
  have hl : zlv ((lg_sl av ++ List.replicate (nL - (lg_sl av).length) Slot.unset).toArray) nL lv0 := by
    refine ⟨by rw [← hlv]; simp; omega, hl0.1, hl0.2.1, fun i v h => ?_⟩
    rw [← hlv] at h
    by_cases hi : i < (zen av).length
    · rw [List.getElem?_append_left hi] at h
      have := zen_args av 0 i v h
      rw [Nat.zero_add] at this
      exact hl0.2.2 (i, v) this
    · rw [List.getElem?_append_right (by omega), List.getElem?_replicate] at h
      split at h <;> cases h
  have hX : zX (lX B b S xs) D own mn cc nL p s m av.toArray meth c := ⟨Bo.exec, Bo.bytes, hml, hown', fun w hw => hts w (List.mem_cons_of_mem _ hw), hK, hname, hN, hlX⟩
  refine body p e s m av.toArray below meth c s.heap [] _ _ hX ?_ hl hW va_S.rf
  intro H' locs' ls' pc' v L' nx' G' k' n' hret hW' hS' hpost
  refine W.widen hpost.2.1 hpost.2.2 ?_
  have hfin : ∀ t : State, t.heap = H' → s.WarmedH t.vm → zQc D B q s (.returned v) t := fun t ht hw => ⟨⟨v, L', nx', G', rfl, by rw [ht]; exact hW', hpost.1⟩, hS'.F ht⟩
  rcases hret with ⟨x, ty, rfl, e1, e2, e3⟩ | ⟨rfl, e1, e3⟩ | ⟨w, C, rfl, e1, e2, e3⟩
  · exact W.zret Bo.exec Bo.bytes (hr.trans e1) e2 hfin hS'.2.2 e3 hlocks
  · exact W.vret Bo.exec Bo.bytes (hr.trans e1) hfin hS'.2.2 e3 hlocks
  · exact W.aret Bo.exec Bo.bytes (hr.trans e1) (Or.inl ⟨C, rfl⟩) e2 hfin hS'.2.2 e3 hlocks
theorem lX_moved {s U : State} {H : Heap} {locs : List Loc} (h : lX B b S xs s) (hS : va_S (fun q => B ≤ q) s.heap H locs) (hU : U.heap = H) (hvm : s.vm.Alike U.vm) : lX B b S xs U := by
  obtain ⟨h1, h2, h3⟩ := h
  refine ⟨?_, ?_, h3⟩
  · rw [hU]
    exact va_X.moved hvm (h1.kept (hS.2.1 b h2 (show ¬ B ≤ b by omega)))
  · rw [hU]
    have := hS.1
    omega
theorem zblindS {av : List Value} : FrameBlind (fun v U => v = av.toArray ∧ zW D B L nx G U.heap ∧ va_K D.1 vwCl (ztys D) U ∧ zNw U ∧ lX B b S xs U) := by
  intro a U g mk h
  exact ⟨h.1, h.2.1, va_K.moved (u := U) (U := U.calling g mk a) (Vm.Alike.refl U.vm) h.2.2.1, zNw_same (u := U) (U := U.calling g mk a) rfl h.2.2.2.1, va_X.moved (u := U) (U := U.calling g mk a) (Vm.Alike.refl U.vm) h.2.2.2.2.1, h.2.2.2.2.2⟩
theorem zv_callSS {y : MethodName} {cc' : ByteArray} {nL' np : Nat} {ret' : Option FieldType} {fr lo ix : Nat} {As : List Value} {qq : zQ} (hM : zMetS l D B y cc' nL' ret' fr lo b S xs As L nx G qq) (hl0 : zML own ix y cc' nL' ret' np) (hst : Cond.static y ∈ zgw) (hnp : As.length = np)
    {stk : List Value} (hstk : stk = As.reverse ++ st) (hcat : (st.map fun v => v.category).sum ≤ 8) (hd : decode cc pc = .ok (.invokestatic ix, 3)) (hR : fr + 1 ≤ R.frames ∧ 8 + (nL' + 11) + lo ≤ R.locals) (hcs : k + 0 ≤ R.cells ∧ n + 0 ≤ R.slots)
    (kk : ∀ (v : Option Value) (L' : zL) (nx' : Nat) (G' : zG), qq v L' nx' G' → zV l (lX B b S xs) D B own mn cc nL ret R post (k + 0) (n + 0) L' nx' (pc + 3) lv (v.toList ++ st) G') : zV l (lX B b S xs) D B own mn cc nL ret R post k n L nx pc lv stk G := by
  intro p e s m args below meth c H locs ls Q hX hR0 hl hW hS
  have ok : ∀ w ∈ zgw, w.before args s = true := hX.2.2.2.2.1
  refine zrun (mc := 0) (ms := 0) (rest := st) (va_runS (As := As) ⟨hX.1, hX.2.1, hX.2.2.1, hX.2.2.2.1, ok⟩ hM ⟨callB_of np ok (zgood_ws hl0.2.1) rfl rfl rfl (ok _ hl0.2.2.1) (ok _ hl0.1) ⟨hl0.2.2.2.1, hl0.2.2.2.2.1, hl0.2.2.2.2.2⟩ hR, ok _ hst⟩ ⟨zblindS, fun U hU hWm => ⟨rfl, by rw [hU]; exact hW, va_K.moved hWm.alike hX.2.2.2.2.2.1, zNw_warm hWm hX.2.2.2.2.2.2.2.1, lX_moved hX.2.2.2.2.2.2.2.2 hS hU hWm.alike⟩⟩ rfl hnp hl.2.1 hstk (lv_room hcat) hd hcs) hS ?_
  intro v L' nx' G' H1 locs1 hW1 hq hS1
  exact kk v L' nx' G' hq p e s m args below meth c H1 locs1 ls Q hX hR0 hl hW1 hS1
/-- two ways that meet with one number on the stack -/
theorem zv_join {X0 : State → Prop} {st0 : List Value} (pcJ : Nat) (v : Int32) (P : zG → Prop) (h : (∀ G', P G' → zV l X0 D B own mn cc nL ret R post k n L nx pcJ lv (.int v :: st) G') → zV l X0 D B own mn cc nL ret R post k n L nx pc lv st0 G)
    (kk : ∀ G', P G' → zV l X0 D B own mn cc nL ret R post k n L nx pcJ lv (.int v :: st) G') : zV l X0 D B own mn cc nL ret R post k n L nx pc lv st0 G := h kk
end ZLAW
theorem low_eq (z : Int32) {d : Nat} (h0 : 0 < d) (hd : d < 2 ^ 31) : (z &&& 2147483647) - (z &&& 2147483647) / nI d * nI d = nI ((zm z &&& 2147483647) % d) := by
  have e : z &&& 2147483647 = nI (zm z &&& 2147483647) := by
    conv => lhs; rw [← nI_zm z]
    exact nI_and _ _ (zm_lt z) (by decide)
  rw [e]
  exact pk_rem (Nat.lt_of_le_of_lt Nat.and_le_right (by decide)) h0 hd
