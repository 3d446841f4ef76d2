abbrev zrm (fr lo mc ms : Nat) : Room := { frames := fr, cells := mc, slots := ms, locals := lo }
def zws (y : MethodName) (cc : ByteArray) (nL : Nat) (ret : Option FieldType) : List Cond := Cond.code y cc nL ret :: zgw
abbrev zQ : Type := Option Value → zL → Nat → zG → Prop
def zQc (D : zD) (B : Nat) (post : zQ) : State → Outcome → State → Prop := fun st o t =>
  (∃ (v : Option Value) (L' : zL) (nx' : Nat) (G' : zG), o = .returned v ∧ zW D B L' nx' G' t.heap ∧ post v L' nx' G') ∧ va_F (fun q => B ≤ q) st t
/-- a method's contract: from these arguments, these blobs, it returns with 'post' -/
def zMet (l : Launch) (D : zD) (B : Nat) (y : MethodName) (cc : ByteArray) (nL : Nat) (ret : Option FieldType) (fr lo mc ms : Nat) (av : List Value) (L : zL) (nx : Nat) (G : zG) (post : zQ) : Prop :=
  Met l y (zws y cc nL ret) (zrm fr lo mc ms) (fun v U => v = av.toArray ∧ zW D B L nx G U.heap ∧ va_K D.1 vwCl (ztys D) U ∧ zNw U) (fun _ st o t => zQc D B post st o t) mc ms (fun q => B ≤ q)
/-- the outcome said in full -/
def zE (v : Option Value) (L : zL) (nx : Nat) (G : zG) : zQ := fun v' L' nx' G' => v' = v ∧ L' = L ∧ nx' = nx ∧ G' = G
def zen : List Value → List (Option Value)
  | [] => []
  | v :: vs => if v.category = 2 then some v :: none :: zen vs else some v :: zen vs
theorem zen_args : ∀ (vs : List Value) (s i : Nat) (v : Value), (zen vs)[i]? = some (some v) → (s + i, v) ∈ lv_args s vs
  | [], s, i, v, h => by simp [zen] at h
  | w :: vs, s, i, v, h => by
    unfold zen at h
    unfold lv_args
    by_cases hc : w.category = 2
    · rw [if_pos hc] at h ⊢
      match i, h with
      | 0, h => simp at h; subst h; exact List.mem_cons_self
      | 1, h => simp at h
      | j + 2, h =>
        have h1 : (zen vs)[j]? = some (some v) := by simpa using h
        have h2 := zen_args vs (s + 2) j v h1
        rw [show s + (j + 2) = s + 2 + j by omega]
        exact List.mem_cons_of_mem _ h2
    · rw [if_neg hc] at h ⊢
      match i, h with
      | 0, h => simp at h; subst h; exact List.mem_cons_self
      | j + 1, h =>
        have h1 : (zen vs)[j]? = some (some v) := by simpa using h
        have h2 := zen_args vs (s + 1) j v h1
        rw [show s + (j + 1) = s + 1 + j by omega]
        exact List.mem_cons_of_mem _ h2
theorem zen_len : ∀ vs : List Value, (zen vs).length = (lg_sl vs).length
  | [] => rfl
  | w :: vs => by
    have ih := zen_len vs
    unfold zen lg_sl
    by_cases hc : w.category = 2
    · rw [if_pos hc]
      simp only [List.length_cons, List.flatMap_cons, if_pos hc, List.length_append, List.length_nil]
      rw [ih]
      show _ = 0 + 1 + 1 + (lg_sl vs).length
      omega
    · rw [if_neg hc]
      simp only [List.length_cons, List.flatMap_cons, if_neg hc, List.length_append, List.length_nil]
      rw [ih]
      show _ = 0 + 1 + (lg_sl vs).length
      omega
theorem zMet_of {l : Launch} {D : zD} {B : Nat} {y : MethodName} {own mn : String} {cc : ByteArray} {nL : Nat} {ret : Option FieldType} {fr lo mc ms : Nat} {av : List Value} {L : zL} {nx : Nat} {G : zG} {post : zQ} (lv0 : List (Option Value))
    (hy : plainFor y = true) (hown : y.cls = own) (hmn : y.name = mn) (hlv : zen av ++ List.replicate (nL - (zen av).length) none = lv0) (hlen : (zen av).length ≤ nL)
    (body : zV l (fun _ => True) D B own mn cc nL ret (zrm fr lo mc ms) (fun v L' nx' G' k n => post v L' nx' G' ∧ k ≤ mc ∧ n ≤ ms) 0 0 L nx 0 lv0 [] G) : zMet l D B y cc nL ret fr lo mc ms av L nx G post := by
  refine va_MetF (cc := cc) (maxL := nL) (ret := ret) hy rfl ?_
  intro p e s m args below meth c s₁ Bo hml hv
  obtain ⟨rfl, hW, hK, hN⟩ := hv
  have hts := atoms_spec (ws := zws y cc nL ret) Bo.pre
  have hr := Bo.returns
  have hlocks := Bo.notSynchronized
  have hown' : s.vm.findClass own = some m.cls := by rw [← hown]; exact findClass_of_methodNamed Bo.named
  have hname : meth.name = mn := by rw [← hmn]; exact (name_of_methodNamed Bo.named Bo.method).1
  have hl0 := lv_entry av (n := nL) (by rw [← zen_len]; exact hlen)
  rw [lg_entry_eq]
  have hl : zlv ((lg_sl av ++ List.replicate (nL - (lg_sl av).length) Slot.unset).toArray) nL lv0 := by
    refine ⟨by rw [← hlv]; simp; omega, hl0.1, hl0.2.1, fun i v h => ?_⟩
    rw [← hlv] at h
    by_cases hi : i < (zen av).length
    · rw [List.getElem?_append_left hi] at h
      have := zen_args av 0 i v h
      rw [Nat.zero_add] at this
      exact hl0.2.2 (i, v) this
    · rw [List.getElem?_append_right (by omega), List.getElem?_replicate] at h
      split at h <;> cases h
  have hX : zX (fun _ => True) D own mn cc nL p s m av.toArray meth c := ⟨Bo.exec, Bo.bytes, hml, hown', fun w hw => hts w (List.mem_cons_of_mem _ hw), hK, hname, hN, trivial⟩
  refine body p e s m av.toArray below meth c s.heap [] _ _ hX ?_ hl hW va_S.rf
  intro H' locs' ls' pc' v L' nx' G' k' n' hret hW' hS' hpost
  refine W.widen hpost.2.1 hpost.2.2 ?_
  have hfin : ∀ t : State, t.heap = H' → s.WarmedH t.vm → zQc D B post s (.returned v) t := fun t ht hw => ⟨⟨v, L', nx', G', rfl, by rw [ht]; exact hW', hpost.1⟩, hS'.F ht⟩
  rcases hret with ⟨x, ty, rfl, e1, e2, e3⟩ | ⟨rfl, e1, e3⟩ | ⟨w, C, rfl, e1, e2, e3⟩
  · exact W.zret Bo.exec Bo.bytes (hr.trans e1) e2 hfin hS'.2.2 e3 hlocks
  · exact W.vret Bo.exec Bo.bytes (hr.trans e1) hfin hS'.2.2 e3 hlocks
  · exact W.aret Bo.exec Bo.bytes (hr.trans e1) (Or.inl ⟨C, rfl⟩) e2 hfin hS'.2.2 e3 hlocks
section ZCALL
variable {l : Launch} {X0 : State → Prop} {D : zD} {B : Nat} {own mn : String} {cc : ByteArray} {nL : Nat} {ret : Option FieldType} {R : Room} {post : zP} {k n : Nat} {L : zL} {nx : Nat} {pc : Nat} {lv : List (Option Value)} {st : List Value} {G : zG}
theorem zrun {p : Program} {e : Env} {s : State} {m : MethodId} {args : Array Value} {below : List Frame} {meth : Method} {c : Code} {H : Heap} {locs : List Loc} {cells slots mc ms : Nat} {Q : State → Prop} {ls : Array Slot} {st0 rest : List Value} {qq : zQ}
    (hr : va_Run p l e R s m args below meth c H locs cells slots mc ms (F0 m pc ls st0) rest (fun st o t => zQc D B qq st o t) (fun q => B ≤ q)) (hS : va_S (fun q => B ≤ q) s.heap H locs)
    (kk : ∀ (v : Option Value) (L' : zL) (nx' : Nat) (G' : zG) (H1 : Heap) (locs1 : List Loc), zW D B L' nx' G' H1 → qq v L' nx' G' → va_S (fun q => B ≤ q) s.heap H1 locs1 → W p l e R s m args below meth c H1 locs1 (cells + mc) (slots + ms) Q (F0 m (pc + 3) ls (v.toList ++ rest))) :
    W p l e R s m args below meth c H locs cells slots Q (F0 m pc ls st0) := by
  intro T hT X
  obtain ⟨v, st₀, t, T', Lc, h0, X', hL, e1, e2, ⟨⟨v', L', nx', G', hv, hW', hq⟩, hz, hk⟩, step⟩ := hr T hT X
  cases hv
  rw [h0] at hz hk
  obtain ⟨t2, a1, b1⟩ := kk v L' nx' G' T'.heap (locs ++ Lc) (by rw [e1]; exact hW') hq
    ⟨Nat.le_trans hS.1 (by rw [e1]; exact hz), fun q h1 h2 => by rw [e1, hk q (Nat.lt_of_lt_of_le h1 hS.1) h2]; exact hS.2.1 q h1 h2, fun q hq => by
      rcases List.mem_append.mp hq with h | h
      · exact hS.2.2 q h
      · exact hL q h⟩ T' rfl X'
  exact ⟨t2, step t2 a1, b1⟩
theorem zgood_ws {y : MethodName} {cc' : ByteArray} {nL' : Nat} {ret' : Option FieldType} (h : Cond.code y cc' nL' ret' ∈ zgw) : GoodIn zgw (zws y cc' nL' ret') := by
  intro w hw
  have hw' : w ∈ zgw := by
    rcases List.mem_cons.mp hw with rfl | hw
    · exact h
    · exact hw
  exact ⟨hw', good_of_word (zgw_good hw')⟩
theorem zNw_same {u U : State} (hv : u.vm = U.vm) (h : zNw u) : zNw U := by
  intro w hw
  have hk := (List.mem_filter.mp hw).2
  have h1 := h w hw
  cases w <;> simp only [zkind, Bool.false_eq_true] at hk
  case methodLinkNest => exact va_Nw.same rfl hv h1
  case fieldLinkNest => exact va_Nw.same rfl hv h1
  case arrayOver ty =>
    cases ty <;> simp only [zkind, Bool.false_eq_true] at hk
    exact va_AO.moved (by rw [hv]; exact Vm.Alike.refl U.vm) h1
theorem zblind {D : zD} {B : Nat} {av : List Value} {L : zL} {nx : Nat} {G : zG} : FrameBlind (fun v U => v = av.toArray ∧ zW D B L nx G U.heap ∧ va_K D.1 vwCl (ztys D) U ∧ zNw U) := by
  intro a U g mk h
  exact ⟨h.1, h.2.1, va_K.moved (u := U) (U := U.calling g mk a) (Vm.Alike.refl U.vm) h.2.2.1, zNw_same (u := U) (U := U.calling g mk a) rfl h.2.2.2⟩
theorem zv_callS {y : MethodName} {cc' : ByteArray} {nL' np : Nat} {ret' : Option FieldType} {fr lo mc ms ix : Nat} {As : List Value} {qq : zQ} (hM : zMet l D B y cc' nL' ret' fr lo mc ms As L nx G qq) (hl0 : zML own ix y cc' nL' ret' np) (hst : Cond.static y ∈ zgw) (hnp : As.length = np)
    {stk : List Value} (hstk : stk = As.reverse ++ st) (hcat : (st.map fun v => v.category).sum ≤ 8) (hd : decode cc pc = .ok (.invokestatic ix, 3)) (hR : fr + 1 ≤ R.frames ∧ 8 + (nL' + 11) + lo ≤ R.locals) (hcs : k + mc ≤ R.cells ∧ n + ms ≤ R.slots)
    (kk : ∀ (v : Option Value) (L' : zL) (nx' : Nat) (G' : zG), qq v L' nx' G' → zV l X0 D B own mn cc nL ret R post (k + mc) (n + ms) L' nx' (pc + 3) lv (v.toList ++ st) G') : zV l X0 D B own mn cc nL ret R post k n L nx pc lv stk G := by
  intro p e s m args below meth c H locs ls Q hX hR0 hl hW hS
  have ok : ∀ w ∈ zgw, w.before args s = true := hX.2.2.2.2.1
  refine zrun (mc := mc) (ms := ms) (rest := st) (va_runS (As := As) ⟨hX.1, hX.2.1, hX.2.2.1, hX.2.2.2.1, ok⟩ hM ⟨callB_of np ok (zgood_ws hl0.2.1) rfl rfl rfl (ok _ hl0.2.2.1) (ok _ hl0.1) ⟨hl0.2.2.2.1, hl0.2.2.2.2.1, hl0.2.2.2.2.2⟩ hR, ok _ hst⟩ ⟨zblind, fun U hU hWm => ⟨rfl, by rw [hU]; exact hW, va_K.moved hWm.alike hX.2.2.2.2.2.1, zNw_warm hWm hX.2.2.2.2.2.2.2.1⟩⟩ rfl hnp hl.2.1 hstk (lv_room hcat) hd hcs) hS ?_
  intro v L' nx' G' H1 locs1 hW1 hq hS1
  exact kk v L' nx' G' hq p e s m args below meth c H1 locs1 ls Q hX hR0 hl hW1 hS1
theorem zv_callSN {y : MethodName} {cc' : ByteArray} {nL' np : Nat} {ret' : Option FieldType} {fr lo mc ms ix : Nat} {As : List Value} {qq : zQ} (hM : zMet l D B y cc' nL' ret' fr lo mc ms As L nx G qq) (hl0 : zMLN own ix y cc' nL' ret' np) (hst : Cond.static y ∈ zgw) (hnp : As.length = np)
    {stk : List Value} (hstk : stk = As.reverse ++ st) (hcat : (st.map fun v => v.category).sum ≤ 8) (hd : decode cc pc = .ok (.invokestatic ix, 3)) (hR : fr + 1 ≤ R.frames ∧ 8 + (nL' + 11) + lo ≤ R.locals) (hcs : k + mc ≤ R.cells ∧ n + ms ≤ R.slots)
    (kk : ∀ (v : Option Value) (L' : zL) (nx' : Nat) (G' : zG), qq v L' nx' G' → zV l X0 D B own mn cc nL ret R post (k + mc) (n + ms) L' nx' (pc + 3) lv (v.toList ++ st) G') : zV l X0 D B own mn cc nL ret R post k n L nx pc lv stk G := by
  intro p e s m args below meth c H locs ls Q hX hR0 hl hW hS
  have ok : ∀ w ∈ zgw, w.before args s = true := hX.2.2.2.2.1
  obtain ⟨⟨host, hh⟩, g1, g2, g3⟩ := hl0
  refine zrun (mc := mc) (ms := ms) (rest := st) (va_runSN (As := As) ⟨hX.1, hX.2.1, hX.2.2.1, hX.2.2.2.1, ok⟩ hM ⟨va_cnB np ok (zgood_ws g1) rfl rfl rfl (hX.2.2.2.2.2.2.2.1 _ hh) (ok _ g2) g3 hR, ok _ hst, trivial⟩ ⟨zblind, fun U hU hWm => ⟨rfl, by rw [hU]; exact hW, va_K.moved hWm.alike hX.2.2.2.2.2.1, zNw_warm hWm hX.2.2.2.2.2.2.2.1⟩⟩ rfl hnp hl.2.1 hstk (lv_room hcat) hd hcs) hS ?_
  intro v L' nx' G' H1 locs1 hW1 hq hS1
  exact kk v L' nx' G' hq p e s m args below meth c H1 locs1 ls Q hX hR0 hl hW1 hS1
theorem zrecv {p : Program} {s : State} {m : MethodId} {args : Array Value} {meth : Method} {c : Code} {H : Heap} {b t ci N : Nat} {fks : List Nat} {C : String} {T : u_T} (hX : zX X0 D own mn cc nL p s m args meth c) (hW : zW D B L nx G H) (hb : (b, t) ∈ L) (ho : (zbT t)[0]? = some (0, .inl (ci, fks))) (hci : vwCl[ci]? = some (C, T, N)) :
    ∃ cell : Cell, H[b]? = some cell ∧ cell.vm.isStatics = false ∧ s.vm.findClass C = some cell.cls := by
  obtain ⟨k0, hk0⟩ := zpl_at hb ho
  exact va_recv hX.2.2.2.2.2.1 hW.2.1 hci (zcs_at (D := D) (G := G) hk0)
theorem zv_callV {y : MethodName} {cc' : ByteArray} {nL' np : Nat} {ret' : Option FieldType} {fr lo mc ms ix b t ci N : Nat} {fks : List Nat} {T : u_T} {As : List Value} {qq : zQ} (hM : zMet l D B y cc' nL' ret' fr lo mc ms (.ref b :: As) L nx G qq) (hl0 : zML own ix y cc' nL' ret' np) (hin : Cond.instanceMethod y ∈ zgw) (hsel : Cond.selects y.cls y y ∈ zgw) (hb : (b, t) ∈ L) (ho : (zbT t)[0]? = some (0, .inl (ci, fks))) (hci : vwCl[ci]? = some (y.cls, T, N)) (hnp : As.length = np)
    {stk : List Value} (hstk : stk = As.reverse ++ .ref b :: st) (hcat : (st.map fun v => v.category).sum ≤ 8) (hd : decode cc pc = .ok (.invokevirtual ix, 3)) (hR : fr + 1 ≤ R.frames ∧ 8 + (nL' + 11) + lo ≤ R.locals) (hcs : k + mc ≤ R.cells ∧ n + ms ≤ R.slots)
    (kk : ∀ (v : Option Value) (L' : zL) (nx' : Nat) (G' : zG), qq v L' nx' G' → zV l X0 D B own mn cc nL ret R post (k + mc) (n + ms) L' nx' (pc + 3) lv (v.toList ++ st) G') : zV l X0 D B own mn cc nL ret R post k n L nx pc lv stk G := by
  intro p e s m args below meth c H locs ls Q hX hR0 hl hW hS
  have ok : ∀ w ∈ zgw, w.before args s = true := hX.2.2.2.2.1
  refine zrun (mc := mc) (ms := ms) (rest := st) (va_runV (As := As) (C := y.cls) ⟨hX.1, hX.2.1, hX.2.2.1, hX.2.2.2.1, ok⟩ hM ⟨callB_of np ok (zgood_ws hl0.2.1) rfl rfl rfl (ok _ hl0.2.2.1) (ok _ hl0.1) ⟨hl0.2.2.2.1, hl0.2.2.2.2.1, hl0.2.2.2.2.2⟩ hR, ok _ hin, ok _ hsel⟩ ⟨zblind, zrecv hX hW hb ho hci, fun U hU hWm => ⟨rfl, by rw [hU]; exact hW, va_K.moved hWm.alike hX.2.2.2.2.2.1, zNw_warm hWm hX.2.2.2.2.2.2.2.1⟩⟩ rfl hnp hl.2.1 hstk (lv_room hcat) hd hcs) hS ?_
  intro v L' nx' G' H1 locs1 hW1 hq hS1
  exact kk v L' nx' G' hq p e s m args below meth c H1 locs1 ls Q hX hR0 hl hW1 hS1
theorem zv_callI {y : MethodName} {cc' : ByteArray} {nL' np : Nat} {fr lo mc ms ix b : Nat} {As : List Value} {qq : zQ} (hM : zMet l D B y cc' nL' none fr lo mc ms (.ref b :: As) L nx G qq) (hl0 : zML own ix y cc' nL' none np) (hin : Cond.instanceMethod y ∈ zgw) (hy : y.name = "<init>") (hnp : As.length = np)
    {stk : List Value} (hstk : stk = As.reverse ++ .ref b :: st) (hcat : (st.map fun v => v.category).sum ≤ 8) (hd : decode cc pc = .ok (.invokespecial ix, 3)) (hR : fr + 1 ≤ R.frames ∧ 8 + (nL' + 11) + lo ≤ R.locals) (hcs : k + mc ≤ R.cells ∧ n + ms ≤ R.slots)
    (kk : ∀ (v : Option Value) (L' : zL) (nx' : Nat) (G' : zG), qq v L' nx' G' → zV l X0 D B own mn cc nL ret R post (k + mc) (n + ms) L' nx' (pc + 3) lv (v.toList ++ st) G') : zV l X0 D B own mn cc nL ret R post k n L nx pc lv stk G := by
  intro p e s m args below meth c H locs ls Q hX hR0 hl hW hS
  have ok : ∀ w ∈ zgw, w.before args s = true := hX.2.2.2.2.1
  refine zrun (mc := mc) (ms := ms) (rest := st) (va_runI (As := As) ⟨hX.1, hX.2.1, hX.2.2.1, hX.2.2.2.1, ok⟩ hM ⟨callB_of np ok (zgood_ws hl0.2.1) rfl rfl rfl (ok _ hl0.2.2.1) (ok _ hl0.1) ⟨hl0.2.2.2.1, hl0.2.2.2.2.1, hl0.2.2.2.2.2⟩ hR, hy, ok _ hin⟩ ⟨zblind, fun U hU hWm => ⟨rfl, by rw [hU]; exact hW, va_K.moved hWm.alike hX.2.2.2.2.2.1, zNw_warm hWm hX.2.2.2.2.2.2.2.1⟩⟩ rfl hnp hl.2.1 hstk (lv_room hcat) hd hcs) hS ?_
  intro v L' nx' G' H1 locs1 hW1 hq hS1
  exact kk v L' nx' G' hq p e s m args below meth c H1 locs1 ls Q hX hR0 hl hW1 hS1
theorem zv_callIN {y : MethodName} {cc' : ByteArray} {nL' np : Nat} {fr lo mc ms ix b : Nat} {As : List Value} {qq : zQ} (hM : zMet l D B y cc' nL' none fr lo mc ms (.ref b :: As) L nx G qq) (hl0 : zMLN own ix y cc' nL' none np) (hin : Cond.instanceMethod y ∈ zgw) (hy : y.name = "<init>") (hnp : As.length = np)
    {stk : List Value} (hstk : stk = As.reverse ++ .ref b :: st) (hcat : (st.map fun v => v.category).sum ≤ 8) (hd : decode cc pc = .ok (.invokespecial ix, 3)) (hR : fr + 1 ≤ R.frames ∧ 8 + (nL' + 11) + lo ≤ R.locals) (hcs : k + mc ≤ R.cells ∧ n + ms ≤ R.slots)
    (kk : ∀ (v : Option Value) (L' : zL) (nx' : Nat) (G' : zG), qq v L' nx' G' → zV l X0 D B own mn cc nL ret R post (k + mc) (n + ms) L' nx' (pc + 3) lv (v.toList ++ st) G') : zV l X0 D B own mn cc nL ret R post k n L nx pc lv stk G := by
  intro p e s m args below meth c H locs ls Q hX hR0 hl hW hS
  have ok : ∀ w ∈ zgw, w.before args s = true := hX.2.2.2.2.1
  obtain ⟨⟨host, hh⟩, g1, g2, g3⟩ := hl0
  refine zrun (mc := mc) (ms := ms) (rest := st) (va_runIN (As := As) ⟨hX.1, hX.2.1, hX.2.2.1, hX.2.2.2.1, ok⟩ hM ⟨va_cnB np ok (zgood_ws g1) rfl rfl rfl (hX.2.2.2.2.2.2.2.1 _ hh) (ok _ g2) g3 hR, hy, ok _ hin⟩ ⟨zblind, fun U hU hWm => ⟨rfl, by rw [hU]; exact hW, va_K.moved hWm.alike hX.2.2.2.2.2.1, zNw_warm hWm hX.2.2.2.2.2.2.2.1⟩⟩ rfl hnp hl.2.1 hstk (lv_room hcat) hd hcs) hS ?_
  intro v L' nx' G' H1 locs1 hW1 hq hS1
  exact kk v L' nx' G' hq p e s m args below meth c H1 locs1 ls Q hX hR0 hl hW1 hS1
theorem zk_i {r : Int32} {G1 : zG} (kk : zV l X0 D B own mn cc nL ret R post k n L nx (pc + 3) lv (.int r :: st) G1) : ∀ (v : Option Value) (L' : zL) (nx' : Nat) (G' : zG), zE (some (.int r)) L nx G1 v L' nx' G' → zV l X0 D B own mn cc nL ret R post (k + 0) (n + 0) L' nx' (pc + 3) lv (v.toList ++ st) G' := by
  rintro _ _ _ _ ⟨rfl, rfl, rfl, rfl⟩
  exact kk
theorem zk_r {r : Nat} {G1 : zG} (kk : zV l X0 D B own mn cc nL ret R post k n L nx (pc + 3) lv (.ref r :: st) G1) : ∀ (v : Option Value) (L' : zL) (nx' : Nat) (G' : zG), zE (some (.ref r)) L nx G1 v L' nx' G' → zV l X0 D B own mn cc nL ret R post (k + 0) (n + 0) L' nx' (pc + 3) lv (v.toList ++ st) G' := by
  rintro _ _ _ _ ⟨rfl, rfl, rfl, rfl⟩
  exact kk
theorem zk_w {r : Value} {G1 : zG} (kk : zV l X0 D B own mn cc nL ret R post k n L nx (pc + 3) lv (r :: st) G1) : ∀ (v : Option Value) (L' : zL) (nx' : Nat) (G' : zG), zE (some r) L nx G1 v L' nx' G' → zV l X0 D B own mn cc nL ret R post (k + 0) (n + 0) L' nx' (pc + 3) lv (v.toList ++ st) G' := by
  rintro _ _ _ _ ⟨rfl, rfl, rfl, rfl⟩
  exact kk
theorem zk_v {G1 : zG} (kk : zV l X0 D B own mn cc nL ret R post k n L nx (pc + 3) lv st G1) : ∀ (v : Option Value) (L' : zL) (nx' : Nat) (G' : zG), zE none L nx G1 v L' nx' G' → zV l X0 D B own mn cc nL ret R post (k + 0) (n + 0) L' nx' (pc + 3) lv (v.toList ++ st) G' := by
  rintro _ _ _ _ ⟨rfl, rfl, rfl, rfl⟩
  exact kk
theorem zv_iret {x : Int32} {ty : FieldType} (hd : decode cc pc = .ok (.ireturn, 1)) (hr : ret = some ty) (hn : narrow ty (.int x) = .int x) (hp : post (some (.int x)) L nx G k n) : zV l X0 D B own mn cc nL ret R post k n L nx pc lv [.int x] G :=
  fun p e s m args below meth c H locs ls Q hX hR hl hW hS => hR H locs ls pc (some (.int x)) L nx G k n (Or.inl ⟨x, ty, rfl, hr, hn, hd⟩) hW hS hp
theorem zv_vret (hd : decode cc pc = .ok (.return_, 1)) (hr : ret = none) (hp : post none L nx G k n) : zV l X0 D B own mn cc nL ret R post k n L nx pc lv [] G :=
  fun p e s m args below meth c H locs ls Q hX hR hl hW hS => hR H locs ls pc none L nx G k n (Or.inr (Or.inl ⟨rfl, hr, hd⟩)) hW hS hp
theorem zv_aret {w : Value} {C : String} (hd : decode cc pc = .ok (.areturn, 1)) (hr : ret = some (.object C)) (hw : w = .null ∨ ∃ a, w = .ref a) (hp : post (some w) L nx G k n) : zV l X0 D B own mn cc nL ret R post k n L nx pc lv [w] G :=
  fun p e s m args below meth c H locs ls Q hX hR hl hW hS => hR H locs ls pc (some w) L nx G k n (Or.inr (Or.inr ⟨w, C, rfl, hr, hw, hd⟩)) hW hS hp
/-- the end of a method that makes nothing -/
abbrev zN (q : zQ) : zP := fun v L' nx' G' k n => q v L' nx' G' ∧ k ≤ 0 ∧ n ≤ 0
theorem zN_E {v : Option Value} {G1 : zG} (h : G = G1) : zN (zE v L nx G1) v L nx G 0 0 := ⟨⟨rfl, rfl, rfl, h⟩, Nat.le_refl _, Nat.le_refl _⟩
theorem zv_iinc1 {i : Nat} {x : Int32} (hd : decode cc pc = .ok (.iinc i 1, 3)) (hv : lv[i]? = some (some (.int x))) (hi : i < nL) (hn : zn2 lv i = true) (kk : zV l X0 D B own mn cc nL ret R post k n L nx (pc + 3) (lv.set i (some (.int (x + 1)))) st G) : zV l X0 D B own mn cc nL ret R post k n L nx pc lv st G := zv_iinc hd hv rfl hi hn kk
theorem zv_iincm {i : Nat} {x : Int32} (hd : decode cc pc = .ok (.iinc i (-1), 3)) (hv : lv[i]? = some (some (.int x))) (hi : i < nL) (hn : zn2 lv i = true) (kk : zV l X0 D B own mn cc nL ret R post k n L nx (pc + 3) (lv.set i (some (.int (x - 1)))) st G) : zV l X0 D B own mn cc nL ret R post k n L nx pc lv st G := zv_iinc hd hv (by show x + (-1) = x - 1; rw [Int32.sub_eq_add_neg]) hi hn kk
def bI (b : Bool) : Int32 := if b then 1 else 0
theorem bI_nar (b : Bool) : narrow .boolean (.int (bI b)) = .int (bI b) := by cases b <;> rfl
theorem bI_eq0 {b : Bool} : bI b = 0 ↔ b = false := by cases b <;> simp [bI]
theorem bI_ne0 {b : Bool} : ¬ bI b = 0 ↔ b = true := by cases b <;> simp [bI]
theorem zv_iretE {x r : Int32} {G1 : zG} {ty : FieldType} (hd : decode cc pc = .ok (.ireturn, 1)) (hr : ret = some ty) (hn : narrow ty (.int x) = .int x) (hx : x = r) (hG : G = G1) : zV l X0 D B own mn cc nL ret R (zN (zE (some (.int r)) L nx G1)) 0 0 L nx pc lv [.int x] G :=
  zv_iret hd hr hn (by subst hx; exact zN_E hG)
theorem zv_vretE {G1 : zG} (hd : decode cc pc = .ok (.return_, 1)) (hr : ret = none) (hG : G = G1) : zV l X0 D B own mn cc nL ret R (zN (zE none L nx G1)) 0 0 L nx pc lv [] G := zv_vret hd hr (zN_E hG)
theorem zv_aretE {w v : Value} {C : String} {G1 : zG} (hd : decode cc pc = .ok (.areturn, 1)) (hr : ret = some (.object C)) (hw : w = .null ∨ ∃ a, w = .ref a) (hv : w = v) (hG : G = G1) : zV l X0 D B own mn cc nL ret R (zN (zE (some v) L nx G1)) 0 0 L nx pc lv [w] G :=
  zv_aret hd hr hw (by subst hv; exact zN_E hG)
theorem zv_ldcw {ix : Nat} {v : Int32} (hd : decode cc pc = .ok (.ldc_w ix, 3)) (hw : Cond.constant own ix v ∈ zgw) (kk : zV l X0 D B own mn cc nL ret R post k n L nx (pc + 3) lv (.int v :: st) G) : zV l X0 D B own mn cc nL ret R post k n L nx pc lv st G :=
  fun p e s m args below meth c H locs ls Q hX hR hl hW hS => lv_ldcw hX.1 hX.2.1 hX.2.2.2.1 (hX.2.2.2.2.1 _ hw) hd (kk p e s m args below meth c H locs ls Q hX hR hl hW hS)
end ZCALL
