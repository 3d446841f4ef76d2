/-! blobs: an object with its own arrays, as one function of places; what a heap holds is a list of blobs -/
def zgw : List Cond := lw_tbl.filter goodWord
def zkind : Cond → Bool
  | .methodLinkNest .. => true
  | .fieldLinkNest .. => true
  | .arrayOver (.object _) => true
  | _ => false
def zbw : List Cond := lw_tbl.filter zkind
theorem zin {w : Cond} (i : Nat) (h : lw_tbl[i]? = some w) (g : goodWord w = true := by rfl) : w ∈ zgw := List.mem_filter.mpr ⟨List.mem_of_getElem? h, g⟩
theorem zinb {w : Cond} (i : Nat) (h : lw_tbl[i]? = some w) (g : zkind w = true := by rfl) : w ∈ zbw := List.mem_filter.mpr ⟨List.mem_of_getElem? h, g⟩
def zNw (U : State) : Prop := ∀ w ∈ zbw, va_Nw w U
theorem zNw_warm {s U : State} (hW : s.WarmedH U.vm) (h : zNw s) : zNw U := by
  intro w hw
  have hk := (List.mem_filter.mp hw).2
  have h1 := h w hw
  cases w <;> simp only [zkind, Bool.false_eq_true] at hk
  case methodLinkNest => exact va_Nw.warmM hW h1
  case fieldLinkNest => exact va_Nw.warmF hW h1
  case arrayOver ty =>
    cases ty <;> simp only [zkind, Bool.false_eq_true] at hk
    exact va_AO.moved hW.alike h1
theorem zgw_good {w : Cond} (h : w ∈ zgw) : goodWord w = true := (List.mem_filter.mp h).2
abbrev zG : Type := Nat → Nat → Int32
abbrev zL : Type := List (Nat × Nat)
/-- a cell of a blob: an object (class, a kind for each field: 0 a number, 1 a reference told by a number, r+2 the cell r behind), or an array (element type, length, first place, and for fixed references the first and the step) -/
abbrev zCD : Type := (Nat × List Nat) ⊕ (Nat × Nat × Nat × Nat × Nat)
abbrev zD : Type := va_G × (Nat → ClassId)
def zbT : Nat → List (Nat × zCD)
  | 1 => [(0, .inl (6, [3, 18, 125, 126, 128, 129, 133]))]
  | 2 => [(0, .inl (5, [0, 0, 0, 0, 0, 3, 4])), (1, .inr (0, 16, 5, 0, 0)), (2, .inr (4, 3, 21, 3, 4))]
  | 3 => [(0, .inl (0, [0, 0, 0, 0, 0, 3, 4, 5])), (1, .inr (0, 16, 5, 0, 0)), (2, .inr (0, 24, 21, 0, 0)), (3, .inr (0, 24, 45, 0, 0))]
  | 4 => [(0, .inl (1, [0, 0, 0, 0]))]
  | 5 => [(0, .inl (4, [3, 4])), (1, .inr (0, 24, 0, 0, 0)), (2, .inr (0, 24, 24, 0, 0))]
  | 6 => [(0, .inl (2, [3, 0, 0])), (1, .inr (3, 7, 3, 2, 15))]
  | 7 => [(0, .inl (3, [3, 0, 0, 0, 0, 0, 0])), (1, .inr (1, 80, 7, 0, 0))]
  | 8 => [(0, .inl (7, [3, 4, 5, 6, 7, 8, 0, 9, 0, 0, 10, 11, 0, 0, 0, 0, 12, 13])), (1, .inr (0, 228, 18, 0, 0)), (2, .inr (0, 1368, 246, 0, 0)), (3, .inr (0, 228, 1614, 0, 0)), (4, .inr (0, 228, 1842, 0, 0)), (5, .inr (0, 456, 2070, 0, 0)), (6, .inr (2, 2, 2526, 0, 0)), (7, .inr (0, 80, 2528, 0, 0)), (8, .inr (0, 8, 2608, 0, 0)), (9, .inr (0, 3, 2616, 0, 0)), (10, .inr (0, 16, 2619, 0, 0)), (11, .inr (0, 16, 2635, 0, 0))]
  | 10 => [(0, .inl (0, [0, 0, 0, 0, 0, 1, 1, 1]))]
  | 11 => [(0, .inl (1, [0, 0, 0, 0]))]
  | 12 => [(0, .inl (2, [1, 0, 0]))]
  | 13 => [(0, .inl (3, [1, 0, 0, 0, 0, 0, 0]))]
  | 14 => [(0, .inl (4, [1, 1]))]
  | 15 => [(0, .inl (5, [0, 0, 0, 0, 0, 1, 1]))]
  | 16 => [(0, .inl (6, [1, 1, 1, 1, 1, 1, 1]))]
  | 17 => [(0, .inl (7, [1, 1, 1, 1, 1, 1, 0, 1, 0, 0, 1, 1, 0, 0, 0, 0, 1, 1]))]
  | t => if 100 ≤ t then [(0, .inr ((t - 100) / 10000, (t - 100) % 10000, 0, 0, 0))] else []
def zty : Nat → FieldType
  | 0 => .int
  | 1 => .char
  | 2 => .int
  | 3 => .object "BookDroplets$State"
  | _ => .object "BookDroplets$Cup"
def ztys (D : zD) : List (ClassId × FieldType) := [(D.2 0, zty 0), (D.2 1, zty 1), (D.2 2, zty 2), (D.2 3, zty 3), (D.2 4, zty 4)]
def zdr (q : Nat) (z : Int32) : Option Nat := if z = 0 then none else some (q + z.toNatClampNeg)
def zfv (q : Nat) (f : Nat → Int32) (k : Nat) : Nat → Value
  | 0 => .int (f k)
  | 1 => va_rf (zdr q (f k))
  | r + 2 => .ref (q + r)
def zfl (q : Nat) (f : Nat → Int32) : Nat → List Nat → List Value
  | _, [] => []
  | k, z :: r => zfv q f k z :: zfl q f (k + 1) r
def zai (n off : Nat) (f : Nat → Int32) : Nat → Int32 := fun j => if j < n then f (off + j) else 0
def zar (q n off a b : Nat) (f : Nat → Int32) : Nat → Option Nat := fun j => if j < n then (if b = 0 then zdr q (f (off + j)) else some (q + (a + b * j))) else none
def zac (q ta n off a b : Nat) (f : Nat → Int32) : (Nat → Int32) ⊕ (Nat → Int64) ⊕ (Nat → UInt32) ⊕ (Nat → UInt64) ⊕ (Nat → Option Nat) :=
  if ta < 3 then .inl (zai n off f) else .inr (.inr (.inr (.inr (zar q n off a b f))))
def zce (D : zD) (q : Nat) (f : Nat → Int32) : zCD → va_E
  | .inl c => .inr (c.1, zfl q f 0 c.2)
  | .inr c => .inl (D.2 c.1, c.2.1, zac q c.1 c.2.1 c.2.2.1 c.2.2.2.1 c.2.2.2.2 f)
def zpl (L : zL) : List (Nat × Nat × zCD) := L.flatMap (fun b => (zbT b.2).map (fun c => (b.1, c.1, c.2)))
def zcs (D : zD) (L : zL) (G : zG) : va_W := (zpl L).map (fun p => (p.1 + p.2.1, zce D p.1 (G p.1) p.2.2))
def zfun (L : zL) (nx : Nat) : Prop := (∀ q t u, (q, t) ∈ L → (q, u) ∈ L → t = u) ∧ ∀ b ∈ L, b.1 < nx
def zW (D : zD) (B : Nat) (L : zL) (nx : Nat) (G : zG) (H : Heap) : Prop :=
  H.size = nx ∧ va_P D.1 vwCl (zcs D L G) H ∧ va_D (fun q => B ≤ q) (zcs D L G) ∧ zfun L nx
def zX (X0 : State → Prop) (D : zD) (own mn : String) (cc : ByteArray) (nL : Nat) (p : Program) (s : State) (m : MethodId) (args : Array Value) (meth : Method) (c : Code) : Prop :=
  p.tables.exec = Jvm.exec ∧ c.code = cc ∧ c.maxLocals = nL ∧ s.vm.findClass own = some m.cls ∧ (∀ w ∈ zgw, w.before args s = true) ∧ va_K D.1 vwCl (ztys D) s ∧ meth.name = mn ∧ zNw s ∧ X0 s
def zlv (ls : Array Slot) (nL : Nat) (lv : List (Option Value)) : Prop := lv.length = nL ∧ ls.size = nL ∧ lv_wf ls ∧ ∀ (i : Nat) (v : Value), lv[i]? = some (some v) → ls[i]? = some (.val v)
def zRet (cc : ByteArray) (ret : Option FieldType) (pc : Nat) (v : Option Value) : Prop :=
  (∃ (x : Int32) (ty : FieldType), v = some (.int x) ∧ ret = some ty ∧ narrow ty (.int x) = .int x ∧ decode cc pc = .ok (.ireturn, 1)) ∨
  (v = none ∧ ret = none ∧ decode cc pc = .ok (.return_, 1)) ∨
  (∃ (w : Value) (C : String), v = some w ∧ ret = some (.object C) ∧ (w = .null ∨ ∃ a, w = .ref a) ∧ decode cc pc = .ok (.areturn, 1))
abbrev zP : Type := Option Value → zL → Nat → zG → Nat → Nat → Prop
/-- from the frame at pc with these locals, this stack and these blobs, the method comes to a return with 'post' -/
def zV (l : Launch) (X0 : State → Prop) (D : zD) (B : Nat) (own mn : String) (cc : ByteArray) (nL : Nat) (ret : Option FieldType) (R : Room) (post : zP) (k n : Nat) (L : zL) (nx : Nat) (pc : Nat) (lv : List (Option Value)) (st : List Value) (G : zG) : Prop :=
  ∀ (p : Program) (e : Env) (s : State) (m : MethodId) (args : Array Value) (below : List Frame) (meth : Method) (c : Code) (H : Heap) (locs : List Loc) (ls : Array Slot) (Q : State → Prop),
    zX X0 D own mn cc nL p s m args meth c →
    (∀ (H' : Heap) (locs' : List Loc) (ls' : Array Slot) (pc' : Nat) (v : Option Value) (L' : zL) (nx' : Nat) (G' : zG) (k' n' : Nat), zRet cc ret pc' v → zW D B L' nx' G' H' → va_S (fun q => B ≤ q) s.heap H' locs' → post v L' nx' G' k' n' →
      W p l e R s m args below meth c H' locs' k' n' Q (F0 m pc' ls' v.toList)) →
    zlv ls nL lv → zW D B L nx G H → va_S (fun q => B ≤ q) s.heap H locs → W p l e R s m args below meth c H locs k n Q (F0 m pc ls st)
section ZROWS
variable {l : Launch} {X0 : State → Prop} {D : zD} {B : Nat} {own mn : String} {cc : ByteArray} {nL : Nat} {ret : Option FieldType} {R : Room} {post : zP} {k n : Nat} {L : zL} {nx : Nat} {pc : Nat} {lv : List (Option Value)} {st : List Value} {G : zG}
theorem zv_iconst {i : Int} {v : Int32} (hd : decode cc pc = .ok (.iconst i, 1)) (hv : Int32.ofInt i = v) (kk : zV l X0 D B own mn cc nL ret R post k n L nx (pc + 1) lv (.int v :: st) G) : zV l X0 D B own mn cc nL ret R post k n L nx pc lv (st) G :=
  fun p e s m args below meth c H locs ls Q hX hR hl hW hS => lv_iconst hX.1 hX.2.1 hd hv (kk p e s m args below meth c H locs ls Q hX hR hl hW hS)
theorem zv_bipush {i : Int} {v : Int32} (hd : decode cc pc = .ok (.bipush i, 2)) (hv : (Int8.ofInt i).toInt32 = v) (kk : zV l X0 D B own mn cc nL ret R post k n L nx (pc + 2) lv (.int v :: st) G) : zV l X0 D B own mn cc nL ret R post k n L nx pc lv (st) G :=
  fun p e s m args below meth c H locs ls Q hX hR hl hW hS => lv_bipush hX.1 hX.2.1 hd hv (kk p e s m args below meth c H locs ls Q hX hR hl hW hS)
theorem zv_sipush {i : Int} {v : Int32} (hd : decode cc pc = .ok (.sipush i, 3)) (hv : (Int16.ofInt i).toInt32 = v) (kk : zV l X0 D B own mn cc nL ret R post k n L nx (pc + 3) lv (.int v :: st) G) : zV l X0 D B own mn cc nL ret R post k n L nx pc lv (st) G :=
  fun p e s m args below meth c H locs ls Q hX hR hl hW hS => lv_sipush hX.1 hX.2.1 hd hv (kk p e s m args below meth c H locs ls Q hX hR hl hW hS)
theorem zv_lconst {i : Fin 2} {v : Int64} (hd : decode cc pc = .ok (.lconst i, 1)) (hv : Int64.ofNat (i : Nat) = v) (kk : zV l X0 D B own mn cc nL ret R post k n L nx (pc + 1) lv (.long v :: st) G) : zV l X0 D B own mn cc nL ret R post k n L nx pc lv (st) G :=
  fun p e s m args below meth c H locs ls Q hX hR hl hW hS => lv_lconst hX.1 hX.2.1 hd hv (kk p e s m args below meth c H locs ls Q hX hR hl hW hS)
theorem zv_null (hd : decode cc pc = .ok (.aconst_null, 1)) (kk : zV l X0 D B own mn cc nL ret R post k n L nx (pc + 1) lv (.null :: st) G) : zV l X0 D B own mn cc nL ret R post k n L nx pc lv (st) G :=
  fun p e s m args below meth c H locs ls Q hX hR hl hW hS => lv_null hX.1 hX.2.1 hd (kk p e s m args below meth c H locs ls Q hX hR hl hW hS)
theorem zv_ldc {ix : Nat} {v : Int32} (hd : decode cc pc = .ok (.ldc ix, 2)) (hw : Cond.constant own ix v ∈ zgw) (kk : zV l X0 D B own mn cc nL ret R post k n L nx (pc + 2) lv (.int v :: st) G) : zV l X0 D B own mn cc nL ret R post k n L nx pc lv (st) G :=
  fun p e s m args below meth c H locs ls Q hX hR hl hW hS => lv_ldc hX.1 hX.2.1 hX.2.2.2.1 (hX.2.2.2.2.1 _ hw) hd (kk p e s m args below meth c H locs ls Q hX hR hl hW hS)
theorem zv_ldc2 {ix : Nat} {v : Int64} (hd : decode cc pc = .ok (.ldc2_w ix, 3)) (hw : Cond.constantLong own ix v ∈ zgw) (kk : zV l X0 D B own mn cc nL ret R post k n L nx (pc + 3) lv (.long v :: st) G) : zV l X0 D B own mn cc nL ret R post k n L nx pc lv (st) G :=
  fun p e s m args below meth c H locs ls Q hX hR hl hW hS => lv_ldc2 hX.1 hX.2.1 hX.2.2.2.1 (hX.2.2.2.2.1 _ hw) hd (kk p e s m args below meth c H locs ls Q hX hR hl hW hS)
theorem zv_iload_n {i : Fin 4} {x : Int32} (hd : decode cc pc = .ok (.iload_n i, 1)) (hv : lv[(i : Nat)]? = some (some (.int x))) (kk : zV l X0 D B own mn cc nL ret R post k n L nx (pc + 1) lv (.int x :: st) G) : zV l X0 D B own mn cc nL ret R post k n L nx pc lv (st) G :=
  fun p e s m args below meth c H locs ls Q hX hR hl hW hS => lv_iload_n hX.1 hX.2.1 hd rfl (hl.2.2.2 _ _ hv) (kk p e s m args below meth c H locs ls Q hX hR hl hW hS)
theorem zv_iload {i : Nat} {x : Int32} (hd : decode cc pc = .ok (.iload i, 2)) (hv : lv[i]? = some (some (.int x))) (kk : zV l X0 D B own mn cc nL ret R post k n L nx (pc + 2) lv (.int x :: st) G) : zV l X0 D B own mn cc nL ret R post k n L nx pc lv (st) G :=
  fun p e s m args below meth c H locs ls Q hX hR hl hW hS => lv_iload hX.1 hX.2.1 hd (hl.2.2.2 _ _ hv) (kk p e s m args below meth c H locs ls Q hX hR hl hW hS)
theorem zv_lload_n {i : Fin 4} {x : Int64} (hd : decode cc pc = .ok (.lload_n i, 1)) (hv : lv[(i : Nat)]? = some (some (.long x))) (kk : zV l X0 D B own mn cc nL ret R post k n L nx (pc + 1) lv (.long x :: st) G) : zV l X0 D B own mn cc nL ret R post k n L nx pc lv (st) G :=
  fun p e s m args below meth c H locs ls Q hX hR hl hW hS => lv_lload_n hX.1 hX.2.1 hd rfl (hl.2.2.2 _ _ hv) (kk p e s m args below meth c H locs ls Q hX hR hl hW hS)
theorem zv_lload {i : Nat} {x : Int64} (hd : decode cc pc = .ok (.lload i, 2)) (hv : lv[i]? = some (some (.long x))) (kk : zV l X0 D B own mn cc nL ret R post k n L nx (pc + 2) lv (.long x :: st) G) : zV l X0 D B own mn cc nL ret R post k n L nx pc lv (st) G :=
  fun p e s m args below meth c H locs ls Q hX hR hl hW hS => lv_lload hX.1 hX.2.1 hd (hl.2.2.2 _ _ hv) (kk p e s m args below meth c H locs ls Q hX hR hl hW hS)
theorem zv_aload_n {i : Fin 4} {x : Nat} (hd : decode cc pc = .ok (.aload_n i, 1)) (hv : lv[(i : Nat)]? = some (some (.ref x))) (kk : zV l X0 D B own mn cc nL ret R post k n L nx (pc + 1) lv (.ref x :: st) G) : zV l X0 D B own mn cc nL ret R post k n L nx pc lv (st) G :=
  fun p e s m args below meth c H locs ls Q hX hR hl hW hS => lv_aload_n hX.1 hX.2.1 hd rfl (hl.2.2.2 _ _ hv) (kk p e s m args below meth c H locs ls Q hX hR hl hW hS)
theorem zv_aload {i : Nat} {x : Nat} (hd : decode cc pc = .ok (.aload i, 2)) (hv : lv[i]? = some (some (.ref x))) (kk : zV l X0 D B own mn cc nL ret R post k n L nx (pc + 2) lv (.ref x :: st) G) : zV l X0 D B own mn cc nL ret R post k n L nx pc lv (st) G :=
  fun p e s m args below meth c H locs ls Q hX hR hl hW hS => lv_aload hX.1 hX.2.1 hd (hl.2.2.2 _ _ hv) (kk p e s m args below meth c H locs ls Q hX hR hl hW hS)
theorem zv_iadd {x y : Int32} (hd : decode cc pc = .ok (.iadd, 1)) (kk : zV l X0 D B own mn cc nL ret R post k n L nx (pc + 1) lv (.int (x + y) :: st) G) : zV l X0 D B own mn cc nL ret R post k n L nx pc lv (.int y :: .int x :: st) G :=
  fun p e s m args below meth c H locs ls Q hX hR hl hW hS => lv_iadd hX.1 hX.2.1 hd (kk p e s m args below meth c H locs ls Q hX hR hl hW hS)
theorem zv_isub {x y : Int32} (hd : decode cc pc = .ok (.isub, 1)) (kk : zV l X0 D B own mn cc nL ret R post k n L nx (pc + 1) lv (.int (x - y) :: st) G) : zV l X0 D B own mn cc nL ret R post k n L nx pc lv (.int y :: .int x :: st) G :=
  fun p e s m args below meth c H locs ls Q hX hR hl hW hS => lv_isub hX.1 hX.2.1 hd (kk p e s m args below meth c H locs ls Q hX hR hl hW hS)
theorem zv_imul {x y : Int32} (hd : decode cc pc = .ok (.imul, 1)) (kk : zV l X0 D B own mn cc nL ret R post k n L nx (pc + 1) lv (.int (x * y) :: st) G) : zV l X0 D B own mn cc nL ret R post k n L nx pc lv (.int y :: .int x :: st) G :=
  fun p e s m args below meth c H locs ls Q hX hR hl hW hS => lv_imul hX.1 hX.2.1 hd (kk p e s m args below meth c H locs ls Q hX hR hl hW hS)
theorem zv_iand {x y : Int32} (hd : decode cc pc = .ok (.iand, 1)) (kk : zV l X0 D B own mn cc nL ret R post k n L nx (pc + 1) lv (.int (x &&& y) :: st) G) : zV l X0 D B own mn cc nL ret R post k n L nx pc lv (.int y :: .int x :: st) G :=
  fun p e s m args below meth c H locs ls Q hX hR hl hW hS => lv_iand hX.1 hX.2.1 hd (kk p e s m args below meth c H locs ls Q hX hR hl hW hS)
theorem zv_ior {x y : Int32} (hd : decode cc pc = .ok (.ior, 1)) (kk : zV l X0 D B own mn cc nL ret R post k n L nx (pc + 1) lv (.int (x ||| y) :: st) G) : zV l X0 D B own mn cc nL ret R post k n L nx pc lv (.int y :: .int x :: st) G :=
  fun p e s m args below meth c H locs ls Q hX hR hl hW hS => lv_ior hX.1 hX.2.1 hd (kk p e s m args below meth c H locs ls Q hX hR hl hW hS)
theorem zv_ixor {x y : Int32} (hd : decode cc pc = .ok (.ixor, 1)) (kk : zV l X0 D B own mn cc nL ret R post k n L nx (pc + 1) lv (.int (x ^^^ y) :: st) G) : zV l X0 D B own mn cc nL ret R post k n L nx pc lv (.int y :: .int x :: st) G :=
  fun p e s m args below meth c H locs ls Q hX hR hl hW hS => lv_ixor hX.1 hX.2.1 hd (kk p e s m args below meth c H locs ls Q hX hR hl hW hS)
theorem zv_ishl {x y : Int32} (hd : decode cc pc = .ok (.ishl, 1)) (kk : zV l X0 D B own mn cc nL ret R post k n L nx (pc + 1) lv (.int (x <<< (y &&& 31)) :: st) G) : zV l X0 D B own mn cc nL ret R post k n L nx pc lv (.int y :: .int x :: st) G :=
  fun p e s m args below meth c H locs ls Q hX hR hl hW hS => lv_ishl hX.1 hX.2.1 hd (kk p e s m args below meth c H locs ls Q hX hR hl hW hS)
theorem zv_ishr {x y : Int32} (hd : decode cc pc = .ok (.ishr, 1)) (kk : zV l X0 D B own mn cc nL ret R post k n L nx (pc + 1) lv (.int (x >>> (y &&& 31)) :: st) G) : zV l X0 D B own mn cc nL ret R post k n L nx pc lv (.int y :: .int x :: st) G :=
  fun p e s m args below meth c H locs ls Q hX hR hl hW hS => lv_ishr hX.1 hX.2.1 hd (kk p e s m args below meth c H locs ls Q hX hR hl hW hS)
theorem zv_land {x y : Int64} (hd : decode cc pc = .ok (.land, 1)) (kk : zV l X0 D B own mn cc nL ret R post k n L nx (pc + 1) lv (.long (x &&& y) :: st) G) : zV l X0 D B own mn cc nL ret R post k n L nx pc lv (.long y :: .long x :: st) G :=
  fun p e s m args below meth c H locs ls Q hX hR hl hW hS => lv_land hX.1 hX.2.1 hd (kk p e s m args below meth c H locs ls Q hX hR hl hW hS)
theorem zv_lor {x y : Int64} (hd : decode cc pc = .ok (.lor, 1)) (kk : zV l X0 D B own mn cc nL ret R post k n L nx (pc + 1) lv (.long (x ||| y) :: st) G) : zV l X0 D B own mn cc nL ret R post k n L nx pc lv (.long y :: .long x :: st) G :=
  fun p e s m args below meth c H locs ls Q hX hR hl hW hS => lv_lor hX.1 hX.2.1 hd (kk p e s m args below meth c H locs ls Q hX hR hl hW hS)
theorem zv_irem {x y : Int32} (hd : decode cc pc = .ok (.irem, 1)) (hne : ¬ y = 0) (kk : zV l X0 D B own mn cc nL ret R post k n L nx (pc + 1) lv (.int (x - x / y * y) :: st) G) : zV l X0 D B own mn cc nL ret R post k n L nx pc lv (.int y :: .int x :: st) G :=
  fun p e s m args below meth c H locs ls Q hX hR hl hW hS => lv_irem hX.1 hX.2.1 hd hne (kk p e s m args below meth c H locs ls Q hX hR hl hW hS)
theorem zv_idiv {x y : Int32} (hd : decode cc pc = .ok (.idiv, 1)) (hne : ¬ y = 0) (kk : zV l X0 D B own mn cc nL ret R post k n L nx (pc + 1) lv (.int (x / y) :: st) G) : zV l X0 D B own mn cc nL ret R post k n L nx pc lv (.int y :: .int x :: st) G :=
  fun p e s m args below meth c H locs ls Q hX hR hl hW hS => lv_idiv hX.1 hX.2.1 hd hne (kk p e s m args below meth c H locs ls Q hX hR hl hW hS)
theorem zv_ineg {x : Int32} (hd : decode cc pc = .ok (.ineg, 1)) (kk : zV l X0 D B own mn cc nL ret R post k n L nx (pc + 1) lv (.int (-x) :: st) G) : zV l X0 D B own mn cc nL ret R post k n L nx pc lv (.int x :: st) G :=
  fun p e s m args below meth c H locs ls Q hX hR hl hW hS => lv_ineg hX.1 hX.2.1 hd (kk p e s m args below meth c H locs ls Q hX hR hl hW hS)
theorem zv_iushr {x y : Int32} (hd : decode cc pc = .ok (.iushr, 1)) (kk : zV l X0 D B own mn cc nL ret R post k n L nx (pc + 1) lv (.int (x.toUInt32 >>> (y.toUInt32 &&& Int32.toUInt32 31)).toInt32 :: st) G) : zV l X0 D B own mn cc nL ret R post k n L nx pc lv (.int y :: .int x :: st) G :=
  fun p e s m args below meth c H locs ls Q hX hR hl hW hS => lv_iushr hX.1 hX.2.1 hd rfl (kk p e s m args below meth c H locs ls Q hX hR hl hW hS)
theorem zv_lushr {x : Int64} {y : Int32} (hd : decode cc pc = .ok (.lushr, 1)) (kk : zV l X0 D B own mn cc nL ret R post k n L nx (pc + 1) lv (.long (x.toUInt64 >>> (y.toInt64.toUInt64 &&& Int64.toUInt64 63)).toInt64 :: st) G) : zV l X0 D B own mn cc nL ret R post k n L nx pc lv (.int y :: .long x :: st) G :=
  fun p e s m args below meth c H locs ls Q hX hR hl hW hS => lv_lushr hX.1 hX.2.1 hd rfl (kk p e s m args below meth c H locs ls Q hX hR hl hW hS)
theorem zv_lshl {x : Int64} {y : Int32} (hd : decode cc pc = .ok (.lshl, 1)) (kk : zV l X0 D B own mn cc nL ret R post k n L nx (pc + 1) lv (.long (x <<< (y.toInt64 &&& 63)) :: st) G) : zV l X0 D B own mn cc nL ret R post k n L nx pc lv (.int y :: .long x :: st) G :=
  fun p e s m args below meth c H locs ls Q hX hR hl hW hS => lv_lshl hX.1 hX.2.1 hd rfl (kk p e s m args below meth c H locs ls Q hX hR hl hW hS)
theorem zv_i2l {x : Int32} (hd : decode cc pc = .ok (.i2l, 1)) (kk : zV l X0 D B own mn cc nL ret R post k n L nx (pc + 1) lv (.long x.toInt64 :: st) G) : zV l X0 D B own mn cc nL ret R post k n L nx pc lv (.int x :: st) G :=
  fun p e s m args below meth c H locs ls Q hX hR hl hW hS => lv_i2l hX.1 hX.2.1 hd rfl (kk p e s m args below meth c H locs ls Q hX hR hl hW hS)
theorem zv_l2i {x : Int64} (hd : decode cc pc = .ok (.l2i, 1)) (kk : zV l X0 D B own mn cc nL ret R post k n L nx (pc + 1) lv (.int x.toInt32 :: st) G) : zV l X0 D B own mn cc nL ret R post k n L nx pc lv (.long x :: st) G :=
  fun p e s m args below meth c H locs ls Q hX hR hl hW hS => lv_l2i hX.1 hX.2.1 hd rfl (kk p e s m args below meth c H locs ls Q hX hR hl hW hS)
theorem zv_i2c {x : Int32} (hd : decode cc pc = .ok (.i2c, 1)) (kk : zV l X0 D B own mn cc nL ret R post k n L nx (pc + 1) lv (.int (x.toUInt32 % 65536).toInt32 :: st) G) : zV l X0 D B own mn cc nL ret R post k n L nx pc lv (.int x :: st) G :=
  fun p e s m args below meth c H locs ls Q hX hR hl hW hS => lv_i2c hX.1 hX.2.1 hd rfl (kk p e s m args below meth c H locs ls Q hX hR hl hW hS)
theorem zv_lcmp {x y : Int64} (hd : decode cc pc = .ok (.lcmp, 1)) (kk : zV l X0 D B own mn cc nL ret R post k n L nx (pc + 1) lv (.int (lg_cmp x y) :: st) G) : zV l X0 D B own mn cc nL ret R post k n L nx pc lv (.long y :: .long x :: st) G :=
  fun p e s m args below meth c H locs ls Q hX hR hl hW hS => W.lcmp hX.1 hX.2.1 hd (kk p e s m args below meth c H locs ls Q hX hR hl hW hS)
theorem zv_dup {w : Value} (hd : decode cc pc = .ok (.dup, 1)) (hw : w.category = 1) (kk : zV l X0 D B own mn cc nL ret R post k n L nx (pc + 1) lv (w :: w :: st) G) : zV l X0 D B own mn cc nL ret R post k n L nx pc lv (w :: st) G :=
  fun p e s m args below meth c H locs ls Q hX hR hl hW hS => lv_dup hX.1 hX.2.1 hd hw (kk p e s m args below meth c H locs ls Q hX hR hl hW hS)
theorem zv_pop {w : Value} (hd : decode cc pc = .ok (.pop, 1)) (hw : w.category = 1) (kk : zV l X0 D B own mn cc nL ret R post k n L nx (pc + 1) lv (st) G) : zV l X0 D B own mn cc nL ret R post k n L nx pc lv (w :: st) G :=
  fun p e s m args below meth c H locs ls Q hX hR hl hW hS => lv_pop hX.1 hX.2.1 hd hw (kk p e s m args below meth c H locs ls Q hX hR hl hW hS)
theorem zv_dup2 {w v : Value} (hd : decode cc pc = .ok (.dup2, 1)) (hw : w.category = 1) (hv : v.category = 1) (kk : zV l X0 D B own mn cc nL ret R post k n L nx (pc + 1) lv (w :: v :: w :: v :: st) G) : zV l X0 D B own mn cc nL ret R post k n L nx pc lv (w :: v :: st) G :=
  fun p e s m args below meth c H locs ls Q hX hR hl hW hS => lv_dup2_11 hX.1 hX.2.1 hd hw hv (kk p e s m args below meth c H locs ls Q hX hR hl hW hS)
theorem zv_ifnull_r {x : Nat} {off : Int} (hd : decode cc pc = .ok (.ifnull off, 3)) (kk : zV l X0 D B own mn cc nL ret R post k n L nx (pc + 3) lv (st) G) : zV l X0 D B own mn cc nL ret R post k n L nx pc lv (.ref x :: st) G :=
  fun p e s m args below meth c H locs ls Q hX hR hl hW hS => lv_ifnull hX.1 hX.2.1 hd (kk p e s m args below meth c H locs ls Q hX hR hl hW hS)
theorem zv_ifnonnull_n {off : Int} (hd : decode cc pc = .ok (.ifnonnull off, 3)) (kk : zV l X0 D B own mn cc nL ret R post k n L nx (pc + 3) lv (st) G) : zV l X0 D B own mn cc nL ret R post k n L nx pc lv (.null :: st) G :=
  fun p e s m args below meth c H locs ls Q hX hR hl hW hS => lv_ifnonnullN hX.1 hX.2.1 hd (kk p e s m args below meth c H locs ls Q hX hR hl hW hS)
theorem zv_goto {off : Int} {tgt : Nat} (hd : decode cc pc = .ok (.goto off, 3)) (ht : (pc : Int) + off = (tgt : Int)) (kk : zV l X0 D B own mn cc nL ret R post k n L nx tgt lv st G) : zV l X0 D B own mn cc nL ret R post k n L nx pc lv (st) G :=
  fun p e s m args below meth c H locs ls Q hX hR hl hW hS => lv_goto hX.1 hX.2.1 hd ht (kk p e s m args below meth c H locs ls Q hX hR hl hW hS)
theorem zv_ifnonnull_r {x : Nat} {off : Int} {tgt : Nat} (hd : decode cc pc = .ok (.ifnonnull off, 3)) (ht : (pc : Int) + off = (tgt : Int)) (kk : zV l X0 D B own mn cc nL ret R post k n L nx tgt lv st G) : zV l X0 D B own mn cc nL ret R post k n L nx pc lv (.ref x :: st) G :=
  fun p e s m args below meth c H locs ls Q hX hR hl hW hS => lv_ifnonnull hX.1 hX.2.1 hd ht (kk p e s m args below meth c H locs ls Q hX hR hl hW hS)
theorem zv_ifnull_n {off : Int} {tgt : Nat} (hd : decode cc pc = .ok (.ifnull off, 3)) (ht : (pc : Int) + off = (tgt : Int)) (kk : zV l X0 D B own mn cc nL ret R post k n L nx tgt lv st G) : zV l X0 D B own mn cc nL ret R post k n L nx pc lv (.null :: st) G :=
  fun p e s m args below meth c H locs ls Q hX hR hl hW hS => lv_ifnullN hX.1 hX.2.1 hd ht (kk p e s m args below meth c H locs ls Q hX hR hl hW hS)
theorem zv_tableIn {x : Int32} {dflt lo hi : Int} {offs : Array Int} {len : Nat} {off : Int} {tgt : Nat} (hd : decode cc pc = .ok (.tableswitch dflt lo hi offs, len)) (h1 : ¬ x.toInt < lo) (h2 : ¬ hi < x.toInt) (ho : offs[(x.toInt - lo).toNat]? = some off) (ht : (pc : Int) + off = (tgt : Int)) (kk : zV l X0 D B own mn cc nL ret R post k n L nx tgt lv st G) : zV l X0 D B own mn cc nL ret R post k n L nx pc lv (.int x :: st) G :=
  fun p e s m args below meth c H locs ls Q hX hR hl hW hS => lv_tableIn hX.1 hX.2.1 hd h1 h2 ho ht (kk p e s m args below meth c H locs ls Q hX hR hl hW hS)
theorem zv_tableOut {x : Int32} {off lo hi : Int} {offs : Array Int} {len : Nat} {tgt : Nat} (hd : decode cc pc = .ok (.tableswitch off lo hi offs, len)) (h1 : x.toInt < lo ∨ hi < x.toInt) (ht : (pc : Int) + off = (tgt : Int)) (kk : zV l X0 D B own mn cc nL ret R post k n L nx tgt lv st G) : zV l X0 D B own mn cc nL ret R post k n L nx pc lv (.int x :: st) G :=
  fun p e s m args below meth c H locs ls Q hX hR hl hW hS => lv_tableOut hX.1 hX.2.1 hd h1 ht (kk p e s m args below meth c H locs ls Q hX hR hl hW hS)
theorem zv_lookup {x : Int32} {dflt : Int} {ps : Array (Int × Int)} {len : Nat} {off : Int} {tgt : Nat} (hd : decode cc pc = .ok (.lookupswitch dflt ps, len)) (hp : (ps.toList.zip (ps.toList.drop 1)).all (fun (a, next) => a.1 < next.1) = true) (ho : Op.lookupswitch.offset ps.toList dflt x.toInt = off) (ht : (pc : Int) + off = (tgt : Int)) (kk : zV l X0 D B own mn cc nL ret R post k n L nx tgt lv st G) : zV l X0 D B own mn cc nL ret R post k n L nx pc lv (.int x :: st) G :=
  fun p e s m args below meth c H locs ls Q hX hR hl hW hS => lv_lookup hX.1 hX.2.1 hd hp ho ht (kk p e s m args below meth c H locs ls Q hX hR hl hW hS)
theorem zv_if_eq {x : Int32} {off : Int} {tgt : Nat} (hd : decode cc pc = .ok (.ifCond .eq off, 3)) (ht : (pc : Int) + off = (tgt : Int)) (kt : x = 0 → zV l X0 D B own mn cc nL ret R post k n L nx tgt lv st G) (kf : ¬ x = 0 → zV l X0 D B own mn cc nL ret R post k n L nx (pc + 3) lv st G) : zV l X0 D B own mn cc nL ret R post k n L nx pc lv (.int x :: st) G :=
  fun p e s m args below meth c H locs ls Q hX hR hl hW hS => lv_if_eq hX.1 hX.2.1 hd ht (fun h => kt h p e s m args below meth c H locs ls Q hX hR hl hW hS) (fun h => kf h p e s m args below meth c H locs ls Q hX hR hl hW hS)
theorem zv_if_lt {x : Int32} {off : Int} {tgt : Nat} (hd : decode cc pc = .ok (.ifCond .lt off, 3)) (ht : (pc : Int) + off = (tgt : Int)) (kt : x < 0 → zV l X0 D B own mn cc nL ret R post k n L nx tgt lv st G) (kf : ¬ x < 0 → zV l X0 D B own mn cc nL ret R post k n L nx (pc + 3) lv st G) : zV l X0 D B own mn cc nL ret R post k n L nx pc lv (.int x :: st) G :=
  fun p e s m args below meth c H locs ls Q hX hR hl hW hS => lv_if_lt hX.1 hX.2.1 hd ht (fun h => kt h p e s m args below meth c H locs ls Q hX hR hl hW hS) (fun h => kf h p e s m args below meth c H locs ls Q hX hR hl hW hS)
theorem zv_if_ge {x : Int32} {off : Int} {tgt : Nat} (hd : decode cc pc = .ok (.ifCond .ge off, 3)) (ht : (pc : Int) + off = (tgt : Int)) (kt : 0 ≤ x → zV l X0 D B own mn cc nL ret R post k n L nx tgt lv st G) (kf : ¬ 0 ≤ x → zV l X0 D B own mn cc nL ret R post k n L nx (pc + 3) lv st G) : zV l X0 D B own mn cc nL ret R post k n L nx pc lv (.int x :: st) G :=
  fun p e s m args below meth c H locs ls Q hX hR hl hW hS => lv_if_ge hX.1 hX.2.1 hd ht (fun h => kt h p e s m args below meth c H locs ls Q hX hR hl hW hS) (fun h => kf h p e s m args below meth c H locs ls Q hX hR hl hW hS)
theorem zv_if_gt {x : Int32} {off : Int} {tgt : Nat} (hd : decode cc pc = .ok (.ifCond .gt off, 3)) (ht : (pc : Int) + off = (tgt : Int)) (kt : 0 < x → zV l X0 D B own mn cc nL ret R post k n L nx tgt lv st G) (kf : ¬ 0 < x → zV l X0 D B own mn cc nL ret R post k n L nx (pc + 3) lv st G) : zV l X0 D B own mn cc nL ret R post k n L nx pc lv (.int x :: st) G :=
  fun p e s m args below meth c H locs ls Q hX hR hl hW hS => lv_if_gt hX.1 hX.2.1 hd ht (fun h => kt h p e s m args below meth c H locs ls Q hX hR hl hW hS) (fun h => kf h p e s m args below meth c H locs ls Q hX hR hl hW hS)
theorem zv_if_le {x : Int32} {off : Int} {tgt : Nat} (hd : decode cc pc = .ok (.ifCond .le off, 3)) (ht : (pc : Int) + off = (tgt : Int)) (kt : x ≤ 0 → zV l X0 D B own mn cc nL ret R post k n L nx tgt lv st G) (kf : ¬ x ≤ 0 → zV l X0 D B own mn cc nL ret R post k n L nx (pc + 3) lv st G) : zV l X0 D B own mn cc nL ret R post k n L nx pc lv (.int x :: st) G :=
  fun p e s m args below meth c H locs ls Q hX hR hl hW hS => lv_if_le hX.1 hX.2.1 hd ht (fun h => kt h p e s m args below meth c H locs ls Q hX hR hl hW hS) (fun h => kf h p e s m args below meth c H locs ls Q hX hR hl hW hS)
theorem zv_icmp_eq {x y : Int32} {off : Int} {tgt : Nat} (hd : decode cc pc = .ok (.if_icmp .eq off, 3)) (ht : (pc : Int) + off = (tgt : Int)) (kt : x = y → zV l X0 D B own mn cc nL ret R post k n L nx tgt lv st G) (kf : ¬ x = y → zV l X0 D B own mn cc nL ret R post k n L nx (pc + 3) lv st G) : zV l X0 D B own mn cc nL ret R post k n L nx pc lv (.int y :: .int x :: st) G :=
  fun p e s m args below meth c H locs ls Q hX hR hl hW hS => lv_icmp_eq hX.1 hX.2.1 hd ht (fun h => kt h p e s m args below meth c H locs ls Q hX hR hl hW hS) (fun h => kf h p e s m args below meth c H locs ls Q hX hR hl hW hS)
theorem zv_icmp_lt {x y : Int32} {off : Int} {tgt : Nat} (hd : decode cc pc = .ok (.if_icmp .lt off, 3)) (ht : (pc : Int) + off = (tgt : Int)) (kt : x < y → zV l X0 D B own mn cc nL ret R post k n L nx tgt lv st G) (kf : ¬ x < y → zV l X0 D B own mn cc nL ret R post k n L nx (pc + 3) lv st G) : zV l X0 D B own mn cc nL ret R post k n L nx pc lv (.int y :: .int x :: st) G :=
  fun p e s m args below meth c H locs ls Q hX hR hl hW hS => lv_icmp_lt hX.1 hX.2.1 hd ht (fun h => kt h p e s m args below meth c H locs ls Q hX hR hl hW hS) (fun h => kf h p e s m args below meth c H locs ls Q hX hR hl hW hS)
theorem zv_icmp_ge {x y : Int32} {off : Int} {tgt : Nat} (hd : decode cc pc = .ok (.if_icmp .ge off, 3)) (ht : (pc : Int) + off = (tgt : Int)) (kt : y ≤ x → zV l X0 D B own mn cc nL ret R post k n L nx tgt lv st G) (kf : ¬ y ≤ x → zV l X0 D B own mn cc nL ret R post k n L nx (pc + 3) lv st G) : zV l X0 D B own mn cc nL ret R post k n L nx pc lv (.int y :: .int x :: st) G :=
  fun p e s m args below meth c H locs ls Q hX hR hl hW hS => lv_icmp_ge hX.1 hX.2.1 hd ht (fun h => kt h p e s m args below meth c H locs ls Q hX hR hl hW hS) (fun h => kf h p e s m args below meth c H locs ls Q hX hR hl hW hS)
theorem zv_icmp_gt {x y : Int32} {off : Int} {tgt : Nat} (hd : decode cc pc = .ok (.if_icmp .gt off, 3)) (ht : (pc : Int) + off = (tgt : Int)) (kt : y < x → zV l X0 D B own mn cc nL ret R post k n L nx tgt lv st G) (kf : ¬ y < x → zV l X0 D B own mn cc nL ret R post k n L nx (pc + 3) lv st G) : zV l X0 D B own mn cc nL ret R post k n L nx pc lv (.int y :: .int x :: st) G :=
  fun p e s m args below meth c H locs ls Q hX hR hl hW hS => lv_icmp_gt hX.1 hX.2.1 hd ht (fun h => kt h p e s m args below meth c H locs ls Q hX hR hl hW hS) (fun h => kf h p e s m args below meth c H locs ls Q hX hR hl hW hS)
theorem zv_icmp_le {x y : Int32} {off : Int} {tgt : Nat} (hd : decode cc pc = .ok (.if_icmp .le off, 3)) (ht : (pc : Int) + off = (tgt : Int)) (kt : x ≤ y → zV l X0 D B own mn cc nL ret R post k n L nx tgt lv st G) (kf : ¬ x ≤ y → zV l X0 D B own mn cc nL ret R post k n L nx (pc + 3) lv st G) : zV l X0 D B own mn cc nL ret R post k n L nx pc lv (.int y :: .int x :: st) G :=
  fun p e s m args below meth c H locs ls Q hX hR hl hW hS => lv_icmp_le hX.1 hX.2.1 hd ht (fun h => kt h p e s m args below meth c H locs ls Q hX hR hl hW hS) (fun h => kf h p e s m args below meth c H locs ls Q hX hR hl hW hS)
theorem zv_if_ne {x : Int32} {off : Int} {tgt : Nat} (hd : decode cc pc = .ok (.ifCond .ne off, 3)) (ht : (pc : Int) + off = (tgt : Int)) (kt : ¬ x = 0 → zV l X0 D B own mn cc nL ret R post k n L nx tgt lv st G) (kf : x = 0 → zV l X0 D B own mn cc nL ret R post k n L nx (pc + 3) lv st G) : zV l X0 D B own mn cc nL ret R post k n L nx pc lv (.int x :: st) G :=
  fun p e s m args below meth c H locs ls Q hX hR hl hW hS => lv_if_ne hX.1 hX.2.1 hd ht (fun h => kt h p e s m args below meth c H locs ls Q hX hR hl hW hS) (fun h => kf (by first | exact h | exact Classical.not_not.mp h) p e s m args below meth c H locs ls Q hX hR hl hW hS)
theorem zv_icmp_ne {x y : Int32} {off : Int} {tgt : Nat} (hd : decode cc pc = .ok (.if_icmp .ne off, 3)) (ht : (pc : Int) + off = (tgt : Int)) (kt : ¬ x = y → zV l X0 D B own mn cc nL ret R post k n L nx tgt lv st G) (kf : x = y → zV l X0 D B own mn cc nL ret R post k n L nx (pc + 3) lv st G) : zV l X0 D B own mn cc nL ret R post k n L nx pc lv (.int y :: .int x :: st) G :=
  fun p e s m args below meth c H locs ls Q hX hR hl hW hS => lv_icmp_ne hX.1 hX.2.1 hd ht (fun h => kt h p e s m args below meth c H locs ls Q hX hR hl hW hS) (fun h => kf (by first | exact h | exact Classical.not_not.mp h) p e s m args below meth c H locs ls Q hX hR hl hW hS)
theorem zv_widen {k' n' : Nat} (h1 : k ≤ k') (h2 : n ≤ n') (kk : zV l X0 D B own mn cc nL ret R post k' n' L nx pc lv st G) : zV l X0 D B own mn cc nL ret R post k n L nx pc lv st G :=
  fun p e s m args below meth c H locs ls Q hX hR hl hW hS => W.widen h1 h2 (kk p e s m args below meth c H locs ls Q hX hR hl hW hS)
theorem zv_eqG {G' : zG} (h : G = G') (kk : zV l X0 D B own mn cc nL ret R post k n L nx pc lv st G') : zV l X0 D B own mn cc nL ret R post k n L nx pc lv st G := h ▸ kk
theorem zv_st {st' : List Value} (h : st = st') (kk : zV l X0 D B own mn cc nL ret R post k n L nx pc lv st' G) : zV l X0 D B own mn cc nL ret R post k n L nx pc lv st G := h ▸ kk
theorem zv_lv {lv' : List (Option Value)} (h : lv = lv') (kk : zV l X0 D B own mn cc nL ret R post k n L nx pc lv' st G) : zV l X0 D B own mn cc nL ret R post k n L nx pc lv st G := h ▸ kk
end ZROWS
