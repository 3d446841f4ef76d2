-- ===== PART A: goes FIRST, ahead of the names: the tables' words, and 'selects' of the private methods out of them =====
/-- a private method of a class that the tables say can be made, by its rows of tables_1 -/
def lw_okq (q : MethodName × Nat) : Prop := (q.1.cls ≠ "java/lang/invoke/MethodHandle" ∧ q.1.cls ≠ "java/lang/invoke/VarHandle") ∧ Cond.instantiable q.1.cls q.2 ∈ tables_1 ∧ Cond.privateMethod q.1 ∈ tables_1 ∧ Cond.instanceMethod q.1 ∈ tables_1
theorem lw_p0 : lw_okq (⟨"BookDroplets$History", "placeBehindLast", "()I"⟩, 3) := ⟨⟨by decide +kernel, by decide +kernel⟩, List.mem_of_getElem? (i := 101) (by decide +kernel), List.mem_of_getElem? (i := 218) (by decide +kernel), List.mem_of_getElem? (i := 219) (by decide +kernel)⟩
theorem lw_p1 : lw_okq (⟨"BookDroplets", "changeSetting", "(II)I"⟩, 7) := ⟨⟨by decide +kernel, by decide +kernel⟩, List.mem_of_getElem? (i := 12) (by decide +kernel), List.mem_of_getElem? (i := 237) (by decide +kernel), List.mem_of_getElem? (i := 238) (by decide +kernel)⟩
theorem lw_p2 : lw_okq (⟨"BookDroplets", "addChapter", "(I)I"⟩, 7) := ⟨⟨by decide +kernel, by decide +kernel⟩, List.mem_of_getElem? (i := 12) (by decide +kernel), List.mem_of_getElem? (i := 252) (by decide +kernel), List.mem_of_getElem? (i := 253) (by decide +kernel)⟩
theorem lw_p3 : lw_okq (⟨"BookDroplets", "addCup", "()I"⟩, 7) := ⟨⟨by decide +kernel, by decide +kernel⟩, List.mem_of_getElem? (i := 12) (by decide +kernel), List.mem_of_getElem? (i := 261) (by decide +kernel), List.mem_of_getElem? (i := 262) (by decide +kernel)⟩
theorem lw_p4 : lw_okq (⟨"BookDroplets", "pourDroplets", "(III)I"⟩, 7) := ⟨⟨by decide +kernel, by decide +kernel⟩, List.mem_of_getElem? (i := 12) (by decide +kernel), List.mem_of_getElem? (i := 269) (by decide +kernel), List.mem_of_getElem? (i := 270) (by decide +kernel)⟩
theorem lw_p5 : lw_okq (⟨"BookDroplets", "errorOfDroplets", "(II)I"⟩, 7) := ⟨⟨by decide +kernel, by decide +kernel⟩, List.mem_of_getElem? (i := 12) (by decide +kernel), List.mem_of_getElem? (i := 277) (by decide +kernel), List.mem_of_getElem? (i := 278) (by decide +kernel)⟩
theorem lw_p6 : lw_okq (⟨"BookDroplets$Droplet", "addFrom", "(LBookDroplets$State;I)V"⟩, 4) := ⟨⟨by decide +kernel, by decide +kernel⟩, List.mem_of_getElem? (i := 145) (by decide +kernel), List.mem_of_getElem? (i := 301) (by decide +kernel), List.mem_of_getElem? (i := 302) (by decide +kernel)⟩
theorem lw_p7 : lw_okq (⟨"BookDroplets$Cup", "learn", "(II)V"⟩, 8) := ⟨⟨by decide +kernel, by decide +kernel⟩, List.mem_of_getElem? (i := 27) (by decide +kernel), List.mem_of_getElem? (i := 320) (by decide +kernel), List.mem_of_getElem? (i := 321) (by decide +kernel)⟩
theorem lw_p8 : lw_okq (⟨"BookDroplets$Cup", "peel", "()V"⟩, 8) := ⟨⟨by decide +kernel, by decide +kernel⟩, List.mem_of_getElem? (i := 27) (by decide +kernel), List.mem_of_getElem? (i := 324) (by decide +kernel), List.mem_of_getElem? (i := 325) (by decide +kernel)⟩
theorem lw_p9 : lw_okq (⟨"BookDroplets$Cup", "firstPeelable", "()I"⟩, 8) := ⟨⟨by decide +kernel, by decide +kernel⟩, List.mem_of_getElem? (i := 27) (by decide +kernel), List.mem_of_getElem? (i := 328) (by decide +kernel), List.mem_of_getElem? (i := 329) (by decide +kernel)⟩
theorem lw_p10 : lw_okq (⟨"BookDroplets$Cup", "removeKept", "(I)V"⟩, 8) := ⟨⟨by decide +kernel, by decide +kernel⟩, List.mem_of_getElem? (i := 27) (by decide +kernel), List.mem_of_getElem? (i := 333) (by decide +kernel), List.mem_of_getElem? (i := 334) (by decide +kernel)⟩
theorem lw_p11 : lw_okq (⟨"BookDroplets$Cup", "keepIfRoom", "(II)Z"⟩, 8) := ⟨⟨by decide +kernel, by decide +kernel⟩, List.mem_of_getElem? (i := 27) (by decide +kernel), List.mem_of_getElem? (i := 337) (by decide +kernel), List.mem_of_getElem? (i := 338) (by decide +kernel)⟩
theorem lw_p12 : lw_okq (⟨"BookDroplets", "isFull", "(LBookDroplets$Cup;)Z"⟩, 7) := ⟨⟨by decide +kernel, by decide +kernel⟩, List.mem_of_getElem? (i := 12) (by decide +kernel), List.mem_of_getElem? (i := 349) (by decide +kernel), List.mem_of_getElem? (i := 350) (by decide +kernel)⟩
theorem lw_p13 : lw_okq (⟨"BookDroplets", "fullCups", "()I"⟩, 7) := ⟨⟨by decide +kernel, by decide +kernel⟩, List.mem_of_getElem? (i := 12) (by decide +kernel), List.mem_of_getElem? (i := 380) (by decide +kernel), List.mem_of_getElem? (i := 381) (by decide +kernel)⟩
theorem lw_p14 : lw_okq (⟨"BookDroplets", "emptyCup", "(I)I"⟩, 7) := ⟨⟨by decide +kernel, by decide +kernel⟩, List.mem_of_getElem? (i := 12) (by decide +kernel), List.mem_of_getElem? (i := 420) (by decide +kernel), List.mem_of_getElem? (i := 421) (by decide +kernel)⟩
theorem lw_p15 : lw_okq (⟨"BookDroplets", "solveCup", "(I)I"⟩, 7) := ⟨⟨by decide +kernel, by decide +kernel⟩, List.mem_of_getElem? (i := 12) (by decide +kernel), List.mem_of_getElem? (i := 432) (by decide +kernel), List.mem_of_getElem? (i := 433) (by decide +kernel)⟩
def lw_privs_1 : List (MethodName × Nat) := [(⟨"BookDroplets$History", "placeBehindLast", "()I"⟩, 3), (⟨"BookDroplets", "changeSetting", "(II)I"⟩, 7), (⟨"BookDroplets", "addChapter", "(I)I"⟩, 7), (⟨"BookDroplets", "addCup", "()I"⟩, 7), (⟨"BookDroplets", "pourDroplets", "(III)I"⟩, 7), (⟨"BookDroplets", "errorOfDroplets", "(II)I"⟩, 7), (⟨"BookDroplets$Droplet", "addFrom", "(LBookDroplets$State;I)V"⟩, 4), (⟨"BookDroplets$Cup", "learn", "(II)V"⟩, 8), (⟨"BookDroplets$Cup", "peel", "()V"⟩, 8), (⟨"BookDroplets$Cup", "firstPeelable", "()I"⟩, 8), (⟨"BookDroplets$Cup", "removeKept", "(I)V"⟩, 8), (⟨"BookDroplets$Cup", "keepIfRoom", "(II)Z"⟩, 8), (⟨"BookDroplets", "isFull", "(LBookDroplets$Cup;)Z"⟩, 7), (⟨"BookDroplets", "fullCups", "()I"⟩, 7), (⟨"BookDroplets", "emptyCup", "(I)I"⟩, 7), (⟨"BookDroplets", "solveCup", "(I)I"⟩, 7)]
theorem lw_r1 : ∀ q ∈ lw_privs_1, lw_okq q := List.forall_mem_cons.mpr ⟨lw_p0, List.forall_mem_cons.mpr ⟨lw_p1, List.forall_mem_cons.mpr ⟨lw_p2, List.forall_mem_cons.mpr ⟨lw_p3, List.forall_mem_cons.mpr ⟨lw_p4, List.forall_mem_cons.mpr ⟨lw_p5, List.forall_mem_cons.mpr ⟨lw_p6, List.forall_mem_cons.mpr ⟨lw_p7, List.forall_mem_cons.mpr ⟨lw_p8, List.forall_mem_cons.mpr ⟨lw_p9, List.forall_mem_cons.mpr ⟨lw_p10, List.forall_mem_cons.mpr ⟨lw_p11, List.forall_mem_cons.mpr ⟨lw_p12, List.forall_mem_cons.mpr ⟨lw_p13, List.forall_mem_cons.mpr ⟨lw_p14, List.forall_mem_cons.mpr ⟨lw_p15, fun _ h => absurd h List.not_mem_nil⟩⟩⟩⟩⟩⟩⟩⟩⟩⟩⟩⟩⟩⟩⟩⟩
def lw_privs : List (MethodName × Nat) := lw_privs_1
def lw_tbl : List Cond := k2_sels lw_privs ++ tables_1
theorem lw_privs_ok : ∀ q ∈ lw_privs, lw_okq q := lw_r1

def RX0 : String := "BookDroplets$Cup"
def TX0 : u_T := fun k => match k with
  | 0 => ("BookDroplets$Cup", "known", "I", false)
  | 1 => ("BookDroplets$Cup", "keptCount", "I", false)
  | 2 => ("BookDroplets$Cup", "poured", "I", false)
  | 3 => ("BookDroplets$Cup", "lost", "I", false)
  | 4 => ("BookDroplets$Cup", "useless", "I", false)
  | 5 => ("BookDroplets$Cup", "learnt", "[I", true)
  | 6 => ("BookDroplets$Cup", "sets", "[I", true)
  | _ => ("BookDroplets$Cup", "numbers", "[I", true)
def tyX0 : Nat → FieldType := fun k => match k with
  | 0 => .int
  | 1 => .int
  | 2 => .int
  | 3 => .int
  | 4 => .int
  | 5 => .array .int
  | 6 => .array .int
  | _ => .array .int
abbrev wsX00 : List Cond := u_ws RX0 TX0 8
theorem nmX0 : ∀ a, a < 8 → ∀ b, b < 8 → a ≠ b → (TX0 a).2.1 ≠ (TX0 b).2.1 := by decide +kernel
theorem tyX0_ok : ∀ k, k < 8 → parseFieldDescriptor (TX0 k).2.2.1 = some (tyX0 k) := by decide +kernel
abbrev cX0_init : ByteArray := prog_2_method_1_code
def yX0_init : MethodName := ⟨RX0, "<init>", "()V"⟩
abbrev cX0_clear : ByteArray := prog_2_method_2_code
def yX0_clear : MethodName := ⟨RX0, "clear", "()V"⟩
abbrev cX0_copyFrom : ByteArray := prog_2_method_3_code
def yX0_copyFrom : MethodName := ⟨RX0, "copyFrom", "(LBookDroplets$Cup;)V"⟩
abbrev cX0_knownCount : ByteArray := prog_2_method_4_code
def yX0_knownCount : MethodName := ⟨RX0, "knownCount", "()I"⟩
abbrev cX0_receive : ByteArray := prog_2_method_5_code
def yX0_receive : MethodName := ⟨RX0, "receive", "(LBookDroplets$Droplet;)I"⟩
abbrev cX0_learnSingles : ByteArray := prog_2_method_6_code
def yX0_learnSingles : MethodName := ⟨RX0, "learnSingles", "(LBookDroplets$Rows;)I"⟩
abbrev cX0_keepIfRoom : ByteArray := prog_2_method_7_code
def yX0_keepIfRoom : MethodName := ⟨RX0, "keepIfRoom", "(II)Z"⟩
abbrev cX0_learn : ByteArray := prog_2_method_8_code
def yX0_learn : MethodName := ⟨RX0, "learn", "(II)V"⟩
abbrev cX0_peel : ByteArray := prog_2_method_9_code
def yX0_peel : MethodName := ⟨RX0, "peel", "()V"⟩
abbrev cX0_firstPeelable : ByteArray := prog_2_method_10_code
def yX0_firstPeelable : MethodName := ⟨RX0, "firstPeelable", "()I"⟩
abbrev cX0_removeKept : ByteArray := prog_2_method_11_code
def yX0_removeKept : MethodName := ⟨RX0, "removeKept", "(I)V"⟩
def RX1 : String := "BookDroplets$Droplet"
def TX1 : u_T := fun k => match k with
  | 0 => ("BookDroplets$Droplet", "lost", "Z", false)
  | 1 => ("BookDroplets$Droplet", "degree", "I", false)
  | 2 => ("BookDroplets$Droplet", "set", "I", false)
  | _ => ("BookDroplets$Droplet", "number", "I", false)
def tyX1 : Nat → FieldType := fun k => match k with
  | 0 => .boolean
  | 1 => .int
  | 2 => .int
  | _ => .int
abbrev wsX10 : List Cond := u_ws RX1 TX1 4
theorem nmX1 : ∀ a, a < 4 → ∀ b, b < 4 → a ≠ b → (TX1 a).2.1 ≠ (TX1 b).2.1 := by decide +kernel
theorem tyX1_ok : ∀ k, k < 4 → parseFieldDescriptor (TX1 k).2.2.1 = some (tyX1 k) := by decide +kernel
abbrev cX1_init : ByteArray := prog_3_method_1_code
def yX1_init : MethodName := ⟨RX1, "<init>", "()V"⟩
abbrev cX1_makeFrom : ByteArray := prog_3_method_2_code
def yX1_makeFrom : MethodName := ⟨RX1, "makeFrom", "(LBookDroplets$State;I)V"⟩
abbrev cX1_addFrom : ByteArray := prog_3_method_3_code
def yX1_addFrom : MethodName := ⟨RX1, "addFrom", "(LBookDroplets$State;I)V"⟩
abbrev cX1_nextDraw : ByteArray := prog_3_method_4_code
def yX1_nextDraw : MethodName := ⟨RX1, "nextDraw", "(I)I"⟩
abbrev cX1_degreeBy : ByteArray := prog_3_method_5_code
def yX1_degreeBy : MethodName := ⟨RX1, "degreeBy", "(III)I"⟩
abbrev cX1_commonDegree : ByteArray := prog_3_method_6_code
def yX1_commonDegree : MethodName := ⟨RX1, "commonDegree", "(I)I"⟩
def RX2 : String := "BookDroplets$History"
def TX2 : u_T := fun k => match k with
  | 0 => ("BookDroplets$History", "states", "[LBookDroplets$State;", true)
  | 1 => ("BookDroplets$History", "first", "I", false)
  | _ => ("BookDroplets$History", "count", "I", false)
def tyX2 : Nat → FieldType := fun k => match k with
  | 0 => .array (.object "BookDroplets$State")
  | 1 => .int
  | _ => .int
abbrev wsX20 : List Cond := u_ws RX2 TX2 3
theorem nmX2 : ∀ a, a < 3 → ∀ b, b < 3 → a ≠ b → (TX2 a).2.1 ≠ (TX2 b).2.1 := by decide +kernel
theorem tyX2_ok : ∀ k, k < 3 → parseFieldDescriptor (TX2 k).2.2.1 = some (tyX2 k) := by decide +kernel
abbrev cX2_init : ByteArray := prog_4_method_1_code
def yX2_init : MethodName := ⟨RX2, "<init>", "()V"⟩
abbrev cX2_note : ByteArray := prog_4_method_2_code
def yX2_note : MethodName := ⟨RX2, "note", "(LBookDroplets$State;)V"⟩
abbrev cX2_keepUnlessError : ByteArray := prog_4_method_3_code
def yX2_keepUnlessError : MethodName := ⟨RX2, "keepUnlessError", "(I)I"⟩
abbrev cX2_placeBehindLast : ByteArray := prog_4_method_5_code
def yX2_placeBehindLast : MethodName := ⟨RX2, "placeBehindLast", "()I"⟩
def RX3 : String := "BookDroplets$Pad"
def TX3 : u_T := fun k => match k with
  | 0 => ("BookDroplets$Pad", "signs", "[C", true)
  | 1 => ("BookDroplets$Pad", "length", "I", false)
  | 2 => ("BookDroplets$Pad", "place", "I", false)
  | 3 => ("BookDroplets$Pad", "kind", "C", false)
  | 4 => ("BookDroplets$Pad", "cup", "I", false)
  | 5 => ("BookDroplets$Pad", "number", "I", false)
  | _ => ("BookDroplets$Pad", "many", "I", false)
def tyX3 : Nat → FieldType := fun k => match k with
  | 0 => .array .char
  | 1 => .int
  | 2 => .int
  | 3 => .char
  | 4 => .int
  | 5 => .int
  | _ => .int
abbrev wsX30 : List Cond := u_ws RX3 TX3 7
theorem nmX3 : ∀ a, a < 7 → ∀ b, b < 7 → a ≠ b → (TX3 a).2.1 ≠ (TX3 b).2.1 := by decide +kernel
theorem tyX3_ok : ∀ k, k < 7 → parseFieldDescriptor (TX3 k).2.2.1 = some (tyX3 k) := by decide +kernel
abbrev cX3_init : ByteArray := prog_5_method_1_code
def yX3_init : MethodName := ⟨RX3, "<init>", "()V"⟩
def RX4 : String := "BookDroplets$Rows"
def TX4 : u_T := fun k => match k with
  | 0 => ("BookDroplets$Rows", "sets", "[I", true)
  | _ => ("BookDroplets$Rows", "numbers", "[I", true)
def tyX4 : Nat → FieldType := fun k => match k with
  | 0 => .array .int
  | _ => .array .int
abbrev wsX40 : List Cond := u_ws RX4 TX4 2
theorem nmX4 : ∀ a, a < 2 → ∀ b, b < 2 → a ≠ b → (TX4 a).2.1 ≠ (TX4 b).2.1 := by decide +kernel
theorem tyX4_ok : ∀ k, k < 2 → parseFieldDescriptor (TX4 k).2.2.1 = some (tyX4 k) := by decide +kernel
abbrev cX4_init : ByteArray := prog_6_method_1_code
def yX4_init : MethodName := ⟨RX4, "<init>", "()V"⟩
abbrev cX4_reduce : ByteArray := prog_6_method_2_code
def yX4_reduce : MethodName := ⟨RX4, "reduce", "(LBookDroplets$Cup;)V"⟩
abbrev cX4_isSingle : ByteArray := prog_6_method_3_code
def yX4_isSingle : MethodName := ⟨RX4, "isSingle", "(I)Z"⟩
abbrev cX4_singleCount : ByteArray := prog_6_method_4_code
def yX4_singleCount : MethodName := ⟨RX4, "singleCount", "()I"⟩
def RX5 : String := "BookDroplets$State"
def TX5 : u_T := fun k => match k with
  | 0 => ("BookDroplets$State", "way", "I", false)
  | 1 => ("BookDroplets$State", "loss", "I", false)
  | 2 => ("BookDroplets$State", "chapterCount", "I", false)
  | 3 => ("BookDroplets$State", "cupCount", "I", false)
  | 4 => ("BookDroplets$State", "poured", "I", false)
  | 5 => ("BookDroplets$State", "chapters", "[I", true)
  | _ => ("BookDroplets$State", "cups", "[LBookDroplets$Cup;", true)
def tyX5 : Nat → FieldType := fun k => match k with
  | 0 => .int
  | 1 => .int
  | 2 => .int
  | 3 => .int
  | 4 => .int
  | 5 => .array .int
  | _ => .array (.object "BookDroplets$Cup")
abbrev wsX50 : List Cond := u_ws RX5 TX5 7
theorem nmX5 : ∀ a, a < 7 → ∀ b, b < 7 → a ≠ b → (TX5 a).2.1 ≠ (TX5 b).2.1 := by decide +kernel
theorem tyX5_ok : ∀ k, k < 7 → parseFieldDescriptor (TX5 k).2.2.1 = some (tyX5 k) := by decide +kernel
abbrev cX5_init : ByteArray := prog_7_method_1_code
def yX5_init : MethodName := ⟨RX5, "<init>", "()V"⟩
abbrev cX5_cupAt : ByteArray := prog_7_method_2_code
def yX5_cupAt : MethodName := ⟨RX5, "cupAt", "(I)LBookDroplets$Cup;"⟩
abbrev cX5_allChapters : ByteArray := prog_7_method_3_code
def yX5_allChapters : MethodName := ⟨RX5, "allChapters", "()I"⟩
abbrev cX5_copyFrom : ByteArray := prog_7_method_4_code
def yX5_copyFrom : MethodName := ⟨RX5, "copyFrom", "(LBookDroplets$State;)V"⟩
def RX6 : String := "BookDroplets"
def TX6 : u_T := fun k => match k with
  | 0 => ("BookDroplets", "now", "LBookDroplets$State;", true)
  | 1 => ("BookDroplets", "history", "LBookDroplets$History;", true)
  | 2 => ("BookDroplets", "slots", "[LBookDroplets$State;", true)
  | 3 => ("BookDroplets", "pad", "LBookDroplets$Pad;", true)
  | 4 => ("BookDroplets", "fallen", "LBookDroplets$Droplet;", true)
  | 5 => ("BookDroplets", "trial", "LBookDroplets$Cup;", true)
  | _ => ("BookDroplets", "rows", "LBookDroplets$Rows;", true)
def tyX6 : Nat → FieldType := fun k => match k with
  | 0 => .object "BookDroplets$State"
  | 1 => .object "BookDroplets$History"
  | 2 => .array (.object "BookDroplets$State")
  | 3 => .object "BookDroplets$Pad"
  | 4 => .object "BookDroplets$Droplet"
  | 5 => .object "BookDroplets$Cup"
  | _ => .object "BookDroplets$Rows"
abbrev wsX60 : List Cond := u_ws RX6 TX6 7
theorem nmX6 : ∀ a, a < 7 → ∀ b, b < 7 → a ≠ b → (TX6 a).2.1 ≠ (TX6 b).2.1 := by decide +kernel
theorem tyX6_ok : ∀ k, k < 7 → parseFieldDescriptor (TX6 k).2.2.1 = some (tyX6 k) := by decide +kernel
abbrev cX6_init : ByteArray := prog_1_method_1_code
def yX6_init : MethodName := ⟨RX6, "<init>", "()V"⟩
abbrev cX6_set : ByteArray := prog_1_method_2_code
def yX6_set : MethodName := ⟨RX6, "set", "(II)I"⟩
abbrev cX6_chapter : ByteArray := prog_1_method_3_code
def yX6_chapter : MethodName := ⟨RX6, "chapter", "(I)I"⟩
abbrev cX6_cup : ByteArray := prog_1_method_4_code
def yX6_cup : MethodName := ⟨RX6, "cup", "()I"⟩
abbrev cX6_empty : ByteArray := prog_1_method_5_code
def yX6_empty : MethodName := ⟨RX6, "empty", "(I)I"⟩
abbrev cX6_pour : ByteArray := prog_1_method_6_code
def yX6_pour : MethodName := ⟨RX6, "pour", "(III)I"⟩
abbrev cX6_solve : ByteArray := prog_1_method_7_code
def yX6_solve : MethodName := ⟨RX6, "solve", "(I)I"⟩
abbrev cX6_droplet : ByteArray := prog_1_method_8_code
def yX6_droplet : MethodName := ⟨RX6, "droplet", "(II)I"⟩
abbrev cX6_ofCup : ByteArray := prog_1_method_9_code
def yX6_ofCup : MethodName := ⟨RX6, "ofCup", "(II)I"⟩
abbrev cX6_known : ByteArray := prog_1_method_10_code
def yX6_known : MethodName := ⟨RX6, "known", "(II)I"⟩
abbrev cX6_kept : ByteArray := prog_1_method_11_code
def yX6_kept : MethodName := ⟨RX6, "kept", "(III)I"⟩
abbrev cX6_count : ByteArray := prog_1_method_12_code
def yX6_count : MethodName := ⟨RX6, "count", "(I)I"⟩
abbrev cX6_would : ByteArray := prog_1_method_13_code
def yX6_would : MethodName := ⟨RX6, "would", "(II)I"⟩
abbrev cX6_degrees : ByteArray := prog_1_method_15_code
def yX6_degrees : MethodName := ⟨RX6, "degrees", "(III)I"⟩
abbrev cX6_changeSetting : ByteArray := prog_1_method_23_code
def yX6_changeSetting : MethodName := ⟨RX6, "changeSetting", "(II)I"⟩
abbrev cX6_addChapter : ByteArray := prog_1_method_24_code
def yX6_addChapter : MethodName := ⟨RX6, "addChapter", "(I)I"⟩
abbrev cX6_addCup : ByteArray := prog_1_method_25_code
def yX6_addCup : MethodName := ⟨RX6, "addCup", "()I"⟩
abbrev cX6_emptyCup : ByteArray := prog_1_method_26_code
def yX6_emptyCup : MethodName := ⟨RX6, "emptyCup", "(I)I"⟩
abbrev cX6_pourDroplets : ByteArray := prog_1_method_27_code
def yX6_pourDroplets : MethodName := ⟨RX6, "pourDroplets", "(III)I"⟩
abbrev cX6_solveCup : ByteArray := prog_1_method_28_code
def yX6_solveCup : MethodName := ⟨RX6, "solveCup", "(I)I"⟩
abbrev cX6_errorOfDroplets : ByteArray := prog_1_method_31_code
def yX6_errorOfDroplets : MethodName := ⟨RX6, "errorOfDroplets", "(II)I"⟩
abbrev cX6_isFull : ByteArray := prog_1_method_32_code
def yX6_isFull : MethodName := ⟨RX6, "isFull", "(LBookDroplets$Cup;)Z"⟩
abbrev cX6_fullCups : ByteArray := prog_1_method_33_code
def yX6_fullCups : MethodName := ⟨RX6, "fullCups", "()I"⟩
abbrev cX6_isWithin : ByteArray := prog_1_method_34_code
def yX6_isWithin : MethodName := ⟨RX6, "isWithin", "(III)Z"⟩
abbrev cX6_wrappedSeed : ByteArray := prog_1_method_35_code
def yX6_wrappedSeed : MethodName := ⟨RX6, "wrappedSeed", "(I)I"⟩
def RX7 : String := "BookDropletsModel"
def TX7 : u_T := fun k => match k with
  | _ => ("", "", "", false)
def tyX7 : Nat → FieldType := fun k => match k with
  | _ => .int
abbrev wsX70 : List Cond := u_ws RX7 TX7 0
theorem nmX7 : ∀ a, a < 0 → ∀ b, b < 0 → a ≠ b → (TX7 a).2.1 ≠ (TX7 b).2.1 := by decide +kernel
theorem tyX7_ok : ∀ k, k < 0 → parseFieldDescriptor (TX7 k).2.2.1 = some (tyX7 k) := by decide +kernel
def RJ6 : String := "java/lang/Integer"
abbrev cJ6_bitCount_0f7a4 : ByteArray := prog_10_method_49_code
def yJ6_bitCount_0f7a4 : MethodName := ⟨RJ6, "bitCount", "(I)I"⟩
def RJ9 : String := "java/lang/Math"
abbrev cJ9_floorMod_7cf53 : ByteArray := prog_11_method_50_code
def yJ9_floorMod_7cf53 : MethodName := ⟨RJ9, "floorMod", "(II)I"⟩
abbrev cJ9_min_7cf53 : ByteArray := prog_11_method_69_code
def yJ9_min_7cf53 : MethodName := ⟨RJ9, "min", "(II)I"⟩
def RJ10 : String := "java/lang/System"
def RL : String := "BookDropletsLaw"
abbrev cL_cell : ByteArray := method_2_code
def yL_cell : MethodName := ⟨RL, "cell", "([II)I"⟩
abbrev cL_low : ByteArray := method_3_code
def yL_low : MethodName := ⟨RL, "low", "(II)I"⟩
abbrev cL_size : ByteArray := method_4_code
def yL_size : MethodName := ⟨RL, "size", "(I)I"⟩
abbrev cL_draw : ByteArray := method_5_code
def yL_draw : MethodName := ⟨RL, "draw", "(I)I"⟩
abbrev cL_droplet : ByteArray := method_6_code
def yL_droplet : MethodName := ⟨RL, "droplet", "(LBookDroplets;[II)Z"⟩
abbrev cL_cup : ByteArray := method_7_code
def yL_cup : MethodName := ⟨RL, "cup", "(LBookDroplets;[II)Z"⟩
abbrev cL_peeled : ByteArray := method_8_code
def yL_peeled : MethodName := ⟨RL, "peeled", "([III)I"⟩
abbrev cL_poured : ByteArray := method_9_code
def yL_poured : MethodName := ⟨RL, "poured", "(LBookDroplets;II)Z"⟩
abbrev cL_act : ByteArray := method_10_code
def yL_act : MethodName := ⟨RL, "act", "(LBookDroplets;III)Z"⟩
abbrev cL_law : ByteArray := code
def yL_law : MethodName := ⟨RL, "law", "([I)Z"⟩
abbrev vwCl : List vw_C := [(RX0, TX0, 8), (RX1, TX1, 4), (RX2, TX2, 3), (RX3, TX3, 7), (RX4, TX4, 2), (RX5, TX5, 7), (RX6, TX6, 7)]
